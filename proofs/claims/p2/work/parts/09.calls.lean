-- ===== 09.calls: words of calls and throws out of x_T =====
theorem x_goodV {own C : String} {idx : Nat} {y : MethodName} {c2 : Cond} (h1 : Cond.methodLink own idx y ∈ x_T) (h2 : Cond.instanceMethod y ∈ x_T) (h3 : Cond.selects C y y ∈ x_T) (h4 : Cond.initialized C ∈ x_T) (h5 : c2 ∈ x_T) : GoodIn x_T (wsV own idx C y (c2 :: x_T)) := fun w hw => by
  have hm : w ∈ x_T := by
    rcases List.mem_append.mp hw with h | h
    · simp only [List.mem_cons, List.not_mem_nil, or_false] at h
      rcases h with rfl | rfl | rfl | rfl
      · exact h1
      · exact h2
      · exact h3
      · exact h4
    · exact (List.mem_cons.mp h).elim (fun e => by rw [e]; exact h5) id
  exact ⟨hm, good_of_word (x_T_good w hm)⟩
theorem x_goodS {own : String} {idx : Nat} {y : MethodName} {c2 : Cond} (h1 : Cond.methodLink own idx y ∈ x_T) (h2 : Cond.static y ∈ x_T) (h3 : Cond.initialized own ∈ x_T) (h5 : c2 ∈ x_T) : GoodIn x_T (wsS own idx y (c2 :: x_T)) := fun w hw => by
  have hm : w ∈ x_T := by
    rcases List.mem_append.mp hw with h | h
    · simp only [List.mem_cons, List.not_mem_nil, or_false] at h
      rcases h with rfl | rfl | rfl
      · exact h1
      · exact h2
      · exact h3
    · exact (List.mem_cons.mp h).elim (fun e => by rw [e]; exact h5) id
  exact ⟨hm, good_of_word (x_T_good w hm)⟩
theorem x_goodSW {own : String} {idx : Nat} {y : MethodName} {c2 : Cond} (h1 : Cond.methodLink own idx y ∈ x_T) (h2 : Cond.static y ∈ x_T) (h3 : Cond.initialized y.cls ∈ x_T) (h5 : c2 ∈ x_T) : GoodIn x_T (va_wsS own idx y (c2 :: x_T)) := fun w hw => by
  have hm : w ∈ x_T := by
    rcases List.mem_append.mp hw with h | h
    · simp only [List.mem_cons, List.not_mem_nil, or_false] at h
      rcases h with rfl | rfl | rfl
      · exact h1
      · exact h2
      · exact h3
    · exact (List.mem_cons.mp h).elim (fun e => by rw [e]; exact h5) id
  exact ⟨hm, good_of_word (x_T_good w hm)⟩
/-- the words of a throw -/
def x_okT (ws : List Cond) : Bool := ws.all (fun w => (decide (w ∈ lw_tbl)) && (goodWord w || (x_nk w && decide (w ∈ tables_1))))
theorem x_hat {ws : List Cond} {args : Array Value} {s : State} (h : x_okT ws = true) (hts : ∀ w ∈ x_T, w.before args s = true) (hn : ∀ w ∈ x_nest, va_Nw w s) : ∀ w ∈ ws, w.before args s = true := fun w hw => by
  have h1 := List.all_eq_true.mp h w hw
  simp only [Bool.and_eq_true, Bool.or_eq_true, decide_eq_true_eq] at h1
  obtain ⟨h2, h3 | ⟨h3, h4⟩⟩ := h1
  · exact hts w (List.mem_filter.mpr ⟨h2, h3⟩)
  · have h5 := hn w (List.mem_filter.mpr ⟨h4, h3⟩)
    refine va_Nw.use ?_ h5
    cases w <;> first | rfl | cases h3
def x_up2 : List String := ["java/lang/RuntimeException", "java/lang/Exception"]
theorem x_t35 : x_okT (vx_atS "ChannelMachine" 35 "java/lang/IllegalArgumentException" x_up2) = true := by decide +kernel
theorem x_t45 : x_okT (vx_atS "ChannelMachine" 45 "java/lang/IllegalStateException" x_up2) = true := by decide +kernel
theorem x_lt {x y : Int32} : x < y ↔ x.toInt < y.toInt := Int32.lt_iff_toInt_lt
theorem x_le {x y : Int32} : x ≤ y ↔ x.toInt ≤ y.toInt := Int32.le_iff_toInt_le
/-- a place of a row of n places -/
theorem x_in {v b : Int32} {n : Nat} (hb : b.toInt = (n : Int)) (h1 : ¬ v < 0) (h2 : v < b) : vp_in v n := by
  rw [vp_in_iff]
  rw [x_lt] at h1 h2
  have h0 : (0 : Int32).toInt = 0 := by decide
  omega
theorem x_in5 {v : Int32} (h1 : ¬ v < 0) (h2 : ¬ 5 < v) : vp_in v 6 := by
  rw [vp_in_iff]
  rw [x_lt] at h1 h2
  have h0 : (0 : Int32).toInt = 0 := by decide
  have h5 : (5 : Int32).toInt = 5 := by decide
  omega
theorem x_gs {fs : List Value} {i k : Nat} {x v : Value} (h : i ≠ k) (hv : fs[k]? = some v) : (fs.set i x)[k]? = some v := by rw [List.getElem?_set_ne h]; exact hv
theorem x_ge {fs : List Value} {k : Nat} {x : Value} (h : k < fs.length) : (fs.set k x)[k]? = some x := by simp [h]
/-- what count answers on a new object -/
def x_cnt (v : Int32) : Int32 := if 1 ≤ v ∧ v ≤ 8 then 0 else -1
theorem x_cnt_out {v : Int32} (h : v.toInt < 0 ∨ 8 < v.toInt) : (-1 : Int32) = x_cnt v := by
  unfold x_cnt
  rw [if_neg]
  intro h9
  rw [x_le, x_le] at h9
  have h1 : (1 : Int32).toInt = 1 := by decide
  have h8 : (8 : Int32).toInt = 8 := by decide
  omega
theorem x_9 (v : Int32) : (v.toInt < 0 ∨ 8 < v.toInt) ∨ v = 0 ∨ v = 1 ∨ v = 2 ∨ v = 3 ∨ v = 4 ∨ v = 5 ∨ v = 6 ∨ v = 7 ∨ v = 8 := by
  by_cases h : v.toInt < 0 ∨ 8 < v.toInt
  · exact Or.inl h
  · have e : ∀ k : Int32, v.toInt = k.toInt → v = k := fun k h => Int32.toInt_inj.mp h
    have hk : v.toInt = 0 ∨ v.toInt = 1 ∨ v.toInt = 2 ∨ v.toInt = 3 ∨ v.toInt = 4 ∨ v.toInt = 5 ∨ v.toInt = 6 ∨ v.toInt = 7 ∨ v.toInt = 8 := by omega
    right
    rcases hk with h | h | h | h | h | h | h | h | h
    · exact Or.inl (e 0 (by rw [h]; rfl))
    · exact Or.inr (Or.inl (e 1 (by rw [h]; rfl)))
    · exact Or.inr (Or.inr (Or.inl (e 2 (by rw [h]; rfl))))
    · exact Or.inr (Or.inr (Or.inr (Or.inl (e 3 (by rw [h]; rfl)))))
    · exact Or.inr (Or.inr (Or.inr (Or.inr (Or.inl (e 4 (by rw [h]; rfl))))))
    · exact Or.inr (Or.inr (Or.inr (Or.inr (Or.inr (Or.inl (e 5 (by rw [h]; rfl)))))))
    · exact Or.inr (Or.inr (Or.inr (Or.inr (Or.inr (Or.inr (Or.inl (e 6 (by rw [h]; rfl))))))))
    · exact Or.inr (Or.inr (Or.inr (Or.inr (Or.inr (Or.inr (Or.inr (Or.inl (e 7 (by rw [h]; rfl)))))))))
    · exact Or.inr (Or.inr (Or.inr (Or.inr (Or.inr (Or.inr (Or.inr (Or.inr (e 8 (by rw [h]; rfl)))))))))
theorem x_goodF {own C : String} {idx : Nat} {x y : MethodName} {c2 : Cond} (h1 : Cond.methodLink own idx x ∈ x_T) (h2 : Cond.selects C x y ∈ x_T) (h3 : Cond.instanceMethod y ∈ x_T) (h4 : Cond.initialized y.cls ∈ x_T) (h5 : c2 ∈ x_T) : GoodIn x_T (va_wsF own idx C x y (c2 :: x_T)) := fun w hw => by
  have hm : w ∈ x_T := by
    rcases List.mem_append.mp hw with h | h
    · simp only [List.mem_cons, List.not_mem_nil, or_false] at h
      rcases h with rfl | rfl | rfl | rfl
      · exact h1
      · exact h2
      · exact h3
      · exact h4
    · exact (List.mem_cons.mp h).elim (fun e => by rw [e]; exact h5) id
  exact ⟨hm, good_of_word (x_T_good w hm)⟩
theorem x_6 {v : Int32} (h1 : ¬ v < 0) (h2 : v < 6) : v = 0 ∨ v = 1 ∨ v = 2 ∨ v = 3 ∨ v = 4 ∨ v = 5 := by
  rcases x_9 v with h | h | h | h | h | h | h | h | h | h
  · rw [x_lt] at h1 h2
    have h0 : (0 : Int32).toInt = 0 := by decide
    have h6 : (6 : Int32).toInt = 6 := by decide
    omega
  · exact Or.inl h
  · exact Or.inr (Or.inl h)
  · exact Or.inr (Or.inr (Or.inl h))
  · exact Or.inr (Or.inr (Or.inr (Or.inl h)))
  · exact Or.inr (Or.inr (Or.inr (Or.inr (Or.inl h))))
  · exact Or.inr (Or.inr (Or.inr (Or.inr (Or.inr h))))
  · subst h; exact absurd h2 (by decide)
  · subst h; exact absurd h2 (by decide)
  · subst h; exact absurd h2 (by decide)
section XT
variable {p : Program} {l : Launch} {e : Env} {R : Room} {s : State} {m : MethodId} {args : Array Value} {below : List Frame} {meth : Method} {c : Code} {H : Heap} {locs : List Loc} {cells slots : Nat}
variable {ls : Array Slot} {rest : List Value} {Qc : Array Value → State → Outcome → State → Prop} {XC : String → State → State → Prop} {free : Addr → Prop}
theorem x_throw {cc : ByteArray} {pc : Nat} (hexec : p.tables.exec = Jvm.exec) (hb : c.code = cc) (hst : l.stackTraces = false) {own cls text : String} {ik is ic mc ms : Nat} {A : Nat → Prop} {D : va_G} {ar : Nat → ClassId} {N : Nat} {z : Nat → Nat}
    (hown : s.vm.findClass own = some m.cls) (hk : Cond.classLink own ik cls ∈ x_T) (hini : Cond.initialized cls ∈ x_T) (hstr : (own, is, text) ∈ x_str) (hok : x_okT (vx_atS own ic cls x_up2) = true) (hgd : (Cond.classLink own ik cls :: Cond.initialized cls :: vx_atS own ic cls x_up2).all vx_ot = true) (hfit : Bundle.fit cls = true)
    (hts : ∀ w ∈ x_T, w.before args s = true) (hU : x_U D ar s) (hZ : x_Z N z s) (hAN : ∀ q, A q → N ≤ q) (hS : va_S A s.heap H locs) (hsize : ls.size = c.maxLocals)
    (d0 : decode cc pc = .ok (.new ik, 3)) (d3 : decode cc (pc + 3) = .ok (.dup, 1)) (d4 : decode cc (pc + 4) = .ok (.ldc is, 2)) (d6 : decode cc (pc + 6) = .ok (.invokespecial ic, 3)) (d9 : decode cc (pc + 9) = .ok (.athrow, 1))
    (hout : ∀ x ∈ c.exceptionTable.toList, False) (hRframes : 5 < R.frames) (hRlocals : (rest.map fun v => v.category).sum + 82 ≤ R.locals) (hRcells : cells + 1 ≤ R.cells) (hRslots : slots + 6 ≤ R.slots) (hlocks : meth.locks = false)
    (hx : ∀ t : State, s.vm.Alike t.vm → H.size ≤ t.heap.size → (∀ q : Nat, q < H.size → t.heap[q]? = H[q]?) → va_F A s t → XC cls s t)
    (hf : ∀ z ∈ locs, free z.base) (hc : cells + 1 ≤ mc) (hs : slots + 6 ≤ ms) :
    W p l e R s m args below meth c H locs cells slots (vx_MQ below Qc XC args s mc ms free) (F0 m pc ls rest) := by
  obtain ⟨sa, hsa⟩ := hU.2.2.2.1 _ hstr
  refine vx_throwS (names := x_up2) (A := A) hexec hb hst hown hfit (by decide +kernel) (hts _ hk) (hts _ hini) hsa (x_hat hok hts hU.2.1) (fun w hw => List.all_eq_true.mp hgd w hw) (hZ.2.1.narrow hAN) (hZ.2.2.1.narrow hAN) hS hsize d0 d3 d4 d6 d9 (fun x h => (hout x h).elim) hRframes hRlocals hRcells hRslots hlocks (fun t h1 h2 h3 => hx t h1 h2 h3 ?_) hf hc hs
  exact ⟨Nat.le_trans hS.1 h2, fun q h4 h5 => by rw [h3 q (Nat.lt_of_lt_of_le h4 hS.1)]; exact hS.2.1 q h4 h5⟩
end XT
