-- ===== 02.base: the world as a partial function from addresses to cells =====
abbrev x_F : Type := Nat → Option va_E
def x_up (f : x_F) (a : Nat) (e : va_E) : x_F := fun q => if q = a then some e else f q
theorem x_up_s (f : x_F) (a : Nat) (e : va_E) : x_up f a e a = some e := by simp [x_up]
theorem x_up_n {f : x_F} {a q : Nat} {e : va_E} (h : q ≠ a) : x_up f a e q = f q := by simp [x_up, h]
theorem x_up_uu (f : x_F) (a : Nat) (e e' : va_E) : x_up (x_up f a e) a e' = x_up f a e' := by
  funext q; by_cases h : q = a <;> simp [x_up, h]
/-- H holds f; all of f lies from N on; below N the heap is B -/
def x_W (D : va_G) (cl : List vw_C) (N : Nat) (B : Heap) (f : x_F) (H : Heap) : Prop :=
  (∀ (a : Nat) (e : va_E), f a = some e → va_at D cl (a, e) H ∧ N ≤ a) ∧ N ≤ H.size ∧ ∀ q : Nat, q < N → H[q]? = B[q]?
def x_S (N : Nat) (locs : List Loc) : Prop := ∀ q ∈ locs, N ≤ q.base
theorem x_S_0 {N : Nat} : x_S N [] := fun _ h => by cases h
theorem x_S_add {N a k : Nat} {locs : List Loc} (h : x_S N locs) (ha : N ≤ a) : x_S N (locs ++ [⟨a, k⟩]) := fun q hq => by
  rcases List.mem_append.mp hq with h1 | h1
  · exact h q h1
  · rw [List.mem_singleton.mp h1]; exact ha
theorem x_S_app {N : Nat} {locs L : List Loc} (h : x_S N locs) (h' : x_S N L) : x_S N (locs ++ L) := fun q hq => by
  rcases List.mem_append.mp hq with h1 | h1
  · exact h q h1
  · exact h' q h1
theorem x_W.one {D : va_G} {cl : List vw_C} {N : Nat} {B : Heap} {f : x_F} {H : Heap} (h : x_W D cl N B f H) {a : Nat} {e : va_E} (ha : f a = some e) : va_P D cl [(a, e)] H := by
  intro k q hk
  have hz : k < 1 := (List.getElem?_eq_some_iff.mp hk).1
  rw [show k = 0 by omega] at hk
  cases hk
  exact (h.1 a e ha).1
theorem x_W.lt {D : va_G} {cl : List vw_C} {N : Nat} {B : Heap} {f : x_F} {H : Heap} (h : x_W D cl N B f H) {a : Nat} {e : va_E} (ha : f a = some e) : a < H.size := (h.1 a e ha).1.lt
theorem x_W.fresh {D : va_G} {cl : List vw_C} {N : Nat} {B : Heap} {f : x_F} {H : Heap} (h : x_W D cl N B f H) : f H.size = none := by
  cases hf : f H.size with
  | none => rfl
  | some e => exact absurd (h.lt hf) (Nat.lt_irrefl _)
theorem x_W.put {D : va_G} {cl : List vw_C} {N : Nat} {B : Heap} {f : x_F} {H H1 : Heap} (h : x_W D cl N B f H) {a : Nat} {e0 e : va_E} (ha : f a = some e0) (he : va_at D cl (a, e) H1) (hz : H1.size = H.size) (ho : ∀ q : Nat, q ≠ a → H1[q]? = H[q]?) : x_W D cl N B (x_up f a e) H1 := by
  have hN := (h.1 a e0 ha).2
  refine ⟨fun q e' hq => ?_, by rw [hz]; exact h.2.1, fun q hq => ?_⟩
  · by_cases hqa : q = a
    · subst hqa
      rw [x_up_s] at hq
      cases hq
      exact ⟨he, hN⟩
    · rw [x_up_n hqa] at hq
      exact ⟨(h.1 q e' hq).1.kept (ho q hqa), (h.1 q e' hq).2⟩
  · rw [ho q (by omega)]
    exact h.2.2 q hq
theorem x_W.new {D : va_G} {cl : List vw_C} {N : Nat} {B : Heap} {f : x_F} {H H1 : Heap} (h : x_W D cl N B f H) {e : va_E} (he : va_at D cl (H.size, e) H1) (hz : H1.size = H.size + 1) (ho : ∀ q : Nat, q < H.size → H1[q]? = H[q]?) : x_W D cl N B (x_up f H.size e) H1 := by
  refine ⟨fun q e' hq => ?_, by rw [hz]; exact Nat.le_succ_of_le h.2.1, fun q hq => ?_⟩
  · by_cases hqa : q = H.size
    · subst hqa
      rw [x_up_s] at hq
      cases hq
      exact ⟨he, h.2.1⟩
    · rw [x_up_n hqa] at hq
      exact ⟨(h.1 q e' hq).1.kept (ho q (h.lt hq)), (h.1 q e' hq).2⟩
  · rw [ho q (Nat.lt_of_lt_of_le hq h.2.1)]
    exact h.2.2 q hq
/-- fewer cells -/
theorem x_W.less {D : va_G} {cl : List vw_C} {N : Nat} {B : Heap} {f g : x_F} {H : Heap} (h : x_W D cl N B f H) (hg : ∀ a e, g a = some e → f a = some e) : x_W D cl N B g H := ⟨fun a e ha => h.1 a e (hg a e ha), h.2⟩
section XR
variable {p : Program} {l : Launch} {e : Env} {R : Room} {s : State} {m : MethodId} {args : Array Value} {below : List Frame} {meth : Method} {c : Code} {H : Heap} {locs : List Loc} {cells slots : Nat} {Q : State → Prop}
variable {cc : ByteArray} {pc : Nat} {ls : Array Slot} {rest : List Value} {D : va_G} {cl : List vw_C} {N : Nat} {B : Heap} {f : x_F} {a : Nat} {tys : List (ClassId × FieldType)}
theorem x_get (hexec : p.tables.exec = Jvm.exec) (hb : c.code = cc) {own ref C : String} {T : u_T} {n ci index : Nat} {Ts : List Cond} (hts : ∀ w ∈ Ts, w.before args s = true) (hin : ∀ w ∈ u_ws C T n, w ∈ Ts) (hown : s.vm.findClass own = some m.cls) (hK : va_K D cl tys s) (hW : x_W D cl N B f H) {fs : List Value} (he : f a = some (.inr (ci, fs))) (hc : cl[ci]? = some (C, T, n)) (k : Nat) (hk : k < n) (hlink : (Cond.fieldLink own index ref (T k).2.1 (T k).2.2.1).before args s = true) (hsame : ∀ x, s.fieldFound? (T k).1 (T k).2.1 (T k).2.2.1 = some x → s.fieldFound? ref (T k).2.1 (T k).2.2.1 = some x) {v : Value} (hv : fs[k]? = some v) (hdg : decode cc pc = .ok (.getfield index, 3))
    (kk : W p l e R s m args below meth c H locs cells slots Q (F0 m (pc + 3) ls (v :: rest))) : W p l e R s m args below meth c H locs cells slots Q (F0 m pc ls (.ref a :: rest)) :=
  va_get hexec hb hts hin hown hK (hW.one he) 0 rfl hc k hk hlink hsame hv hdg kk
theorem x_put (hexec : p.tables.exec = Jvm.exec) (hb : c.code = cc) {own ref C : String} {T : u_T} {n ci index : Nat} {Ts : List Cond} (hts : ∀ w ∈ Ts, w.before args s = true) (hin : ∀ w ∈ u_ws C T n, w ∈ Ts) (ty0 : Nat → FieldType) (hty : ∀ k, k < n → parseFieldDescriptor (T k).2.2.1 = some (ty0 k)) (hnm : ∀ a, a < n → ∀ b, b < n → a ≠ b → (T a).2.1 ≠ (T b).2.1) (hown : s.vm.findClass own = some m.cls) (hK : va_K D cl tys s) (hW : x_W D cl N B f H) (hS : x_S N locs) {fs : List Value} (he : f a = some (.inr (ci, fs))) (hc : cl[ci]? = some (C, T, n)) (k : Nat) (hk : k < n) (hlink : (Cond.fieldLink own index ref (T k).2.1 (T k).2.2.1).before args s = true) (hsame : ∀ x, s.fieldFound? (T k).1 (T k).2.1 (T k).2.2.1 = some x → s.fieldFound? ref (T k).2.1 (T k).2.2.1 = some x) (hfin : (T k).2.2.2 = false) {ty : FieldType} {v : Value} (hd : parseFieldDescriptor (T k).2.2.1 = some ty) (hn : narrow ty v = v) (hfit : fits ty v = true) (hl : k < fs.length)
    (hdg : decode cc pc = .ok (.putfield index, 3)) (kk : ∀ (H1 : Heap) (locs1 : List Loc), x_W D cl N B (x_up f a (.inr (ci, fs.set k v))) H1 → x_S N locs1 → H1.size = H.size → W p l e R s m args below meth c H1 locs1 cells slots Q (F0 m (pc + 3) ls rest)) : W p l e R s m args below meth c H locs cells slots Q (F0 m pc ls (v :: .ref a :: rest)) := by
  have hap := va_apart (own := own) hts hin ty0 hty hnm hK hc
  obtain ⟨⟨r, h1, cell, q1, q2, q3, q4⟩, hNa⟩ := hW.1 a _ he
  have hr : r = (C, T, n) := Option.some.inj (h1.symm.trans hc)
  subst hr
  obtain ⟨hSl, hfc, kC, hkC, hkind⟩ := hK.1 ci _ hc
  obtain ⟨cf, kf, fi, fd, hi, hsl⟩ := hSl k hk
  have hlay := hts _ (hin _ (u_in_lay hk))
  unfold u_lay at hlay
  rw [if_neg (by rw [hfin]; decide)] at hlay
  have hst := (u_facts hfc hkC (u_lays hts hin hk) hi).1
  have h6 := u_store hfc hkC hkind hlay hi hd hn hfit
  refine W.putK hexec hb (f := fd) ⟨hown, hlink, ⟨_, _, _, hsame _ hi⟩, hst⟩ (by rw [q2]; exact h6) q1 q3 (by rw [hsl]; exact k2_hasslot (q4 k hk)) rfl rfl hdg fun H' e1 e2 e3 => ?_
  rw [hsl] at e1 ⊢
  exact kk H' _ (hW.put he ⟨_, hc, t_OB.to (V := updV (vp_V fs) k v) ⟨_, e1, q2, q3, t_set q4 hap hk v⟩ (fun j _ => vp_updV_set hl v j)⟩ e2 e3) (x_S_add hS hNa) e2
theorem x_putF (hexec : p.tables.exec = Jvm.exec) (hb : c.code = cc) {own ref C : String} {T : u_T} {n ci index : Nat} {Ts : List Cond} (hts : ∀ w ∈ Ts, w.before args s = true) (hin : ∀ w ∈ u_ws C T n, w ∈ Ts) (ty0 : Nat → FieldType) (hty : ∀ k, k < n → parseFieldDescriptor (T k).2.2.1 = some (ty0 k)) (hnm : ∀ a, a < n → ∀ b, b < n → a ≠ b → (T a).2.1 ≠ (T b).2.1) (hown : s.vm.findClass own = some m.cls) (hK : va_K D cl tys s) (hW : x_W D cl N B f H) (hS : x_S N locs) {fs : List Value} (he : f a = some (.inr (ci, fs))) (hc : cl[ci]? = some (C, T, n)) (k : Nat) (hk : k < n) (hlink : (Cond.fieldLink own index ref (T k).2.1 (T k).2.2.1).before args s = true) (hsame : ∀ x, s.fieldFound? (T k).1 (T k).2.1 (T k).2.2.1 = some x → s.fieldFound? ref (T k).2.1 (T k).2.2.1 = some x) (hfin : (T k).2.2.2 = true) (hin2 : meth.name = "<init>") (hdecl : (T k).1 = own) {ty : FieldType} {v : Value} (hd : parseFieldDescriptor (T k).2.2.1 = some ty) (hn : narrow ty v = v) (hfit : fits ty v = true) (hl : k < fs.length)
    (hdg : decode cc pc = .ok (.putfield index, 3)) (kk : ∀ (H1 : Heap) (locs1 : List Loc), x_W D cl N B (x_up f a (.inr (ci, fs.set k v))) H1 → x_S N locs1 → H1.size = H.size → W p l e R s m args below meth c H1 locs1 cells slots Q (F0 m (pc + 3) ls rest)) : W p l e R s m args below meth c H locs cells slots Q (F0 m pc ls (v :: .ref a :: rest)) := by
  have hap := va_apart (own := own) hts hin ty0 hty hnm hK hc
  obtain ⟨⟨r, h1, cell, q1, q2, q3, q4⟩, hNa⟩ := hW.1 a _ he
  have hr : r = (C, T, n) := Option.some.inj (h1.symm.trans hc)
  subst hr
  obtain ⟨hSl, hfc, kC, hkC, hkind⟩ := hK.1 ci _ hc
  obtain ⟨cf, kf, fi, fd, hi, hsl⟩ := hSl k hk
  have hlay := hts _ (hin _ (u_in_lay hk))
  unfold u_lay at hlay
  rw [if_pos hfin] at hlay
  have hst := (u_facts hfc hkC (u_lays hts hin hk) hi).1
  have hcf : m.cls = cf := by
    obtain ⟨_, _, c', _, _, _, -, -, hf', -, -, -, hown2, -⟩ := Cond.laysFinal_spec hlay
    have e1 : c' = cf := by have := hi.symm.trans hf'; simp at this; exact this.1.symm
    rw [hdecl] at hown2
    rw [← e1]; exact Option.some.inj (hown.symm.trans hown2)
  have h6 := u_fits hfc hkC hkind (Or.inr hlay) hi hd hn hfit
  refine W.putFinK hexec hb hown hlink (hsame _ hi) hst hcf hin2 (by rw [q2]; exact h6) q1 q3 (by rw [hsl]; exact k2_hasslot (q4 k hk)) rfl rfl hdg fun H' e1 e2 e3 => ?_
  rw [hsl] at e1 ⊢
  exact kk H' _ (hW.put he ⟨_, hc, t_OB.to (V := updV (vp_V fs) k v) ⟨_, e1, q2, q3, t_set q4 hap hk v⟩ (fun j _ => vp_updV_set hl v j)⟩ e2 e3) (x_S_add hS hNa) e2
theorem x_new (hexec : p.tables.exec = Jvm.exec) (hb : c.code = cc) {own C : String} {T : u_T} {n ci index : Nat} {Ts : List Cond} (hts : ∀ w ∈ Ts, w.before args s = true) (hin : ∀ w ∈ u_ws C T n, w ∈ Ts) (ty : Nat → FieldType) (hty : ∀ k, k < n → parseFieldDescriptor (T k).2.2.1 = some (ty k)) (hown : s.vm.findClass own = some m.cls) (hcl : (Cond.classLink own index C).before args s = true) (hinst : (Cond.instantiable C n).before args s = true) (hini : (Cond.initialized C).before args s = true)
    (hK : va_K D cl tys s) (hW : x_W D cl N B f H) (hc : cl[ci]? = some (C, T, n)) {fs : List Value} (hfs : ∀ j, j < n → defaultValue (ty j) = vp_V fs j) (hcells : cells + 1 ≤ R.cells) (hslots : slots + n ≤ R.slots) (hdg : decode cc pc = .ok (.new index, 3))
    (kk : ∀ (q : Nat) (H1 : Heap), q = H.size → x_W D cl N B (x_up f q (.inr (ci, fs))) H1 → f q = none → H1.size = q + 1 → W p l e R s m args below meth c H1 locs (cells + 1) (slots + n) Q (F0 m (pc + 3) ls (.ref q :: rest))) : W p l e R s m args below meth c H locs cells slots Q (F0 m pc ls rest) := by
  have hKn := hK.1 ci _ hc
  refine W.newcK hexec hb hown hcl hinst hini rfl hdg hcells hslots hKn.2.1 rfl fun H1 kC hkC e1 z1 o1 => ?_
  exact kk H.size H1 rfl (hW.new ⟨_, hc, (u_born ty hts hin hKn hkC e1 hty).to hfs⟩ z1 o1) hW.fresh z1
theorem x_iald (hexec : p.tables.exec = Jvm.exec) (hb : c.code = cc) (hK : va_K D cl tys s) (hW : x_W D cl N B f H) (t0 : Nat) {cA : ClassId} {n : Nat} {z : Nat → Int32} (ha : f a = some (.inl (cA, n, .inl z))) (ht : tys[t0]? = some (cA, .int)) {i : Int32} (hin : vp_in i n) (hdg : decode cc pc = .ok (.iaload, 1))
    (kk : W p l e R s m args below meth c H locs cells slots Q (F0 m (pc + 1) ls (.int (z i.toNatClampNeg) :: rest))) : W p l e R s m args below meth c H locs cells slots Q (F0 m pc ls (.int i :: .ref a :: rest)) := va_iald hexec hb hK (hW.one ha) 0 t0 rfl ht hin hdg kk
theorem x_cald (hexec : p.tables.exec = Jvm.exec) (hb : c.code = cc) (hK : va_K D cl tys s) (hW : x_W D cl N B f H) (t0 : Nat) {cA : ClassId} {n : Nat} {z : Nat → Int32} (ha : f a = some (.inl (cA, n, .inl z))) (ht : tys[t0]? = some (cA, .char)) {i : Int32} (hin : vp_in i n) (hdg : decode cc pc = .ok (.caload, 1))
    (kk : W p l e R s m args below meth c H locs cells slots Q (F0 m (pc + 1) ls (.int (z i.toNatClampNeg) :: rest))) : W p l e R s m args below meth c H locs cells slots Q (F0 m pc ls (.int i :: .ref a :: rest)) := va_cald hexec hb hK (hW.one ha) 0 t0 rfl ht hin hdg kk
theorem x_lald (hexec : p.tables.exec = Jvm.exec) (hb : c.code = cc) (hK : va_K D cl tys s) (hW : x_W D cl N B f H) (t0 : Nat) {cA : ClassId} {n : Nat} {z : Nat → Int64} (ha : f a = some (.inl (cA, n, .inr (.inl z)))) (ht : tys[t0]? = some (cA, .long)) {i : Int32} (hin : vp_in i n) (hdg : decode cc pc = .ok (.laload, 1))
    (kk : W p l e R s m args below meth c H locs cells slots Q (F0 m (pc + 1) ls (.long (z i.toNatClampNeg) :: rest))) : W p l e R s m args below meth c H locs cells slots Q (F0 m pc ls (.int i :: .ref a :: rest)) := va_lald hexec hb hK (hW.one ha) 0 t0 rfl ht hin hdg kk
theorem x_aldq (hexec : p.tables.exec = Jvm.exec) (hb : c.code = cc) (hK : va_K D cl tys s) (hW : x_W D cl N B f H) (t0 : Nat) {cA : ClassId} {C : String} {n : Nat} {z : Nat → Option Nat} (ha : f a = some (.inl (cA, n, .inr (.inr (.inr (.inr z)))))) (ht : tys[t0]? = some (cA, .object C)) {i : Int32} (hin : vp_in i n) (hdg : decode cc pc = .ok (.aaload, 1))
    (kk : W p l e R s m args below meth c H locs cells slots Q (F0 m (pc + 1) ls (va_rf (z i.toNatClampNeg) :: rest))) : W p l e R s m args below meth c H locs cells slots Q (F0 m pc ls (.int i :: .ref a :: rest)) := va_aldq hexec hb hK (hW.one ha) 0 t0 rfl ht hin hdg kk
theorem x_alen (hexec : p.tables.exec = Jvm.exec) (hb : c.code = cc) (hK : va_K D cl tys s) (hW : x_W D cl N B f H) (t0 : Nat) {cA : ClassId} {x : vp_A} (ha : f a = some (.inl (cA, x))) {ty : FieldType} (ht : tys[t0]? = some (cA, ty)) {v : Int32} (hv : Int32.ofNat x.1 = v) (hdg : decode cc pc = .ok (.arraylength, 1))
    (kk : W p l e R s m args below meth c H locs cells slots Q (F0 m (pc + 1) ls (.int v :: rest))) : W p l e R s m args below meth c H locs cells slots Q (F0 m pc ls (.ref a :: rest)) := va_alen hexec hb hK (hW.one ha) 0 t0 rfl ht hv hdg kk
theorem x_iast (hexec : p.tables.exec = Jvm.exec) (hb : c.code = cc) (hK : va_K D cl tys s) (hW : x_W D cl N B f H) (hS : x_S N locs) (t0 : Nat) {cA : ClassId} {n : Nat} {z : Nat → Int32} (ha : f a = some (.inl (cA, n, .inl z))) (ht : tys[t0]? = some (cA, .int)) {i : Int32} {x : Int32} (hin : vp_in i n) (hdg : decode cc pc = .ok (.iastore, 1))
    (kk : ∀ (H1 : Heap) (locs1 : List Loc), x_W D cl N B (x_up f a (.inl (cA, n, .inl (upd z i.toNatClampNeg x)))) H1 → x_S N locs1 → H1.size = H.size → W p l e R s m args below meth c H1 locs1 cells slots Q (F0 m (pc + 1) ls rest)) : W p l e R s m args below meth c H locs cells slots Q (F0 m pc ls (.int x :: .int i :: .ref a :: rest)) := by
  obtain ⟨hcell, hNa⟩ := hW.1 a _ ha
  refine W.iast hexec hb hcell ((hK.2 t0 _ ht).1 n (fun j => .int (z j))) (fun q => by cases q) (by show ¬ (i < 0 ∨ (arrV _ _ _).slots.size ≤ _); rw [arrV_size]; exact hin) rfl rfl hdg fun H1 e2 zz oq => ?_
  refine kk H1 _ (hW.put ha ?_ zz oq) (x_S_add hS hNa) zz
  show H1[a]? = some (vp_cell _ _)
  rw [e2, vp_cell_i, vp_cell_i, arrV_store]
  congr 2
  funext q
  by_cases hq : q = i.toNatClampNeg
  · subst hq; simp [updV, upd]
  · simp [updV, upd, hq]
theorem x_cast (hexec : p.tables.exec = Jvm.exec) (hb : c.code = cc) (hK : va_K D cl tys s) (hW : x_W D cl N B f H) (hS : x_S N locs) (t0 : Nat) {cA : ClassId} {n : Nat} {z : Nat → Int32} (ha : f a = some (.inl (cA, n, .inl z))) (ht : tys[t0]? = some (cA, .char)) {i : Int32} {x : Int32} (hin : vp_in i n) (hdg : decode cc pc = .ok (.castore, 1))
    (kk : ∀ (H1 : Heap) (locs1 : List Loc), x_W D cl N B (x_up f a (.inl (cA, n, .inl (upd z i.toNatClampNeg (vp_nar .char x))))) H1 → x_S N locs1 → H1.size = H.size → W p l e R s m args below meth c H1 locs1 cells slots Q (F0 m (pc + 1) ls rest)) : W p l e R s m args below meth c H locs cells slots Q (F0 m pc ls (.int x :: .int i :: .ref a :: rest)) := by
  obtain ⟨hcell, hNa⟩ := hW.1 a _ ha
  refine W.cast hexec hb hcell ((hK.2 t0 _ ht).1 n (fun j => .int (z j))) (fun q => by cases q) (by show ¬ (i < 0 ∨ (arrV _ _ _).slots.size ≤ _); rw [arrV_size]; exact hin) rfl rfl hdg fun H1 e2 zz oq => ?_
  refine kk H1 _ (hW.put ha ?_ zz oq) (x_S_add hS hNa) zz
  show H1[a]? = some (vp_cell _ _)
  rw [e2, vp_cell_i, vp_cell_i, arrV_store]
  congr 2
  funext q
  by_cases hq : q = i.toNatClampNeg
  · subst hq
    simp [updV, upd, vp_nar]
    try rfl
  · simp [updV, upd, hq]
theorem x_last (hexec : p.tables.exec = Jvm.exec) (hb : c.code = cc) (hK : va_K D cl tys s) (hW : x_W D cl N B f H) (hS : x_S N locs) (t0 : Nat) {cA : ClassId} {n : Nat} {z : Nat → Int64} (ha : f a = some (.inl (cA, n, .inr (.inl z)))) (ht : tys[t0]? = some (cA, .long)) {i : Int32} {x : Int64} (hin : vp_in i n) (hdg : decode cc pc = .ok (.lastore, 1))
    (kk : ∀ (H1 : Heap) (locs1 : List Loc), x_W D cl N B (x_up f a (.inl (cA, n, .inr (.inl (vp_updL z i.toNatClampNeg x))))) H1 → x_S N locs1 → H1.size = H.size → W p l e R s m args below meth c H1 locs1 cells slots Q (F0 m (pc + 1) ls rest)) : W p l e R s m args below meth c H locs cells slots Q (F0 m pc ls (.long x :: .int i :: .ref a :: rest)) := by
  obtain ⟨hcell, hNa⟩ := hW.1 a _ ha
  refine W.last hexec hb hcell ((hK.2 t0 _ ht).1 n (fun j => .long (z j))) (fun q => by cases q) (by show ¬ (i < 0 ∨ (arrV _ _ _).slots.size ≤ _); rw [arrV_size]; exact hin) rfl rfl hdg fun H1 e2 zz oq => ?_
  refine kk H1 _ (hW.put ha ?_ zz oq) (x_S_add hS hNa) zz
  show H1[a]? = some (vp_cell _ _)
  rw [e2, vp_cell_l, vp_cell_l, arrV_store]
  congr 2
  funext q
  by_cases hq : q = i.toNatClampNeg
  · subst hq; simp [updV, vp_updL]
  · simp [updV, vp_updL, hq]
end XR
