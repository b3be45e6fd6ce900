-- ===== 82.yeval: clash, combined of the machine, by program =====
theorem k_14 : (Jvm.Cond.initialized "java/lang/IllegalStateException") ∈ x_T := x_at 14 (by decide +kernel) (by decide +kernel)
theorem k_27 : (Jvm.Cond.initialized "java/lang/ArithmeticException") ∈ x_T := x_at 27 (by decide +kernel) (by decide +kernel)
theorem k_799 : (Jvm.Cond.classLink "ChannelMachine$Machine" (296 : Nat) "java/lang/ArithmeticException") ∈ x_T := x_at 799 (by decide +kernel) (by decide +kernel)
theorem k_847 : (Jvm.Cond.classLink "ChannelMachine$Machine" (128 : Nat) "java/lang/IllegalStateException") ∈ x_T := x_at 847 (by decide +kernel) (by decide +kernel)
theorem x_tChannelMachineMachine_132 : x_okT (vx_atS "ChannelMachine$Machine" 132 "java/lang/IllegalStateException" x_up2) = true := by decide +kernel
theorem x_tChannelMachineMachine_300 : x_okT (vx_atS "ChannelMachine$Machine" 300 "java/lang/ArithmeticException" x_up2) = true := by decide +kernel
theorem d_Machine_clash_0 : decode prog_6_method_22_code 0 = .ok (.aload_n 0, 1) := by decide +kernel
theorem d_Machine_clash_1 : decode prog_6_method_22_code 1 = .ok (.iconst 3, 1) := by decide +kernel
theorem d_Machine_clash_2 : decode prog_6_method_22_code 2 = .ok (.invokevirtual 59, 3) := by decide +kernel
theorem d_Machine_clash_5 : decode prog_6_method_22_code 5 = .ok (.new 128, 3) := by decide +kernel
theorem d_Machine_clash_8 : decode prog_6_method_22_code 8 = .ok (.dup, 1) := by decide +kernel
theorem d_Machine_clash_9 : decode prog_6_method_22_code 9 = .ok (.ldc_w 271, 3) := by decide +kernel
theorem d_Machine_clash_12 : decode prog_6_method_22_code 12 = .ok (.invokespecial 132, 3) := by decide +kernel
theorem d_Machine_clash_15 : decode prog_6_method_22_code 15 = .ok (.athrow, 1) := by decide +kernel
theorem d_Machine_combined_0 : decode prog_6_method_27_code 0 = .ok (.iload_n 3, 1) := by decide +kernel
theorem d_Machine_combined_1 : decode prog_6_method_27_code 1 = .ok (.ifCond .ne 31, 3) := by decide +kernel
theorem d_Machine_combined_4 : decode prog_6_method_27_code 4 = .ok (.iload_n 1, 1) := by decide +kernel
theorem d_Machine_combined_5 : decode prog_6_method_27_code 5 = .ok (.bipush 47, 2) := by decide +kernel
theorem d_Machine_combined_7 : decode prog_6_method_27_code 7 = .ok (.if_icmp .eq 9, 3) := by decide +kernel
theorem d_Machine_combined_10 : decode prog_6_method_27_code 10 = .ok (.iload_n 1, 1) := by decide +kernel
theorem d_Machine_combined_11 : decode prog_6_method_27_code 11 = .ok (.bipush 37, 2) := by decide +kernel
theorem d_Machine_combined_13 : decode prog_6_method_27_code 13 = .ok (.if_icmp .ne 19, 3) := by decide +kernel
theorem d_Machine_combined_16 : decode prog_6_method_27_code 16 = .ok (.aload_n 0, 1) := by decide +kernel
theorem d_Machine_combined_17 : decode prog_6_method_27_code 17 = .ok (.iconst 3, 1) := by decide +kernel
theorem d_Machine_combined_18 : decode prog_6_method_27_code 18 = .ok (.invokevirtual 59, 3) := by decide +kernel
theorem d_Machine_combined_21 : decode prog_6_method_27_code 21 = .ok (.new 296, 3) := by decide +kernel
theorem d_Machine_combined_24 : decode prog_6_method_27_code 24 = .ok (.dup, 1) := by decide +kernel
theorem d_Machine_combined_25 : decode prog_6_method_27_code 25 = .ok (.ldc_w 298, 3) := by decide +kernel
theorem d_Machine_combined_28 : decode prog_6_method_27_code 28 = .ok (.invokespecial 300, 3) := by decide +kernel
theorem d_Machine_combined_31 : decode prog_6_method_27_code 31 = .ok (.athrow, 1) := by decide +kernel
theorem d_Machine_combined_32 : decode prog_6_method_27_code 32 = .ok (.iload_n 1, 1) := by decide +kernel
theorem d_Machine_combined_33 : decode prog_6_method_27_code 33 = .ok (.tableswitch 133 42 61 #[125, 117, 133, 121, 133, 129, 133, 133, 133, 133, 133, 133, 133, 133, 133, 133, 133, 133, 95, 106], 95) := by decide +kernel
theorem d_Machine_combined_128 : decode prog_6_method_27_code 128 = .ok (.iload_n 2, 1) := by decide +kernel
theorem d_Machine_combined_129 : decode prog_6_method_27_code 129 = .ok (.iload_n 3, 1) := by decide +kernel
theorem d_Machine_combined_130 : decode prog_6_method_27_code 130 = .ok (.if_icmp .ge 7, 3) := by decide +kernel
theorem d_Machine_combined_133 : decode prog_6_method_27_code 133 = .ok (.iconst 1, 1) := by decide +kernel
theorem d_Machine_combined_134 : decode prog_6_method_27_code 134 = .ok (.goto 4, 3) := by decide +kernel
theorem d_Machine_combined_137 : decode prog_6_method_27_code 137 = .ok (.iconst 0, 1) := by decide +kernel
theorem d_Machine_combined_138 : decode prog_6_method_27_code 138 = .ok (.ireturn, 1) := by decide +kernel
theorem d_Machine_combined_139 : decode prog_6_method_27_code 139 = .ok (.iload_n 2, 1) := by decide +kernel
theorem d_Machine_combined_140 : decode prog_6_method_27_code 140 = .ok (.iload_n 3, 1) := by decide +kernel
theorem d_Machine_combined_141 : decode prog_6_method_27_code 141 = .ok (.if_icmp .ne 7, 3) := by decide +kernel
theorem d_Machine_combined_144 : decode prog_6_method_27_code 144 = .ok (.iconst 1, 1) := by decide +kernel
theorem d_Machine_combined_145 : decode prog_6_method_27_code 145 = .ok (.goto 4, 3) := by decide +kernel
theorem d_Machine_combined_148 : decode prog_6_method_27_code 148 = .ok (.iconst 0, 1) := by decide +kernel
theorem d_Machine_combined_149 : decode prog_6_method_27_code 149 = .ok (.ireturn, 1) := by decide +kernel
theorem d_Machine_combined_150 : decode prog_6_method_27_code 150 = .ok (.iload_n 2, 1) := by decide +kernel
theorem d_Machine_combined_151 : decode prog_6_method_27_code 151 = .ok (.iload_n 3, 1) := by decide +kernel
theorem d_Machine_combined_152 : decode prog_6_method_27_code 152 = .ok (.iadd, 1) := by decide +kernel
theorem d_Machine_combined_153 : decode prog_6_method_27_code 153 = .ok (.ireturn, 1) := by decide +kernel
theorem d_Machine_combined_154 : decode prog_6_method_27_code 154 = .ok (.iload_n 2, 1) := by decide +kernel
theorem d_Machine_combined_155 : decode prog_6_method_27_code 155 = .ok (.iload_n 3, 1) := by decide +kernel
theorem d_Machine_combined_156 : decode prog_6_method_27_code 156 = .ok (.isub, 1) := by decide +kernel
theorem d_Machine_combined_157 : decode prog_6_method_27_code 157 = .ok (.ireturn, 1) := by decide +kernel
theorem d_Machine_combined_158 : decode prog_6_method_27_code 158 = .ok (.iload_n 2, 1) := by decide +kernel
theorem d_Machine_combined_159 : decode prog_6_method_27_code 159 = .ok (.iload_n 3, 1) := by decide +kernel
theorem d_Machine_combined_160 : decode prog_6_method_27_code 160 = .ok (.imul, 1) := by decide +kernel
theorem d_Machine_combined_161 : decode prog_6_method_27_code 161 = .ok (.ireturn, 1) := by decide +kernel
theorem d_Machine_combined_162 : decode prog_6_method_27_code 162 = .ok (.iload_n 2, 1) := by decide +kernel
theorem d_Machine_combined_163 : decode prog_6_method_27_code 163 = .ok (.iload_n 3, 1) := by decide +kernel
theorem d_Machine_combined_164 : decode prog_6_method_27_code 164 = .ok (.idiv, 1) := by decide +kernel
theorem d_Machine_combined_165 : decode prog_6_method_27_code 165 = .ok (.ireturn, 1) := by decide +kernel
theorem d_Machine_combined_166 : decode prog_6_method_27_code 166 = .ok (.iload_n 2, 1) := by decide +kernel
theorem d_Machine_combined_167 : decode prog_6_method_27_code 167 = .ok (.iload_n 3, 1) := by decide +kernel
theorem d_Machine_combined_168 : decode prog_6_method_27_code 168 = .ok (.irem, 1) := by decide +kernel
theorem d_Machine_combined_169 : decode prog_6_method_27_code 169 = .ok (.ireturn, 1) := by decide +kernel
section YTH
variable {p : Program} {l : Launch} {e : Env} {R : Room} {s : State} {m : MethodId} {args : Array Value} {below : List Frame} {meth : Method} {c : Code} {H : Heap} {locs : List Loc} {cells slots : Nat} {Q : State → Prop} {free : Addr → Prop} {ls : Array Slot} {rest : List Value} {Qc : Array Value → State → Outcome → State → Prop} {XC : String → State → State → Prop}
theorem y_knowx {g : JFrame} {q : Addr} (k : s.heap.size ≤ H.size → H.size ≤ s.heap.size + cells → y_hs s.heap ≤ y_hs H → y_hs H ≤ y_hs s.heap + slots → vx_W p l e R s m args below meth c H locs cells slots Q g q) : vx_W p l e R s m args below meth c H locs cells slots Q g q := fun T hT X => by
  subst hT
  have hb := y_book X
  exact k X.same.2.1 X.same.2.2.1 (by omega) (by have := X.same.2.2.2.2.1; rw [hb]; exact Nat.add_le_add_left this _) T rfl X
theorem y_throwW {cc : ByteArray} {pc : Nat} (hexec : p.tables.exec = Jvm.exec) (hb : c.code = cc) (hst : l.stackTraces = false) {own cls text : String} {ik is ic mc ms : Nat} {A : Nat → Prop} {D : va_G} {ar : Nat → ClassId} {N : Nat} {z : Nat → Nat}
    (hown : s.vm.findClass own = some m.cls) (hk : Cond.classLink own ik cls ∈ x_T) (hini : Cond.initialized cls ∈ x_T) (hstr : (own, is, text) ∈ x_str) (hok : x_okT (vx_atS own ic cls x_up2) = true) (hgd : (Cond.classLink own ik cls :: Cond.initialized cls :: vx_atS own ic cls x_up2).all vx_ot = true) (hfit : Bundle.fit cls = true)
    (hts : ∀ w ∈ x_T, w.before args s = true) (hU : x_U D ar s) (hZ : x_Z N z s) (hAN : ∀ q, A q → N ≤ q) (hS : va_S A s.heap H locs) (hsize : ls.size = c.maxLocals)
    (d0 : decode cc pc = .ok (.new ik, 3)) (d3 : decode cc (pc + 3) = .ok (.dup, 1)) (d4 : decode cc (pc + 4) = .ok (.ldc_w is, 3)) (d7 : decode cc (pc + 7) = .ok (.invokespecial ic, 3)) (d10 : decode cc (pc + 10) = .ok (.athrow, 1))
    (hout : ∀ x ∈ c.exceptionTable.toList, False) (hRframes : 5 < R.frames) (hRlocals : (rest.map fun v => v.category).sum + 82 ≤ R.locals) (hRcells : cells + 1 ≤ R.cells) (hRslots : slots + 6 ≤ R.slots) (hlocks : meth.locks = false)
    (hx : ∀ t : State, s.vm.Alike t.vm → H.size ≤ t.heap.size → (∀ q : Nat, q < H.size → t.heap[q]? = H[q]?) → va_F A s t → XC cls s t)
    (hf : ∀ z ∈ locs, free z.base) (hc : cells + 1 ≤ mc) (hs : slots + 6 ≤ ms) :
    W p l e R s m args below meth c H locs cells slots (vx_MQ below Qc XC args s mc ms free) (F0 m pc ls rest) := by
  obtain ⟨sa, hsa⟩ := hU.2.2.2.1 _ hstr
  refine vx_throwSW (names := x_up2) (A := A) hexec hb hst hown hfit (by decide +kernel) (hts _ hk) (hts _ hini) hsa (x_hat hok hts hU.2.1) (fun w hw => List.all_eq_true.mp hgd w hw) (hZ.2.1.narrow hAN) (hZ.2.2.1.narrow hAN) hS hsize d0 d3 d4 d7 d10 (fun x h => (hout x h).elim) hRframes hRlocals hRcells hRslots hlocks (fun t h1 h2 h3 => hx t h1 h2 h3 ?_) hf hc hs
  exact ⟨Nat.le_trans hS.1 h2, fun q h4 h5 => by rw [h3 q (Nat.lt_of_lt_of_le h4 hS.1)]; exact hS.2.1 q h4 h5⟩
end YTH
theorem y_v6 {v : Int32} (h1 : 1000 ≤ v) (h2 : ¬ 1006 ≤ v) : vp_in (v - 1000) 6 := by
  rw [x_le] at h1 h2
  have e1 : (1000 : Int32).toInt = 1000 := by decide
  have e2 : (1006 : Int32).toInt = 1006 := by decide
  rw [e1] at h1; rw [e2] at h2
  rw [vp_in_iff, Int32.toInt_sub, e1]
  have : (v.toInt - 1000).bmod (2 ^ 32) = v.toInt - 1000 := Int.bmod_eq_of_le (by omega) (by omega)
  rw [this]
  omega
set_option maxHeartbeats 4000000 in
set_option maxRecDepth 100000 in
theorem c_M_clash (l : Launch) (hst : l.stackTraces = false) (dC : Nat → ClassId) (dI : Nat → Nat → Nat) (ar : Nat → ClassId) (N0 : Nat) (z : Nat → Nat) (ad : Nat → Nat) (I : Nat → Int32) (T : Int64) (A : Nat → Nat → Int32) (O : Nat → Option Nat) (pl : va_W) (G : Nat → Nat) (C Gs : Nat → List Nat) (qn sn cq cs : Nat) (sz w0 : Nat) (hmi : y_MI z ar G C Gs I O (y_L pl) (qn, sn, cq, cs))  : vx_Met l ({ cls := "ChannelMachine$Machine", name := "clash", desc := "()V" } : Jvm.MethodName) ((Jvm.Cond.code ({ cls := "ChannelMachine$Machine", name := "clash", desc := "()V" } : Jvm.MethodName) prog_6_method_22_code (1 : Nat) (Option.none : Option Jvm.ClassFile.FieldType)) :: x_T) ({ frames := 6, cells := 1, slots := 6, locals := 82 }) (y_Pc (dC, dI) ar N0 z (y_W ad ar I T A O pl) sz w0 [.ref (ad 4)]) (va_Qv (fun (u : (Nat → Int32) × Int64 × (Nat → Nat → Int32) × (Nat → Option Nat) × va_W × (Nat × Nat × Nat × Nat)) => False) (fun u t => va_P (dC, dI) y_cl (y_W ad ar u.1 u.2.1 u.2.2.1 u.2.2.2.1 u.2.2.2.2.1) t.heap ∧ va_D (va_A (y_W ad ar I T A O pl) sz) (y_W ad ar u.1 u.2.1 u.2.2.1 u.2.2.2.1 u.2.2.2.2.1) ∧ y_ac (cq + cs) sz w0 (u.2.2.2.2.2.2.2.1 + u.2.2.2.2.2.2.2.2) t.heap) (va_A (y_W ad ar I T A O pl) sz)) (vx_X (fun (u : (Nat → Int32) × Int64 × (Nat → Nat → Int32) × (Nat → Option Nat) × va_W × (Nat × Nat × Nat × Nat)) => y_MI z ar G C Gs u.1 u.2.2.2.1 (y_L u.2.2.2.2.1) u.2.2.2.2.2 ∧ y_bd (qn, sn, cq, cs) u.2.2.2.2.2 0 0 ∧ m_fr [7, 8, 12, 13, 14, 15] I u.1 ∧ u.1 7 = 3) (fun E u t => va_P (dC, dI) y_cl (y_W ad ar u.1 u.2.1 u.2.2.1 u.2.2.2.1 u.2.2.2.2.1) t.heap ∧ va_D (va_A (y_W ad ar I T A O pl) sz) (y_W ad ar u.1 u.2.1 u.2.2.1 u.2.2.2.1 u.2.2.2.2.1) ∧ (E = "java/lang/IllegalStateException" ∨ E = "java/lang/ArithmeticException") ∧ True) (va_A (y_W ad ar I T A O pl) sz)) (1) (6) (va_A (y_W ad ar I T A O pl) sz) := by
  refine vx_ofW (cc := prog_6_method_22_code) (maxL := 1) (ret := none) (by decide) rfl ?_
  intro p e s m args below meth c s₁ B hml htb hv
  obtain ⟨rfl, hsz, hN0, hP, hU, hZ, hD0, hw0⟩ := hv
  have hK := hU.2.1
  have hx := B.exec
  have hb := B.bytes
  have hr := B.returns
  have hts : ∀ w ∈ x_T, w.before ([.ref (ad 4)] : List Value).toArray s = true := fun w h => atoms_spec (ws := (Jvm.Cond.code ({ cls := "ChannelMachine$Machine", name := "clash", desc := "()V" } : Jvm.MethodName) prog_6_method_22_code (1 : Nat) (Option.none : Option Jvm.ClassFile.FieldType)) :: x_T) B.pre w (List.mem_cons_of_mem _ h)
  have hown : s.vm.findClass "ChannelMachine$Machine" = some m.cls := findClass_of_methodNamed B.named
  have hlocks := B.notSynchronized
  subst hsz
  subst hw0
  have hD := hD0.self (sz := s.heap.size)
  have hAN := x_AN hD0 hN0
  generalize hAe : va_A (y_W ad ar I T A O pl) s.heap.size = Bq at hD hAN ⊢
  have hA : ∀ q : Nat, s.heap.size ≤ q → Bq q := fun q h => by rw [← hAe]; exact Or.inr h
  have hS : va_S Bq s.heap s.heap [] := va_S.rf
  have hl := lv_entry ([.ref (ad 4)]) (n := 1) (Nat.le_of_ble_eq_true rfl)
  rw [lg_entry_eq]
  generalize (lg_sl ([.ref (ad 4)]) ++ List.replicate (1 - (lg_sl ([.ref (ad 4)])).length) Slot.unset).toArray = ls at hl ⊢
  have hl : lv_has ls 1 [(0, .ref (ad 4))] := hl
  refine lv_aload_n hx hb d_Machine_clash_0 rfl (lv_at hl 0 rfl) ?_
  refine lv_iconst (v := 3) hx hb d_Machine_clash_1 (by decide) ?_
  have hFc := y_free hD hS hA
  refine va_callv (va_runV (As := [.int 3]) (rest := []) ⟨hx, hb, hml, hown, hts⟩ (c_M_close l dC dI ar N0 z ad I T A O pl G C Gs qn sn cq cs (3) s.heap.size (y_hs s.heap) hmi) (cwV 1 hts (x_goodV k_616 k_618 kp_20 k_3 k_619) rfl rfl rfl (by decide +kernel) ⟨Nat.le_of_ble_eq_true rfl, Nat.le_of_ble_eq_true rfl⟩) ⟨y_blind, va_recv hK hP (ci := 2) (q0 := 4) rfl (y_W_ob (by decide) (by decide)), fun U9 hU9 hW9 => y_pre hU9 hW9 hP hD hU hZ hS hAN hN0⟩ rfl rfl hl.1 rfl (lv_room (Nat.le_of_ble_eq_true rfl)) d_Machine_clash_2 ⟨(by show 0 + (0) ≤ 1; omega), (by show 0 + (0) ≤ 6; omega)⟩) hS (fun q _ h => hFc q h) hFc (fun u t H1 locs ht hvm hw hB hz1 hk1 hS => ?_)
  obtain ⟨I1, T1, A1, O1, pl1, q1, s1, cq1, cs1⟩ := u
  dsimp only at hw hB
  rw [ht] at hB
  obtain ⟨hP, hD1, hac1⟩ := hB
  have hD : va_D Bq (y_W ad ar I1 T1 A1 O1 pl1) := hD1.weaken (fun _ q _ h => hFc q.1 h)
  generalize H1 = H at hP hS hac1 ⊢
  refine W.widen (k := 0) (n := 0) (by omega) (by omega) ?_
  obtain ⟨hmi, e5, fr1, h71, e2, e3, hcl1⟩ := hw
  cases e5
  rw [e2, e3] at hP hD
  have hP : va_P (dC, dI) y_cl (y_W ad ar I1 T A O1 pl1) H := hP
  have hD : va_D Bq (y_W ad ar I1 T A O1 pl1) := hD
  have hmi : y_MI z ar G C Gs I1 O1 (y_L pl1) (0, 0, cq, cs) := hmi
  have hbdr1 : y_bd (qn, sn, cq, cs) (0, 0, cq, cs) 0 0 := ⟨by dsimp only; omega, by dsimp only; omega, Or.inl rfl, Or.inl rfl⟩
  exact y_throwW (A := Bq) hx hb hst (own := "ChannelMachine$Machine") (cls := "java/lang/IllegalStateException") (text := "clash") (ik := 128) (is := 271) (ic := 132) hown k_847 k_14 (by decide) x_tChannelMachineMachine_132 (by decide +kernel) rfl hts hU.1 hZ.1 hAN hS (by rw [hml]; exact hl.1) d_Machine_clash_5 d_Machine_clash_8 d_Machine_clash_9 d_Machine_clash_12 d_Machine_clash_15 htb (Nat.le_of_ble_eq_true rfl) (Nat.le_of_ble_eq_true rfl) (by show 0 + 1 ≤ 1; omega) (by show 0 + 6 ≤ 6; omega) hlocks (fun t h1 h2 h3 h4 => ⟨(I1, T, A, O1, pl1, (0, 0, cq, cs)), ⟨hmi, (y_bd.tr hbdr1 (y_bd.rf (a := 0) (b := 0)) (e := 0) (g := 0) (by decide) (by decide)), (m_fr.rf.tr fr1 (by decide)), h71⟩, ⟨fun k q hk => (hP k q hk).kept (h3 q.1 (hP k q hk).lt), hD, Or.inl rfl, trivial⟩, h4⟩) hS.2.2 (by show 0 + 1 ≤ 1; omega) (by show 0 + 6 ≤ 6; omega)
set_option maxHeartbeats 4000000 in
set_option maxRecDepth 100000 in
theorem c_M_combined (l : Launch) (hst : l.stackTraces = false) (dC : Nat → ClassId) (dI : Nat → Nat → Nat) (ar : Nat → ClassId) (N0 : Nat) (z : Nat → Nat) (ad : Nat → Nat) (I : Nat → Int32) (T : Int64) (A : Nat → Nat → Int32) (O : Nat → Option Nat) (pl : va_W) (G : Nat → Nat) (C Gs : Nat → List Nat) (qn sn cq cs : Nat) (cv xv yv : Int32) (sz w0 : Nat) (hmi : y_MI z ar G C Gs I O (y_L pl) (qn, sn, cq, cs)) (hop : cv = 60 ∨ cv = 61 ∨ cv = 43 ∨ cv = 45 ∨ cv = 42 ∨ cv = 47 ∨ cv = 37) : vx_Met l ({ cls := "ChannelMachine$Machine", name := "combined", desc := "(CII)I" } : Jvm.MethodName) ((Jvm.Cond.code ({ cls := "ChannelMachine$Machine", name := "combined", desc := "(CII)I" } : Jvm.MethodName) prog_6_method_27_code (4 : Nat) (Option.some Jvm.ClassFile.FieldType.int)) :: x_T) ({ frames := 6, cells := 1, slots := 6, locals := 82 }) (y_Pc (dC, dI) ar N0 z (y_W ad ar I T A O pl) sz w0 [.ref (ad 4), .int cv, .int xv, .int yv]) (va_Qi (fun (r : Int32) (u : (Nat → Int32) × Int64 × (Nat → Nat → Int32) × (Nat → Option Nat) × va_W × (Nat × Nat × Nat × Nat)) => u = (I, T, A, O, pl, qn, sn, cq, cs)) (fun u t => va_P (dC, dI) y_cl (y_W ad ar u.1 u.2.1 u.2.2.1 u.2.2.2.1 u.2.2.2.2.1) t.heap ∧ va_D (va_A (y_W ad ar I T A O pl) sz) (y_W ad ar u.1 u.2.1 u.2.2.1 u.2.2.2.1 u.2.2.2.2.1) ∧ y_ac (cq + cs) sz w0 (u.2.2.2.2.2.2.2.1 + u.2.2.2.2.2.2.2.2) t.heap) (va_A (y_W ad ar I T A O pl) sz)) (vx_X (fun (u : (Nat → Int32) × Int64 × (Nat → Nat → Int32) × (Nat → Option Nat) × va_W × (Nat × Nat × Nat × Nat)) => y_MI z ar G C Gs u.1 u.2.2.2.1 (y_L u.2.2.2.2.1) u.2.2.2.2.2 ∧ y_bd (qn, sn, cq, cs) u.2.2.2.2.2 0 0 ∧ m_fr [7, 8, 12, 13, 14, 15] I u.1 ∧ u.1 7 = 3) (fun E u t => va_P (dC, dI) y_cl (y_W ad ar u.1 u.2.1 u.2.2.1 u.2.2.2.1 u.2.2.2.2.1) t.heap ∧ va_D (va_A (y_W ad ar I T A O pl) sz) (y_W ad ar u.1 u.2.1 u.2.2.1 u.2.2.2.1 u.2.2.2.2.1) ∧ (E = "java/lang/IllegalStateException" ∨ E = "java/lang/ArithmeticException") ∧ True) (va_A (y_W ad ar I T A O pl) sz)) (1) (6) (va_A (y_W ad ar I T A O pl) sz) := by
  refine vx_ofW (cc := prog_6_method_27_code) (maxL := 4) (ret := (some .int)) (by decide) rfl ?_
  intro p e s m args below meth c s₁ B hml htb hv
  obtain ⟨rfl, hsz, hN0, hP, hU, hZ, hD0, hw0⟩ := hv
  have hK := hU.2.1
  have hx := B.exec
  have hb := B.bytes
  have hr := B.returns
  have hts : ∀ w ∈ x_T, w.before ([.ref (ad 4), .int cv, .int xv, .int yv] : List Value).toArray s = true := fun w h => atoms_spec (ws := (Jvm.Cond.code ({ cls := "ChannelMachine$Machine", name := "combined", desc := "(CII)I" } : Jvm.MethodName) prog_6_method_27_code (4 : Nat) (Option.some Jvm.ClassFile.FieldType.int)) :: x_T) B.pre w (List.mem_cons_of_mem _ h)
  have hown : s.vm.findClass "ChannelMachine$Machine" = some m.cls := findClass_of_methodNamed B.named
  have hlocks := B.notSynchronized
  subst hsz
  subst hw0
  have hD := hD0.self (sz := s.heap.size)
  have hAN := x_AN hD0 hN0
  generalize hAe : va_A (y_W ad ar I T A O pl) s.heap.size = Bq at hD hAN ⊢
  have hA : ∀ q : Nat, s.heap.size ≤ q → Bq q := fun q h => by rw [← hAe]; exact Or.inr h
  have hS : va_S Bq s.heap s.heap [] := va_S.rf
  have hl := lv_entry ([.ref (ad 4), .int cv, .int xv, .int yv]) (n := 4) (Nat.le_of_ble_eq_true rfl)
  rw [lg_entry_eq]
  generalize (lg_sl ([.ref (ad 4), .int cv, .int xv, .int yv]) ++ List.replicate (4 - (lg_sl ([.ref (ad 4), .int cv, .int xv, .int yv])).length) Slot.unset).toArray = ls at hl ⊢
  have hl : lv_has ls 4 [(0, .ref (ad 4)), (1, .int cv), (2, .int xv), (3, .int yv)] := hl
  rcases hop with rfl | rfl | rfl | rfl | rfl | rfl | rfl
  · have hl : lv_has ls 4 [(0, .ref (ad 4)), (1, .int 60), (2, .int xv), (3, .int yv)] := hl
    refine lv_iload_n hx hb d_Machine_combined_0 rfl (lv_at hl 3 rfl) ?_
    refine lv_if_ne (tgt := 32) hx hb d_Machine_combined_1 (by decide) (fun c1 => ?_) (fun c1 => ?_)
    · refine lv_iload_n hx hb d_Machine_combined_32 rfl (lv_at hl 1 rfl) ?_
      refine lv_tableIn (tgt := 128) hx hb d_Machine_combined_33 (by decide) (by decide) (off := 95) rfl (by decide) ?_
      refine lv_iload_n hx hb d_Machine_combined_128 rfl (lv_at hl 2 rfl) ?_
      refine lv_iload_n hx hb d_Machine_combined_129 rfl (lv_at hl 3 rfl) ?_
      refine lv_icmp_ge (tgt := 137) hx hb d_Machine_combined_130 (by decide) (fun c2 => ?_) (fun c2 => ?_)
      · refine lv_iconst (v := 0) hx hb d_Machine_combined_137 (by decide) ?_
        refine vx_ret ?_
        refine y_know (fun hy91 hy92 hy93 hy94 => ?_)
        have hac9 : y_ac (cq + cs) s.heap.size (y_hs s.heap) (cq + cs) s.heap := ⟨by omega, by omega⟩
        refine W.widen (k := 1) (n := 6) (by omega) (by omega) ?_
        exact W.iret (v := 0) hx hb hr (fun t ht hW => ⟨⟨0, (I, T, A, O, pl, (qn, sn, cq, cs)), rfl, rfl, (by dsimp only; rw [ht]; exact ⟨hP, hD, hac9⟩)⟩, hS.F ht⟩) hS.2.2 d_Machine_combined_138
      · refine lv_iconst (v := 1) hx hb d_Machine_combined_133 (by decide) ?_
        refine lv_goto (tgt := 138) hx hb d_Machine_combined_134 (by decide) ?_
        refine vx_ret ?_
        refine y_know (fun hy91 hy92 hy93 hy94 => ?_)
        have hac9 : y_ac (cq + cs) s.heap.size (y_hs s.heap) (cq + cs) s.heap := ⟨by omega, by omega⟩
        refine W.widen (k := 1) (n := 6) (by omega) (by omega) ?_
        exact W.iret (v := 1) hx hb hr (fun t ht hW => ⟨⟨1, (I, T, A, O, pl, (qn, sn, cq, cs)), rfl, rfl, (by dsimp only; rw [ht]; exact ⟨hP, hD, hac9⟩)⟩, hS.F ht⟩) hS.2.2 d_Machine_combined_138
    · refine lv_iload_n hx hb d_Machine_combined_4 rfl (lv_at hl 1 rfl) ?_
      refine lv_bipush (v := 47) hx hb d_Machine_combined_5 (by decide) ?_
      refine lv_icmp_eq (tgt := 16) hx hb d_Machine_combined_7 (by decide) (fun c3 => absurd c3 (by decide)) (fun _ => ?_)
      refine lv_iload_n hx hb d_Machine_combined_10 rfl (lv_at hl 1 rfl) ?_
      refine lv_bipush (v := 37) hx hb d_Machine_combined_11 (by decide) ?_
      refine lv_icmp_ne (tgt := 32) hx hb d_Machine_combined_13 (by decide) (fun _ => ?_) (fun c4 => absurd c4 (by decide))
      refine lv_iload_n hx hb d_Machine_combined_32 rfl (lv_at hl 1 rfl) ?_
      refine lv_tableIn (tgt := 128) hx hb d_Machine_combined_33 (by decide) (by decide) (off := 95) rfl (by decide) ?_
      refine lv_iload_n hx hb d_Machine_combined_128 rfl (lv_at hl 2 rfl) ?_
      refine lv_iload_n hx hb d_Machine_combined_129 rfl (lv_at hl 3 rfl) ?_
      refine lv_icmp_ge (tgt := 137) hx hb d_Machine_combined_130 (by decide) (fun c5 => ?_) (fun c5 => ?_)
      · refine lv_iconst (v := 0) hx hb d_Machine_combined_137 (by decide) ?_
        refine vx_ret ?_
        refine y_know (fun hy91 hy92 hy93 hy94 => ?_)
        have hac9 : y_ac (cq + cs) s.heap.size (y_hs s.heap) (cq + cs) s.heap := ⟨by omega, by omega⟩
        refine W.widen (k := 1) (n := 6) (by omega) (by omega) ?_
        exact W.iret (v := 0) hx hb hr (fun t ht hW => ⟨⟨0, (I, T, A, O, pl, (qn, sn, cq, cs)), rfl, rfl, (by dsimp only; rw [ht]; exact ⟨hP, hD, hac9⟩)⟩, hS.F ht⟩) hS.2.2 d_Machine_combined_138
      · refine lv_iconst (v := 1) hx hb d_Machine_combined_133 (by decide) ?_
        refine lv_goto (tgt := 138) hx hb d_Machine_combined_134 (by decide) ?_
        refine vx_ret ?_
        refine y_know (fun hy91 hy92 hy93 hy94 => ?_)
        have hac9 : y_ac (cq + cs) s.heap.size (y_hs s.heap) (cq + cs) s.heap := ⟨by omega, by omega⟩
        refine W.widen (k := 1) (n := 6) (by omega) (by omega) ?_
        exact W.iret (v := 1) hx hb hr (fun t ht hW => ⟨⟨1, (I, T, A, O, pl, (qn, sn, cq, cs)), rfl, rfl, (by dsimp only; rw [ht]; exact ⟨hP, hD, hac9⟩)⟩, hS.F ht⟩) hS.2.2 d_Machine_combined_138
  · have hl : lv_has ls 4 [(0, .ref (ad 4)), (1, .int 61), (2, .int xv), (3, .int yv)] := hl
    refine lv_iload_n hx hb d_Machine_combined_0 rfl (lv_at hl 3 rfl) ?_
    refine lv_if_ne (tgt := 32) hx hb d_Machine_combined_1 (by decide) (fun c6 => ?_) (fun c6 => ?_)
    · refine lv_iload_n hx hb d_Machine_combined_32 rfl (lv_at hl 1 rfl) ?_
      refine lv_tableIn (tgt := 139) hx hb d_Machine_combined_33 (by decide) (by decide) (off := 106) rfl (by decide) ?_
      refine lv_iload_n hx hb d_Machine_combined_139 rfl (lv_at hl 2 rfl) ?_
      refine lv_iload_n hx hb d_Machine_combined_140 rfl (lv_at hl 3 rfl) ?_
      refine lv_icmp_ne (tgt := 148) hx hb d_Machine_combined_141 (by decide) (fun c7 => ?_) (fun c7 => ?_)
      · refine lv_iconst (v := 0) hx hb d_Machine_combined_148 (by decide) ?_
        refine vx_ret ?_
        refine y_know (fun hy91 hy92 hy93 hy94 => ?_)
        have hac9 : y_ac (cq + cs) s.heap.size (y_hs s.heap) (cq + cs) s.heap := ⟨by omega, by omega⟩
        refine W.widen (k := 1) (n := 6) (by omega) (by omega) ?_
        exact W.iret (v := 0) hx hb hr (fun t ht hW => ⟨⟨0, (I, T, A, O, pl, (qn, sn, cq, cs)), rfl, rfl, (by dsimp only; rw [ht]; exact ⟨hP, hD, hac9⟩)⟩, hS.F ht⟩) hS.2.2 d_Machine_combined_149
      · refine lv_iconst (v := 1) hx hb d_Machine_combined_144 (by decide) ?_
        refine lv_goto (tgt := 149) hx hb d_Machine_combined_145 (by decide) ?_
        refine vx_ret ?_
        refine y_know (fun hy91 hy92 hy93 hy94 => ?_)
        have hac9 : y_ac (cq + cs) s.heap.size (y_hs s.heap) (cq + cs) s.heap := ⟨by omega, by omega⟩
        refine W.widen (k := 1) (n := 6) (by omega) (by omega) ?_
        exact W.iret (v := 1) hx hb hr (fun t ht hW => ⟨⟨1, (I, T, A, O, pl, (qn, sn, cq, cs)), rfl, rfl, (by dsimp only; rw [ht]; exact ⟨hP, hD, hac9⟩)⟩, hS.F ht⟩) hS.2.2 d_Machine_combined_149
    · refine lv_iload_n hx hb d_Machine_combined_4 rfl (lv_at hl 1 rfl) ?_
      refine lv_bipush (v := 47) hx hb d_Machine_combined_5 (by decide) ?_
      refine lv_icmp_eq (tgt := 16) hx hb d_Machine_combined_7 (by decide) (fun c8 => absurd c8 (by decide)) (fun _ => ?_)
      refine lv_iload_n hx hb d_Machine_combined_10 rfl (lv_at hl 1 rfl) ?_
      refine lv_bipush (v := 37) hx hb d_Machine_combined_11 (by decide) ?_
      refine lv_icmp_ne (tgt := 32) hx hb d_Machine_combined_13 (by decide) (fun _ => ?_) (fun c9 => absurd c9 (by decide))
      refine lv_iload_n hx hb d_Machine_combined_32 rfl (lv_at hl 1 rfl) ?_
      refine lv_tableIn (tgt := 139) hx hb d_Machine_combined_33 (by decide) (by decide) (off := 106) rfl (by decide) ?_
      refine lv_iload_n hx hb d_Machine_combined_139 rfl (lv_at hl 2 rfl) ?_
      refine lv_iload_n hx hb d_Machine_combined_140 rfl (lv_at hl 3 rfl) ?_
      refine lv_icmp_ne (tgt := 148) hx hb d_Machine_combined_141 (by decide) (fun c10 => ?_) (fun c10 => ?_)
      · refine lv_iconst (v := 0) hx hb d_Machine_combined_148 (by decide) ?_
        refine vx_ret ?_
        refine y_know (fun hy91 hy92 hy93 hy94 => ?_)
        have hac9 : y_ac (cq + cs) s.heap.size (y_hs s.heap) (cq + cs) s.heap := ⟨by omega, by omega⟩
        refine W.widen (k := 1) (n := 6) (by omega) (by omega) ?_
        exact W.iret (v := 0) hx hb hr (fun t ht hW => ⟨⟨0, (I, T, A, O, pl, (qn, sn, cq, cs)), rfl, rfl, (by dsimp only; rw [ht]; exact ⟨hP, hD, hac9⟩)⟩, hS.F ht⟩) hS.2.2 d_Machine_combined_149
      · refine lv_iconst (v := 1) hx hb d_Machine_combined_144 (by decide) ?_
        refine lv_goto (tgt := 149) hx hb d_Machine_combined_145 (by decide) ?_
        refine vx_ret ?_
        refine y_know (fun hy91 hy92 hy93 hy94 => ?_)
        have hac9 : y_ac (cq + cs) s.heap.size (y_hs s.heap) (cq + cs) s.heap := ⟨by omega, by omega⟩
        refine W.widen (k := 1) (n := 6) (by omega) (by omega) ?_
        exact W.iret (v := 1) hx hb hr (fun t ht hW => ⟨⟨1, (I, T, A, O, pl, (qn, sn, cq, cs)), rfl, rfl, (by dsimp only; rw [ht]; exact ⟨hP, hD, hac9⟩)⟩, hS.F ht⟩) hS.2.2 d_Machine_combined_149
  · have hl : lv_has ls 4 [(0, .ref (ad 4)), (1, .int 43), (2, .int xv), (3, .int yv)] := hl
    refine lv_iload_n hx hb d_Machine_combined_0 rfl (lv_at hl 3 rfl) ?_
    refine lv_if_ne (tgt := 32) hx hb d_Machine_combined_1 (by decide) (fun c11 => ?_) (fun c11 => ?_)
    · refine lv_iload_n hx hb d_Machine_combined_32 rfl (lv_at hl 1 rfl) ?_
      refine lv_tableIn (tgt := 150) hx hb d_Machine_combined_33 (by decide) (by decide) (off := 117) rfl (by decide) ?_
      refine lv_iload_n hx hb d_Machine_combined_150 rfl (lv_at hl 2 rfl) ?_
      refine lv_iload_n hx hb d_Machine_combined_151 rfl (lv_at hl 3 rfl) ?_
      refine lv_iadd hx hb d_Machine_combined_152 ?_
      refine vx_ret ?_
      refine y_know (fun hy91 hy92 hy93 hy94 => ?_)
      have hac9 : y_ac (cq + cs) s.heap.size (y_hs s.heap) (cq + cs) s.heap := ⟨by omega, by omega⟩
      refine W.widen (k := 1) (n := 6) (by omega) (by omega) ?_
      exact W.iret (v := (xv + yv)) hx hb hr (fun t ht hW => ⟨⟨(xv + yv), (I, T, A, O, pl, (qn, sn, cq, cs)), rfl, rfl, (by dsimp only; rw [ht]; exact ⟨hP, hD, hac9⟩)⟩, hS.F ht⟩) hS.2.2 d_Machine_combined_153
    · refine lv_iload_n hx hb d_Machine_combined_4 rfl (lv_at hl 1 rfl) ?_
      refine lv_bipush (v := 47) hx hb d_Machine_combined_5 (by decide) ?_
      refine lv_icmp_eq (tgt := 16) hx hb d_Machine_combined_7 (by decide) (fun c12 => absurd c12 (by decide)) (fun _ => ?_)
      refine lv_iload_n hx hb d_Machine_combined_10 rfl (lv_at hl 1 rfl) ?_
      refine lv_bipush (v := 37) hx hb d_Machine_combined_11 (by decide) ?_
      refine lv_icmp_ne (tgt := 32) hx hb d_Machine_combined_13 (by decide) (fun _ => ?_) (fun c13 => absurd c13 (by decide))
      refine lv_iload_n hx hb d_Machine_combined_32 rfl (lv_at hl 1 rfl) ?_
      refine lv_tableIn (tgt := 150) hx hb d_Machine_combined_33 (by decide) (by decide) (off := 117) rfl (by decide) ?_
      refine lv_iload_n hx hb d_Machine_combined_150 rfl (lv_at hl 2 rfl) ?_
      refine lv_iload_n hx hb d_Machine_combined_151 rfl (lv_at hl 3 rfl) ?_
      refine lv_iadd hx hb d_Machine_combined_152 ?_
      refine vx_ret ?_
      refine y_know (fun hy91 hy92 hy93 hy94 => ?_)
      have hac9 : y_ac (cq + cs) s.heap.size (y_hs s.heap) (cq + cs) s.heap := ⟨by omega, by omega⟩
      refine W.widen (k := 1) (n := 6) (by omega) (by omega) ?_
      exact W.iret (v := (xv + yv)) hx hb hr (fun t ht hW => ⟨⟨(xv + yv), (I, T, A, O, pl, (qn, sn, cq, cs)), rfl, rfl, (by dsimp only; rw [ht]; exact ⟨hP, hD, hac9⟩)⟩, hS.F ht⟩) hS.2.2 d_Machine_combined_153
  · have hl : lv_has ls 4 [(0, .ref (ad 4)), (1, .int 45), (2, .int xv), (3, .int yv)] := hl
    refine lv_iload_n hx hb d_Machine_combined_0 rfl (lv_at hl 3 rfl) ?_
    refine lv_if_ne (tgt := 32) hx hb d_Machine_combined_1 (by decide) (fun c14 => ?_) (fun c14 => ?_)
    · refine lv_iload_n hx hb d_Machine_combined_32 rfl (lv_at hl 1 rfl) ?_
      refine lv_tableIn (tgt := 154) hx hb d_Machine_combined_33 (by decide) (by decide) (off := 121) rfl (by decide) ?_
      refine lv_iload_n hx hb d_Machine_combined_154 rfl (lv_at hl 2 rfl) ?_
      refine lv_iload_n hx hb d_Machine_combined_155 rfl (lv_at hl 3 rfl) ?_
      refine lv_isub hx hb d_Machine_combined_156 ?_
      refine vx_ret ?_
      refine y_know (fun hy91 hy92 hy93 hy94 => ?_)
      have hac9 : y_ac (cq + cs) s.heap.size (y_hs s.heap) (cq + cs) s.heap := ⟨by omega, by omega⟩
      refine W.widen (k := 1) (n := 6) (by omega) (by omega) ?_
      exact W.iret (v := (xv - yv)) hx hb hr (fun t ht hW => ⟨⟨(xv - yv), (I, T, A, O, pl, (qn, sn, cq, cs)), rfl, rfl, (by dsimp only; rw [ht]; exact ⟨hP, hD, hac9⟩)⟩, hS.F ht⟩) hS.2.2 d_Machine_combined_157
    · refine lv_iload_n hx hb d_Machine_combined_4 rfl (lv_at hl 1 rfl) ?_
      refine lv_bipush (v := 47) hx hb d_Machine_combined_5 (by decide) ?_
      refine lv_icmp_eq (tgt := 16) hx hb d_Machine_combined_7 (by decide) (fun c15 => absurd c15 (by decide)) (fun _ => ?_)
      refine lv_iload_n hx hb d_Machine_combined_10 rfl (lv_at hl 1 rfl) ?_
      refine lv_bipush (v := 37) hx hb d_Machine_combined_11 (by decide) ?_
      refine lv_icmp_ne (tgt := 32) hx hb d_Machine_combined_13 (by decide) (fun _ => ?_) (fun c16 => absurd c16 (by decide))
      refine lv_iload_n hx hb d_Machine_combined_32 rfl (lv_at hl 1 rfl) ?_
      refine lv_tableIn (tgt := 154) hx hb d_Machine_combined_33 (by decide) (by decide) (off := 121) rfl (by decide) ?_
      refine lv_iload_n hx hb d_Machine_combined_154 rfl (lv_at hl 2 rfl) ?_
      refine lv_iload_n hx hb d_Machine_combined_155 rfl (lv_at hl 3 rfl) ?_
      refine lv_isub hx hb d_Machine_combined_156 ?_
      refine vx_ret ?_
      refine y_know (fun hy91 hy92 hy93 hy94 => ?_)
      have hac9 : y_ac (cq + cs) s.heap.size (y_hs s.heap) (cq + cs) s.heap := ⟨by omega, by omega⟩
      refine W.widen (k := 1) (n := 6) (by omega) (by omega) ?_
      exact W.iret (v := (xv - yv)) hx hb hr (fun t ht hW => ⟨⟨(xv - yv), (I, T, A, O, pl, (qn, sn, cq, cs)), rfl, rfl, (by dsimp only; rw [ht]; exact ⟨hP, hD, hac9⟩)⟩, hS.F ht⟩) hS.2.2 d_Machine_combined_157
  · have hl : lv_has ls 4 [(0, .ref (ad 4)), (1, .int 42), (2, .int xv), (3, .int yv)] := hl
    refine lv_iload_n hx hb d_Machine_combined_0 rfl (lv_at hl 3 rfl) ?_
    refine lv_if_ne (tgt := 32) hx hb d_Machine_combined_1 (by decide) (fun c17 => ?_) (fun c17 => ?_)
    · refine lv_iload_n hx hb d_Machine_combined_32 rfl (lv_at hl 1 rfl) ?_
      refine lv_tableIn (tgt := 158) hx hb d_Machine_combined_33 (by decide) (by decide) (off := 125) rfl (by decide) ?_
      refine lv_iload_n hx hb d_Machine_combined_158 rfl (lv_at hl 2 rfl) ?_
      refine lv_iload_n hx hb d_Machine_combined_159 rfl (lv_at hl 3 rfl) ?_
      refine lv_imul hx hb d_Machine_combined_160 ?_
      refine vx_ret ?_
      refine y_know (fun hy91 hy92 hy93 hy94 => ?_)
      have hac9 : y_ac (cq + cs) s.heap.size (y_hs s.heap) (cq + cs) s.heap := ⟨by omega, by omega⟩
      refine W.widen (k := 1) (n := 6) (by omega) (by omega) ?_
      exact W.iret (v := (xv * yv)) hx hb hr (fun t ht hW => ⟨⟨(xv * yv), (I, T, A, O, pl, (qn, sn, cq, cs)), rfl, rfl, (by dsimp only; rw [ht]; exact ⟨hP, hD, hac9⟩)⟩, hS.F ht⟩) hS.2.2 d_Machine_combined_161
    · refine lv_iload_n hx hb d_Machine_combined_4 rfl (lv_at hl 1 rfl) ?_
      refine lv_bipush (v := 47) hx hb d_Machine_combined_5 (by decide) ?_
      refine lv_icmp_eq (tgt := 16) hx hb d_Machine_combined_7 (by decide) (fun c18 => absurd c18 (by decide)) (fun _ => ?_)
      refine lv_iload_n hx hb d_Machine_combined_10 rfl (lv_at hl 1 rfl) ?_
      refine lv_bipush (v := 37) hx hb d_Machine_combined_11 (by decide) ?_
      refine lv_icmp_ne (tgt := 32) hx hb d_Machine_combined_13 (by decide) (fun _ => ?_) (fun c19 => absurd c19 (by decide))
      refine lv_iload_n hx hb d_Machine_combined_32 rfl (lv_at hl 1 rfl) ?_
      refine lv_tableIn (tgt := 158) hx hb d_Machine_combined_33 (by decide) (by decide) (off := 125) rfl (by decide) ?_
      refine lv_iload_n hx hb d_Machine_combined_158 rfl (lv_at hl 2 rfl) ?_
      refine lv_iload_n hx hb d_Machine_combined_159 rfl (lv_at hl 3 rfl) ?_
      refine lv_imul hx hb d_Machine_combined_160 ?_
      refine vx_ret ?_
      refine y_know (fun hy91 hy92 hy93 hy94 => ?_)
      have hac9 : y_ac (cq + cs) s.heap.size (y_hs s.heap) (cq + cs) s.heap := ⟨by omega, by omega⟩
      refine W.widen (k := 1) (n := 6) (by omega) (by omega) ?_
      exact W.iret (v := (xv * yv)) hx hb hr (fun t ht hW => ⟨⟨(xv * yv), (I, T, A, O, pl, (qn, sn, cq, cs)), rfl, rfl, (by dsimp only; rw [ht]; exact ⟨hP, hD, hac9⟩)⟩, hS.F ht⟩) hS.2.2 d_Machine_combined_161
  · have hl : lv_has ls 4 [(0, .ref (ad 4)), (1, .int 47), (2, .int xv), (3, .int yv)] := hl
    refine lv_iload_n hx hb d_Machine_combined_0 rfl (lv_at hl 3 rfl) ?_
    refine lv_if_ne (tgt := 32) hx hb d_Machine_combined_1 (by decide) (fun c20 => ?_) (fun c20 => ?_)
    · refine lv_iload_n hx hb d_Machine_combined_32 rfl (lv_at hl 1 rfl) ?_
      refine lv_tableIn (tgt := 162) hx hb d_Machine_combined_33 (by decide) (by decide) (off := 129) rfl (by decide) ?_
      refine lv_iload_n hx hb d_Machine_combined_162 rfl (lv_at hl 2 rfl) ?_
      refine lv_iload_n hx hb d_Machine_combined_163 rfl (lv_at hl 3 rfl) ?_
      refine lv_idiv hx hb d_Machine_combined_164 c20 ?_
      refine lv_topi (fun d_21 _ => ?_)
      refine vx_ret ?_
      refine y_know (fun hy91 hy92 hy93 hy94 => ?_)
      have hac9 : y_ac (cq + cs) s.heap.size (y_hs s.heap) (cq + cs) s.heap := ⟨by omega, by omega⟩
      refine W.widen (k := 1) (n := 6) (by omega) (by omega) ?_
      exact W.iret (v := d_21) hx hb hr (fun t ht hW => ⟨⟨d_21, (I, T, A, O, pl, (qn, sn, cq, cs)), rfl, rfl, (by dsimp only; rw [ht]; exact ⟨hP, hD, hac9⟩)⟩, hS.F ht⟩) hS.2.2 d_Machine_combined_165
    · refine lv_iload_n hx hb d_Machine_combined_4 rfl (lv_at hl 1 rfl) ?_
      refine lv_bipush (v := 47) hx hb d_Machine_combined_5 (by decide) ?_
      refine lv_icmp_eq (tgt := 16) hx hb d_Machine_combined_7 (by decide) (fun _ => ?_) (fun c22 => absurd (by decide) c22)
      refine lv_aload_n hx hb d_Machine_combined_16 rfl (lv_at hl 0 rfl) ?_
      refine lv_iconst (v := 3) hx hb d_Machine_combined_17 (by decide) ?_
      have hFc := y_free hD hS hA
      refine va_callv (va_runV (As := [.int 3]) (rest := []) ⟨hx, hb, hml, hown, hts⟩ (c_M_close l dC dI ar N0 z ad I T A O pl G C Gs qn sn cq cs (3) s.heap.size (y_hs s.heap) hmi) (cwV 1 hts (x_goodV k_616 k_618 kp_20 k_3 k_619) rfl rfl rfl (by decide +kernel) ⟨Nat.le_of_ble_eq_true rfl, Nat.le_of_ble_eq_true rfl⟩) ⟨y_blind, va_recv hK hP (ci := 2) (q0 := 4) rfl (y_W_ob (by decide) (by decide)), fun U9 hU9 hW9 => y_pre hU9 hW9 hP hD hU hZ hS hAN hN0⟩ rfl rfl hl.1 rfl (lv_room (Nat.le_of_ble_eq_true rfl)) d_Machine_combined_18 ⟨(by show 0 + (0) ≤ 1; omega), (by show 0 + (0) ≤ 6; omega)⟩) hS (fun q _ h => hFc q h) hFc (fun u t H1 locs ht hvm hw hB hz1 hk1 hS => ?_)
      obtain ⟨I23, T23, A23, O23, pl23, q23, s23, cq23, cs23⟩ := u
      dsimp only at hw hB
      rw [ht] at hB
      obtain ⟨hP, hD1, hac23⟩ := hB
      have hD : va_D Bq (y_W ad ar I23 T23 A23 O23 pl23) := hD1.weaken (fun _ q _ h => hFc q.1 h)
      generalize H1 = H at hP hS hac23 ⊢
      refine W.widen (k := 0) (n := 0) (by omega) (by omega) ?_
      obtain ⟨hmi, e5, fr23, h723, e2, e3, hcl23⟩ := hw
      cases e5
      rw [e2, e3] at hP hD
      have hP : va_P (dC, dI) y_cl (y_W ad ar I23 T A O23 pl23) H := hP
      have hD : va_D Bq (y_W ad ar I23 T A O23 pl23) := hD
      have hmi : y_MI z ar G C Gs I23 O23 (y_L pl23) (0, 0, cq, cs) := hmi
      have hbdr23 : y_bd (qn, sn, cq, cs) (0, 0, cq, cs) 0 0 := ⟨by dsimp only; omega, by dsimp only; omega, Or.inl rfl, Or.inl rfl⟩
      exact y_throwW (A := Bq) hx hb hst (own := "ChannelMachine$Machine") (cls := "java/lang/ArithmeticException") (text := "division by 0") (ik := 296) (is := 298) (ic := 300) hown k_799 k_27 (by decide) x_tChannelMachineMachine_300 (by decide +kernel) rfl hts hU.1 hZ.1 hAN hS (by rw [hml]; exact hl.1) d_Machine_combined_21 d_Machine_combined_24 d_Machine_combined_25 d_Machine_combined_28 d_Machine_combined_31 htb (Nat.le_of_ble_eq_true rfl) (Nat.le_of_ble_eq_true rfl) (by show 0 + 1 ≤ 1; omega) (by show 0 + 6 ≤ 6; omega) hlocks (fun t h1 h2 h3 h4 => ⟨(I23, T, A, O23, pl23, (0, 0, cq, cs)), ⟨hmi, (y_bd.tr hbdr23 (y_bd.rf (a := 0) (b := 0)) (e := 0) (g := 0) (by decide) (by decide)), (m_fr.rf.tr fr23 (by decide)), h723⟩, ⟨fun k q hk => (hP k q hk).kept (h3 q.1 (hP k q hk).lt), hD, Or.inr rfl, trivial⟩, h4⟩) hS.2.2 (by show 0 + 1 ≤ 1; omega) (by show 0 + 6 ≤ 6; omega)
  · have hl : lv_has ls 4 [(0, .ref (ad 4)), (1, .int 37), (2, .int xv), (3, .int yv)] := hl
    refine lv_iload_n hx hb d_Machine_combined_0 rfl (lv_at hl 3 rfl) ?_
    refine lv_if_ne (tgt := 32) hx hb d_Machine_combined_1 (by decide) (fun c24 => ?_) (fun c24 => ?_)
    · refine lv_iload_n hx hb d_Machine_combined_32 rfl (lv_at hl 1 rfl) ?_
      refine lv_tableOut (tgt := 166) hx hb d_Machine_combined_33 (by decide) (by decide) ?_
      refine lv_iload_n hx hb d_Machine_combined_166 rfl (lv_at hl 2 rfl) ?_
      refine lv_iload_n hx hb d_Machine_combined_167 rfl (lv_at hl 3 rfl) ?_
      refine lv_irem hx hb d_Machine_combined_168 c24 ?_
      refine lv_topi (fun d_25 _ => ?_)
      refine vx_ret ?_
      refine y_know (fun hy91 hy92 hy93 hy94 => ?_)
      have hac9 : y_ac (cq + cs) s.heap.size (y_hs s.heap) (cq + cs) s.heap := ⟨by omega, by omega⟩
      refine W.widen (k := 1) (n := 6) (by omega) (by omega) ?_
      exact W.iret (v := d_25) hx hb hr (fun t ht hW => ⟨⟨d_25, (I, T, A, O, pl, (qn, sn, cq, cs)), rfl, rfl, (by dsimp only; rw [ht]; exact ⟨hP, hD, hac9⟩)⟩, hS.F ht⟩) hS.2.2 d_Machine_combined_169
    · refine lv_iload_n hx hb d_Machine_combined_4 rfl (lv_at hl 1 rfl) ?_
      refine lv_bipush (v := 47) hx hb d_Machine_combined_5 (by decide) ?_
      refine lv_icmp_eq (tgt := 16) hx hb d_Machine_combined_7 (by decide) (fun c26 => absurd c26 (by decide)) (fun _ => ?_)
      refine lv_iload_n hx hb d_Machine_combined_10 rfl (lv_at hl 1 rfl) ?_
      refine lv_bipush (v := 37) hx hb d_Machine_combined_11 (by decide) ?_
      refine lv_icmp_ne (tgt := 32) hx hb d_Machine_combined_13 (by decide) (fun c27 => absurd rfl c27) (fun _ => ?_)
      refine lv_aload_n hx hb d_Machine_combined_16 rfl (lv_at hl 0 rfl) ?_
      refine lv_iconst (v := 3) hx hb d_Machine_combined_17 (by decide) ?_
      have hFc := y_free hD hS hA
      refine va_callv (va_runV (As := [.int 3]) (rest := []) ⟨hx, hb, hml, hown, hts⟩ (c_M_close l dC dI ar N0 z ad I T A O pl G C Gs qn sn cq cs (3) s.heap.size (y_hs s.heap) hmi) (cwV 1 hts (x_goodV k_616 k_618 kp_20 k_3 k_619) rfl rfl rfl (by decide +kernel) ⟨Nat.le_of_ble_eq_true rfl, Nat.le_of_ble_eq_true rfl⟩) ⟨y_blind, va_recv hK hP (ci := 2) (q0 := 4) rfl (y_W_ob (by decide) (by decide)), fun U9 hU9 hW9 => y_pre hU9 hW9 hP hD hU hZ hS hAN hN0⟩ rfl rfl hl.1 rfl (lv_room (Nat.le_of_ble_eq_true rfl)) d_Machine_combined_18 ⟨(by show 0 + (0) ≤ 1; omega), (by show 0 + (0) ≤ 6; omega)⟩) hS (fun q _ h => hFc q h) hFc (fun u t H1 locs ht hvm hw hB hz1 hk1 hS => ?_)
      obtain ⟨I28, T28, A28, O28, pl28, q28, s28, cq28, cs28⟩ := u
      dsimp only at hw hB
      rw [ht] at hB
      obtain ⟨hP, hD1, hac28⟩ := hB
      have hD : va_D Bq (y_W ad ar I28 T28 A28 O28 pl28) := hD1.weaken (fun _ q _ h => hFc q.1 h)
      generalize H1 = H at hP hS hac28 ⊢
      refine W.widen (k := 0) (n := 0) (by omega) (by omega) ?_
      obtain ⟨hmi, e5, fr28, h728, e2, e3, hcl28⟩ := hw
      cases e5
      rw [e2, e3] at hP hD
      have hP : va_P (dC, dI) y_cl (y_W ad ar I28 T A O28 pl28) H := hP
      have hD : va_D Bq (y_W ad ar I28 T A O28 pl28) := hD
      have hmi : y_MI z ar G C Gs I28 O28 (y_L pl28) (0, 0, cq, cs) := hmi
      have hbdr28 : y_bd (qn, sn, cq, cs) (0, 0, cq, cs) 0 0 := ⟨by dsimp only; omega, by dsimp only; omega, Or.inl rfl, Or.inl rfl⟩
      exact y_throwW (A := Bq) hx hb hst (own := "ChannelMachine$Machine") (cls := "java/lang/ArithmeticException") (text := "division by 0") (ik := 296) (is := 298) (ic := 300) hown k_799 k_27 (by decide) x_tChannelMachineMachine_300 (by decide +kernel) rfl hts hU.1 hZ.1 hAN hS (by rw [hml]; exact hl.1) d_Machine_combined_21 d_Machine_combined_24 d_Machine_combined_25 d_Machine_combined_28 d_Machine_combined_31 htb (Nat.le_of_ble_eq_true rfl) (Nat.le_of_ble_eq_true rfl) (by show 0 + 1 ≤ 1; omega) (by show 0 + 6 ≤ 6; omega) hlocks (fun t h1 h2 h3 h4 => ⟨(I28, T, A, O28, pl28, (0, 0, cq, cs)), ⟨hmi, (y_bd.tr hbdr28 (y_bd.rf (a := 0) (b := 0)) (e := 0) (g := 0) (by decide) (by decide)), (m_fr.rf.tr fr28 (by decide)), h728⟩, ⟨fun k q hk => (hP k q hk).kept (h3 q.1 (hP k q hk).lt), hD, Or.inr rfl, trivial⟩, h4⟩) hS.2.2 (by show 0 + 1 ≤ 1; omega) (by show 0 + 6 ≤ 6; omega)
