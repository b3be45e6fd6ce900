-- ===== 52.make: make, finish of the reference, by program =====
theorem k_976 : (Jvm.Cond.fieldLink "ChannelMachineModel" (208 : Nat) "ChannelMachineModel" "status" "I") ∈ x_T := x_at 976 (by decide +kernel) (by decide +kernel)
theorem k_987 : (Jvm.Cond.fieldLink "ChannelMachineModel" (51 : Nat) "ChannelMachineModel" "pc" "[I") ∈ x_T := x_at 987 (by decide +kernel) (by decide +kernel)
theorem k_988 : (Jvm.Cond.fieldLink "ChannelMachineModel" (54 : Nat) "ChannelMachineModel" "parent" "[I") ∈ x_T := x_at 988 (by decide +kernel) (by decide +kernel)
theorem k_989 : (Jvm.Cond.fieldLink "ChannelMachineModel" (57 : Nat) "ChannelMachineModel" "kids" "[I") ∈ x_T := x_at 989 (by decide +kernel) (by decide +kernel)
theorem k_994 : (Jvm.Cond.fieldLink "ChannelMachineModel" (73 : Nat) "ChannelMachineModel" "there" "[Z") ∈ x_T := x_at 994 (by decide +kernel) (by decide +kernel)
theorem k_995 : (Jvm.Cond.fieldLink "ChannelMachineModel" (76 : Nat) "ChannelMachineModel" "timed" "[Z") ∈ x_T := x_at 995 (by decide +kernel) (by decide +kernel)
theorem k_1194 : (Jvm.Cond.methodLink "ChannelMachineModel" (214 : Nat) ({ cls := "ChannelMachineModel", name := "put", desc := "(I)V" } : Jvm.MethodName)) ∈ x_T := x_at 1194 (by decide +kernel) (by decide +kernel)
theorem k_1196 : (Jvm.Cond.instanceMethod ({ cls := "ChannelMachineModel", name := "put", desc := "(I)V" } : Jvm.MethodName)) ∈ x_T := x_at 1196 (by decide +kernel) (by decide +kernel)
theorem k_1197 : (Jvm.Cond.code ({ cls := "ChannelMachineModel", name := "put", desc := "(I)V" } : Jvm.MethodName) prog_12_method_24_code (2 : Nat) (Option.none : Option Jvm.ClassFile.FieldType)) ∈ x_T := x_at 1197 (by decide +kernel) (by decide +kernel)
theorem kp_65 : (Jvm.Cond.selects "ChannelMachineModel" ({ cls := "ChannelMachineModel", name := "put", desc := "(I)V" } : Jvm.MethodName) ({ cls := "ChannelMachineModel", name := "put", desc := "(I)V" } : Jvm.MethodName)) ∈ x_T := x_sel (q := (({ cls := "ChannelMachineModel", name := "put", desc := "(I)V" } : Jvm.MethodName), 45)) 65 (by decide +kernel) (by decide +kernel)
theorem d_Mo_make_0 : decode prog_12_method_25_code 0 = .ok (.iconst 0, 1) := by decide +kernel
theorem d_Mo_make_1 : decode prog_12_method_25_code 1 = .ok (.istore_n 3, 1) := by decide +kernel
theorem d_Mo_make_2 : decode prog_12_method_25_code 2 = .ok (.aload_n 0, 1) := by decide +kernel
theorem d_Mo_make_3 : decode prog_12_method_25_code 3 = .ok (.getfield 73, 3) := by decide +kernel
theorem d_Mo_make_6 : decode prog_12_method_25_code 6 = .ok (.iload_n 3, 1) := by decide +kernel
theorem d_Mo_make_7 : decode prog_12_method_25_code 7 = .ok (.baload, 1) := by decide +kernel
theorem d_Mo_make_8 : decode prog_12_method_25_code 8 = .ok (.ifCond .eq 9, 3) := by decide +kernel
theorem d_Mo_make_11 : decode prog_12_method_25_code 11 = .ok (.iinc 3 1, 3) := by decide +kernel
theorem d_Mo_make_14 : decode prog_12_method_25_code 14 = .ok (.goto (-12), 3) := by decide +kernel
theorem d_Mo_make_17 : decode prog_12_method_25_code 17 = .ok (.aload_n 0, 1) := by decide +kernel
theorem d_Mo_make_18 : decode prog_12_method_25_code 18 = .ok (.getfield 73, 3) := by decide +kernel
theorem d_Mo_make_21 : decode prog_12_method_25_code 21 = .ok (.iload_n 3, 1) := by decide +kernel
theorem d_Mo_make_22 : decode prog_12_method_25_code 22 = .ok (.iconst 1, 1) := by decide +kernel
theorem d_Mo_make_23 : decode prog_12_method_25_code 23 = .ok (.bastore, 1) := by decide +kernel
theorem d_Mo_make_24 : decode prog_12_method_25_code 24 = .ok (.aload_n 0, 1) := by decide +kernel
theorem d_Mo_make_25 : decode prog_12_method_25_code 25 = .ok (.getfield 76, 3) := by decide +kernel
theorem d_Mo_make_28 : decode prog_12_method_25_code 28 = .ok (.iload_n 3, 1) := by decide +kernel
theorem d_Mo_make_29 : decode prog_12_method_25_code 29 = .ok (.iconst 0, 1) := by decide +kernel
theorem d_Mo_make_30 : decode prog_12_method_25_code 30 = .ok (.bastore, 1) := by decide +kernel
theorem d_Mo_make_31 : decode prog_12_method_25_code 31 = .ok (.aload_n 0, 1) := by decide +kernel
theorem d_Mo_make_32 : decode prog_12_method_25_code 32 = .ok (.getfield 51, 3) := by decide +kernel
theorem d_Mo_make_35 : decode prog_12_method_25_code 35 = .ok (.iload_n 3, 1) := by decide +kernel
theorem d_Mo_make_36 : decode prog_12_method_25_code 36 = .ok (.iload_n 1, 1) := by decide +kernel
theorem d_Mo_make_37 : decode prog_12_method_25_code 37 = .ok (.iastore, 1) := by decide +kernel
theorem d_Mo_make_38 : decode prog_12_method_25_code 38 = .ok (.aload_n 0, 1) := by decide +kernel
theorem d_Mo_make_39 : decode prog_12_method_25_code 39 = .ok (.getfield 54, 3) := by decide +kernel
theorem d_Mo_make_42 : decode prog_12_method_25_code 42 = .ok (.iload_n 3, 1) := by decide +kernel
theorem d_Mo_make_43 : decode prog_12_method_25_code 43 = .ok (.iload_n 2, 1) := by decide +kernel
theorem d_Mo_make_44 : decode prog_12_method_25_code 44 = .ok (.iastore, 1) := by decide +kernel
theorem d_Mo_make_45 : decode prog_12_method_25_code 45 = .ok (.aload_n 0, 1) := by decide +kernel
theorem d_Mo_make_46 : decode prog_12_method_25_code 46 = .ok (.getfield 57, 3) := by decide +kernel
theorem d_Mo_make_49 : decode prog_12_method_25_code 49 = .ok (.iload_n 3, 1) := by decide +kernel
theorem d_Mo_make_50 : decode prog_12_method_25_code 50 = .ok (.iconst 0, 1) := by decide +kernel
theorem d_Mo_make_51 : decode prog_12_method_25_code 51 = .ok (.iastore, 1) := by decide +kernel
theorem d_Mo_make_52 : decode prog_12_method_25_code 52 = .ok (.aload_n 0, 1) := by decide +kernel
theorem d_Mo_make_53 : decode prog_12_method_25_code 53 = .ok (.iload_n 3, 1) := by decide +kernel
theorem d_Mo_make_54 : decode prog_12_method_25_code 54 = .ok (.invokevirtual 214, 3) := by decide +kernel
theorem d_Mo_make_57 : decode prog_12_method_25_code 57 = .ok (.return_, 1) := by decide +kernel
theorem d_Mo_finish_0 : decode prog_12_method_27_code 0 = .ok (.aload_n 0, 1) := by decide +kernel
theorem d_Mo_finish_1 : decode prog_12_method_27_code 1 = .ok (.getfield 54, 3) := by decide +kernel
theorem d_Mo_finish_4 : decode prog_12_method_27_code 4 = .ok (.iload_n 1, 1) := by decide +kernel
theorem d_Mo_finish_5 : decode prog_12_method_27_code 5 = .ok (.iaload, 1) := by decide +kernel
theorem d_Mo_finish_6 : decode prog_12_method_27_code 6 = .ok (.istore_n 2, 1) := by decide +kernel
theorem d_Mo_finish_7 : decode prog_12_method_27_code 7 = .ok (.aload_n 0, 1) := by decide +kernel
theorem d_Mo_finish_8 : decode prog_12_method_27_code 8 = .ok (.getfield 73, 3) := by decide +kernel
theorem d_Mo_finish_11 : decode prog_12_method_27_code 11 = .ok (.iload_n 1, 1) := by decide +kernel
theorem d_Mo_finish_12 : decode prog_12_method_27_code 12 = .ok (.iconst 0, 1) := by decide +kernel
theorem d_Mo_finish_13 : decode prog_12_method_27_code 13 = .ok (.bastore, 1) := by decide +kernel
theorem d_Mo_finish_14 : decode prog_12_method_27_code 14 = .ok (.iload_n 2, 1) := by decide +kernel
theorem d_Mo_finish_15 : decode prog_12_method_27_code 15 = .ok (.ifCond .ge 9, 3) := by decide +kernel
theorem d_Mo_finish_18 : decode prog_12_method_27_code 18 = .ok (.aload_n 0, 1) := by decide +kernel
theorem d_Mo_finish_19 : decode prog_12_method_27_code 19 = .ok (.iconst 2, 1) := by decide +kernel
theorem d_Mo_finish_20 : decode prog_12_method_27_code 20 = .ok (.putfield 208, 3) := by decide +kernel
theorem d_Mo_finish_23 : decode prog_12_method_27_code 23 = .ok (.return_, 1) := by decide +kernel
theorem d_Mo_finish_24 : decode prog_12_method_27_code 24 = .ok (.aload_n 0, 1) := by decide +kernel
theorem d_Mo_finish_25 : decode prog_12_method_27_code 25 = .ok (.getfield 57, 3) := by decide +kernel
theorem d_Mo_finish_28 : decode prog_12_method_27_code 28 = .ok (.iload_n 2, 1) := by decide +kernel
theorem d_Mo_finish_29 : decode prog_12_method_27_code 29 = .ok (.dup2, 1) := by decide +kernel
theorem d_Mo_finish_30 : decode prog_12_method_27_code 30 = .ok (.iaload, 1) := by decide +kernel
theorem d_Mo_finish_31 : decode prog_12_method_27_code 31 = .ok (.iconst 1, 1) := by decide +kernel
theorem d_Mo_finish_32 : decode prog_12_method_27_code 32 = .ok (.isub, 1) := by decide +kernel
theorem d_Mo_finish_33 : decode prog_12_method_27_code 33 = .ok (.iastore, 1) := by decide +kernel
theorem d_Mo_finish_34 : decode prog_12_method_27_code 34 = .ok (.aload_n 0, 1) := by decide +kernel
theorem d_Mo_finish_35 : decode prog_12_method_27_code 35 = .ok (.getfield 57, 3) := by decide +kernel
theorem d_Mo_finish_38 : decode prog_12_method_27_code 38 = .ok (.iload_n 2, 1) := by decide +kernel
theorem d_Mo_finish_39 : decode prog_12_method_27_code 39 = .ok (.iaload, 1) := by decide +kernel
theorem d_Mo_finish_40 : decode prog_12_method_27_code 40 = .ok (.ifCond .ne 8, 3) := by decide +kernel
theorem d_Mo_finish_43 : decode prog_12_method_27_code 43 = .ok (.aload_n 0, 1) := by decide +kernel
theorem d_Mo_finish_44 : decode prog_12_method_27_code 44 = .ok (.iload_n 2, 1) := by decide +kernel
theorem d_Mo_finish_45 : decode prog_12_method_27_code 45 = .ok (.invokevirtual 214, 3) := by decide +kernel
theorem d_Mo_finish_48 : decode prog_12_method_27_code 48 = .ok (.return_, 1) := by decide +kernel
set_option maxHeartbeats 4000000 in
set_option maxRecDepth 100000 in
theorem m_make (l : Launch) (dC : Nat → ClassId) (dI : Nat → Nat → Nat) (ar : Nat → ClassId) (N0 : Nat) (z : Nat → Nat) (h0 : Nat) (ad : Nat → Nat) (I : Nat → Int32) (T : Int64) (A : Nat → Nat → Int32) (U : Nat → Int64) (q : Nat) (fv ov : Int32) (sz : Nat) (h29 : I 29 = Int32.ofNat q) (hq : q < 90) (hroom : ¬ ∀ t, t < 90 → ¬ A 27 t = 0) : Met l ({ cls := "ChannelMachineModel", name := "make", desc := "(II)V" } : Jvm.MethodName) ((Jvm.Cond.code ({ cls := "ChannelMachineModel", name := "make", desc := "(II)V" } : Jvm.MethodName) prog_12_method_25_code (4 : Nat) (Option.none : Option Jvm.ClassFile.FieldType)) :: x_T) ({ frames := 1, cells := 0, slots := 0, locals := 21 }) (x_Pc (dC, dI) ar N0 z (m_W h0 ad ar I T A U) sz [.ref h0, .int fv, .int ov]) (va_Qv (fun (u : (Nat → Int32) × Int64 × (Nat → Nat → Int32) × (Nat → Int64)) => ∃ t0 : Nat, t0 < 90 ∧ A 27 t0 = 0 ∧ u.1 = upd I 29 (Int32.ofNat (q + 1)) ∧ u.2.1 = T ∧ u.2.2.2 = U ∧ u.2.2.1 = (m_up (m_up (m_up (m_up (m_up (m_up A 27 (upd (A 27) t0 1)) 28 (upd (A 28) t0 0)) 20 (upd (A 20) t0 fv)) 21 (upd (A 21) t0 ov)) 22 (upd (A 22) t0 0)) 24 (upd (A 24) q (Int32.ofNat t0)))) (fun u t => va_P (dC, dI) x_cl (m_W h0 ad ar u.1 u.2.1 u.2.2.1 u.2.2.2) t.heap) (va_A (m_W h0 ad ar I T A U) sz)) 0 0 (va_A (m_W h0 ad ar I T A U) sz) := by
  refine Met.ofW (cc := prog_12_method_25_code) (maxL := 4) (ret := none) (by decide) rfl ?_
  intro p e s m args below meth c s₁ B hml hv
  obtain ⟨rfl, hsz, hN0, hP, hU, hZ, hD0⟩ := hv
  have hK := hU.1
  have hx := B.exec
  have hb := B.bytes
  have hr := B.returns
  have hts : ∀ w ∈ x_T, w.before ([.ref h0, .int fv, .int ov] : List Value).toArray s = true := fun w h => atoms_spec (ws := (Jvm.Cond.code ({ cls := "ChannelMachineModel", name := "make", desc := "(II)V" } : Jvm.MethodName) prog_12_method_25_code (4 : Nat) (Option.none : Option Jvm.ClassFile.FieldType)) :: x_T) B.pre w (List.mem_cons_of_mem _ h)
  have hown : s.vm.findClass "ChannelMachineModel" = some m.cls := findClass_of_methodNamed B.named
  have hlocks := B.notSynchronized
  subst hsz
  have hD := hD0.self (sz := s.heap.size)
  have hAN := x_AN hD0 hN0
  generalize hAe : va_A (m_W h0 ad ar I T A U) s.heap.size = Bq at hD hAN ⊢
  have hA : ∀ q : Nat, s.heap.size ≤ q → Bq q := fun q h => by rw [← hAe]; exact Or.inr h
  have hS : va_S Bq s.heap s.heap [] := va_S.rf
  have hl := lv_entry ([.ref h0, .int fv, .int ov]) (n := 4) (Nat.le_of_ble_eq_true rfl)
  rw [lg_entry_eq]
  generalize (lg_sl ([.ref h0, .int fv, .int ov]) ++ List.replicate (4 - (lg_sl ([.ref h0, .int fv, .int ov])).length) Slot.unset).toArray = ls at hl ⊢
  have hl : lv_has ls 4 [(0, .ref h0), (1, .int fv), (2, .int ov)] := hl
  refine lv_iconst (v := 0) hx hb d_Mo_make_0 (by decide) ?_
  refine W.eq (g2 := F0 m 1 ls [.int (Int32.ofNat 0)]) rfl ?_
  refine lv_istore_n (lv' := [(3, .int (Int32.ofNat 0)), (0, .ref h0), (1, .int fv), (2, .int ov)]) hx hb d_Mo_make_1 rfl hl (by decide) rfl (fun ls hl => ?_)
  refine x_while (fun n H locs ls => ∃ t0 : Nat, n = 90 - t0 ∧ t0 ≤ 90 ∧ (∀ x, x < t0 → ¬ A 27 x = 0) ∧ va_P (dC, dI) x_cl (m_W h0 ad ar I T A U) H ∧ va_D Bq (m_W h0 ad ar I T A U) ∧ va_S Bq s.heap H locs ∧ lv_has ls 4 [(0, .ref h0), (1, .int fv), (2, .int ov), (3, .int (Int32.ofNat t0))]) (fun n ih H locs ls h9 => ?_) ⟨0, rfl, Nat.zero_le _, fun x hx => absurd hx (Nat.not_lt_zero x), hP, hD, hS, lv_sub hl [1, 2, 3, 0] rfl⟩
  obtain ⟨t0, hn9, q1, hall, hP, hD, hS, hl⟩ := h9
  have ht0 : t0 < 90 := by
    rcases Nat.lt_or_ge t0 90 with h | h
    · exact h
    · exact absurd (fun t ht => hall t (by omega)) hroom
  refine lv_aload_n hx hb d_Mo_make_2 rfl (lv_at hl 0 rfl) ?_
  refine m_g hx hb hts hown hK hP 27 (by decide) rfl (hts _ k_994) (v := .ref (ad 27)) rfl d_Mo_make_3 ?_
  refine lv_iload_n hx hb d_Mo_make_6 rfl (lv_at hl 3 rfl) ?_
  refine m_zld hx hb hK hP 19 rfl (by decide) (j := (Int32.ofNat t0)) (x_inN (by omega) (by decide)) d_Mo_make_7 ?_
  refine W.eq (g2 := F0 m 8 ls [.int (A 27 (t0))]) (by rw [x_nat (a := t0) (by omega)]) ?_
  refine lv_if_eq (tgt := 17) hx hb d_Mo_make_8 (by decide) (fun c1 => ?_) (fun c1 => ?_)
  · refine lv_aload_n hx hb d_Mo_make_17 rfl (lv_at hl 0 rfl) ?_
    refine m_g hx hb hts hown hK hP 27 (by decide) rfl (hts _ k_994) (v := .ref (ad 27)) rfl d_Mo_make_18 ?_
    refine lv_iload_n hx hb d_Mo_make_21 rfl (lv_at hl 3 rfl) ?_
    refine lv_iconst (v := 1) hx hb d_Mo_make_22 (by decide) ?_
    refine m_zst hx hb hK hP hD hS 19 rfl (by decide) (j := (Int32.ofNat t0)) (x := 1) (x_inN (by omega) (by decide)) d_Mo_make_23 (fun H locs hP hD hS => ?_)
    rw [x_nat (a := t0) (by omega)] at hP hD
    rw [show vp_nar .boolean 1 = 1 from rfl] at hP hD
    have hP : va_P (dC, dI) x_cl (m_W h0 ad ar I T (m_up A 27 (upd (A 27) t0 1)) U) H := hP
    have hD : va_D Bq (m_W h0 ad ar I T (m_up A 27 (upd (A 27) t0 1)) U) := hD
    refine lv_aload_n hx hb d_Mo_make_24 rfl (lv_at hl 0 rfl) ?_
    refine m_g hx hb hts hown hK hP 28 (by decide) rfl (hts _ k_995) (v := .ref (ad 28)) rfl d_Mo_make_25 ?_
    refine lv_iload_n hx hb d_Mo_make_28 rfl (lv_at hl 3 rfl) ?_
    refine lv_iconst (v := 0) hx hb d_Mo_make_29 (by decide) ?_
    refine m_zst hx hb hK hP hD hS 20 rfl (by decide) (j := (Int32.ofNat t0)) (x := 0) (x_inN (by omega) (by decide)) d_Mo_make_30 (fun H locs hP hD hS => ?_)
    rw [x_nat (a := t0) (by omega)] at hP hD
    rw [show vp_nar .boolean 0 = 0 from rfl] at hP hD
    have hP : va_P (dC, dI) x_cl (m_W h0 ad ar I T (m_up (m_up A 27 (upd (A 27) t0 1)) 28 (upd (A 28) t0 0)) U) H := hP
    have hD : va_D Bq (m_W h0 ad ar I T (m_up (m_up A 27 (upd (A 27) t0 1)) 28 (upd (A 28) t0 0)) U) := hD
    refine lv_aload_n hx hb d_Mo_make_31 rfl (lv_at hl 0 rfl) ?_
    refine m_g hx hb hts hown hK hP 20 (by decide) rfl (hts _ k_987) (v := .ref (ad 20)) rfl d_Mo_make_32 ?_
    refine lv_iload_n hx hb d_Mo_make_35 rfl (lv_at hl 3 rfl) ?_
    refine lv_iload_n hx hb d_Mo_make_36 rfl (lv_at hl 1 rfl) ?_
    refine m_st hx hb hK hP hD hS 12 rfl (by decide) (j := (Int32.ofNat t0)) (x := fv) (x_inN (by omega) (by decide)) d_Mo_make_37 (fun H locs hP hD hS => ?_)
    rw [x_nat (a := t0) (by omega)] at hP hD
    have hP : va_P (dC, dI) x_cl (m_W h0 ad ar I T (m_up (m_up (m_up A 27 (upd (A 27) t0 1)) 28 (upd (A 28) t0 0)) 20 (upd (A 20) t0 fv)) U) H := hP
    have hD : va_D Bq (m_W h0 ad ar I T (m_up (m_up (m_up A 27 (upd (A 27) t0 1)) 28 (upd (A 28) t0 0)) 20 (upd (A 20) t0 fv)) U) := hD
    refine lv_aload_n hx hb d_Mo_make_38 rfl (lv_at hl 0 rfl) ?_
    refine m_g hx hb hts hown hK hP 21 (by decide) rfl (hts _ k_988) (v := .ref (ad 21)) rfl d_Mo_make_39 ?_
    refine lv_iload_n hx hb d_Mo_make_42 rfl (lv_at hl 3 rfl) ?_
    refine lv_iload_n hx hb d_Mo_make_43 rfl (lv_at hl 2 rfl) ?_
    refine m_st hx hb hK hP hD hS 13 rfl (by decide) (j := (Int32.ofNat t0)) (x := ov) (x_inN (by omega) (by decide)) d_Mo_make_44 (fun H locs hP hD hS => ?_)
    rw [x_nat (a := t0) (by omega)] at hP hD
    have hP : va_P (dC, dI) x_cl (m_W h0 ad ar I T (m_up (m_up (m_up (m_up A 27 (upd (A 27) t0 1)) 28 (upd (A 28) t0 0)) 20 (upd (A 20) t0 fv)) 21 (upd (A 21) t0 ov)) U) H := hP
    have hD : va_D Bq (m_W h0 ad ar I T (m_up (m_up (m_up (m_up A 27 (upd (A 27) t0 1)) 28 (upd (A 28) t0 0)) 20 (upd (A 20) t0 fv)) 21 (upd (A 21) t0 ov)) U) := hD
    refine lv_aload_n hx hb d_Mo_make_45 rfl (lv_at hl 0 rfl) ?_
    refine m_g hx hb hts hown hK hP 22 (by decide) rfl (hts _ k_989) (v := .ref (ad 22)) rfl d_Mo_make_46 ?_
    refine lv_iload_n hx hb d_Mo_make_49 rfl (lv_at hl 3 rfl) ?_
    refine lv_iconst (v := 0) hx hb d_Mo_make_50 (by decide) ?_
    refine m_st hx hb hK hP hD hS 14 rfl (by decide) (j := (Int32.ofNat t0)) (x := 0) (x_inN (by omega) (by decide)) d_Mo_make_51 (fun H locs hP hD hS => ?_)
    rw [x_nat (a := t0) (by omega)] at hP hD
    have hP : va_P (dC, dI) x_cl (m_W h0 ad ar I T (m_up (m_up (m_up (m_up (m_up A 27 (upd (A 27) t0 1)) 28 (upd (A 28) t0 0)) 20 (upd (A 20) t0 fv)) 21 (upd (A 21) t0 ov)) 22 (upd (A 22) t0 0)) U) H := hP
    have hD : va_D Bq (m_W h0 ad ar I T (m_up (m_up (m_up (m_up (m_up A 27 (upd (A 27) t0 1)) 28 (upd (A 28) t0 0)) 20 (upd (A 20) t0 fv)) 21 (upd (A 21) t0 ov)) 22 (upd (A 22) t0 0)) U) := hD
    refine lv_aload_n hx hb d_Mo_make_52 rfl (lv_at hl 0 rfl) ?_
    refine lv_iload_n hx hb d_Mo_make_53 rfl (lv_at hl 3 rfl) ?_
    have hFc := m_free hD hS hA
    refine va_callv (va_runV (As := [.int (Int32.ofNat t0)]) (rest := []) ⟨hx, hb, hml, hown, hts⟩ (m_put l dC dI ar N0 z h0 ad I T (m_up (m_up (m_up (m_up (m_up A 27 (upd (A 27) t0 1)) 28 (upd (A 28) t0 0)) 20 (upd (A 20) t0 fv)) 21 (upd (A 21) t0 ov)) 22 (upd (A 22) t0 0)) U q ((Int32.ofNat t0)) H.size h29 (by omega)) (cwV 1 hts (x_goodV k_1194 k_1196 kp_65 k_9 k_1197) rfl rfl rfl (by decide +kernel) ⟨Nat.le_of_ble_eq_true rfl, Nat.le_of_ble_eq_true rfl⟩) ⟨x_blind, va_recv hK hP (ci := 6) (q0 := 0) rfl rfl, fun U9 hU9 hW9 => x_pre hU9 hW9 hP hD hU hZ hS hAN hN0⟩ rfl rfl hl.1 rfl (lv_room (Nat.le_of_ble_eq_true rfl)) d_Mo_make_54 ⟨Nat.le_of_ble_eq_true rfl, Nat.le_of_ble_eq_true rfl⟩) hS (fun q _ h => hFc q h) hFc (fun u t H1 locs ht hvm hw hB hz1 hk1 hS => ?_)
    obtain ⟨I3, T3, A3, U3⟩ := u
    dsimp only at hw hB
    rw [ht] at hB
    have hP : va_P (dC, dI) x_cl (m_W h0 ad ar I3 T3 A3 U3) H1 := hB
    have hD : va_D Bq (m_W h0 ad ar I3 T3 A3 U3) := m_D hD
    generalize H1 = H at hP hS ⊢
    refine W.widen (k := 0) (n := 0) (Nat.le_of_ble_eq_true rfl) (Nat.le_of_ble_eq_true rfl) ?_
    cases hw
    have hP : va_P (dC, dI) x_cl (m_W h0 ad ar (upd I 29 (Int32.ofNat (q + 1))) T (m_up (m_up (m_up (m_up (m_up (m_up A 27 (upd (A 27) t0 1)) 28 (upd (A 28) t0 0)) 20 (upd (A 20) t0 fv)) 21 (upd (A 21) t0 ov)) 22 (upd (A 22) t0 0)) 24 (upd (A 24) q (Int32.ofNat t0))) U) H := hP
    have hD : va_D Bq (m_W h0 ad ar (upd I 29 (Int32.ofNat (q + 1))) T (m_up (m_up (m_up (m_up (m_up (m_up A 27 (upd (A 27) t0 1)) 28 (upd (A 28) t0 0)) 20 (upd (A 20) t0 fv)) 21 (upd (A 21) t0 ov)) 22 (upd (A 22) t0 0)) 24 (upd (A 24) q (Int32.ofNat t0))) U) := hD
    refine W.widen (k := 0) (n := 0) (Nat.le_of_ble_eq_true rfl) (Nat.le_of_ble_eq_true rfl) ?_
    exact W.vret hx hb hr (fun t ht hW => ⟨⟨((upd I 29 (Int32.ofNat (q + 1))), T, (m_up (m_up (m_up (m_up (m_up (m_up A 27 (upd (A 27) t0 1)) 28 (upd (A 28) t0 0)) 20 (upd (A 20) t0 fv)) 21 (upd (A 21) t0 ov)) 22 (upd (A 22) t0 0)) 24 (upd (A 24) q (Int32.ofNat t0))), U), rfl, ⟨t0, ht0, c1, rfl, rfl, rfl, rfl⟩, by dsimp only; rw [ht]; exact hP⟩, hS.F ht⟩) hS.2.2 d_Mo_make_57
  · refine lv_iinc (v := (Int32.ofNat (t0 + 1))) (lv' := [(3, .int (Int32.ofNat (t0 + 1))), (0, .ref h0), (1, .int fv), (2, .int ov)]) hx hb d_Mo_make_11 hl (k := 3) rfl (x_incN t0) (by decide) rfl (fun ls hl => ?_)
    refine lv_goto (tgt := 2) hx hb d_Mo_make_14 (by decide) ?_
    exact ih (90 - (t0 + 1)) (by omega) H locs ls ⟨t0 + 1, rfl, by omega, fun x hx => (if e : x = t0 then (by rw [e]; exact c1) else hall x (by omega)), hP, hD, hS, lv_sub hl [1, 2, 3, 0] rfl⟩
set_option maxHeartbeats 4000000 in
set_option maxRecDepth 100000 in
theorem m_finish (l : Launch) (dC : Nat → ClassId) (dI : Nat → Nat → Nat) (ar : Nat → ClassId) (N0 : Nat) (z : Nat → Nat) (h0 : Nat) (ad : Nat → Nat) (I : Nat → Int32) (T : Int64) (A : Nat → Nat → Int32) (U : Nat → Int64) (q tt : Nat) (sz : Nat) (h29 : I 29 = Int32.ofNat q) (ht : tt < 90) (hcase : A 21 tt = -1 ∨ ∃ p9 k9 : Nat, p9 < 90 ∧ A 21 tt = Int32.ofNat p9 ∧ A 22 p9 = Int32.ofNat k9 ∧ 1 ≤ k9 ∧ k9 ≤ 90 ∧ (k9 = 1 → q < 90)) : Met l ({ cls := "ChannelMachineModel", name := "finish", desc := "(I)V" } : Jvm.MethodName) ((Jvm.Cond.code ({ cls := "ChannelMachineModel", name := "finish", desc := "(I)V" } : Jvm.MethodName) prog_12_method_27_code (3 : Nat) (Option.none : Option Jvm.ClassFile.FieldType)) :: x_T) ({ frames := 1, cells := 0, slots := 0, locals := 21 }) (x_Pc (dC, dI) ar N0 z (m_W h0 ad ar I T A U) sz [.ref h0, .int (Int32.ofNat tt)]) (va_Qv (fun (u : (Nat → Int32) × Int64 × (Nat → Nat → Int32) × (Nat → Int64)) => (A 21 tt = -1 ∧ u = (upd I 9 2, T, m_up A 27 (upd (A 27) tt 0), U)) ∨ (∃ p9 k9 : Nat, p9 < 90 ∧ A 21 tt = Int32.ofNat p9 ∧ A 22 p9 = Int32.ofNat k9 ∧ 1 ≤ k9 ∧ k9 ≤ 90 ∧ ((k9 = 1 ∧ u = (upd I 29 (Int32.ofNat (q + 1)), T, m_up (m_up (m_up A 27 (upd (A 27) tt 0)) 22 (upd (A 22) p9 (Int32.ofNat (k9 - 1)))) 24 (upd (A 24) q (Int32.ofNat p9)), U)) ∨ (¬ k9 = 1 ∧ u = (I, T, m_up (m_up A 27 (upd (A 27) tt 0)) 22 (upd (A 22) p9 (Int32.ofNat (k9 - 1))), U))))) (fun u t => va_P (dC, dI) x_cl (m_W h0 ad ar u.1 u.2.1 u.2.2.1 u.2.2.2) t.heap) (va_A (m_W h0 ad ar I T A U) sz)) 0 0 (va_A (m_W h0 ad ar I T A U) sz) := by
  refine Met.ofW (cc := prog_12_method_27_code) (maxL := 3) (ret := none) (by decide) rfl ?_
  intro p e s m args below meth c s₁ B hml hv
  obtain ⟨rfl, hsz, hN0, hP, hU, hZ, hD0⟩ := hv
  have hK := hU.1
  have hx := B.exec
  have hb := B.bytes
  have hr := B.returns
  have hts : ∀ w ∈ x_T, w.before ([.ref h0, .int (Int32.ofNat tt)] : List Value).toArray s = true := fun w h => atoms_spec (ws := (Jvm.Cond.code ({ cls := "ChannelMachineModel", name := "finish", desc := "(I)V" } : Jvm.MethodName) prog_12_method_27_code (3 : Nat) (Option.none : Option Jvm.ClassFile.FieldType)) :: x_T) B.pre w (List.mem_cons_of_mem _ h)
  have hown : s.vm.findClass "ChannelMachineModel" = some m.cls := findClass_of_methodNamed B.named
  have hlocks := B.notSynchronized
  subst hsz
  have hD := hD0.self (sz := s.heap.size)
  have hAN := x_AN hD0 hN0
  generalize hAe : va_A (m_W h0 ad ar I T A U) s.heap.size = Bq at hD hAN ⊢
  have hA : ∀ q : Nat, s.heap.size ≤ q → Bq q := fun q h => by rw [← hAe]; exact Or.inr h
  have hS : va_S Bq s.heap s.heap [] := va_S.rf
  have hl := lv_entry ([.ref h0, .int (Int32.ofNat tt)]) (n := 3) (Nat.le_of_ble_eq_true rfl)
  rw [lg_entry_eq]
  generalize (lg_sl ([.ref h0, .int (Int32.ofNat tt)]) ++ List.replicate (3 - (lg_sl ([.ref h0, .int (Int32.ofNat tt)])).length) Slot.unset).toArray = ls at hl ⊢
  have hl : lv_has ls 3 [(0, .ref h0), (1, .int (Int32.ofNat tt))] := hl
  rcases hcase with h21 | ⟨p9, k9, hp9, h21, h22, hkk1, hk90, hkq⟩
  · refine lv_aload_n hx hb d_Mo_finish_0 rfl (lv_at hl 0 rfl) ?_
    refine m_g hx hb hts hown hK hP 21 (by decide) rfl (hts _ k_988) (v := .ref (ad 21)) rfl d_Mo_finish_1 ?_
    refine lv_iload_n hx hb d_Mo_finish_4 rfl (lv_at hl 1 rfl) ?_
    refine m_ld hx hb hK hP 13 rfl (by decide) (j := (Int32.ofNat tt)) (x_inN (by omega) (by decide)) d_Mo_finish_5 ?_
    refine W.eq (g2 := F0 m 6 ls [.int (-1)]) (by rw [x_nat (a := tt) (by omega), show A 21 tt = (-1) from h21]) ?_
    refine lv_istore_n (lv' := [(2, .int (-1)), (0, .ref h0), (1, .int (Int32.ofNat tt))]) hx hb d_Mo_finish_6 rfl hl (by decide) rfl (fun ls hl => ?_)
    refine lv_aload_n hx hb d_Mo_finish_7 rfl (lv_at hl 1 rfl) ?_
    refine m_g hx hb hts hown hK hP 27 (by decide) rfl (hts _ k_994) (v := .ref (ad 27)) rfl d_Mo_finish_8 ?_
    refine lv_iload_n hx hb d_Mo_finish_11 rfl (lv_at hl 2 rfl) ?_
    refine lv_iconst (v := 0) hx hb d_Mo_finish_12 (by decide) ?_
    refine m_zst hx hb hK hP hD hS 19 rfl (by decide) (j := (Int32.ofNat tt)) (x := 0) (x_inN (by omega) (by decide)) d_Mo_finish_13 (fun H locs hP hD hS => ?_)
    rw [x_nat (a := tt) (by omega)] at hP hD
    rw [show vp_nar .boolean 0 = 0 from rfl] at hP hD
    have hP : va_P (dC, dI) x_cl (m_W h0 ad ar I T (m_up A 27 (upd (A 27) tt 0)) U) H := hP
    have hD : va_D Bq (m_W h0 ad ar I T (m_up A 27 (upd (A 27) tt 0)) U) := hD
    refine lv_iload_n hx hb d_Mo_finish_14 rfl (lv_at hl 0 rfl) ?_
    refine lv_if_ge (tgt := 24) hx hb d_Mo_finish_15 (by decide) (fun c1 => absurd c1 (by decide)) (fun _ => ?_)
    refine lv_aload_n hx hb d_Mo_finish_18 rfl (lv_at hl 1 rfl) ?_
    refine lv_iconst (v := 2) hx hb d_Mo_finish_19 (by decide) ?_
    refine m_p hx hb hts hown hK hP hD hS 9 (by decide) rfl (hts _ k_976) rfl (by decide +kernel) rfl (by decide) (x := 2) d_Mo_finish_20 (fun H locs hP hD hS => ?_)
    refine W.widen (k := 0) (n := 0) (Nat.le_of_ble_eq_true rfl) (Nat.le_of_ble_eq_true rfl) ?_
    exact W.vret hx hb hr (fun t ht hW => ⟨⟨((upd I 9 2), T, (m_up A 27 (upd (A 27) tt 0)), U), rfl, Or.inl ⟨h21, rfl⟩, by dsimp only; rw [ht]; exact hP⟩, hS.F ht⟩) hS.2.2 d_Mo_finish_23
  · refine lv_aload_n hx hb d_Mo_finish_0 rfl (lv_at hl 0 rfl) ?_
    refine m_g hx hb hts hown hK hP 21 (by decide) rfl (hts _ k_988) (v := .ref (ad 21)) rfl d_Mo_finish_1 ?_
    refine lv_iload_n hx hb d_Mo_finish_4 rfl (lv_at hl 1 rfl) ?_
    refine m_ld hx hb hK hP 13 rfl (by decide) (j := (Int32.ofNat tt)) (x_inN (by omega) (by decide)) d_Mo_finish_5 ?_
    refine W.eq (g2 := F0 m 6 ls [.int (Int32.ofNat p9)]) (by rw [x_nat (a := tt) (by omega), show A 21 tt = (Int32.ofNat p9) from h21]) ?_
    refine lv_istore_n (lv' := [(2, .int (Int32.ofNat p9)), (0, .ref h0), (1, .int (Int32.ofNat tt))]) hx hb d_Mo_finish_6 rfl hl (by decide) rfl (fun ls hl => ?_)
    refine lv_aload_n hx hb d_Mo_finish_7 rfl (lv_at hl 1 rfl) ?_
    refine m_g hx hb hts hown hK hP 27 (by decide) rfl (hts _ k_994) (v := .ref (ad 27)) rfl d_Mo_finish_8 ?_
    refine lv_iload_n hx hb d_Mo_finish_11 rfl (lv_at hl 2 rfl) ?_
    refine lv_iconst (v := 0) hx hb d_Mo_finish_12 (by decide) ?_
    refine m_zst hx hb hK hP hD hS 19 rfl (by decide) (j := (Int32.ofNat tt)) (x := 0) (x_inN (by omega) (by decide)) d_Mo_finish_13 (fun H locs hP hD hS => ?_)
    rw [x_nat (a := tt) (by omega)] at hP hD
    rw [show vp_nar .boolean 0 = 0 from rfl] at hP hD
    have hP : va_P (dC, dI) x_cl (m_W h0 ad ar I T (m_up A 27 (upd (A 27) tt 0)) U) H := hP
    have hD : va_D Bq (m_W h0 ad ar I T (m_up A 27 (upd (A 27) tt 0)) U) := hD
    refine lv_iload_n hx hb d_Mo_finish_14 rfl (lv_at hl 0 rfl) ?_
    refine lv_if_ge (tgt := 24) hx hb d_Mo_finish_15 (by decide) (fun _ => ?_) (fun c => absurd ((x_leN (a := 0) (b := p9) (by omega) (by omega)).mpr (Nat.zero_le _)) c)
    refine lv_aload_n hx hb d_Mo_finish_24 rfl (lv_at hl 1 rfl) ?_
    refine m_g hx hb hts hown hK hP 22 (by decide) rfl (hts _ k_989) (v := .ref (ad 22)) rfl d_Mo_finish_25 ?_
    refine lv_iload_n hx hb d_Mo_finish_28 rfl (lv_at hl 0 rfl) ?_
    refine lv_dup2_11 hx hb d_Mo_finish_29 rfl rfl ?_
    refine m_ld hx hb hK hP 14 rfl (by decide) (j := (Int32.ofNat p9)) (x_inN (by omega) (by decide)) d_Mo_finish_30 ?_
    refine W.eq (g2 := F0 m 31 ls [.int (Int32.ofNat k9), .int (Int32.ofNat p9), .ref (ad 22)]) (by rw [x_nat (a := p9) (by omega), show (m_up A 27 (upd (A 27) tt 0)) 22 p9 = (Int32.ofNat k9) from h22]) ?_
    refine lv_iconst (v := 1) hx hb d_Mo_finish_31 (by decide) ?_
    refine lv_isub hx hb d_Mo_finish_32 ?_
    refine W.eq (g2 := F0 m 33 ls [.int (Int32.ofNat (k9 - 1)), .int (Int32.ofNat p9), .ref (ad 22)]) (by rw [← x_subN (a := k9) (b := 1) (by omega)] <;> rfl) ?_
    refine m_st hx hb hK hP hD hS 14 rfl (by decide) (j := (Int32.ofNat p9)) (x := (Int32.ofNat (k9 - 1))) (x_inN (by omega) (by decide)) d_Mo_finish_33 (fun H locs hP hD hS => ?_)
    rw [x_nat (a := p9) (by omega)] at hP hD
    have hP : va_P (dC, dI) x_cl (m_W h0 ad ar I T (m_up (m_up A 27 (upd (A 27) tt 0)) 22 (upd (A 22) p9 (Int32.ofNat (k9 - 1)))) U) H := hP
    have hD : va_D Bq (m_W h0 ad ar I T (m_up (m_up A 27 (upd (A 27) tt 0)) 22 (upd (A 22) p9 (Int32.ofNat (k9 - 1)))) U) := hD
    refine lv_aload_n hx hb d_Mo_finish_34 rfl (lv_at hl 1 rfl) ?_
    refine m_g hx hb hts hown hK hP 22 (by decide) rfl (hts _ k_989) (v := .ref (ad 22)) rfl d_Mo_finish_35 ?_
    refine lv_iload_n hx hb d_Mo_finish_38 rfl (lv_at hl 0 rfl) ?_
    refine m_ld hx hb hK hP 14 rfl (by decide) (j := (Int32.ofNat p9)) (x_inN (by omega) (by decide)) d_Mo_finish_39 ?_
    refine W.eq (g2 := F0 m 40 ls [.int (Int32.ofNat (k9 - 1))]) (by rw [x_nat (a := p9) (by omega), show (m_up (m_up A 27 (upd (A 27) tt 0)) 22 (upd (A 22) p9 (Int32.ofNat (k9 - 1)))) 22 p9 = (Int32.ofNat (k9 - 1)) from upd_s]) ?_
    refine lv_if_ne (tgt := 48) hx hb d_Mo_finish_40 (by decide) (fun c2 => ?_) (fun c2 => ?_)
    · have c2 : ¬ (k9 - 1) = 0 := fun h9 => c2 ((x_eqN (a := (k9 - 1)) (b := 0) (by omega) (by omega)).mpr h9)
      refine W.widen (k := 0) (n := 0) (Nat.le_of_ble_eq_true rfl) (Nat.le_of_ble_eq_true rfl) ?_
      exact W.vret hx hb hr (fun t ht hW => ⟨⟨(I, T, (m_up (m_up A 27 (upd (A 27) tt 0)) 22 (upd (A 22) p9 (Int32.ofNat (k9 - 1)))), U), rfl, Or.inr ⟨p9, k9, hp9, h21, h22, hkk1, hk90, Or.inr ⟨by omega, rfl⟩⟩, by dsimp only; rw [ht]; exact hP⟩, hS.F ht⟩) hS.2.2 d_Mo_finish_48
    · have c2 : (k9 - 1) = 0 := (x_eqN (a := (k9 - 1)) (b := 0) (by omega) (by omega)).mp c2
      have hq9 := hkq (by omega)
      refine lv_aload_n hx hb d_Mo_finish_43 rfl (lv_at hl 1 rfl) ?_
      refine lv_iload_n hx hb d_Mo_finish_44 rfl (lv_at hl 0 rfl) ?_
      have hFc := m_free hD hS hA
      refine va_callv (va_runV (As := [.int (Int32.ofNat p9)]) (rest := []) ⟨hx, hb, hml, hown, hts⟩ (m_put l dC dI ar N0 z h0 ad I T (m_up (m_up A 27 (upd (A 27) tt 0)) 22 (upd (A 22) p9 (Int32.ofNat (k9 - 1)))) U q ((Int32.ofNat p9)) H.size h29 (by omega)) (cwV 1 hts (x_goodV k_1194 k_1196 kp_65 k_9 k_1197) rfl rfl rfl (by decide +kernel) ⟨Nat.le_of_ble_eq_true rfl, Nat.le_of_ble_eq_true rfl⟩) ⟨x_blind, va_recv hK hP (ci := 6) (q0 := 0) rfl rfl, fun U9 hU9 hW9 => x_pre hU9 hW9 hP hD hU hZ hS hAN hN0⟩ rfl rfl hl.1 rfl (lv_room (Nat.le_of_ble_eq_true rfl)) d_Mo_finish_45 ⟨Nat.le_of_ble_eq_true rfl, Nat.le_of_ble_eq_true rfl⟩) hS (fun q _ h => hFc q h) hFc (fun u t H1 locs ht hvm hw hB hz1 hk1 hS => ?_)
      obtain ⟨I4, T4, A4, U4⟩ := u
      dsimp only at hw hB
      rw [ht] at hB
      have hP : va_P (dC, dI) x_cl (m_W h0 ad ar I4 T4 A4 U4) H1 := hB
      have hD : va_D Bq (m_W h0 ad ar I4 T4 A4 U4) := m_D hD
      generalize H1 = H at hP hS ⊢
      refine W.widen (k := 0) (n := 0) (Nat.le_of_ble_eq_true rfl) (Nat.le_of_ble_eq_true rfl) ?_
      cases hw
      have hP : va_P (dC, dI) x_cl (m_W h0 ad ar (upd I 29 (Int32.ofNat (q + 1))) T (m_up (m_up (m_up A 27 (upd (A 27) tt 0)) 22 (upd (A 22) p9 (Int32.ofNat (k9 - 1)))) 24 (upd (A 24) q (Int32.ofNat p9))) U) H := hP
      have hD : va_D Bq (m_W h0 ad ar (upd I 29 (Int32.ofNat (q + 1))) T (m_up (m_up (m_up A 27 (upd (A 27) tt 0)) 22 (upd (A 22) p9 (Int32.ofNat (k9 - 1)))) 24 (upd (A 24) q (Int32.ofNat p9))) U) := hD
      refine W.widen (k := 0) (n := 0) (Nat.le_of_ble_eq_true rfl) (Nat.le_of_ble_eq_true rfl) ?_
      exact W.vret hx hb hr (fun t ht hW => ⟨⟨((upd I 29 (Int32.ofNat (q + 1))), T, (m_up (m_up (m_up A 27 (upd (A 27) tt 0)) 22 (upd (A 22) p9 (Int32.ofNat (k9 - 1)))) 24 (upd (A 24) q (Int32.ofNat p9))), U), rfl, Or.inr ⟨p9, k9, hp9, h21, h22, hkk1, hk90, Or.inl ⟨by omega, rfl⟩⟩, by dsimp only; rw [ht]; exact hP⟩, hS.F ht⟩) hS.2.2 d_Mo_finish_48
