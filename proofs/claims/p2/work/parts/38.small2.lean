-- ===== 38.small2: more small methods of the reference, by program =====
theorem k_978 : (Jvm.Cond.fieldLink "ChannelMachineModel" (26 : Nat) "ChannelMachineModel" "kind" "[I") ∈ x_T := x_at 978 (by decide +kernel) (by decide +kernel)
theorem k_979 : (Jvm.Cond.fieldLink "ChannelMachineModel" (29 : Nat) "ChannelMachineModel" "head" "[I") ∈ x_T := x_at 979 (by decide +kernel) (by decide +kernel)
theorem k_980 : (Jvm.Cond.fieldLink "ChannelMachineModel" (32 : Nat) "ChannelMachineModel" "many" "[I") ∈ x_T := x_at 980 (by decide +kernel) (by decide +kernel)
theorem k_985 : (Jvm.Cond.fieldLink "ChannelMachineModel" (159 : Nat) "ChannelMachineModel" "open" "I") ∈ x_T := x_at 985 (by decide +kernel) (by decide +kernel)
theorem k_991 : (Jvm.Cond.fieldLink "ChannelMachineModel" (63 : Nat) "ChannelMachineModel" "queue" "[I") ∈ x_T := x_at 991 (by decide +kernel) (by decide +kernel)
theorem k_996 : (Jvm.Cond.fieldLink "ChannelMachineModel" (201 : Nat) "ChannelMachineModel" "queued" "I") ∈ x_T := x_at 996 (by decide +kernel) (by decide +kernel)
theorem k_1000 : (Jvm.Cond.fieldLink "ChannelMachineModel" (103 : Nat) "ChannelMachineModel" "thrown" "I") ∈ x_T := x_at 1000 (by decide +kernel) (by decide +kernel)
theorem d_Mo_channelOf_0 : decode prog_12_method_17_code 0 = .ok (.iload_n 0, 1) := by decide +kernel
theorem d_Mo_channelOf_1 : decode prog_12_method_17_code 1 = .ok (.bipush 73, 2) := by decide +kernel
theorem d_Mo_channelOf_3 : decode prog_12_method_17_code 3 = .ok (.if_icmp .ne 7, 3) := by decide +kernel
theorem d_Mo_channelOf_6 : decode prog_12_method_17_code 6 = .ok (.iconst 4, 1) := by decide +kernel
theorem d_Mo_channelOf_7 : decode prog_12_method_17_code 7 = .ok (.goto 32, 3) := by decide +kernel
theorem d_Mo_channelOf_10 : decode prog_12_method_17_code 10 = .ok (.iload_n 0, 1) := by decide +kernel
theorem d_Mo_channelOf_11 : decode prog_12_method_17_code 11 = .ok (.bipush 79, 2) := by decide +kernel
theorem d_Mo_channelOf_13 : decode prog_12_method_17_code 13 = .ok (.if_icmp .ne 7, 3) := by decide +kernel
theorem d_Mo_channelOf_16 : decode prog_12_method_17_code 16 = .ok (.iconst 5, 1) := by decide +kernel
theorem d_Mo_channelOf_17 : decode prog_12_method_17_code 17 = .ok (.goto 22, 3) := by decide +kernel
theorem d_Mo_channelOf_20 : decode prog_12_method_17_code 20 = .ok (.iload_n 0, 1) := by decide +kernel
theorem d_Mo_channelOf_21 : decode prog_12_method_17_code 21 = .ok (.bipush 65, 2) := by decide +kernel
theorem d_Mo_channelOf_23 : decode prog_12_method_17_code 23 = .ok (.bipush 68, 2) := by decide +kernel
theorem d_Mo_channelOf_25 : decode prog_12_method_17_code 25 = .ok (.invokestatic 106, 3) := by decide +kernel
theorem d_Mo_channelOf_28 : decode prog_12_method_17_code 28 = .ok (.ifCond .eq 10, 3) := by decide +kernel
theorem d_Mo_channelOf_31 : decode prog_12_method_17_code 31 = .ok (.iload_n 0, 1) := by decide +kernel
theorem d_Mo_channelOf_32 : decode prog_12_method_17_code 32 = .ok (.bipush 65, 2) := by decide +kernel
theorem d_Mo_channelOf_34 : decode prog_12_method_17_code 34 = .ok (.isub, 1) := by decide +kernel
theorem d_Mo_channelOf_35 : decode prog_12_method_17_code 35 = .ok (.goto 4, 3) := by decide +kernel
theorem d_Mo_channelOf_38 : decode prog_12_method_17_code 38 = .ok (.iconst (-1), 1) := by decide +kernel
theorem d_Mo_channelOf_39 : decode prog_12_method_17_code 39 = .ok (.ireturn, 1) := by decide +kernel
theorem d_Mo_begin_0 : decode prog_12_method_16_code 0 = .ok (.aload_n 0, 1) := by decide +kernel
theorem d_Mo_begin_1 : decode prog_12_method_16_code 1 = .ok (.getfield 26, 3) := by decide +kernel
theorem d_Mo_begin_4 : decode prog_12_method_16_code 4 = .ok (.aload_n 0, 1) := by decide +kernel
theorem d_Mo_begin_5 : decode prog_12_method_16_code 5 = .ok (.getfield 159, 3) := by decide +kernel
theorem d_Mo_begin_8 : decode prog_12_method_16_code 8 = .ok (.iload_n 1, 1) := by decide +kernel
theorem d_Mo_begin_9 : decode prog_12_method_16_code 9 = .ok (.iastore, 1) := by decide +kernel
theorem d_Mo_begin_10 : decode prog_12_method_16_code 10 = .ok (.aload_n 0, 1) := by decide +kernel
theorem d_Mo_begin_11 : decode prog_12_method_16_code 11 = .ok (.getfield 29, 3) := by decide +kernel
theorem d_Mo_begin_14 : decode prog_12_method_16_code 14 = .ok (.aload_n 0, 1) := by decide +kernel
theorem d_Mo_begin_15 : decode prog_12_method_16_code 15 = .ok (.getfield 159, 3) := by decide +kernel
theorem d_Mo_begin_18 : decode prog_12_method_16_code 18 = .ok (.iload_n 2, 1) := by decide +kernel
theorem d_Mo_begin_19 : decode prog_12_method_16_code 19 = .ok (.iastore, 1) := by decide +kernel
theorem d_Mo_begin_20 : decode prog_12_method_16_code 20 = .ok (.aload_n 0, 1) := by decide +kernel
theorem d_Mo_begin_21 : decode prog_12_method_16_code 21 = .ok (.getfield 32, 3) := by decide +kernel
theorem d_Mo_begin_24 : decode prog_12_method_16_code 24 = .ok (.aload_n 0, 1) := by decide +kernel
theorem d_Mo_begin_25 : decode prog_12_method_16_code 25 = .ok (.getfield 159, 3) := by decide +kernel
theorem d_Mo_begin_28 : decode prog_12_method_16_code 28 = .ok (.iconst 0, 1) := by decide +kernel
theorem d_Mo_begin_29 : decode prog_12_method_16_code 29 = .ok (.iastore, 1) := by decide +kernel
theorem d_Mo_begin_30 : decode prog_12_method_16_code 30 = .ok (.aload_n 0, 1) := by decide +kernel
theorem d_Mo_begin_31 : decode prog_12_method_16_code 31 = .ok (.dup, 1) := by decide +kernel
theorem d_Mo_begin_32 : decode prog_12_method_16_code 32 = .ok (.getfield 159, 3) := by decide +kernel
theorem d_Mo_begin_35 : decode prog_12_method_16_code 35 = .ok (.iconst 1, 1) := by decide +kernel
theorem d_Mo_begin_36 : decode prog_12_method_16_code 36 = .ok (.iadd, 1) := by decide +kernel
theorem d_Mo_begin_37 : decode prog_12_method_16_code 37 = .ok (.putfield 159, 3) := by decide +kernel
theorem d_Mo_begin_40 : decode prog_12_method_16_code 40 = .ok (.return_, 1) := by decide +kernel
theorem d_Mo_bad_0 : decode prog_12_method_4_code 0 = .ok (.aload_n 0, 1) := by decide +kernel
theorem d_Mo_bad_1 : decode prog_12_method_4_code 1 = .ok (.iload_n 1, 1) := by decide +kernel
theorem d_Mo_bad_2 : decode prog_12_method_4_code 2 = .ok (.ifCond .eq 7, 3) := by decide +kernel
theorem d_Mo_bad_5 : decode prog_12_method_4_code 5 = .ok (.iconst 0, 1) := by decide +kernel
theorem d_Mo_bad_6 : decode prog_12_method_4_code 6 = .ok (.goto 4, 3) := by decide +kernel
theorem d_Mo_bad_9 : decode prog_12_method_4_code 9 = .ok (.iconst 1, 1) := by decide +kernel
theorem d_Mo_bad_10 : decode prog_12_method_4_code 10 = .ok (.putfield 103, 3) := by decide +kernel
theorem d_Mo_bad_13 : decode prog_12_method_4_code 13 = .ok (.iload_n 1, 1) := by decide +kernel
theorem d_Mo_bad_14 : decode prog_12_method_4_code 14 = .ok (.ifCond .ne 7, 3) := by decide +kernel
theorem d_Mo_bad_17 : decode prog_12_method_4_code 17 = .ok (.iconst 1, 1) := by decide +kernel
theorem d_Mo_bad_18 : decode prog_12_method_4_code 18 = .ok (.goto 4, 3) := by decide +kernel
theorem d_Mo_bad_21 : decode prog_12_method_4_code 21 = .ok (.iconst 0, 1) := by decide +kernel
theorem d_Mo_bad_22 : decode prog_12_method_4_code 22 = .ok (.ireturn, 1) := by decide +kernel
theorem d_Mo_fail_0 : decode prog_12_method_5_code 0 = .ok (.aload_n 0, 1) := by decide +kernel
theorem d_Mo_fail_1 : decode prog_12_method_5_code 1 = .ok (.iload_n 1, 1) := by decide +kernel
theorem d_Mo_fail_2 : decode prog_12_method_5_code 2 = .ok (.putfield 103, 3) := by decide +kernel
theorem d_Mo_fail_5 : decode prog_12_method_5_code 5 = .ok (.iconst 0, 1) := by decide +kernel
theorem d_Mo_fail_6 : decode prog_12_method_5_code 6 = .ok (.ireturn, 1) := by decide +kernel
theorem d_Mo_put_0 : decode prog_12_method_24_code 0 = .ok (.aload_n 0, 1) := by decide +kernel
theorem d_Mo_put_1 : decode prog_12_method_24_code 1 = .ok (.getfield 63, 3) := by decide +kernel
theorem d_Mo_put_4 : decode prog_12_method_24_code 4 = .ok (.aload_n 0, 1) := by decide +kernel
theorem d_Mo_put_5 : decode prog_12_method_24_code 5 = .ok (.getfield 201, 3) := by decide +kernel
theorem d_Mo_put_8 : decode prog_12_method_24_code 8 = .ok (.iload_n 1, 1) := by decide +kernel
theorem d_Mo_put_9 : decode prog_12_method_24_code 9 = .ok (.iastore, 1) := by decide +kernel
theorem d_Mo_put_10 : decode prog_12_method_24_code 10 = .ok (.aload_n 0, 1) := by decide +kernel
theorem d_Mo_put_11 : decode prog_12_method_24_code 11 = .ok (.dup, 1) := by decide +kernel
theorem d_Mo_put_12 : decode prog_12_method_24_code 12 = .ok (.getfield 201, 3) := by decide +kernel
theorem d_Mo_put_15 : decode prog_12_method_24_code 15 = .ok (.iconst 1, 1) := by decide +kernel
theorem d_Mo_put_16 : decode prog_12_method_24_code 16 = .ok (.iadd, 1) := by decide +kernel
theorem d_Mo_put_17 : decode prog_12_method_24_code 17 = .ok (.putfield 201, 3) := by decide +kernel
theorem d_Mo_put_20 : decode prog_12_method_24_code 20 = .ok (.return_, 1) := by decide +kernel
theorem d_Mo_shift_0 : decode prog_12_method_26_code 0 = .ok (.aload_n 0, 1) := by decide +kernel
theorem d_Mo_shift_1 : decode prog_12_method_26_code 1 = .ok (.iconst 0, 1) := by decide +kernel
theorem d_Mo_shift_2 : decode prog_12_method_26_code 2 = .ok (.iaload, 1) := by decide +kernel
theorem d_Mo_shift_3 : decode prog_12_method_26_code 3 = .ok (.istore_n 2, 1) := by decide +kernel
theorem d_Mo_shift_4 : decode prog_12_method_26_code 4 = .ok (.iconst 1, 1) := by decide +kernel
theorem d_Mo_shift_5 : decode prog_12_method_26_code 5 = .ok (.istore_n 3, 1) := by decide +kernel
theorem d_Mo_shift_6 : decode prog_12_method_26_code 6 = .ok (.iload_n 3, 1) := by decide +kernel
theorem d_Mo_shift_7 : decode prog_12_method_26_code 7 = .ok (.iload_n 1, 1) := by decide +kernel
theorem d_Mo_shift_8 : decode prog_12_method_26_code 8 = .ok (.if_icmp .ge 17, 3) := by decide +kernel
theorem d_Mo_shift_11 : decode prog_12_method_26_code 11 = .ok (.aload_n 0, 1) := by decide +kernel
theorem d_Mo_shift_12 : decode prog_12_method_26_code 12 = .ok (.iload_n 3, 1) := by decide +kernel
theorem d_Mo_shift_13 : decode prog_12_method_26_code 13 = .ok (.iconst 1, 1) := by decide +kernel
theorem d_Mo_shift_14 : decode prog_12_method_26_code 14 = .ok (.isub, 1) := by decide +kernel
theorem d_Mo_shift_15 : decode prog_12_method_26_code 15 = .ok (.aload_n 0, 1) := by decide +kernel
theorem d_Mo_shift_16 : decode prog_12_method_26_code 16 = .ok (.iload_n 3, 1) := by decide +kernel
theorem d_Mo_shift_17 : decode prog_12_method_26_code 17 = .ok (.iaload, 1) := by decide +kernel
theorem d_Mo_shift_18 : decode prog_12_method_26_code 18 = .ok (.iastore, 1) := by decide +kernel
theorem d_Mo_shift_19 : decode prog_12_method_26_code 19 = .ok (.iinc 3 1, 3) := by decide +kernel
theorem d_Mo_shift_22 : decode prog_12_method_26_code 22 = .ok (.goto (-16), 3) := by decide +kernel
theorem d_Mo_shift_25 : decode prog_12_method_26_code 25 = .ok (.iload_n 2, 1) := by decide +kernel
theorem d_Mo_shift_26 : decode prog_12_method_26_code 26 = .ok (.ireturn, 1) := by decide +kernel
def x_ch (v : Int32) : Int32 := if v = 73 then 4 else if v = 79 then 5 else if ¬ v < 65 ∧ ¬ 68 < v then v - 65 else -1
set_option maxHeartbeats 4000000 in
set_option maxRecDepth 100000 in
theorem c_Mo_channelOf (l : Launch) (dC : Nat → ClassId) (dI : Nat → Nat → Nat) (ar : Nat → ClassId) (N0 : Nat) (z : Nat → Nat) (v : Int32) (sz : Nat) : Met l ({ cls := "ChannelMachineModel", name := "channelOf", desc := "(I)I" } : Jvm.MethodName) ((Jvm.Cond.code ({ cls := "ChannelMachineModel", name := "channelOf", desc := "(I)I" } : Jvm.MethodName) prog_12_method_17_code (1 : Nat) (Option.some Jvm.ClassFile.FieldType.int)) :: x_T) ({ frames := 1, cells := 0, slots := 0, locals := 22 }) (x_Pc (dC, dI) ar N0 z [] sz [.int v]) (va_Qi (fun (r : Int32) (u : Unit) => r = x_ch v) (fun u t => va_P (dC, dI) x_cl [] t.heap ∧ va_D (va_A [] sz) []) (va_A [] sz)) 0 0 (va_A [] sz) := by
  refine Met.ofW (cc := prog_12_method_17_code) (maxL := 1) (ret := (some .int)) (by decide) rfl ?_
  intro p e s m args below meth c s₁ B hml hv
  obtain ⟨rfl, hsz, hN0, hP, hU, hZ, hD0⟩ := hv
  have hK := hU.1
  have hx := B.exec
  have hb := B.bytes
  have hr := B.returns
  have hts : ∀ w ∈ x_T, w.before ([.int v] : List Value).toArray s = true := fun w h => atoms_spec (ws := (Jvm.Cond.code ({ cls := "ChannelMachineModel", name := "channelOf", desc := "(I)I" } : Jvm.MethodName) prog_12_method_17_code (1 : Nat) (Option.some Jvm.ClassFile.FieldType.int)) :: x_T) B.pre w (List.mem_cons_of_mem _ h)
  have hown : s.vm.findClass "ChannelMachineModel" = some m.cls := findClass_of_methodNamed B.named
  have hlocks := B.notSynchronized
  subst hsz
  have hD := hD0.self (sz := s.heap.size)
  have hAN := x_AN hD0 hN0
  generalize hAe : va_A [] s.heap.size = A at hD hAN ⊢
  have hA : ∀ q : Nat, s.heap.size ≤ q → A q := fun q h => by rw [← hAe]; exact Or.inr h
  have hS : va_S A s.heap s.heap [] := va_S.rf
  have hP : va_P (dC, dI) x_cl [] s.heap := hP
  have hl := lv_entry ([.int v]) (n := 1) (Nat.le_of_ble_eq_true rfl)
  rw [lg_entry_eq]
  generalize (lg_sl ([.int v]) ++ List.replicate (1 - (lg_sl ([.int v])).length) Slot.unset).toArray = ls at hl ⊢
  have hl : lv_has ls 1 [(0, .int v)] := hl
  have hH0 : s.heap.size ≤ s.heap.size := Nat.le_refl _
  refine lv_iload_n hx hb d_Mo_channelOf_0 rfl (lv_at hl 0 rfl) ?_
  refine lv_bipush (v := 73) hx hb d_Mo_channelOf_1 (by decide) ?_
  refine lv_icmp_ne (tgt := 10) hx hb d_Mo_channelOf_3 (by decide) (fun c1 => ?_) (fun c1 => ?_)
  · refine lv_iload_n hx hb d_Mo_channelOf_10 rfl (lv_at hl 0 rfl) ?_
    refine lv_bipush (v := 79) hx hb d_Mo_channelOf_11 (by decide) ?_
    refine lv_icmp_ne (tgt := 20) hx hb d_Mo_channelOf_13 (by decide) (fun c2 => ?_) (fun c2 => ?_)
    · refine lv_iload_n hx hb d_Mo_channelOf_20 rfl (lv_at hl 0 rfl) ?_
      refine lv_bipush (v := 65) hx hb d_Mo_channelOf_21 (by decide) ?_
      refine lv_bipush (v := 68) hx hb d_Mo_channelOf_23 (by decide) ?_
      have hPc := hP.sub (ws' := []) [] rfl
      have hDc := hD.sub (ws' := []) [] (by decide) rfl
      have hFc := va_free (wc := []) hD hS hA [] rfl
      refine va_calli (va_runS (As := [.int v, .int 65, .int 68]) (rest := []) ⟨hx, hb, hml, hown, hts⟩ (c_Mo_in l dC dI ar N0 z (v) 65 68 s.heap.size) (cwS 3 hts (x_goodS k_1113 k_1114 k_9 k_1115) rfl rfl rfl (by decide +kernel) ⟨Nat.le_of_ble_eq_true rfl, Nat.le_of_ble_eq_true rfl⟩) ⟨x_blind, fun U hU9 hW => x_pre hU9 hW hPc hDc hU hZ hS hAN hN0⟩ rfl rfl hl.1 rfl (lv_room (Nat.le_of_ble_eq_true rfl)) d_Mo_channelOf_25 ⟨Nat.le_of_ble_eq_true rfl, Nat.le_of_ble_eq_true rfl⟩) hS (fun q _ h => hFc q h) hFc (fun r3 u4 t H1 locs ht hvm hw hB hz1 hk1 hS => ?_)
      obtain ⟨hP1, hD1⟩ := hB
      rw [ht] at hP1
      obtain ⟨hP, hD⟩ := va_join (wr := []) (w1 := []) hP hD [] [] rfl rfl (by decide) (by decide) hk1 hFc hP1 hD1
      generalize H1 = H at hP hS ⊢
      have hP : va_P (dC, dI) x_cl [] H := hP
      have hD : va_D A [] := hD
      refine W.widen (k := 0) (n := 0) (Nat.le_of_ble_eq_true rfl) (Nat.le_of_ble_eq_true rfl) ?_
      rcases hw with ⟨i5, i5', rfl⟩ | ⟨i5, rfl⟩
      · have i5 := i5
        refine lv_if_eq (tgt := 38) hx hb d_Mo_channelOf_28 (by decide) (fun c6 => absurd c6 (by decide)) (fun _ => ?_)
        refine lv_iload_n hx hb d_Mo_channelOf_31 rfl (lv_at hl 0 rfl) ?_
        refine lv_bipush (v := 65) hx hb d_Mo_channelOf_32 (by decide) ?_
        refine lv_isub hx hb d_Mo_channelOf_34 ?_
        refine lv_goto (tgt := 39) hx hb d_Mo_channelOf_35 (by decide) ?_
        refine W.widen (k := 0) (n := 0) (Nat.le_of_ble_eq_true rfl) (Nat.le_of_ble_eq_true rfl) ?_
        exact W.iret (v := (v - 65)) hx hb hr (fun t ht hW => ⟨⟨(v - 65), (), rfl, by unfold x_ch; rw [if_neg c1, if_neg c2, if_pos ⟨i5, i5'⟩], ⟨by rw [ht]; exact hP, hD⟩⟩, hS.F ht⟩) hS.2.2 d_Mo_channelOf_39
      · have i5 := i5
        refine lv_if_eq (tgt := 38) hx hb d_Mo_channelOf_28 (by decide) (fun _ => ?_) (fun c7 => absurd (by decide) c7)
        refine lv_iconst (v := (-1)) hx hb d_Mo_channelOf_38 (by decide) ?_
        refine W.widen (k := 0) (n := 0) (Nat.le_of_ble_eq_true rfl) (Nat.le_of_ble_eq_true rfl) ?_
        exact W.iret (v := (-1)) hx hb hr (fun t ht hW => ⟨⟨(-1), (), rfl, by unfold x_ch; rw [if_neg c1, if_neg c2, if_neg (fun h => i5.elim h.1 h.2)], ⟨by rw [ht]; exact hP, hD⟩⟩, hS.F ht⟩) hS.2.2 d_Mo_channelOf_39
    · refine lv_iconst (v := 5) hx hb d_Mo_channelOf_16 (by decide) ?_
      refine lv_goto (tgt := 39) hx hb d_Mo_channelOf_17 (by decide) ?_
      refine W.widen (k := 0) (n := 0) (Nat.le_of_ble_eq_true rfl) (Nat.le_of_ble_eq_true rfl) ?_
      exact W.iret (v := 5) hx hb hr (fun t ht hW => ⟨⟨5, (), rfl, by unfold x_ch; rw [if_neg c1, if_pos c2], ⟨by rw [ht]; exact hP, hD⟩⟩, hS.F ht⟩) hS.2.2 d_Mo_channelOf_39
  · refine lv_iconst (v := 4) hx hb d_Mo_channelOf_6 (by decide) ?_
    refine lv_goto (tgt := 39) hx hb d_Mo_channelOf_7 (by decide) ?_
    refine W.widen (k := 0) (n := 0) (Nat.le_of_ble_eq_true rfl) (Nat.le_of_ble_eq_true rfl) ?_
    exact W.iret (v := 4) hx hb hr (fun t ht hW => ⟨⟨4, (), rfl, by unfold x_ch; rw [if_pos c1], ⟨by rw [ht]; exact hP, hD⟩⟩, hS.F ht⟩) hS.2.2 d_Mo_channelOf_39
set_option maxHeartbeats 4000000 in
set_option maxRecDepth 100000 in
theorem m_begin (l : Launch) (dC : Nat → ClassId) (dI : Nat → Nat → Nat) (ar : Nat → ClassId) (N0 : Nat) (z : Nat → Nat) (h0 : Nat) (ad : Nat → Nat) (I : Nat → Int32) (T : Int64) (A : Nat → Nat → Int32) (U : Nat → Int64) (o : Nat) (k h : Int32) (sz : Nat) (h18 : I 18 = Int32.ofNat o) (ho : o < 80) : Met l ({ cls := "ChannelMachineModel", name := "begin", desc := "(II)V" } : Jvm.MethodName) ((Jvm.Cond.code ({ cls := "ChannelMachineModel", name := "begin", desc := "(II)V" } : Jvm.MethodName) prog_12_method_16_code (3 : Nat) (Option.none : Option Jvm.ClassFile.FieldType)) :: x_T) ({ frames := 0, cells := 0, slots := 0, locals := 0 }) (x_Pc (dC, dI) ar N0 z (m_W h0 ad ar I T A U) sz [.ref h0, .int k, .int h]) (va_Qv (fun (u : (Nat → Int32) × Int64 × (Nat → Nat → Int32) × (Nat → Int64)) => u = (upd I 18 (Int32.ofNat (o + 1)), T, m_up (m_up (m_up A 11 (upd (A 11) o k)) 12 (upd (A 12) o h)) 13 (upd (A 13) o 0), U)) (fun u t => va_P (dC, dI) x_cl (m_W h0 ad ar u.1 u.2.1 u.2.2.1 u.2.2.2) t.heap) (va_A (m_W h0 ad ar I T A U) sz)) 0 0 (va_A (m_W h0 ad ar I T A U) sz) := by
  refine Met.ofW (cc := prog_12_method_16_code) (maxL := 3) (ret := none) (by decide) rfl ?_
  intro p e s m args below meth c s₁ B hml hv
  obtain ⟨rfl, hsz, hN0, hP, hU, hZ, hD0⟩ := hv
  have hK := hU.1
  have hx := B.exec
  have hb := B.bytes
  have hr := B.returns
  have hts : ∀ w ∈ x_T, w.before ([.ref h0, .int k, .int h] : List Value).toArray s = true := fun w h => atoms_spec (ws := (Jvm.Cond.code ({ cls := "ChannelMachineModel", name := "begin", desc := "(II)V" } : Jvm.MethodName) prog_12_method_16_code (3 : Nat) (Option.none : Option Jvm.ClassFile.FieldType)) :: x_T) B.pre w (List.mem_cons_of_mem _ h)
  have hown : s.vm.findClass "ChannelMachineModel" = some m.cls := findClass_of_methodNamed B.named
  have hlocks := B.notSynchronized
  subst hsz
  have hD := hD0.self (sz := s.heap.size)
  have hAN := x_AN hD0 hN0
  generalize hAe : va_A (m_W h0 ad ar I T A U) s.heap.size = Bq at hD hAN ⊢
  have hA : ∀ q : Nat, s.heap.size ≤ q → Bq q := fun q h => by rw [← hAe]; exact Or.inr h
  have hS : va_S Bq s.heap s.heap [] := va_S.rf
  have hl := lv_entry ([.ref h0, .int k, .int h]) (n := 3) (Nat.le_of_ble_eq_true rfl)
  rw [lg_entry_eq]
  generalize (lg_sl ([.ref h0, .int k, .int h]) ++ List.replicate (3 - (lg_sl ([.ref h0, .int k, .int h])).length) Slot.unset).toArray = ls at hl ⊢
  have hl : lv_has ls 3 [(0, .ref h0), (1, .int k), (2, .int h)] := hl
  refine lv_aload_n hx hb d_Mo_begin_0 rfl (lv_at hl 0 rfl) ?_
  refine m_g hx hb hts hown hK hP 11 (by decide) rfl (hts _ k_978) (v := .ref (ad 11)) rfl d_Mo_begin_1 ?_
  refine lv_aload_n hx hb d_Mo_begin_4 rfl (lv_at hl 0 rfl) ?_
  refine m_g hx hb hts hown hK hP 18 (by decide) rfl (hts _ k_985) (v := .int (Int32.ofNat o)) (congrArg Value.int h18) d_Mo_begin_5 ?_
  refine lv_iload_n hx hb d_Mo_begin_8 rfl (lv_at hl 1 rfl) ?_
  refine m_st hx hb hK hP hD hS 4 rfl (by decide) (j := (Int32.ofNat o)) (x := k) (x_inN (by omega) (by decide)) d_Mo_begin_9 (fun H locs hP hD hS => ?_)
  rw [x_nat (a := o) (by omega)] at hP hD
  refine lv_aload_n hx hb d_Mo_begin_10 rfl (lv_at hl 0 rfl) ?_
  refine m_g hx hb hts hown hK hP 12 (by decide) rfl (hts _ k_979) (v := .ref (ad 12)) rfl d_Mo_begin_11 ?_
  refine lv_aload_n hx hb d_Mo_begin_14 rfl (lv_at hl 0 rfl) ?_
  refine m_g hx hb hts hown hK hP 18 (by decide) rfl (hts _ k_985) (v := .int (Int32.ofNat o)) (congrArg Value.int h18) d_Mo_begin_15 ?_
  refine lv_iload_n hx hb d_Mo_begin_18 rfl (lv_at hl 2 rfl) ?_
  refine m_st hx hb hK hP hD hS 5 rfl (by decide) (j := (Int32.ofNat o)) (x := h) (x_inN (by omega) (by decide)) d_Mo_begin_19 (fun H locs hP hD hS => ?_)
  rw [x_nat (a := o) (by omega)] at hP hD
  refine lv_aload_n hx hb d_Mo_begin_20 rfl (lv_at hl 0 rfl) ?_
  refine m_g hx hb hts hown hK hP 13 (by decide) rfl (hts _ k_980) (v := .ref (ad 13)) rfl d_Mo_begin_21 ?_
  refine lv_aload_n hx hb d_Mo_begin_24 rfl (lv_at hl 0 rfl) ?_
  refine m_g hx hb hts hown hK hP 18 (by decide) rfl (hts _ k_985) (v := .int (Int32.ofNat o)) (congrArg Value.int h18) d_Mo_begin_25 ?_
  refine lv_iconst (v := 0) hx hb d_Mo_begin_28 (by decide) ?_
  refine m_st hx hb hK hP hD hS 6 rfl (by decide) (j := (Int32.ofNat o)) (x := 0) (x_inN (by omega) (by decide)) d_Mo_begin_29 (fun H locs hP hD hS => ?_)
  rw [x_nat (a := o) (by omega)] at hP hD
  refine lv_aload_n hx hb d_Mo_begin_30 rfl (lv_at hl 0 rfl) ?_
  refine lv_dup hx hb d_Mo_begin_31 rfl ?_
  refine m_g hx hb hts hown hK hP 18 (by decide) rfl (hts _ k_985) (v := .int (Int32.ofNat o)) (congrArg Value.int h18) d_Mo_begin_32 ?_
  refine lv_iconst (v := 1) hx hb d_Mo_begin_35 (by decide) ?_
  refine lv_iadd hx hb d_Mo_begin_36 ?_
  refine W.eq (g2 := F0 m 37 ls [.int (Int32.ofNat (o + 1)), .ref h0]) (by rw [← x_addN (a := o) (b := 1)] <;> rfl) ?_
  refine m_p hx hb hts hown hK hP hD hS 18 (by decide) rfl (hts _ k_985) rfl (by decide +kernel) rfl (by decide) (x := (Int32.ofNat (o + 1))) d_Mo_begin_37 (fun H locs hP hD hS => ?_)
  refine W.widen (k := 0) (n := 0) (Nat.le_of_ble_eq_true rfl) (Nat.le_of_ble_eq_true rfl) ?_
  exact W.vret hx hb hr (fun t ht hW => ⟨⟨((upd I 18 (Int32.ofNat (o + 1))), T, (m_up (m_up (m_up A 11 (upd (A 11) (o) k)) 12 (upd ((m_up A 11 (upd (A 11) (o) k)) 12) (o) h)) 13 (upd ((m_up (m_up A 11 (upd (A 11) (o) k)) 12 (upd ((m_up A 11 (upd (A 11) (o) k)) 12) (o) h)) 13) (o) 0)), U), rfl, rfl, by dsimp only; rw [ht]; exact hP⟩, hS.F ht⟩) hS.2.2 d_Mo_begin_40
set_option maxHeartbeats 4000000 in
set_option maxRecDepth 100000 in
theorem m_bad (l : Launch) (dC : Nat → ClassId) (dI : Nat → Nat → Nat) (ar : Nat → ClassId) (N0 : Nat) (z : Nat → Nat) (h0 : Nat) (ad : Nat → Nat) (I : Nat → Int32) (T : Int64) (A : Nat → Nat → Int32) (U : Nat → Int64) (b : Int32) (sz : Nat) : Met l ({ cls := "ChannelMachineModel", name := "bad", desc := "(Z)Z" } : Jvm.MethodName) ((Jvm.Cond.code ({ cls := "ChannelMachineModel", name := "bad", desc := "(Z)Z" } : Jvm.MethodName) prog_12_method_4_code (2 : Nat) (Option.some Jvm.ClassFile.FieldType.boolean)) :: x_T) ({ frames := 0, cells := 0, slots := 0, locals := 0 }) (x_Pc (dC, dI) ar N0 z (m_W h0 ad ar I T A U) sz [.ref h0, .int b]) (va_Qi (fun (r : Int32) (u : (Nat → Int32) × Int64 × (Nat → Nat → Int32) × (Nat → Int64)) => (b = 0 ∧ r = 1 ∧ u = (upd I 33 1, T, A, U)) ∨ (¬ b = 0 ∧ r = 0 ∧ u = (upd I 33 0, T, A, U))) (fun u t => va_P (dC, dI) x_cl (m_W h0 ad ar u.1 u.2.1 u.2.2.1 u.2.2.2) t.heap) (va_A (m_W h0 ad ar I T A U) sz)) 0 0 (va_A (m_W h0 ad ar I T A U) sz) := by
  refine Met.ofW (cc := prog_12_method_4_code) (maxL := 2) (ret := (some .boolean)) (by decide) rfl ?_
  intro p e s m args below meth c s₁ B hml hv
  obtain ⟨rfl, hsz, hN0, hP, hU, hZ, hD0⟩ := hv
  have hK := hU.1
  have hx := B.exec
  have hb := B.bytes
  have hr := B.returns
  have hts : ∀ w ∈ x_T, w.before ([.ref h0, .int b] : List Value).toArray s = true := fun w h => atoms_spec (ws := (Jvm.Cond.code ({ cls := "ChannelMachineModel", name := "bad", desc := "(Z)Z" } : Jvm.MethodName) prog_12_method_4_code (2 : Nat) (Option.some Jvm.ClassFile.FieldType.boolean)) :: x_T) B.pre w (List.mem_cons_of_mem _ h)
  have hown : s.vm.findClass "ChannelMachineModel" = some m.cls := findClass_of_methodNamed B.named
  have hlocks := B.notSynchronized
  subst hsz
  have hD := hD0.self (sz := s.heap.size)
  have hAN := x_AN hD0 hN0
  generalize hAe : va_A (m_W h0 ad ar I T A U) s.heap.size = Bq at hD hAN ⊢
  have hA : ∀ q : Nat, s.heap.size ≤ q → Bq q := fun q h => by rw [← hAe]; exact Or.inr h
  have hS : va_S Bq s.heap s.heap [] := va_S.rf
  have hl := lv_entry ([.ref h0, .int b]) (n := 2) (Nat.le_of_ble_eq_true rfl)
  rw [lg_entry_eq]
  generalize (lg_sl ([.ref h0, .int b]) ++ List.replicate (2 - (lg_sl ([.ref h0, .int b])).length) Slot.unset).toArray = ls at hl ⊢
  have hl : lv_has ls 2 [(0, .ref h0), (1, .int b)] := hl
  refine lv_aload_n hx hb d_Mo_bad_0 rfl (lv_at hl 0 rfl) ?_
  refine lv_iload_n hx hb d_Mo_bad_1 rfl (lv_at hl 1 rfl) ?_
  refine lv_if_eq (tgt := 9) hx hb d_Mo_bad_2 (by decide) (fun c1 => ?_) (fun c1 => ?_)
  · refine lv_iconst (v := 1) hx hb d_Mo_bad_9 (by decide) ?_
    refine m_p hx hb hts hown hK hP hD hS 33 (by decide) rfl (hts _ k_1000) rfl (by decide +kernel) rfl (by decide) (x := 1) d_Mo_bad_10 (fun H locs hP hD hS => ?_)
    refine lv_iload_n hx hb d_Mo_bad_13 rfl (lv_at hl 1 rfl) ?_
    refine lv_if_ne (tgt := 21) hx hb d_Mo_bad_14 (by decide) (fun c2 => absurd c1 c2) (fun _ => ?_)
    refine lv_iconst (v := 1) hx hb d_Mo_bad_17 (by decide) ?_
    refine lv_goto (tgt := 22) hx hb d_Mo_bad_18 (by decide) ?_
    refine W.widen (k := 0) (n := 0) (Nat.le_of_ble_eq_true rfl) (Nat.le_of_ble_eq_true rfl) ?_
    exact W.zret (v := 1) hx hb hr (rfl) (fun t ht hW => ⟨⟨1, ((upd I 33 1), T, A, U), rfl, Or.inl ⟨c1, rfl, rfl⟩, by dsimp only; rw [ht]; exact hP⟩, hS.F ht⟩) hS.2.2 d_Mo_bad_22
  · refine lv_iconst (v := 0) hx hb d_Mo_bad_5 (by decide) ?_
    refine lv_goto (tgt := 10) hx hb d_Mo_bad_6 (by decide) ?_
    refine m_p hx hb hts hown hK hP hD hS 33 (by decide) rfl (hts _ k_1000) rfl (by decide +kernel) rfl (by decide) (x := 0) d_Mo_bad_10 (fun H locs hP hD hS => ?_)
    refine lv_iload_n hx hb d_Mo_bad_13 rfl (lv_at hl 1 rfl) ?_
    refine lv_if_ne (tgt := 21) hx hb d_Mo_bad_14 (by decide) (fun _ => ?_) (fun c3 => absurd c3 c1)
    refine lv_iconst (v := 0) hx hb d_Mo_bad_21 (by decide) ?_
    refine W.widen (k := 0) (n := 0) (Nat.le_of_ble_eq_true rfl) (Nat.le_of_ble_eq_true rfl) ?_
    exact W.zret (v := 0) hx hb hr (rfl) (fun t ht hW => ⟨⟨0, ((upd I 33 0), T, A, U), rfl, Or.inr ⟨c1, rfl, rfl⟩, by dsimp only; rw [ht]; exact hP⟩, hS.F ht⟩) hS.2.2 d_Mo_bad_22
set_option maxHeartbeats 4000000 in
set_option maxRecDepth 100000 in
theorem m_fail (l : Launch) (dC : Nat → ClassId) (dI : Nat → Nat → Nat) (ar : Nat → ClassId) (N0 : Nat) (z : Nat → Nat) (h0 : Nat) (ad : Nat → Nat) (I : Nat → Int32) (T : Int64) (A : Nat → Nat → Int32) (U : Nat → Int64) (k : Int32) (sz : Nat) : Met l ({ cls := "ChannelMachineModel", name := "fail", desc := "(I)I" } : Jvm.MethodName) ((Jvm.Cond.code ({ cls := "ChannelMachineModel", name := "fail", desc := "(I)I" } : Jvm.MethodName) prog_12_method_5_code (2 : Nat) (Option.some Jvm.ClassFile.FieldType.int)) :: x_T) ({ frames := 0, cells := 0, slots := 0, locals := 0 }) (x_Pc (dC, dI) ar N0 z (m_W h0 ad ar I T A U) sz [.ref h0, .int k]) (va_Qi (fun (r : Int32) (u : (Nat → Int32) × Int64 × (Nat → Nat → Int32) × (Nat → Int64)) => u = (upd I 33 k, T, A, U) ∧ r = 0) (fun u t => va_P (dC, dI) x_cl (m_W h0 ad ar u.1 u.2.1 u.2.2.1 u.2.2.2) t.heap) (va_A (m_W h0 ad ar I T A U) sz)) 0 0 (va_A (m_W h0 ad ar I T A U) sz) := by
  refine Met.ofW (cc := prog_12_method_5_code) (maxL := 2) (ret := (some .int)) (by decide) rfl ?_
  intro p e s m args below meth c s₁ B hml hv
  obtain ⟨rfl, hsz, hN0, hP, hU, hZ, hD0⟩ := hv
  have hK := hU.1
  have hx := B.exec
  have hb := B.bytes
  have hr := B.returns
  have hts : ∀ w ∈ x_T, w.before ([.ref h0, .int k] : List Value).toArray s = true := fun w h => atoms_spec (ws := (Jvm.Cond.code ({ cls := "ChannelMachineModel", name := "fail", desc := "(I)I" } : Jvm.MethodName) prog_12_method_5_code (2 : Nat) (Option.some Jvm.ClassFile.FieldType.int)) :: x_T) B.pre w (List.mem_cons_of_mem _ h)
  have hown : s.vm.findClass "ChannelMachineModel" = some m.cls := findClass_of_methodNamed B.named
  have hlocks := B.notSynchronized
  subst hsz
  have hD := hD0.self (sz := s.heap.size)
  have hAN := x_AN hD0 hN0
  generalize hAe : va_A (m_W h0 ad ar I T A U) s.heap.size = Bq at hD hAN ⊢
  have hA : ∀ q : Nat, s.heap.size ≤ q → Bq q := fun q h => by rw [← hAe]; exact Or.inr h
  have hS : va_S Bq s.heap s.heap [] := va_S.rf
  have hl := lv_entry ([.ref h0, .int k]) (n := 2) (Nat.le_of_ble_eq_true rfl)
  rw [lg_entry_eq]
  generalize (lg_sl ([.ref h0, .int k]) ++ List.replicate (2 - (lg_sl ([.ref h0, .int k])).length) Slot.unset).toArray = ls at hl ⊢
  have hl : lv_has ls 2 [(0, .ref h0), (1, .int k)] := hl
  refine lv_aload_n hx hb d_Mo_fail_0 rfl (lv_at hl 0 rfl) ?_
  refine lv_iload_n hx hb d_Mo_fail_1 rfl (lv_at hl 1 rfl) ?_
  refine m_p hx hb hts hown hK hP hD hS 33 (by decide) rfl (hts _ k_1000) rfl (by decide +kernel) rfl (by decide) (x := k) d_Mo_fail_2 (fun H locs hP hD hS => ?_)
  refine lv_iconst (v := 0) hx hb d_Mo_fail_5 (by decide) ?_
  refine W.widen (k := 0) (n := 0) (Nat.le_of_ble_eq_true rfl) (Nat.le_of_ble_eq_true rfl) ?_
  exact W.iret (v := 0) hx hb hr (fun t ht hW => ⟨⟨0, ((upd I 33 k), T, A, U), rfl, ⟨rfl, rfl⟩, by dsimp only; rw [ht]; exact hP⟩, hS.F ht⟩) hS.2.2 d_Mo_fail_6
set_option maxHeartbeats 4000000 in
set_option maxRecDepth 100000 in
theorem m_put (l : Launch) (dC : Nat → ClassId) (dI : Nat → Nat → Nat) (ar : Nat → ClassId) (N0 : Nat) (z : Nat → Nat) (h0 : Nat) (ad : Nat → Nat) (I : Nat → Int32) (T : Int64) (A : Nat → Nat → Int32) (U : Nat → Int64) (q : Nat) (tv : Int32) (sz : Nat) (h29 : I 29 = Int32.ofNat q) (hq : q < 90) : Met l ({ cls := "ChannelMachineModel", name := "put", desc := "(I)V" } : Jvm.MethodName) ((Jvm.Cond.code ({ cls := "ChannelMachineModel", name := "put", desc := "(I)V" } : Jvm.MethodName) prog_12_method_24_code (2 : Nat) (Option.none : Option Jvm.ClassFile.FieldType)) :: x_T) ({ frames := 0, cells := 0, slots := 0, locals := 0 }) (x_Pc (dC, dI) ar N0 z (m_W h0 ad ar I T A U) sz [.ref h0, .int tv]) (va_Qv (fun (u : (Nat → Int32) × Int64 × (Nat → Nat → Int32) × (Nat → Int64)) => u = (upd I 29 (Int32.ofNat (q + 1)), T, m_up A 24 (upd (A 24) q tv), U)) (fun u t => va_P (dC, dI) x_cl (m_W h0 ad ar u.1 u.2.1 u.2.2.1 u.2.2.2) t.heap) (va_A (m_W h0 ad ar I T A U) sz)) 0 0 (va_A (m_W h0 ad ar I T A U) sz) := by
  refine Met.ofW (cc := prog_12_method_24_code) (maxL := 2) (ret := none) (by decide) rfl ?_
  intro p e s m args below meth c s₁ B hml hv
  obtain ⟨rfl, hsz, hN0, hP, hU, hZ, hD0⟩ := hv
  have hK := hU.1
  have hx := B.exec
  have hb := B.bytes
  have hr := B.returns
  have hts : ∀ w ∈ x_T, w.before ([.ref h0, .int tv] : List Value).toArray s = true := fun w h => atoms_spec (ws := (Jvm.Cond.code ({ cls := "ChannelMachineModel", name := "put", desc := "(I)V" } : Jvm.MethodName) prog_12_method_24_code (2 : Nat) (Option.none : Option Jvm.ClassFile.FieldType)) :: x_T) B.pre w (List.mem_cons_of_mem _ h)
  have hown : s.vm.findClass "ChannelMachineModel" = some m.cls := findClass_of_methodNamed B.named
  have hlocks := B.notSynchronized
  subst hsz
  have hD := hD0.self (sz := s.heap.size)
  have hAN := x_AN hD0 hN0
  generalize hAe : va_A (m_W h0 ad ar I T A U) s.heap.size = Bq at hD hAN ⊢
  have hA : ∀ q : Nat, s.heap.size ≤ q → Bq q := fun q h => by rw [← hAe]; exact Or.inr h
  have hS : va_S Bq s.heap s.heap [] := va_S.rf
  have hl := lv_entry ([.ref h0, .int tv]) (n := 2) (Nat.le_of_ble_eq_true rfl)
  rw [lg_entry_eq]
  generalize (lg_sl ([.ref h0, .int tv]) ++ List.replicate (2 - (lg_sl ([.ref h0, .int tv])).length) Slot.unset).toArray = ls at hl ⊢
  have hl : lv_has ls 2 [(0, .ref h0), (1, .int tv)] := hl
  refine lv_aload_n hx hb d_Mo_put_0 rfl (lv_at hl 0 rfl) ?_
  refine m_g hx hb hts hown hK hP 24 (by decide) rfl (hts _ k_991) (v := .ref (ad 24)) rfl d_Mo_put_1 ?_
  refine lv_aload_n hx hb d_Mo_put_4 rfl (lv_at hl 0 rfl) ?_
  refine m_g hx hb hts hown hK hP 29 (by decide) rfl (hts _ k_996) (v := .int (Int32.ofNat q)) (congrArg Value.int h29) d_Mo_put_5 ?_
  refine lv_iload_n hx hb d_Mo_put_8 rfl (lv_at hl 1 rfl) ?_
  refine m_st hx hb hK hP hD hS 16 rfl (by decide) (j := (Int32.ofNat q)) (x := tv) (x_inN (by omega) (by decide)) d_Mo_put_9 (fun H locs hP hD hS => ?_)
  rw [x_nat (a := q) (by omega)] at hP hD
  refine lv_aload_n hx hb d_Mo_put_10 rfl (lv_at hl 0 rfl) ?_
  refine lv_dup hx hb d_Mo_put_11 rfl ?_
  refine m_g hx hb hts hown hK hP 29 (by decide) rfl (hts _ k_996) (v := .int (Int32.ofNat q)) (congrArg Value.int h29) d_Mo_put_12 ?_
  refine lv_iconst (v := 1) hx hb d_Mo_put_15 (by decide) ?_
  refine lv_iadd hx hb d_Mo_put_16 ?_
  refine W.eq (g2 := F0 m 17 ls [.int (Int32.ofNat (q + 1)), .ref h0]) (by rw [← x_addN (a := q) (b := 1)] <;> rfl) ?_
  refine m_p hx hb hts hown hK hP hD hS 29 (by decide) rfl (hts _ k_996) rfl (by decide +kernel) rfl (by decide) (x := (Int32.ofNat (q + 1))) d_Mo_put_17 (fun H locs hP hD hS => ?_)
  refine W.widen (k := 0) (n := 0) (Nat.le_of_ble_eq_true rfl) (Nat.le_of_ble_eq_true rfl) ?_
  exact W.vret hx hb hr (fun t ht hW => ⟨⟨((upd I 29 (Int32.ofNat (q + 1))), T, (m_up A 24 (upd (A 24) (q) tv)), U), rfl, rfl, by dsimp only; rw [ht]; exact hP⟩, hS.F ht⟩) hS.2.2 d_Mo_put_20
set_option maxHeartbeats 4000000 in
set_option maxRecDepth 100000 in
theorem m_shift24 (l : Launch) (dC : Nat → ClassId) (dI : Nat → Nat → Nat) (ar : Nat → ClassId) (N0 : Nat) (z : Nat → Nat) (h0 : Nat) (ad : Nat → Nat) (I : Nat → Int32) (T : Int64) (A : Nat → Nat → Int32) (U : Nat → Int64) (n : Nat) (sz : Nat) (hn : n ≤ 90) : Met l ({ cls := "ChannelMachineModel", name := "shift", desc := "([II)I" } : Jvm.MethodName) ((Jvm.Cond.code ({ cls := "ChannelMachineModel", name := "shift", desc := "([II)I" } : Jvm.MethodName) prog_12_method_26_code (4 : Nat) (Option.some Jvm.ClassFile.FieldType.int)) :: x_T) ({ frames := 0, cells := 0, slots := 0, locals := 0 }) (x_Pc (dC, dI) ar N0 z (m_W h0 ad ar I T A U) sz [.ref (ad 24), .int (Int32.ofNat n)]) (va_Qi (fun (r : Int32) (u : (Nat → Int32) × Int64 × (Nat → Nat → Int32) × (Nat → Int64)) => r = A 24 0 ∧ u.1 = I ∧ u.2.1 = T ∧ u.2.2.2 = U ∧ m_fa [24] A u.2.2.1 ∧ (∀ j, j + 1 < n → u.2.2.1 24 j = A 24 (j + 1)) ∧ (∀ j, n ≤ j + 1 → u.2.2.1 24 j = A 24 j)) (fun u t => va_P (dC, dI) x_cl (m_W h0 ad ar u.1 u.2.1 u.2.2.1 u.2.2.2) t.heap) (va_A (m_W h0 ad ar I T A U) sz)) 0 0 (va_A (m_W h0 ad ar I T A U) sz) := by
  refine Met.ofW (cc := prog_12_method_26_code) (maxL := 4) (ret := (some .int)) (by decide) rfl ?_
  intro p e s m args below meth c s₁ B hml hv
  obtain ⟨rfl, hsz, hN0, hP, hU, hZ, hD0⟩ := hv
  have hK := hU.1
  have hx := B.exec
  have hb := B.bytes
  have hr := B.returns
  have hts : ∀ w ∈ x_T, w.before ([.ref (ad 24), .int (Int32.ofNat n)] : List Value).toArray s = true := fun w h => atoms_spec (ws := (Jvm.Cond.code ({ cls := "ChannelMachineModel", name := "shift", desc := "([II)I" } : Jvm.MethodName) prog_12_method_26_code (4 : Nat) (Option.some Jvm.ClassFile.FieldType.int)) :: x_T) B.pre w (List.mem_cons_of_mem _ h)
  have hown : s.vm.findClass "ChannelMachineModel" = some m.cls := findClass_of_methodNamed B.named
  have hlocks := B.notSynchronized
  subst hsz
  have hD := hD0.self (sz := s.heap.size)
  have hAN := x_AN hD0 hN0
  generalize hAe : va_A (m_W h0 ad ar I T A U) s.heap.size = Bq at hD hAN ⊢
  have hA : ∀ q : Nat, s.heap.size ≤ q → Bq q := fun q h => by rw [← hAe]; exact Or.inr h
  have hS : va_S Bq s.heap s.heap [] := va_S.rf
  have hl := lv_entry ([.ref (ad 24), .int (Int32.ofNat n)]) (n := 4) (Nat.le_of_ble_eq_true rfl)
  rw [lg_entry_eq]
  generalize (lg_sl ([.ref (ad 24), .int (Int32.ofNat n)]) ++ List.replicate (4 - (lg_sl ([.ref (ad 24), .int (Int32.ofNat n)])).length) Slot.unset).toArray = ls at hl ⊢
  have hl : lv_has ls 4 [(0, .ref (ad 24)), (1, .int (Int32.ofNat n))] := hl
  refine lv_aload_n hx hb d_Mo_shift_0 rfl (lv_at hl 0 rfl) ?_
  refine lv_iconst (v := 0) hx hb d_Mo_shift_1 (by decide) ?_
  refine m_ld hx hb hK hP 16 rfl (by decide) (j := 0) (by unfold vp_in; decide) d_Mo_shift_2 ?_
  refine W.eq (g2 := F0 m 3 ls [.int (A 24 (0))]) (by rw [show Int32.toNatClampNeg (0 : Int32) = 0 from by decide]) ?_
  refine lv_istore_n (lv' := [(2, .int (A 24 (0))), (0, .ref (ad 24)), (1, .int (Int32.ofNat n))]) hx hb d_Mo_shift_3 rfl hl (by decide) rfl (fun ls hl => ?_)
  refine lv_iconst (v := 1) hx hb d_Mo_shift_4 (by decide) ?_
  refine lv_istore_n (lv' := [(3, .int 1), (2, .int (A 24 (0))), (0, .ref (ad 24)), (1, .int (Int32.ofNat n))]) hx hb d_Mo_shift_5 rfl hl (by decide) rfl (fun ls hl => ?_)
  refine x_while (fun n9 H locs ls => ∃ (A1 : Nat → Nat → Int32) (i1 : Nat), n9 = 90 - i1 ∧ 1 ≤ i1 ∧ i1 ≤ 90 ∧ m_fa [24] A A1 ∧ (∀ j, j + 1 < i1 → A1 24 j = A 24 (j + 1)) ∧ (∀ j, i1 ≤ j + 1 → A1 24 j = A 24 j) ∧ (i1 ≤ n ∨ i1 = 1) ∧ va_P (dC, dI) x_cl (m_W h0 ad ar I T A1 U) H ∧ va_D Bq (m_W h0 ad ar I T A1 U) ∧ va_S Bq s.heap H locs ∧ lv_has ls 4 [(0, .ref (ad 24)), (1, .int (Int32.ofNat n)), (2, .int (A 24 0)), (3, .int (Int32.ofNat i1))]) (fun n9 ih H locs ls h9 => ?_) ⟨A, 1, rfl, Nat.le_refl _, by omega, m_fa.rf, fun j hj => absurd hj (by omega), fun _ _ => rfl, Or.inr rfl, hP, hD, hS, lv_sub hl [2, 3, 1, 0] rfl⟩
  obtain ⟨A1, i1, hn9, q1, q2, hfa, g1, g2, g3, hP, hD, hS, hl⟩ := h9
  refine lv_iload_n hx hb d_Mo_shift_6 rfl (lv_at hl 3 rfl) ?_
  refine lv_iload_n hx hb d_Mo_shift_7 rfl (lv_at hl 1 rfl) ?_
  refine lv_icmp_ge (tgt := 25) hx hb d_Mo_shift_8 (by decide) (fun c1 => ?_) (fun c1 => ?_)
  · have c1 : n ≤ i1 := (x_leN (a := n) (b := i1) (by omega) (by omega)).mp c1
    refine lv_iload_n hx hb d_Mo_shift_25 rfl (lv_at hl 2 rfl) ?_
    refine W.widen (k := 0) (n := 0) (Nat.le_of_ble_eq_true rfl) (Nat.le_of_ble_eq_true rfl) ?_
    exact W.iret (v := (A 24 0)) hx hb hr (fun t ht hW => ⟨⟨(A 24 0), (I, T, A1, U), rfl, ⟨rfl, rfl, rfl, rfl, hfa, fun j hj => g1 j (by omega), fun j hj => g2 j (by omega)⟩, by dsimp only; rw [ht]; exact hP⟩, hS.F ht⟩) hS.2.2 d_Mo_shift_26
  · have c1 : ¬ n ≤ i1 := fun h9 => c1 ((x_leN (a := n) (b := i1) (by omega) (by omega)).mpr h9)
    refine lv_aload_n hx hb d_Mo_shift_11 rfl (lv_at hl 0 rfl) ?_
    refine lv_iload_n hx hb d_Mo_shift_12 rfl (lv_at hl 3 rfl) ?_
    refine lv_iconst (v := 1) hx hb d_Mo_shift_13 (by decide) ?_
    refine lv_isub hx hb d_Mo_shift_14 ?_
    refine W.eq (g2 := F0 m 15 ls [.int (Int32.ofNat (i1 - 1)), .ref (ad 24)]) (by rw [← x_subN (a := i1) (b := 1) (by omega)] <;> rfl) ?_
    refine lv_aload_n hx hb d_Mo_shift_15 rfl (lv_at hl 0 rfl) ?_
    refine lv_iload_n hx hb d_Mo_shift_16 rfl (lv_at hl 3 rfl) ?_
    refine m_ld hx hb hK hP 16 rfl (by decide) (j := (Int32.ofNat i1)) (x_inN (by omega) (by decide)) d_Mo_shift_17 ?_
    refine W.eq (g2 := F0 m 18 ls [.int (A1 24 (i1)), .int (Int32.ofNat (i1 - 1)), .ref (ad 24)]) (by rw [x_nat (a := i1) (by omega)]) ?_
    refine m_st hx hb hK hP hD hS 16 rfl (by decide) (j := (Int32.ofNat (i1 - 1))) (x := (A1 24 (i1))) (x_inN (by omega) (by decide)) d_Mo_shift_18 (fun H locs hP hD hS => ?_)
    rw [x_nat (a := (i1 - 1)) (by omega)] at hP hD
    refine lv_iinc (v := (Int32.ofNat (i1 + 1))) (lv' := [(3, .int (Int32.ofNat (i1 + 1))), (0, .ref (ad 24)), (1, .int (Int32.ofNat n)), (2, .int (A 24 0))]) hx hb d_Mo_shift_19 hl (k := 3) rfl (x_incN i1) (by decide) rfl (fun ls hl => ?_)
    refine lv_goto (tgt := 6) hx hb d_Mo_shift_22 (by decide) ?_
    refine ih (90 - (i1 + 1)) (by omega) H locs ls ⟨(m_up A1 24 (upd (A1 24) ((i1 - 1)) (A1 24 (i1)))), i1 + 1, rfl, by omega, by omega, hfa.up (by decide) _, fun j hj => ?_, fun j hj => ?_, Or.inl (by omega), hP, hD, hS, lv_sub hl [1, 2, 3, 0] rfl⟩
    · rw [m_up_s]
      by_cases ej : j = i1 - 1
      · rw [ej, upd_s, g2 i1 (by omega)]; congr 1; omega
      · rw [upd_n ej]; exact g1 j (by omega)
    · rw [m_up_s, upd_n (by omega)]; exact g2 j (by omega)
set_option maxHeartbeats 4000000 in
set_option maxRecDepth 100000 in
theorem m_shift40 (l : Launch) (dC : Nat → ClassId) (dI : Nat → Nat → Nat) (ar : Nat → ClassId) (N0 : Nat) (z : Nat → Nat) (h0 : Nat) (ad : Nat → Nat) (I : Nat → Int32) (T : Int64) (A : Nat → Nat → Int32) (U : Nat → Int64) (n : Nat) (sz : Nat) (hn : n ≤ 8) : Met l ({ cls := "ChannelMachineModel", name := "shift", desc := "([II)I" } : Jvm.MethodName) ((Jvm.Cond.code ({ cls := "ChannelMachineModel", name := "shift", desc := "([II)I" } : Jvm.MethodName) prog_12_method_26_code (4 : Nat) (Option.some Jvm.ClassFile.FieldType.int)) :: x_T) ({ frames := 0, cells := 0, slots := 0, locals := 0 }) (x_Pc (dC, dI) ar N0 z (m_W h0 ad ar I T A U) sz [.ref (ad 40), .int (Int32.ofNat n)]) (va_Qi (fun (r : Int32) (u : (Nat → Int32) × Int64 × (Nat → Nat → Int32) × (Nat → Int64)) => r = A 40 0 ∧ u.1 = I ∧ u.2.1 = T ∧ u.2.2.2 = U ∧ m_fa [40] A u.2.2.1 ∧ (∀ j, j + 1 < n → u.2.2.1 40 j = A 40 (j + 1)) ∧ (∀ j, n ≤ j + 1 → u.2.2.1 40 j = A 40 j)) (fun u t => va_P (dC, dI) x_cl (m_W h0 ad ar u.1 u.2.1 u.2.2.1 u.2.2.2) t.heap) (va_A (m_W h0 ad ar I T A U) sz)) 0 0 (va_A (m_W h0 ad ar I T A U) sz) := by
  refine Met.ofW (cc := prog_12_method_26_code) (maxL := 4) (ret := (some .int)) (by decide) rfl ?_
  intro p e s m args below meth c s₁ B hml hv
  obtain ⟨rfl, hsz, hN0, hP, hU, hZ, hD0⟩ := hv
  have hK := hU.1
  have hx := B.exec
  have hb := B.bytes
  have hr := B.returns
  have hts : ∀ w ∈ x_T, w.before ([.ref (ad 40), .int (Int32.ofNat n)] : List Value).toArray s = true := fun w h => atoms_spec (ws := (Jvm.Cond.code ({ cls := "ChannelMachineModel", name := "shift", desc := "([II)I" } : Jvm.MethodName) prog_12_method_26_code (4 : Nat) (Option.some Jvm.ClassFile.FieldType.int)) :: x_T) B.pre w (List.mem_cons_of_mem _ h)
  have hown : s.vm.findClass "ChannelMachineModel" = some m.cls := findClass_of_methodNamed B.named
  have hlocks := B.notSynchronized
  subst hsz
  have hD := hD0.self (sz := s.heap.size)
  have hAN := x_AN hD0 hN0
  generalize hAe : va_A (m_W h0 ad ar I T A U) s.heap.size = Bq at hD hAN ⊢
  have hA : ∀ q : Nat, s.heap.size ≤ q → Bq q := fun q h => by rw [← hAe]; exact Or.inr h
  have hS : va_S Bq s.heap s.heap [] := va_S.rf
  have hl := lv_entry ([.ref (ad 40), .int (Int32.ofNat n)]) (n := 4) (Nat.le_of_ble_eq_true rfl)
  rw [lg_entry_eq]
  generalize (lg_sl ([.ref (ad 40), .int (Int32.ofNat n)]) ++ List.replicate (4 - (lg_sl ([.ref (ad 40), .int (Int32.ofNat n)])).length) Slot.unset).toArray = ls at hl ⊢
  have hl : lv_has ls 4 [(0, .ref (ad 40)), (1, .int (Int32.ofNat n))] := hl
  refine lv_aload_n hx hb d_Mo_shift_0 rfl (lv_at hl 0 rfl) ?_
  refine lv_iconst (v := 0) hx hb d_Mo_shift_1 (by decide) ?_
  refine m_ld hx hb hK hP 26 rfl (by decide) (j := 0) (by unfold vp_in; decide) d_Mo_shift_2 ?_
  refine W.eq (g2 := F0 m 3 ls [.int (A 40 (0))]) (by rw [show Int32.toNatClampNeg (0 : Int32) = 0 from by decide]) ?_
  refine lv_istore_n (lv' := [(2, .int (A 40 (0))), (0, .ref (ad 40)), (1, .int (Int32.ofNat n))]) hx hb d_Mo_shift_3 rfl hl (by decide) rfl (fun ls hl => ?_)
  refine lv_iconst (v := 1) hx hb d_Mo_shift_4 (by decide) ?_
  refine lv_istore_n (lv' := [(3, .int 1), (2, .int (A 40 (0))), (0, .ref (ad 40)), (1, .int (Int32.ofNat n))]) hx hb d_Mo_shift_5 rfl hl (by decide) rfl (fun ls hl => ?_)
  refine x_while (fun n9 H locs ls => ∃ (A1 : Nat → Nat → Int32) (i1 : Nat), n9 = 8 - i1 ∧ 1 ≤ i1 ∧ i1 ≤ 8 ∧ m_fa [40] A A1 ∧ (∀ j, j + 1 < i1 → A1 40 j = A 40 (j + 1)) ∧ (∀ j, i1 ≤ j + 1 → A1 40 j = A 40 j) ∧ (i1 ≤ n ∨ i1 = 1) ∧ va_P (dC, dI) x_cl (m_W h0 ad ar I T A1 U) H ∧ va_D Bq (m_W h0 ad ar I T A1 U) ∧ va_S Bq s.heap H locs ∧ lv_has ls 4 [(0, .ref (ad 40)), (1, .int (Int32.ofNat n)), (2, .int (A 40 0)), (3, .int (Int32.ofNat i1))]) (fun n9 ih H locs ls h9 => ?_) ⟨A, 1, rfl, Nat.le_refl _, by omega, m_fa.rf, fun j hj => absurd hj (by omega), fun _ _ => rfl, Or.inr rfl, hP, hD, hS, lv_sub hl [2, 3, 1, 0] rfl⟩
  obtain ⟨A1, i1, hn9, q1, q2, hfa, g1, g2, g3, hP, hD, hS, hl⟩ := h9
  refine lv_iload_n hx hb d_Mo_shift_6 rfl (lv_at hl 3 rfl) ?_
  refine lv_iload_n hx hb d_Mo_shift_7 rfl (lv_at hl 1 rfl) ?_
  refine lv_icmp_ge (tgt := 25) hx hb d_Mo_shift_8 (by decide) (fun c1 => ?_) (fun c1 => ?_)
  · have c1 : n ≤ i1 := (x_leN (a := n) (b := i1) (by omega) (by omega)).mp c1
    refine lv_iload_n hx hb d_Mo_shift_25 rfl (lv_at hl 2 rfl) ?_
    refine W.widen (k := 0) (n := 0) (Nat.le_of_ble_eq_true rfl) (Nat.le_of_ble_eq_true rfl) ?_
    exact W.iret (v := (A 40 0)) hx hb hr (fun t ht hW => ⟨⟨(A 40 0), (I, T, A1, U), rfl, ⟨rfl, rfl, rfl, rfl, hfa, fun j hj => g1 j (by omega), fun j hj => g2 j (by omega)⟩, by dsimp only; rw [ht]; exact hP⟩, hS.F ht⟩) hS.2.2 d_Mo_shift_26
  · have c1 : ¬ n ≤ i1 := fun h9 => c1 ((x_leN (a := n) (b := i1) (by omega) (by omega)).mpr h9)
    refine lv_aload_n hx hb d_Mo_shift_11 rfl (lv_at hl 0 rfl) ?_
    refine lv_iload_n hx hb d_Mo_shift_12 rfl (lv_at hl 3 rfl) ?_
    refine lv_iconst (v := 1) hx hb d_Mo_shift_13 (by decide) ?_
    refine lv_isub hx hb d_Mo_shift_14 ?_
    refine W.eq (g2 := F0 m 15 ls [.int (Int32.ofNat (i1 - 1)), .ref (ad 40)]) (by rw [← x_subN (a := i1) (b := 1) (by omega)] <;> rfl) ?_
    refine lv_aload_n hx hb d_Mo_shift_15 rfl (lv_at hl 0 rfl) ?_
    refine lv_iload_n hx hb d_Mo_shift_16 rfl (lv_at hl 3 rfl) ?_
    refine m_ld hx hb hK hP 26 rfl (by decide) (j := (Int32.ofNat i1)) (x_inN (by omega) (by decide)) d_Mo_shift_17 ?_
    refine W.eq (g2 := F0 m 18 ls [.int (A1 40 (i1)), .int (Int32.ofNat (i1 - 1)), .ref (ad 40)]) (by rw [x_nat (a := i1) (by omega)]) ?_
    refine m_st hx hb hK hP hD hS 26 rfl (by decide) (j := (Int32.ofNat (i1 - 1))) (x := (A1 40 (i1))) (x_inN (by omega) (by decide)) d_Mo_shift_18 (fun H locs hP hD hS => ?_)
    rw [x_nat (a := (i1 - 1)) (by omega)] at hP hD
    refine lv_iinc (v := (Int32.ofNat (i1 + 1))) (lv' := [(3, .int (Int32.ofNat (i1 + 1))), (0, .ref (ad 40)), (1, .int (Int32.ofNat n)), (2, .int (A 40 0))]) hx hb d_Mo_shift_19 hl (k := 3) rfl (x_incN i1) (by decide) rfl (fun ls hl => ?_)
    refine lv_goto (tgt := 6) hx hb d_Mo_shift_22 (by decide) ?_
    refine ih (8 - (i1 + 1)) (by omega) H locs ls ⟨(m_up A1 40 (upd (A1 40) ((i1 - 1)) (A1 40 (i1)))), i1 + 1, rfl, by omega, by omega, hfa.up (by decide) _, fun j hj => ?_, fun j hj => ?_, Or.inl (by omega), hP, hD, hS, lv_sub hl [1, 2, 3, 0] rfl⟩
    · rw [m_up_s]
      by_cases ej : j = i1 - 1
      · rw [ej, upd_s, g2 i1 (by omega)]; congr 1; omega
      · rw [upd_n ej]; exact g1 j (by omega)
    · rw [m_up_s, upd_n (by omega)]; exact g2 j (by omega)
set_option maxHeartbeats 4000000 in
set_option maxRecDepth 100000 in
theorem m_shift41 (l : Launch) (dC : Nat → ClassId) (dI : Nat → Nat → Nat) (ar : Nat → ClassId) (N0 : Nat) (z : Nat → Nat) (h0 : Nat) (ad : Nat → Nat) (I : Nat → Int32) (T : Int64) (A : Nat → Nat → Int32) (U : Nat → Int64) (n : Nat) (sz : Nat) (hn : n ≤ 8) : Met l ({ cls := "ChannelMachineModel", name := "shift", desc := "([II)I" } : Jvm.MethodName) ((Jvm.Cond.code ({ cls := "ChannelMachineModel", name := "shift", desc := "([II)I" } : Jvm.MethodName) prog_12_method_26_code (4 : Nat) (Option.some Jvm.ClassFile.FieldType.int)) :: x_T) ({ frames := 0, cells := 0, slots := 0, locals := 0 }) (x_Pc (dC, dI) ar N0 z (m_W h0 ad ar I T A U) sz [.ref (ad 41), .int (Int32.ofNat n)]) (va_Qi (fun (r : Int32) (u : (Nat → Int32) × Int64 × (Nat → Nat → Int32) × (Nat → Int64)) => r = A 41 0 ∧ u.1 = I ∧ u.2.1 = T ∧ u.2.2.2 = U ∧ m_fa [41] A u.2.2.1 ∧ (∀ j, j + 1 < n → u.2.2.1 41 j = A 41 (j + 1)) ∧ (∀ j, n ≤ j + 1 → u.2.2.1 41 j = A 41 j)) (fun u t => va_P (dC, dI) x_cl (m_W h0 ad ar u.1 u.2.1 u.2.2.1 u.2.2.2) t.heap) (va_A (m_W h0 ad ar I T A U) sz)) 0 0 (va_A (m_W h0 ad ar I T A U) sz) := by
  refine Met.ofW (cc := prog_12_method_26_code) (maxL := 4) (ret := (some .int)) (by decide) rfl ?_
  intro p e s m args below meth c s₁ B hml hv
  obtain ⟨rfl, hsz, hN0, hP, hU, hZ, hD0⟩ := hv
  have hK := hU.1
  have hx := B.exec
  have hb := B.bytes
  have hr := B.returns
  have hts : ∀ w ∈ x_T, w.before ([.ref (ad 41), .int (Int32.ofNat n)] : List Value).toArray s = true := fun w h => atoms_spec (ws := (Jvm.Cond.code ({ cls := "ChannelMachineModel", name := "shift", desc := "([II)I" } : Jvm.MethodName) prog_12_method_26_code (4 : Nat) (Option.some Jvm.ClassFile.FieldType.int)) :: x_T) B.pre w (List.mem_cons_of_mem _ h)
  have hown : s.vm.findClass "ChannelMachineModel" = some m.cls := findClass_of_methodNamed B.named
  have hlocks := B.notSynchronized
  subst hsz
  have hD := hD0.self (sz := s.heap.size)
  have hAN := x_AN hD0 hN0
  generalize hAe : va_A (m_W h0 ad ar I T A U) s.heap.size = Bq at hD hAN ⊢
  have hA : ∀ q : Nat, s.heap.size ≤ q → Bq q := fun q h => by rw [← hAe]; exact Or.inr h
  have hS : va_S Bq s.heap s.heap [] := va_S.rf
  have hl := lv_entry ([.ref (ad 41), .int (Int32.ofNat n)]) (n := 4) (Nat.le_of_ble_eq_true rfl)
  rw [lg_entry_eq]
  generalize (lg_sl ([.ref (ad 41), .int (Int32.ofNat n)]) ++ List.replicate (4 - (lg_sl ([.ref (ad 41), .int (Int32.ofNat n)])).length) Slot.unset).toArray = ls at hl ⊢
  have hl : lv_has ls 4 [(0, .ref (ad 41)), (1, .int (Int32.ofNat n))] := hl
  refine lv_aload_n hx hb d_Mo_shift_0 rfl (lv_at hl 0 rfl) ?_
  refine lv_iconst (v := 0) hx hb d_Mo_shift_1 (by decide) ?_
  refine m_ld hx hb hK hP 27 rfl (by decide) (j := 0) (by unfold vp_in; decide) d_Mo_shift_2 ?_
  refine W.eq (g2 := F0 m 3 ls [.int (A 41 (0))]) (by rw [show Int32.toNatClampNeg (0 : Int32) = 0 from by decide]) ?_
  refine lv_istore_n (lv' := [(2, .int (A 41 (0))), (0, .ref (ad 41)), (1, .int (Int32.ofNat n))]) hx hb d_Mo_shift_3 rfl hl (by decide) rfl (fun ls hl => ?_)
  refine lv_iconst (v := 1) hx hb d_Mo_shift_4 (by decide) ?_
  refine lv_istore_n (lv' := [(3, .int 1), (2, .int (A 41 (0))), (0, .ref (ad 41)), (1, .int (Int32.ofNat n))]) hx hb d_Mo_shift_5 rfl hl (by decide) rfl (fun ls hl => ?_)
  refine x_while (fun n9 H locs ls => ∃ (A1 : Nat → Nat → Int32) (i1 : Nat), n9 = 8 - i1 ∧ 1 ≤ i1 ∧ i1 ≤ 8 ∧ m_fa [41] A A1 ∧ (∀ j, j + 1 < i1 → A1 41 j = A 41 (j + 1)) ∧ (∀ j, i1 ≤ j + 1 → A1 41 j = A 41 j) ∧ (i1 ≤ n ∨ i1 = 1) ∧ va_P (dC, dI) x_cl (m_W h0 ad ar I T A1 U) H ∧ va_D Bq (m_W h0 ad ar I T A1 U) ∧ va_S Bq s.heap H locs ∧ lv_has ls 4 [(0, .ref (ad 41)), (1, .int (Int32.ofNat n)), (2, .int (A 41 0)), (3, .int (Int32.ofNat i1))]) (fun n9 ih H locs ls h9 => ?_) ⟨A, 1, rfl, Nat.le_refl _, by omega, m_fa.rf, fun j hj => absurd hj (by omega), fun _ _ => rfl, Or.inr rfl, hP, hD, hS, lv_sub hl [2, 3, 1, 0] rfl⟩
  obtain ⟨A1, i1, hn9, q1, q2, hfa, g1, g2, g3, hP, hD, hS, hl⟩ := h9
  refine lv_iload_n hx hb d_Mo_shift_6 rfl (lv_at hl 3 rfl) ?_
  refine lv_iload_n hx hb d_Mo_shift_7 rfl (lv_at hl 1 rfl) ?_
  refine lv_icmp_ge (tgt := 25) hx hb d_Mo_shift_8 (by decide) (fun c1 => ?_) (fun c1 => ?_)
  · have c1 : n ≤ i1 := (x_leN (a := n) (b := i1) (by omega) (by omega)).mp c1
    refine lv_iload_n hx hb d_Mo_shift_25 rfl (lv_at hl 2 rfl) ?_
    refine W.widen (k := 0) (n := 0) (Nat.le_of_ble_eq_true rfl) (Nat.le_of_ble_eq_true rfl) ?_
    exact W.iret (v := (A 41 0)) hx hb hr (fun t ht hW => ⟨⟨(A 41 0), (I, T, A1, U), rfl, ⟨rfl, rfl, rfl, rfl, hfa, fun j hj => g1 j (by omega), fun j hj => g2 j (by omega)⟩, by dsimp only; rw [ht]; exact hP⟩, hS.F ht⟩) hS.2.2 d_Mo_shift_26
  · have c1 : ¬ n ≤ i1 := fun h9 => c1 ((x_leN (a := n) (b := i1) (by omega) (by omega)).mpr h9)
    refine lv_aload_n hx hb d_Mo_shift_11 rfl (lv_at hl 0 rfl) ?_
    refine lv_iload_n hx hb d_Mo_shift_12 rfl (lv_at hl 3 rfl) ?_
    refine lv_iconst (v := 1) hx hb d_Mo_shift_13 (by decide) ?_
    refine lv_isub hx hb d_Mo_shift_14 ?_
    refine W.eq (g2 := F0 m 15 ls [.int (Int32.ofNat (i1 - 1)), .ref (ad 41)]) (by rw [← x_subN (a := i1) (b := 1) (by omega)] <;> rfl) ?_
    refine lv_aload_n hx hb d_Mo_shift_15 rfl (lv_at hl 0 rfl) ?_
    refine lv_iload_n hx hb d_Mo_shift_16 rfl (lv_at hl 3 rfl) ?_
    refine m_ld hx hb hK hP 27 rfl (by decide) (j := (Int32.ofNat i1)) (x_inN (by omega) (by decide)) d_Mo_shift_17 ?_
    refine W.eq (g2 := F0 m 18 ls [.int (A1 41 (i1)), .int (Int32.ofNat (i1 - 1)), .ref (ad 41)]) (by rw [x_nat (a := i1) (by omega)]) ?_
    refine m_st hx hb hK hP hD hS 27 rfl (by decide) (j := (Int32.ofNat (i1 - 1))) (x := (A1 41 (i1))) (x_inN (by omega) (by decide)) d_Mo_shift_18 (fun H locs hP hD hS => ?_)
    rw [x_nat (a := (i1 - 1)) (by omega)] at hP hD
    refine lv_iinc (v := (Int32.ofNat (i1 + 1))) (lv' := [(3, .int (Int32.ofNat (i1 + 1))), (0, .ref (ad 41)), (1, .int (Int32.ofNat n)), (2, .int (A 41 0))]) hx hb d_Mo_shift_19 hl (k := 3) rfl (x_incN i1) (by decide) rfl (fun ls hl => ?_)
    refine lv_goto (tgt := 6) hx hb d_Mo_shift_22 (by decide) ?_
    refine ih (8 - (i1 + 1)) (by omega) H locs ls ⟨(m_up A1 41 (upd (A1 41) ((i1 - 1)) (A1 41 (i1)))), i1 + 1, rfl, by omega, by omega, hfa.up (by decide) _, fun j hj => ?_, fun j hj => ?_, Or.inl (by omega), hP, hD, hS, lv_sub hl [1, 2, 3, 0] rfl⟩
    · rw [m_up_s]
      by_cases ej : j = i1 - 1
      · rw [ej, upd_s, g2 i1 (by omega)]; congr 1; omega
      · rw [upd_n ej]; exact g1 j (by omega)
    · rw [m_up_s, upd_n (by omega)]; exact g2 j (by omega)
