-- ===== 34.write: rank, write of the reference, by program =====
theorem k_1152 : (Jvm.Cond.methodLink "ChannelMachineModel" (138 : Nat) ({ cls := "ChannelMachineModel", name := "emit2", desc := "(II)V" } : Jvm.MethodName)) ∈ x_T := x_at 1152 (by decide +kernel) (by decide +kernel)
theorem k_1154 : (Jvm.Cond.instanceMethod ({ cls := "ChannelMachineModel", name := "emit2", desc := "(II)V" } : Jvm.MethodName)) ∈ x_T := x_at 1154 (by decide +kernel) (by decide +kernel)
theorem k_1155 : (Jvm.Cond.code ({ cls := "ChannelMachineModel", name := "emit2", desc := "(II)V" } : Jvm.MethodName) prog_12_method_10_code (3 : Nat) (Option.none : Option Jvm.ClassFile.FieldType)) ∈ x_T := x_at 1155 (by decide +kernel) (by decide +kernel)
theorem kp_56 : (Jvm.Cond.selects "ChannelMachineModel" ({ cls := "ChannelMachineModel", name := "emit2", desc := "(II)V" } : Jvm.MethodName) ({ cls := "ChannelMachineModel", name := "emit2", desc := "(II)V" } : Jvm.MethodName)) ∈ x_T := x_sel (q := (({ cls := "ChannelMachineModel", name := "emit2", desc := "(II)V" } : Jvm.MethodName), 45)) 56 (by decide +kernel) (by decide +kernel)
theorem d_Mo_rank_0 : decode prog_12_method_12_code 0 = .ok (.iload_n 0, 1) := by decide +kernel
theorem d_Mo_rank_1 : decode prog_12_method_12_code 1 = .ok (.bipush 60, 2) := by decide +kernel
theorem d_Mo_rank_3 : decode prog_12_method_12_code 3 = .ok (.if_icmp .eq 9, 3) := by decide +kernel
theorem d_Mo_rank_6 : decode prog_12_method_12_code 6 = .ok (.iload_n 0, 1) := by decide +kernel
theorem d_Mo_rank_7 : decode prog_12_method_12_code 7 = .ok (.bipush 61, 2) := by decide +kernel
theorem d_Mo_rank_9 : decode prog_12_method_12_code 9 = .ok (.if_icmp .ne 7, 3) := by decide +kernel
theorem d_Mo_rank_12 : decode prog_12_method_12_code 12 = .ok (.iconst 1, 1) := by decide +kernel
theorem d_Mo_rank_13 : decode prog_12_method_12_code 13 = .ok (.goto 42, 3) := by decide +kernel
theorem d_Mo_rank_16 : decode prog_12_method_12_code 16 = .ok (.iload_n 0, 1) := by decide +kernel
theorem d_Mo_rank_17 : decode prog_12_method_12_code 17 = .ok (.bipush 43, 2) := by decide +kernel
theorem d_Mo_rank_19 : decode prog_12_method_12_code 19 = .ok (.if_icmp .eq 9, 3) := by decide +kernel
theorem d_Mo_rank_22 : decode prog_12_method_12_code 22 = .ok (.iload_n 0, 1) := by decide +kernel
theorem d_Mo_rank_23 : decode prog_12_method_12_code 23 = .ok (.bipush 45, 2) := by decide +kernel
theorem d_Mo_rank_25 : decode prog_12_method_12_code 25 = .ok (.if_icmp .ne 7, 3) := by decide +kernel
theorem d_Mo_rank_28 : decode prog_12_method_12_code 28 = .ok (.iconst 2, 1) := by decide +kernel
theorem d_Mo_rank_29 : decode prog_12_method_12_code 29 = .ok (.goto 26, 3) := by decide +kernel
theorem d_Mo_rank_32 : decode prog_12_method_12_code 32 = .ok (.iload_n 0, 1) := by decide +kernel
theorem d_Mo_rank_33 : decode prog_12_method_12_code 33 = .ok (.bipush 42, 2) := by decide +kernel
theorem d_Mo_rank_35 : decode prog_12_method_12_code 35 = .ok (.if_icmp .eq 15, 3) := by decide +kernel
theorem d_Mo_rank_38 : decode prog_12_method_12_code 38 = .ok (.iload_n 0, 1) := by decide +kernel
theorem d_Mo_rank_39 : decode prog_12_method_12_code 39 = .ok (.bipush 47, 2) := by decide +kernel
theorem d_Mo_rank_41 : decode prog_12_method_12_code 41 = .ok (.if_icmp .eq 9, 3) := by decide +kernel
theorem d_Mo_rank_44 : decode prog_12_method_12_code 44 = .ok (.iload_n 0, 1) := by decide +kernel
theorem d_Mo_rank_45 : decode prog_12_method_12_code 45 = .ok (.bipush 37, 2) := by decide +kernel
theorem d_Mo_rank_47 : decode prog_12_method_12_code 47 = .ok (.if_icmp .ne 7, 3) := by decide +kernel
theorem d_Mo_rank_50 : decode prog_12_method_12_code 50 = .ok (.iconst 3, 1) := by decide +kernel
theorem d_Mo_rank_51 : decode prog_12_method_12_code 51 = .ok (.goto 4, 3) := by decide +kernel
theorem d_Mo_rank_54 : decode prog_12_method_12_code 54 = .ok (.iconst 0, 1) := by decide +kernel
theorem d_Mo_rank_55 : decode prog_12_method_12_code 55 = .ok (.ireturn, 1) := by decide +kernel
theorem d_Mo_write_0 : decode prog_12_method_13_code 0 = .ok (.aload_n 0, 1) := by decide +kernel
theorem d_Mo_write_1 : decode prog_12_method_13_code 1 = .ok (.getfield 135, 3) := by decide +kernel
theorem d_Mo_write_4 : decode prog_12_method_13_code 4 = .ok (.iload_n 1, 1) := by decide +kernel
theorem d_Mo_write_5 : decode prog_12_method_13_code 5 = .ok (.if_icmp .le 68, 3) := by decide +kernel
theorem d_Mo_write_8 : decode prog_12_method_13_code 8 = .ok (.aload_n 0, 1) := by decide +kernel
theorem d_Mo_write_9 : decode prog_12_method_13_code 9 = .ok (.getfield 41, 3) := by decide +kernel
theorem d_Mo_write_12 : decode prog_12_method_13_code 12 = .ok (.aload_n 0, 1) := by decide +kernel
theorem d_Mo_write_13 : decode prog_12_method_13_code 13 = .ok (.getfield 135, 3) := by decide +kernel
theorem d_Mo_write_16 : decode prog_12_method_13_code 16 = .ok (.iconst 1, 1) := by decide +kernel
theorem d_Mo_write_17 : decode prog_12_method_13_code 17 = .ok (.isub, 1) := by decide +kernel
theorem d_Mo_write_18 : decode prog_12_method_13_code 18 = .ok (.iaload, 1) := by decide +kernel
theorem d_Mo_write_19 : decode prog_12_method_13_code 19 = .ok (.iload_n 2, 1) := by decide +kernel
theorem d_Mo_write_20 : decode prog_12_method_13_code 20 = .ok (.if_icmp .lt 53, 3) := by decide +kernel
theorem d_Mo_write_23 : decode prog_12_method_13_code 23 = .ok (.aload_n 0, 1) := by decide +kernel
theorem d_Mo_write_24 : decode prog_12_method_13_code 24 = .ok (.dup, 1) := by decide +kernel
theorem d_Mo_write_25 : decode prog_12_method_13_code 25 = .ok (.getfield 135, 3) := by decide +kernel
theorem d_Mo_write_28 : decode prog_12_method_13_code 28 = .ok (.iconst 1, 1) := by decide +kernel
theorem d_Mo_write_29 : decode prog_12_method_13_code 29 = .ok (.isub, 1) := by decide +kernel
theorem d_Mo_write_30 : decode prog_12_method_13_code 30 = .ok (.putfield 135, 3) := by decide +kernel
theorem d_Mo_write_33 : decode prog_12_method_13_code 33 = .ok (.aload_n 0, 1) := by decide +kernel
theorem d_Mo_write_34 : decode prog_12_method_13_code 34 = .ok (.getfield 41, 3) := by decide +kernel
theorem d_Mo_write_37 : decode prog_12_method_13_code 37 = .ok (.aload_n 0, 1) := by decide +kernel
theorem d_Mo_write_38 : decode prog_12_method_13_code 38 = .ok (.getfield 135, 3) := by decide +kernel
theorem d_Mo_write_41 : decode prog_12_method_13_code 41 = .ok (.iaload, 1) := by decide +kernel
theorem d_Mo_write_42 : decode prog_12_method_13_code 42 = .ok (.iconst 4, 1) := by decide +kernel
theorem d_Mo_write_43 : decode prog_12_method_13_code 43 = .ok (.if_icmp .ne 12, 3) := by decide +kernel
theorem d_Mo_write_46 : decode prog_12_method_13_code 46 = .ok (.aload_n 0, 1) := by decide +kernel
theorem d_Mo_write_47 : decode prog_12_method_13_code 47 = .ok (.bipush 23, 2) := by decide +kernel
theorem d_Mo_write_49 : decode prog_12_method_13_code 49 = .ok (.invokevirtual 131, 3) := by decide +kernel
theorem d_Mo_write_52 : decode prog_12_method_13_code 52 = .ok (.goto (-52), 3) := by decide +kernel
theorem d_Mo_write_55 : decode prog_12_method_13_code 55 = .ok (.aload_n 0, 1) := by decide +kernel
theorem d_Mo_write_56 : decode prog_12_method_13_code 56 = .ok (.bipush 22, 2) := by decide +kernel
theorem d_Mo_write_58 : decode prog_12_method_13_code 58 = .ok (.aload_n 0, 1) := by decide +kernel
theorem d_Mo_write_59 : decode prog_12_method_13_code 59 = .ok (.getfield 38, 3) := by decide +kernel
theorem d_Mo_write_62 : decode prog_12_method_13_code 62 = .ok (.aload_n 0, 1) := by decide +kernel
theorem d_Mo_write_63 : decode prog_12_method_13_code 63 = .ok (.getfield 135, 3) := by decide +kernel
theorem d_Mo_write_66 : decode prog_12_method_13_code 66 = .ok (.iaload, 1) := by decide +kernel
theorem d_Mo_write_67 : decode prog_12_method_13_code 67 = .ok (.invokevirtual 138, 3) := by decide +kernel
theorem d_Mo_write_70 : decode prog_12_method_13_code 70 = .ok (.goto (-70), 3) := by decide +kernel
theorem d_Mo_write_73 : decode prog_12_method_13_code 73 = .ok (.return_, 1) := by decide +kernel
theorem m_nb_s {rk : Nat → Int32} {o : Nat} (h : 1 ≤ o) : m_nb rk o = m_nb rk (o - 1) + (if rk (o - 1) = 4 then 0 else 1) := by
  obtain ⟨k, rfl⟩ : ∃ k, o = k + 1 := ⟨o - 1, by omega⟩
  rfl
theorem m_TK.nle {f : Nat → Int32} {a0 a n mx : Nat} (h : m_TK f a0 a n mx) : n ≤ mx := by
  obtain ⟨K, bs, ns, h1, h2, h3, h4, h5, h6⟩ := h
  rw [← h4]; exact h6 K (Nat.le_refl K)
theorem m_w1 {f rk : Nat → Int32} {a0 a o mx : Nat} (h : m_TK f a0 a (1 + m_nb rk o) mx) (ho : 1 ≤ o) (h4 : rk (o - 1) = 4) : m_TK (upd f a 23) a0 (a + 1) (1 + m_nb rk (o - 1)) mx := by
  have h1 := h.nle
  have e := m_nb_s (rk := rk) ho
  rw [if_pos h4] at e
  rw [e] at h h1
  exact (h.same (g := upd f a 23) (fun j hj => upd_n (by omega))).snoc (Or.inr (Or.inl ⟨rfl, upd_s, by omega, rfl⟩)) (by omega) (Nat.le_refl _)
theorem m_w2 {f rk : Nat → Int32} {a0 a o mx : Nat} {x : Int32} (h : m_TK f a0 a (1 + m_nb rk o) mx) (ho : 1 ≤ o) (h4 : ¬ rk (o - 1) = 4) : m_TK (upd (upd f a 22) (a + 1) x) a0 (a + 2) (1 + m_nb rk (o - 1)) mx := by
  have h1 := h.nle
  have e := m_nb_s (rk := rk) ho
  rw [if_neg h4] at e
  rw [e] at h h1
  refine (h.same (g := upd (upd f a 22) (a + 1) x) (fun j hj => by rw [upd_n (by omega), upd_n (by omega)])).snoc (Or.inr (Or.inr ⟨rfl, ?_, by omega, by omega⟩)) (by omega) (Nat.le_refl _)
  rw [upd_n (by omega), upd_s]
set_option maxHeartbeats 4000000 in
set_option maxRecDepth 100000 in
theorem c_Mo_rank (l : Launch) (dC : Nat → ClassId) (dI : Nat → Nat → Nat) (ar : Nat → ClassId) (N0 : Nat) (z : Nat → Nat) (v : Int32) (sz : Nat) : Met l ({ cls := "ChannelMachineModel", name := "rank", desc := "(I)I" } : Jvm.MethodName) ((Jvm.Cond.code ({ cls := "ChannelMachineModel", name := "rank", desc := "(I)I" } : Jvm.MethodName) prog_12_method_12_code (1 : Nat) (Option.some Jvm.ClassFile.FieldType.int)) :: x_T) ({ frames := 0, cells := 0, slots := 0, locals := 0 }) (x_Pc (dC, dI) ar N0 z [] sz [.int v]) (va_Qi (fun (r : Int32) (u : Unit) => r = x_rank v) (fun u t => va_P (dC, dI) x_cl [] t.heap ∧ va_D (va_A [] sz) []) (va_A [] sz)) 0 0 (va_A [] sz) := by
  refine Met.ofW (cc := prog_12_method_12_code) (maxL := 1) (ret := (some .int)) (by decide) rfl ?_
  intro p e s m args below meth c s₁ B hml hv
  obtain ⟨rfl, hsz, hN0, hP, hU, hZ, hD0⟩ := hv
  have hK := hU.1
  have hx := B.exec
  have hb := B.bytes
  have hr := B.returns
  have hts : ∀ w ∈ x_T, w.before ([.int v] : List Value).toArray s = true := fun w h => atoms_spec (ws := (Jvm.Cond.code ({ cls := "ChannelMachineModel", name := "rank", desc := "(I)I" } : Jvm.MethodName) prog_12_method_12_code (1 : Nat) (Option.some Jvm.ClassFile.FieldType.int)) :: x_T) B.pre w (List.mem_cons_of_mem _ h)
  have hown : s.vm.findClass "ChannelMachineModel" = some m.cls := findClass_of_methodNamed B.named
  have hlocks := B.notSynchronized
  subst hsz
  have hD := hD0.self (sz := s.heap.size)
  have hAN := x_AN hD0 hN0
  generalize hAe : va_A [] s.heap.size = A at hD hAN ⊢
  have hA : ∀ q : Nat, s.heap.size ≤ q → A q := fun q h => by rw [← hAe]; exact Or.inr h
  have hS : va_S A s.heap s.heap [] := va_S.rf
  have hP : va_P (dC, dI) x_cl [] s.heap := hP
  have hl := lv_entry ([.int v]) (n := 1) (Nat.le_of_ble_eq_true rfl)
  rw [lg_entry_eq]
  generalize (lg_sl ([.int v]) ++ List.replicate (1 - (lg_sl ([.int v])).length) Slot.unset).toArray = ls at hl ⊢
  have hl : lv_has ls 1 [(0, .int v)] := hl
  have hH0 : s.heap.size ≤ s.heap.size := Nat.le_refl _
  refine lv_iload_n hx hb d_Mo_rank_0 rfl (lv_at hl 0 rfl) ?_
  refine lv_bipush (v := 60) hx hb d_Mo_rank_1 (by decide) ?_
  refine lv_icmp_eq (tgt := 12) hx hb d_Mo_rank_3 (by decide) (fun c1 => ?_) (fun c1 => ?_)
  · refine lv_iconst (v := 1) hx hb d_Mo_rank_12 (by decide) ?_
    refine lv_goto (tgt := 55) hx hb d_Mo_rank_13 (by decide) ?_
    refine W.widen (k := 0) (n := 0) (Nat.le_of_ble_eq_true rfl) (Nat.le_of_ble_eq_true rfl) ?_
    exact W.iret (v := 1) hx hb hr (fun t ht hW => ⟨⟨1, (), rfl, by simp [x_rank, c1], ⟨by rw [ht]; exact hP, hD⟩⟩, hS.F ht⟩) hS.2.2 d_Mo_rank_55
  · refine lv_iload_n hx hb d_Mo_rank_6 rfl (lv_at hl 0 rfl) ?_
    refine lv_bipush (v := 61) hx hb d_Mo_rank_7 (by decide) ?_
    refine lv_icmp_ne (tgt := 16) hx hb d_Mo_rank_9 (by decide) (fun c2 => ?_) (fun c2 => ?_)
    · refine lv_iload_n hx hb d_Mo_rank_16 rfl (lv_at hl 0 rfl) ?_
      refine lv_bipush (v := 43) hx hb d_Mo_rank_17 (by decide) ?_
      refine lv_icmp_eq (tgt := 28) hx hb d_Mo_rank_19 (by decide) (fun c3 => ?_) (fun c3 => ?_)
      · refine lv_iconst (v := 2) hx hb d_Mo_rank_28 (by decide) ?_
        refine lv_goto (tgt := 55) hx hb d_Mo_rank_29 (by decide) ?_
        refine W.widen (k := 0) (n := 0) (Nat.le_of_ble_eq_true rfl) (Nat.le_of_ble_eq_true rfl) ?_
        exact W.iret (v := 2) hx hb hr (fun t ht hW => ⟨⟨2, (), rfl, by simp [x_rank, c1, c2, c3], ⟨by rw [ht]; exact hP, hD⟩⟩, hS.F ht⟩) hS.2.2 d_Mo_rank_55
      · refine lv_iload_n hx hb d_Mo_rank_22 rfl (lv_at hl 0 rfl) ?_
        refine lv_bipush (v := 45) hx hb d_Mo_rank_23 (by decide) ?_
        refine lv_icmp_ne (tgt := 32) hx hb d_Mo_rank_25 (by decide) (fun c4 => ?_) (fun c4 => ?_)
        · refine lv_iload_n hx hb d_Mo_rank_32 rfl (lv_at hl 0 rfl) ?_
          refine lv_bipush (v := 42) hx hb d_Mo_rank_33 (by decide) ?_
          refine lv_icmp_eq (tgt := 50) hx hb d_Mo_rank_35 (by decide) (fun c5 => ?_) (fun c5 => ?_)
          · refine lv_iconst (v := 3) hx hb d_Mo_rank_50 (by decide) ?_
            refine lv_goto (tgt := 55) hx hb d_Mo_rank_51 (by decide) ?_
            refine W.widen (k := 0) (n := 0) (Nat.le_of_ble_eq_true rfl) (Nat.le_of_ble_eq_true rfl) ?_
            exact W.iret (v := 3) hx hb hr (fun t ht hW => ⟨⟨3, (), rfl, by simp [x_rank, c1, c2, c3, c4, c5], ⟨by rw [ht]; exact hP, hD⟩⟩, hS.F ht⟩) hS.2.2 d_Mo_rank_55
          · refine lv_iload_n hx hb d_Mo_rank_38 rfl (lv_at hl 0 rfl) ?_
            refine lv_bipush (v := 47) hx hb d_Mo_rank_39 (by decide) ?_
            refine lv_icmp_eq (tgt := 50) hx hb d_Mo_rank_41 (by decide) (fun c6 => ?_) (fun c6 => ?_)
            · refine lv_iconst (v := 3) hx hb d_Mo_rank_50 (by decide) ?_
              refine lv_goto (tgt := 55) hx hb d_Mo_rank_51 (by decide) ?_
              refine W.widen (k := 0) (n := 0) (Nat.le_of_ble_eq_true rfl) (Nat.le_of_ble_eq_true rfl) ?_
              exact W.iret (v := 3) hx hb hr (fun t ht hW => ⟨⟨3, (), rfl, by simp [x_rank, c1, c2, c3, c4, c5, c6], ⟨by rw [ht]; exact hP, hD⟩⟩, hS.F ht⟩) hS.2.2 d_Mo_rank_55
            · refine lv_iload_n hx hb d_Mo_rank_44 rfl (lv_at hl 0 rfl) ?_
              refine lv_bipush (v := 37) hx hb d_Mo_rank_45 (by decide) ?_
              refine lv_icmp_ne (tgt := 54) hx hb d_Mo_rank_47 (by decide) (fun c7 => ?_) (fun c7 => ?_)
              · refine lv_iconst (v := 0) hx hb d_Mo_rank_54 (by decide) ?_
                refine W.widen (k := 0) (n := 0) (Nat.le_of_ble_eq_true rfl) (Nat.le_of_ble_eq_true rfl) ?_
                exact W.iret (v := 0) hx hb hr (fun t ht hW => ⟨⟨0, (), rfl, by simp [x_rank, c1, c2, c3, c4, c5, c6, c7], ⟨by rw [ht]; exact hP, hD⟩⟩, hS.F ht⟩) hS.2.2 d_Mo_rank_55
              · refine lv_iconst (v := 3) hx hb d_Mo_rank_50 (by decide) ?_
                refine lv_goto (tgt := 55) hx hb d_Mo_rank_51 (by decide) ?_
                refine W.widen (k := 0) (n := 0) (Nat.le_of_ble_eq_true rfl) (Nat.le_of_ble_eq_true rfl) ?_
                exact W.iret (v := 3) hx hb hr (fun t ht hW => ⟨⟨3, (), rfl, by simp [x_rank, c1, c2, c3, c4, c5, c6, c7], ⟨by rw [ht]; exact hP, hD⟩⟩, hS.F ht⟩) hS.2.2 d_Mo_rank_55
        · refine lv_iconst (v := 2) hx hb d_Mo_rank_28 (by decide) ?_
          refine lv_goto (tgt := 55) hx hb d_Mo_rank_29 (by decide) ?_
          refine W.widen (k := 0) (n := 0) (Nat.le_of_ble_eq_true rfl) (Nat.le_of_ble_eq_true rfl) ?_
          exact W.iret (v := 2) hx hb hr (fun t ht hW => ⟨⟨2, (), rfl, by simp [x_rank, c1, c2, c3, c4], ⟨by rw [ht]; exact hP, hD⟩⟩, hS.F ht⟩) hS.2.2 d_Mo_rank_55
    · refine lv_iconst (v := 1) hx hb d_Mo_rank_12 (by decide) ?_
      refine lv_goto (tgt := 55) hx hb d_Mo_rank_13 (by decide) ?_
      refine W.widen (k := 0) (n := 0) (Nat.le_of_ble_eq_true rfl) (Nat.le_of_ble_eq_true rfl) ?_
      exact W.iret (v := 1) hx hb hr (fun t ht hW => ⟨⟨1, (), rfl, by simp [x_rank, c1, c2], ⟨by rw [ht]; exact hP, hD⟩⟩, hS.F ht⟩) hS.2.2 d_Mo_rank_55
set_option maxHeartbeats 4000000 in
set_option maxRecDepth 100000 in
theorem m_write (l : Launch) (dC : Nat → ClassId) (dI : Nat → Nat → Nat) (ar : Nat → ClassId) (N0 : Nat) (z : Nat → Nat) (h0 : Nat) (ad : Nat → Nat) (I : Nat → Int32) (T : Int64) (A : Nat → Nat → Int32) (U : Nat → Int64) (o a fr a0 mx : Nat) (lst : Int32) (sz : Nat) (h10 : I 10 = Int32.ofNat o) (h7 : I 7 = Int32.ofNat a) (hfo : fr ≤ o) (ho : o ≤ 40) (ha : a + 2 * (o - fr) < 1200) (htk : m_TK (A 2) a0 a (1 + m_nb (A 16) o) mx) : Met l ({ cls := "ChannelMachineModel", name := "write", desc := "(II)V" } : Jvm.MethodName) ((Jvm.Cond.code ({ cls := "ChannelMachineModel", name := "write", desc := "(II)V" } : Jvm.MethodName) prog_12_method_13_code (3 : Nat) (Option.none : Option Jvm.ClassFile.FieldType)) :: x_T) ({ frames := 2, cells := 0, slots := 0, locals := 43 }) (x_Pc (dC, dI) ar N0 z (m_W h0 ad ar I T A U) sz [.ref h0, .int (Int32.ofNat fr), .int lst]) (va_Qv (fun (u : (Nat → Int32) × Int64 × (Nat → Nat → Int32) × (Nat → Int64)) => ∃ o1 a1 : Nat, fr ≤ o1 ∧ o1 ≤ o ∧ u.1 10 = Int32.ofNat o1 ∧ u.1 7 = Int32.ofNat a1 ∧ a ≤ a1 ∧ a1 ≤ a + 2 * (o - o1) ∧ a1 + o1 + m_nb (A 16) o1 = a + o + m_nb (A 16) o ∧ m_fr [7, 10] I u.1 ∧ m_fa [2] A u.2.2.1 ∧ u.2.1 = T ∧ u.2.2.2 = U ∧ (∀ j, j < a → u.2.2.1 2 j = A 2 j) ∧ m_TK (u.2.2.1 2) a0 a1 (1 + m_nb (A 16) o1) mx ∧ (o1 = fr ∨ A 16 (o1 - 1) < lst)) (fun u t => va_P (dC, dI) x_cl (m_W h0 ad ar u.1 u.2.1 u.2.2.1 u.2.2.2) t.heap) (va_A (m_W h0 ad ar I T A U) sz)) 0 0 (va_A (m_W h0 ad ar I T A U) sz) := by
  refine Met.ofW (cc := prog_12_method_13_code) (maxL := 3) (ret := none) (by decide) rfl ?_
  intro p e s m args below meth c s₁ B hml hv
  obtain ⟨rfl, hsz, hN0, hP, hU, hZ, hD0⟩ := hv
  have hK := hU.1
  have hx := B.exec
  have hb := B.bytes
  have hr := B.returns
  have hts : ∀ w ∈ x_T, w.before ([.ref h0, .int (Int32.ofNat fr), .int lst] : List Value).toArray s = true := fun w h => atoms_spec (ws := (Jvm.Cond.code ({ cls := "ChannelMachineModel", name := "write", desc := "(II)V" } : Jvm.MethodName) prog_12_method_13_code (3 : Nat) (Option.none : Option Jvm.ClassFile.FieldType)) :: x_T) B.pre w (List.mem_cons_of_mem _ h)
  have hown : s.vm.findClass "ChannelMachineModel" = some m.cls := findClass_of_methodNamed B.named
  have hlocks := B.notSynchronized
  subst hsz
  have hD := hD0.self (sz := s.heap.size)
  have hAN := x_AN hD0 hN0
  generalize hAe : va_A (m_W h0 ad ar I T A U) s.heap.size = Bq at hD hAN ⊢
  have hA : ∀ q : Nat, s.heap.size ≤ q → Bq q := fun q h => by rw [← hAe]; exact Or.inr h
  have hS : va_S Bq s.heap s.heap [] := va_S.rf
  have hl := lv_entry ([.ref h0, .int (Int32.ofNat fr), .int lst]) (n := 3) (Nat.le_of_ble_eq_true rfl)
  rw [lg_entry_eq]
  generalize (lg_sl ([.ref h0, .int (Int32.ofNat fr), .int lst]) ++ List.replicate (3 - (lg_sl ([.ref h0, .int (Int32.ofNat fr), .int lst])).length) Slot.unset).toArray = ls at hl ⊢
  have hl : lv_has ls 3 [(0, .ref h0), (1, .int (Int32.ofNat fr)), (2, .int lst)] := hl
  refine x_while (fun n H locs ls => ∃ (I1 : Nat → Int32) (A1 : Nat → Nat → Int32) (o1 a1 : Nat), n = o1 ∧ fr ≤ o1 ∧ o1 ≤ o ∧ I1 10 = Int32.ofNat o1 ∧ I1 7 = Int32.ofNat a1 ∧ a ≤ a1 ∧ a1 ≤ a + 2 * (o - o1) ∧ a1 + o1 + m_nb (A 16) o1 = a + o + m_nb (A 16) o ∧ m_fr [7, 10] I I1 ∧ m_fa [2] A A1 ∧ (∀ j, j < a → A1 2 j = A 2 j) ∧ m_TK (A1 2) a0 a1 (1 + m_nb (A 16) o1) mx ∧ va_P (dC, dI) x_cl (m_W h0 ad ar I1 T A1 U) H ∧ va_D Bq (m_W h0 ad ar I1 T A1 U) ∧ va_S Bq s.heap H locs ∧ lv_has ls 3 [(0, .ref h0), (1, .int (Int32.ofNat fr)), (2, .int lst)]) (fun n ih H locs ls h9 => ?_) ⟨I, A, o, a, rfl, hfo, Nat.le_refl _, h10, h7, Nat.le_refl _, by omega, rfl, m_fr.rf, m_fa.rf, fun _ _ => rfl, htk, hP, hD, hS, hl⟩
  obtain ⟨I1, A1, o1, a1, hn9, q1, q2, h10', h7', q3, q4, q5, hfr, hfa, hlow, htk1, hP, hD, hS, hl⟩ := h9
  have e16 : A1 16 = A 16 := hfa 16 (by decide)
  refine lv_aload_n hx hb d_Mo_write_0 rfl (lv_at hl 0 rfl) ?_
  refine m_g hx hb hts hown hK hP 10 (by decide) rfl (hts _ k_977) (v := .int (Int32.ofNat o1)) (congrArg Value.int h10') d_Mo_write_1 ?_
  refine lv_iload_n hx hb d_Mo_write_4 rfl (lv_at hl 1 rfl) ?_
  refine lv_icmp_le (tgt := 73) hx hb d_Mo_write_5 (by decide) (fun c1 => ?_) (fun c1 => ?_)
  · have c1 : o1 ≤ fr := (x_leN (a := o1) (b := fr) (by omega) (by omega)).mp c1
    refine W.widen (k := 0) (n := 0) (Nat.le_of_ble_eq_true rfl) (Nat.le_of_ble_eq_true rfl) ?_
    exact W.vret hx hb hr (fun t ht hW => ⟨⟨(I1, T, A1, U), rfl, ⟨o1, a1, q1, q2, h10', h7', q3, q4, q5, hfr, hfa, rfl, rfl, hlow, htk1, Or.inl (by omega)⟩, by dsimp only; rw [ht]; exact hP⟩, hS.F ht⟩) hS.2.2 d_Mo_write_73
  · have c1 : ¬ o1 ≤ fr := fun h9 => c1 ((x_leN (a := o1) (b := fr) (by omega) (by omega)).mpr h9)
    refine lv_aload_n hx hb d_Mo_write_8 rfl (lv_at hl 0 rfl) ?_
    refine m_g hx hb hts hown hK hP 16 (by decide) rfl (hts _ k_983) (v := .ref (ad 16)) rfl d_Mo_write_9 ?_
    refine lv_aload_n hx hb d_Mo_write_12 rfl (lv_at hl 0 rfl) ?_
    refine m_g hx hb hts hown hK hP 10 (by decide) rfl (hts _ k_977) (v := .int (Int32.ofNat o1)) (congrArg Value.int h10') d_Mo_write_13 ?_
    refine lv_iconst (v := 1) hx hb d_Mo_write_16 (by decide) ?_
    refine lv_isub hx hb d_Mo_write_17 ?_
    refine W.eq (g2 := F0 m 18 ls [.int (Int32.ofNat (o1 - 1)), .ref (ad 16)]) (by rw [← x_subN (a := o1) (b := 1) (by omega)] <;> rfl) ?_
    refine m_ld hx hb hK hP 9 rfl (by decide) (j := (Int32.ofNat (o1 - 1))) (x_inN (by omega) (by decide)) d_Mo_write_18 ?_
    refine W.eq (g2 := F0 m 19 ls [.int (A1 16 ((o1 - 1)))]) (by rw [x_nat (a := (o1 - 1)) (by omega)]) ?_
    refine lv_iload_n hx hb d_Mo_write_19 rfl (lv_at hl 2 rfl) ?_
    refine lv_icmp_lt (tgt := 73) hx hb d_Mo_write_20 (by decide) (fun c2 => ?_) (fun c2 => ?_)
    · refine W.widen (k := 0) (n := 0) (Nat.le_of_ble_eq_true rfl) (Nat.le_of_ble_eq_true rfl) ?_
      exact W.vret hx hb hr (fun t ht hW => ⟨⟨(I1, T, A1, U), rfl, ⟨o1, a1, q1, q2, h10', h7', q3, q4, q5, hfr, hfa, rfl, rfl, hlow, htk1, Or.inr (by rw [← e16]; exact c2)⟩, by dsimp only; rw [ht]; exact hP⟩, hS.F ht⟩) hS.2.2 d_Mo_write_73
    · refine lv_aload_n hx hb d_Mo_write_23 rfl (lv_at hl 0 rfl) ?_
      refine lv_dup hx hb d_Mo_write_24 rfl ?_
      refine m_g hx hb hts hown hK hP 10 (by decide) rfl (hts _ k_977) (v := .int (Int32.ofNat o1)) (congrArg Value.int h10') d_Mo_write_25 ?_
      refine lv_iconst (v := 1) hx hb d_Mo_write_28 (by decide) ?_
      refine lv_isub hx hb d_Mo_write_29 ?_
      refine W.eq (g2 := F0 m 30 ls [.int (Int32.ofNat (o1 - 1)), .ref h0]) (by rw [← x_subN (a := o1) (b := 1) (by omega)] <;> rfl) ?_
      refine m_p hx hb hts hown hK hP hD hS 10 (by decide) rfl (hts _ k_977) rfl (by decide +kernel) rfl (by decide) (x := (Int32.ofNat (o1 - 1))) d_Mo_write_30 (fun H locs hP hD hS => ?_)
      refine lv_aload_n hx hb d_Mo_write_33 rfl (lv_at hl 0 rfl) ?_
      refine m_g hx hb hts hown hK hP 16 (by decide) rfl (hts _ k_983) (v := .ref (ad 16)) rfl d_Mo_write_34 ?_
      refine lv_aload_n hx hb d_Mo_write_37 rfl (lv_at hl 0 rfl) ?_
      refine m_g hx hb hts hown hK hP 10 (by decide) rfl (hts _ k_977) (v := .int (Int32.ofNat (o1 - 1))) rfl d_Mo_write_38 ?_
      refine m_ld hx hb hK hP 9 rfl (by decide) (j := (Int32.ofNat (o1 - 1))) (x_inN (by omega) (by decide)) d_Mo_write_41 ?_
      refine W.eq (g2 := F0 m 42 ls [.int (A1 16 ((o1 - 1)))]) (by rw [x_nat (a := (o1 - 1)) (by omega)]) ?_
      refine lv_iconst (v := 4) hx hb d_Mo_write_42 (by decide) ?_
      refine lv_icmp_ne (tgt := 55) hx hb d_Mo_write_43 (by decide) (fun c3 => ?_) (fun c3 => ?_)
      · refine lv_aload_n hx hb d_Mo_write_55 rfl (lv_at hl 0 rfl) ?_
        refine lv_bipush (v := 22) hx hb d_Mo_write_56 (by decide) ?_
        refine lv_aload_n hx hb d_Mo_write_58 rfl (lv_at hl 0 rfl) ?_
        refine m_g hx hb hts hown hK hP 15 (by decide) rfl (hts _ k_982) (v := .ref (ad 15)) rfl d_Mo_write_59 ?_
        refine lv_aload_n hx hb d_Mo_write_62 rfl (lv_at hl 0 rfl) ?_
        refine m_g hx hb hts hown hK hP 10 (by decide) rfl (hts _ k_977) (v := .int (Int32.ofNat (o1 - 1))) rfl d_Mo_write_63 ?_
        refine m_ld hx hb hK hP 8 rfl (by decide) (j := (Int32.ofNat (o1 - 1))) (x_inN (by omega) (by decide)) d_Mo_write_66 ?_
        refine W.eq (g2 := F0 m 67 ls [.int (A1 15 ((o1 - 1))), .int 22, .ref h0]) (by rw [x_nat (a := (o1 - 1)) (by omega)]) ?_
        have hFc := m_free hD hS hA
        refine va_callv (va_runV (As := [.int 22, .int (A1 15 ((o1 - 1)))]) (rest := []) ⟨hx, hb, hml, hown, hts⟩ (m_emit2 l dC dI ar N0 z h0 ad (upd I1 10 (Int32.ofNat (o1 - 1))) T A1 U a1 (22) ((A1 15 ((o1 - 1)))) H.size h7' (by omega)) (cwV 2 hts (x_goodV k_1152 k_1154 kp_56 k_9 k_1155) rfl rfl rfl (by decide +kernel) ⟨Nat.le_of_ble_eq_true rfl, Nat.le_of_ble_eq_true rfl⟩) ⟨x_blind, va_recv hK hP (ci := 6) (q0 := 0) rfl rfl, fun U9 hU9 hW9 => x_pre hU9 hW9 hP hD hU hZ hS hAN hN0⟩ rfl rfl hl.1 rfl (lv_room (Nat.le_of_ble_eq_true rfl)) d_Mo_write_67 ⟨Nat.le_of_ble_eq_true rfl, Nat.le_of_ble_eq_true rfl⟩) hS (fun q _ h => hFc q h) hFc (fun u t H1 locs ht hvm hw hB hz1 hk1 hS => ?_)
        obtain ⟨I5, T5, A5, U5⟩ := u
        dsimp only at hw hB
        rw [ht] at hB
        have hP : va_P (dC, dI) x_cl (m_W h0 ad ar I5 T5 A5 U5) H1 := hB
        have hD : va_D Bq (m_W h0 ad ar I5 T5 A5 U5) := m_D hD
        generalize H1 = H at hP hS ⊢
        refine W.widen (k := 0) (n := 0) (Nat.le_of_ble_eq_true rfl) (Nat.le_of_ble_eq_true rfl) ?_
        cases hw
        refine lv_goto (tgt := 0) hx hb d_Mo_write_70 (by decide) ?_
        exact ih (o1 - 1) (by omega) H locs ls ⟨(upd (upd I1 10 (Int32.ofNat (o1 - 1))) 7 (Int32.ofNat (a1 + 2))), (m_up A1 2 (upd (upd (A1 2) a1 22) (a1 + 1) (A1 15 ((o1 - 1))))), o1 - 1, a1 + 2, rfl, by omega, by omega, rfl, rfl, by omega, by omega, by have e9 := m_nb_s (rk := A 16) (o := o1) (by omega); rw [if_neg (by rw [← e16]; exact c3)] at e9; omega, ((hfr.up (by decide) _).up (by decide) _), hfa.up (by decide) _, fun j hj => by rw [m_up_s, upd_n (by omega), upd_n (by omega)]; exact hlow j hj, by rw [m_up_s]; exact m_w2 htk1 (by omega) (by rw [← e16]; exact c3), hP, hD, hS, lv_sub hl [0, 1, 2] rfl⟩
      · refine lv_aload_n hx hb d_Mo_write_46 rfl (lv_at hl 0 rfl) ?_
        refine lv_bipush (v := 23) hx hb d_Mo_write_47 (by decide) ?_
        have hFc := m_free hD hS hA
        refine va_callv (va_runV (As := [.int 23]) (rest := []) ⟨hx, hb, hml, hown, hts⟩ (m_emit l dC dI ar N0 z h0 ad (upd I1 10 (Int32.ofNat (o1 - 1))) T A1 U a1 (23) H.size h7' (by omega)) (cwV 1 hts (x_goodV k_1148 k_1150 kp_55 k_9 k_1151) rfl rfl rfl (by decide +kernel) ⟨Nat.le_of_ble_eq_true rfl, Nat.le_of_ble_eq_true rfl⟩) ⟨x_blind, va_recv hK hP (ci := 6) (q0 := 0) rfl rfl, fun U9 hU9 hW9 => x_pre hU9 hW9 hP hD hU hZ hS hAN hN0⟩ rfl rfl hl.1 rfl (lv_room (Nat.le_of_ble_eq_true rfl)) d_Mo_write_49 ⟨Nat.le_of_ble_eq_true rfl, Nat.le_of_ble_eq_true rfl⟩) hS (fun q _ h => hFc q h) hFc (fun u t H1 locs ht hvm hw hB hz1 hk1 hS => ?_)
        obtain ⟨I7, T7, A7, U7⟩ := u
        dsimp only at hw hB
        rw [ht] at hB
        have hP : va_P (dC, dI) x_cl (m_W h0 ad ar I7 T7 A7 U7) H1 := hB
        have hD : va_D Bq (m_W h0 ad ar I7 T7 A7 U7) := m_D hD
        generalize H1 = H at hP hS ⊢
        refine W.widen (k := 0) (n := 0) (Nat.le_of_ble_eq_true rfl) (Nat.le_of_ble_eq_true rfl) ?_
        cases hw
        refine lv_goto (tgt := 0) hx hb d_Mo_write_52 (by decide) ?_
        exact ih (o1 - 1) (by omega) H locs ls ⟨(upd (upd I1 10 (Int32.ofNat (o1 - 1))) 7 (Int32.ofNat (a1 + 1))), (m_up A1 2 (upd (A1 2) a1 23)), o1 - 1, a1 + 1, rfl, by omega, by omega, rfl, rfl, by omega, by omega, by have e9 := m_nb_s (rk := A 16) (o := o1) (by omega); rw [if_pos (by rw [← e16]; exact c3)] at e9; omega, ((hfr.up (by decide) _).up (by decide) _), hfa.up (by decide) _, fun j hj => by rw [m_up_s, upd_n (by omega)]; exact hlow j hj, by rw [m_up_s]; exact m_w1 htk1 (by omega) (by rw [← e16]; exact c3), hP, hD, hS, lv_sub hl [0, 1, 2] rfl⟩
