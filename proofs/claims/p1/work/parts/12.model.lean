-- ===== 12.model: more of the reference, by program =====
theorem k_999 : (Jvm.Cond.fieldLink "ChannelMachineModel" (192 : Nat) "ChannelMachineModel" "acts" "I") ∈ x_T := x_at 999 (by decide +kernel) (by decide +kernel)
theorem k_1001 : (Jvm.Cond.fieldLink "ChannelMachineModel" (204 : Nat) "ChannelMachineModel" "time" "J") ∈ x_T := x_at 1001 (by decide +kernel) (by decide +kernel)
theorem k_1009 : (Jvm.Cond.fieldLink "ChannelMachineModel" (198 : Nat) "ChannelMachineModel" "given" "I") ∈ x_T := x_at 1009 (by decide +kernel) (by decide +kernel)
theorem d_Mo_count_0 : decode prog_12_method_48_code 0 = .ok (.aload_n 0, 1) := by decide +kernel
theorem d_Mo_count_1 : decode prog_12_method_48_code 1 = .ok (.iconst 0, 1) := by decide +kernel
theorem d_Mo_count_2 : decode prog_12_method_48_code 2 = .ok (.putfield 103, 3) := by decide +kernel
theorem d_Mo_count_5 : decode prog_12_method_48_code 5 = .ok (.iconst 0, 1) := by decide +kernel
theorem d_Mo_count_6 : decode prog_12_method_48_code 6 = .ok (.istore_n 2, 1) := by decide +kernel
theorem d_Mo_count_7 : decode prog_12_method_48_code 7 = .ok (.iconst 0, 1) := by decide +kernel
theorem d_Mo_count_8 : decode prog_12_method_48_code 8 = .ok (.istore_n 3, 1) := by decide +kernel
theorem d_Mo_count_9 : decode prog_12_method_48_code 9 = .ok (.iconst 0, 1) := by decide +kernel
theorem d_Mo_count_10 : decode prog_12_method_48_code 10 = .ok (.istore 4, 2) := by decide +kernel
theorem d_Mo_count_12 : decode prog_12_method_48_code 12 = .ok (.iload 4, 2) := by decide +kernel
theorem d_Mo_count_14 : decode prog_12_method_48_code 14 = .ok (.bipush 90, 2) := by decide +kernel
theorem d_Mo_count_16 : decode prog_12_method_48_code 16 = .ok (.if_icmp .ge 53, 3) := by decide +kernel
theorem d_Mo_count_19 : decode prog_12_method_48_code 19 = .ok (.aload_n 0, 1) := by decide +kernel
theorem d_Mo_count_20 : decode prog_12_method_48_code 20 = .ok (.getfield 208, 3) := by decide +kernel
theorem d_Mo_count_23 : decode prog_12_method_48_code 23 = .ok (.iconst 1, 1) := by decide +kernel
theorem d_Mo_count_24 : decode prog_12_method_48_code 24 = .ok (.if_icmp .ne 45, 3) := by decide +kernel
theorem d_Mo_count_27 : decode prog_12_method_48_code 27 = .ok (.aload_n 0, 1) := by decide +kernel
theorem d_Mo_count_28 : decode prog_12_method_48_code 28 = .ok (.getfield 73, 3) := by decide +kernel
theorem d_Mo_count_31 : decode prog_12_method_48_code 31 = .ok (.iload 4, 2) := by decide +kernel
theorem d_Mo_count_33 : decode prog_12_method_48_code 33 = .ok (.baload, 1) := by decide +kernel
theorem d_Mo_count_34 : decode prog_12_method_48_code 34 = .ok (.ifCond .eq 6, 3) := by decide +kernel
theorem d_Mo_count_37 : decode prog_12_method_48_code 37 = .ok (.iinc 2 1, 3) := by decide +kernel
theorem d_Mo_count_40 : decode prog_12_method_48_code 40 = .ok (.aload_n 0, 1) := by decide +kernel
theorem d_Mo_count_41 : decode prog_12_method_48_code 41 = .ok (.getfield 73, 3) := by decide +kernel
theorem d_Mo_count_44 : decode prog_12_method_48_code 44 = .ok (.iload 4, 2) := by decide +kernel
theorem d_Mo_count_46 : decode prog_12_method_48_code 46 = .ok (.baload, 1) := by decide +kernel
theorem d_Mo_count_47 : decode prog_12_method_48_code 47 = .ok (.ifCond .eq 16, 3) := by decide +kernel
theorem d_Mo_count_50 : decode prog_12_method_48_code 50 = .ok (.aload_n 0, 1) := by decide +kernel
theorem d_Mo_count_51 : decode prog_12_method_48_code 51 = .ok (.getfield 76, 3) := by decide +kernel
theorem d_Mo_count_54 : decode prog_12_method_48_code 54 = .ok (.iload 4, 2) := by decide +kernel
theorem d_Mo_count_56 : decode prog_12_method_48_code 56 = .ok (.baload, 1) := by decide +kernel
theorem d_Mo_count_57 : decode prog_12_method_48_code 57 = .ok (.ifCond .eq 6, 3) := by decide +kernel
theorem d_Mo_count_60 : decode prog_12_method_48_code 60 = .ok (.iinc 3 1, 3) := by decide +kernel
theorem d_Mo_count_63 : decode prog_12_method_48_code 63 = .ok (.iinc 4 1, 3) := by decide +kernel
theorem d_Mo_count_66 : decode prog_12_method_48_code 66 = .ok (.goto (-54), 3) := by decide +kernel
theorem d_Mo_count_69 : decode prog_12_method_48_code 69 = .ok (.iload_n 1, 1) := by decide +kernel
theorem d_Mo_count_70 : decode prog_12_method_48_code 70 = .ok (.tableswitch 115 0 8 #[50, 55, 61, 91, 93, 98, 103, 108, 113], 50) := by decide +kernel
theorem d_Mo_count_120 : decode prog_12_method_48_code 120 = .ok (.aload_n 0, 1) := by decide +kernel
theorem d_Mo_count_121 : decode prog_12_method_48_code 121 = .ok (.getfield 22, 3) := by decide +kernel
theorem d_Mo_count_124 : decode prog_12_method_48_code 124 = .ok (.ireturn, 1) := by decide +kernel
theorem d_Mo_count_125 : decode prog_12_method_48_code 125 = .ok (.aload_n 0, 1) := by decide +kernel
theorem d_Mo_count_126 : decode prog_12_method_48_code 126 = .ok (.getfield 204, 3) := by decide +kernel
theorem d_Mo_count_129 : decode prog_12_method_48_code 129 = .ok (.l2i, 1) := by decide +kernel
theorem d_Mo_count_130 : decode prog_12_method_48_code 130 = .ok (.ireturn, 1) := by decide +kernel
theorem d_Mo_count_131 : decode prog_12_method_48_code 131 = .ok (.aload_n 0, 1) := by decide +kernel
theorem d_Mo_count_132 : decode prog_12_method_48_code 132 = .ok (.getfield 208, 3) := by decide +kernel
theorem d_Mo_count_135 : decode prog_12_method_48_code 135 = .ok (.iconst 1, 1) := by decide +kernel
theorem d_Mo_count_136 : decode prog_12_method_48_code 136 = .ok (.if_icmp .ne 23, 3) := by decide +kernel
theorem d_Mo_count_139 : decode prog_12_method_48_code 139 = .ok (.aload_n 0, 1) := by decide +kernel
theorem d_Mo_count_140 : decode prog_12_method_48_code 140 = .ok (.getfield 201, 3) := by decide +kernel
theorem d_Mo_count_143 : decode prog_12_method_48_code 143 = .ok (.aload_n 0, 1) := by decide +kernel
theorem d_Mo_count_144 : decode prog_12_method_48_code 144 = .ok (.getfield 79, 3) := by decide +kernel
theorem d_Mo_count_147 : decode prog_12_method_48_code 147 = .ok (.ifCond .lt 7, 3) := by decide +kernel
theorem d_Mo_count_150 : decode prog_12_method_48_code 150 = .ok (.iconst 1, 1) := by decide +kernel
theorem d_Mo_count_151 : decode prog_12_method_48_code 151 = .ok (.goto 4, 3) := by decide +kernel
theorem d_Mo_count_154 : decode prog_12_method_48_code 154 = .ok (.iconst 0, 1) := by decide +kernel
theorem d_Mo_count_155 : decode prog_12_method_48_code 155 = .ok (.iadd, 1) := by decide +kernel
theorem d_Mo_count_156 : decode prog_12_method_48_code 156 = .ok (.goto 4, 3) := by decide +kernel
theorem d_Mo_count_159 : decode prog_12_method_48_code 159 = .ok (.iconst 0, 1) := by decide +kernel
theorem d_Mo_count_160 : decode prog_12_method_48_code 160 = .ok (.ireturn, 1) := by decide +kernel
theorem d_Mo_count_161 : decode prog_12_method_48_code 161 = .ok (.iload_n 2, 1) := by decide +kernel
theorem d_Mo_count_162 : decode prog_12_method_48_code 162 = .ok (.ireturn, 1) := by decide +kernel
theorem d_Mo_count_163 : decode prog_12_method_48_code 163 = .ok (.aload_n 0, 1) := by decide +kernel
theorem d_Mo_count_164 : decode prog_12_method_48_code 164 = .ok (.getfield 192, 3) := by decide +kernel
theorem d_Mo_count_167 : decode prog_12_method_48_code 167 = .ok (.ireturn, 1) := by decide +kernel
theorem d_Mo_count_168 : decode prog_12_method_48_code 168 = .ok (.aload_n 0, 1) := by decide +kernel
theorem d_Mo_count_169 : decode prog_12_method_48_code 169 = .ok (.getfield 198, 3) := by decide +kernel
theorem d_Mo_count_172 : decode prog_12_method_48_code 172 = .ok (.ireturn, 1) := by decide +kernel
theorem d_Mo_count_173 : decode prog_12_method_48_code 173 = .ok (.aload_n 0, 1) := by decide +kernel
theorem d_Mo_count_174 : decode prog_12_method_48_code 174 = .ok (.getfield 195, 3) := by decide +kernel
theorem d_Mo_count_177 : decode prog_12_method_48_code 177 = .ok (.ireturn, 1) := by decide +kernel
theorem d_Mo_count_178 : decode prog_12_method_48_code 178 = .ok (.aload_n 0, 1) := by decide +kernel
theorem d_Mo_count_179 : decode prog_12_method_48_code 179 = .ok (.getfield 208, 3) := by decide +kernel
theorem d_Mo_count_182 : decode prog_12_method_48_code 182 = .ok (.ireturn, 1) := by decide +kernel
theorem d_Mo_count_183 : decode prog_12_method_48_code 183 = .ok (.iload_n 3, 1) := by decide +kernel
theorem d_Mo_count_184 : decode prog_12_method_48_code 184 = .ok (.ireturn, 1) := by decide +kernel
theorem d_Mo_count_185 : decode prog_12_method_48_code 185 = .ok (.iconst (-1), 1) := by decide +kernel
theorem d_Mo_count_186 : decode prog_12_method_48_code 186 = .ok (.ireturn, 1) := by decide +kernel
set_option maxHeartbeats 4000000 in
set_option maxRecDepth 100000 in
theorem c_Mo_count (l : Launch) (dC : Nat → ClassId) (dI : Nat → Nat → Nat) (ar : Nat → ClassId) (N0 : Nat) (z : Nat → Nat) (h0 : Nat) (fs : List Value) (v : Int32) (sz : Nat) (hfs : fs.length = 45) (g_place : fs[5]? = some (.int (-1))) (g_status : fs[9]? = some (.int 0)) (g_acts : fs[32]? = some (.int 0)) (g_time : fs[34]? = some (.long 0)) (g_given : fs[42]? = some (.int 0)) (g_boxed : fs[43]? = some (.int 0)) : Met l ({ cls := "ChannelMachineModel", name := "count", desc := "(I)I" } : Jvm.MethodName) ((Jvm.Cond.code ({ cls := "ChannelMachineModel", name := "count", desc := "(I)I" } : Jvm.MethodName) prog_12_method_48_code (5 : Nat) (Option.some Jvm.ClassFile.FieldType.int)) :: x_T) ({ frames := 0, cells := 0, slots := 0, locals := 0 }) (x_Pc (dC, dI) ar N0 z [(h0, .inr (6, fs))] sz [.ref h0, .int v]) (va_Qi (fun (r : Int32) (u : Int32) => r = x_cnt v) (fun u t => ∃ fz : List Value, va_P (dC, dI) x_cl [(h0, .inr (6, fz))] t.heap ∧ va_D (va_A [(h0, .inr (6, fs))] sz) [(h0, .inr (6, fz))] ∧ fz[33]? = some (.int u)) (va_A [(h0, .inr (6, fs))] sz)) 0 0 (va_A [(h0, .inr (6, fs))] sz) := by
  refine Met.ofW (cc := prog_12_method_48_code) (maxL := 5) (ret := (some .int)) (by decide) rfl ?_
  intro p e s m args below meth c s₁ B hml hv
  obtain ⟨rfl, hsz, hN0, hP, hU, hZ, hD0⟩ := hv
  have hK := hU.1
  have hx := B.exec
  have hb := B.bytes
  have hr := B.returns
  have hts : ∀ w ∈ x_T, w.before ([.ref h0, .int v] : List Value).toArray s = true := fun w h => atoms_spec (ws := (Jvm.Cond.code ({ cls := "ChannelMachineModel", name := "count", desc := "(I)I" } : Jvm.MethodName) prog_12_method_48_code (5 : Nat) (Option.some Jvm.ClassFile.FieldType.int)) :: x_T) B.pre w (List.mem_cons_of_mem _ h)
  have hown : s.vm.findClass "ChannelMachineModel" = some m.cls := findClass_of_methodNamed B.named
  have hlocks := B.notSynchronized
  subst hsz
  have hD := hD0.self (sz := s.heap.size)
  have hAN := x_AN hD0 hN0
  generalize hAe : va_A [(h0, .inr (6, fs))] s.heap.size = A at hD hAN ⊢
  have hA : ∀ q : Nat, s.heap.size ≤ q → A q := fun q h => by rw [← hAe]; exact Or.inr h
  have hS : va_S A s.heap s.heap [] := va_S.rf
  have hP : va_P (dC, dI) x_cl [(h0, .inr (6, fs))] s.heap := hP
  have hl := lv_entry ([.ref h0, .int v]) (n := 5) (Nat.le_of_ble_eq_true rfl)
  rw [lg_entry_eq]
  generalize (lg_sl ([.ref h0, .int v]) ++ List.replicate (5 - (lg_sl ([.ref h0, .int v])).length) Slot.unset).toArray = ls at hl ⊢
  have hl : lv_has ls 5 [(0, .ref h0), (1, .int v)] := hl
  have hH0 : s.heap.size ≤ s.heap.size := Nat.le_refl _
  refine lv_aload_n hx hb d_Mo_count_0 rfl (lv_at hl 0 rfl) ?_
  refine lv_iconst (v := 0) hx hb d_Mo_count_1 (by decide) ?_
  refine va_put (D := (dC, dI)) (ci := 6) (v := .int 0) (ty := .int) (C := "ChannelMachineModel") (T := F_Mo) (N := 45) hx hb hts i_Mo t_Mo t_Mo_ok n_Mo hown hK hP hD hS 0 rfl rfl 33 (by decide) (hts _ k_1000) (fun _ h9 => h9) rfl (by decide +kernel) rfl rfl (by first | omega | (simp; omega)) d_Mo_count_2 (fun H locs hP hD hS => ?_)
  have hP : va_P (dC, dI) x_cl [(h0, .inr (6, (fs.set 33 (.int 0))))] H := hP
  have hD : va_D A [(h0, .inr (6, (fs.set 33 (.int 0))))] := hD
  refine lv_iconst (v := 0) hx hb d_Mo_count_5 (by decide) ?_
  refine lv_istore_n (lv' := [(2, .int 0), (0, .ref h0), (1, .int v)]) hx hb d_Mo_count_6 rfl hl (by decide) rfl (fun ls hl => ?_)
  refine lv_iconst (v := 0) hx hb d_Mo_count_7 (by decide) ?_
  refine lv_istore_n (lv' := [(3, .int 0), (2, .int 0), (0, .ref h0), (1, .int v)]) hx hb d_Mo_count_8 rfl hl (by decide) rfl (fun ls hl => ?_)
  refine lv_iconst (v := 0) hx hb d_Mo_count_9 (by decide) ?_
  refine lv_istore (lv' := [(4, .int 0), (3, .int 0), (2, .int 0), (0, .ref h0), (1, .int v)]) hx hb d_Mo_count_10 hl (by decide) rfl (fun ls hl => ?_)
  refine lv_iload hx hb d_Mo_count_12 (lv_at hl 0 rfl) ?_
  refine lv_bipush (v := 90) hx hb d_Mo_count_14 (by decide) ?_
  refine lv_icmp_ge (tgt := 69) hx hb d_Mo_count_16 (by decide) (fun c1 => absurd c1 (by decide)) (fun _ => ?_)
  refine lv_aload_n hx hb d_Mo_count_19 rfl (lv_at hl 3 rfl) ?_
  refine va_get (D := (dC, dI)) (ci := 6) (v := .int 0) (C := "ChannelMachineModel") (T := F_Mo) (N := 45) hx hb hts i_Mo hown hK hP 0 rfl rfl 9 (by decide) (hts _ k_976) (fun _ h9 => h9) (x_gs (by decide) g_status) d_Mo_count_20 ?_
  refine lv_iconst (v := 1) hx hb d_Mo_count_23 (by decide) ?_
  refine lv_icmp_ne (tgt := 69) hx hb d_Mo_count_24 (by decide) (fun _ => ?_) (fun c2 => absurd c2 (by decide))
  refine lv_iload_n hx hb d_Mo_count_69 rfl (lv_at hl 4 rfl) ?_
  rcases x_9 v with h9 | rfl | rfl | rfl | rfl | rfl | rfl | rfl | rfl | rfl
  · refine lv_tableOut (tgt := 185) hx hb d_Mo_count_70 h9 (by decide) ?_
    refine lv_iconst (v := (-1)) hx hb d_Mo_count_185 (by decide) ?_
    refine W.widen (k := 0) (n := 0) (Nat.le_of_ble_eq_true rfl) (Nat.le_of_ble_eq_true rfl) ?_
    exact W.iret (v := (-1)) hx hb hr (fun t ht hW => ⟨⟨(-1), 0, rfl, x_cnt_out h9, ⟨(fs.set 33 (.int 0)), by rw [ht]; exact hP.sub (ws' := [(h0, .inr (6, (fs.set 33 (.int 0))))]) [0] rfl, hD.sub (ws' := [(h0, .inr (6, (fs.set 33 (.int 0))))]) [0] (by decide) rfl, (x_ge (by first | omega | (simp; omega)))⟩⟩, hS.F ht⟩) hS.2.2 d_Mo_count_186
  · refine lv_tableIn (tgt := 120) hx hb d_Mo_count_70 (by decide) (by decide) (off := 50) rfl (by decide) ?_
    refine lv_aload_n hx hb d_Mo_count_120 rfl (lv_at hl 3 rfl) ?_
    refine va_get (D := (dC, dI)) (ci := 6) (v := .int (-1)) (C := "ChannelMachineModel") (T := F_Mo) (N := 45) hx hb hts i_Mo hown hK hP 0 rfl rfl 5 (by decide) (hts _ k_972) (fun _ h9 => h9) (x_gs (by decide) g_place) d_Mo_count_121 ?_
    refine W.widen (k := 0) (n := 0) (Nat.le_of_ble_eq_true rfl) (Nat.le_of_ble_eq_true rfl) ?_
    exact W.iret (v := (-1)) hx hb hr (fun t ht hW => ⟨⟨(-1), 0, rfl, by decide, ⟨(fs.set 33 (.int 0)), by rw [ht]; exact hP.sub (ws' := [(h0, .inr (6, (fs.set 33 (.int 0))))]) [0] rfl, hD.sub (ws' := [(h0, .inr (6, (fs.set 33 (.int 0))))]) [0] (by decide) rfl, (x_ge (by first | omega | (simp; omega)))⟩⟩, hS.F ht⟩) hS.2.2 d_Mo_count_124
  · refine lv_tableIn (tgt := 125) hx hb d_Mo_count_70 (by decide) (by decide) (off := 55) rfl (by decide) ?_
    refine lv_aload_n hx hb d_Mo_count_125 rfl (lv_at hl 3 rfl) ?_
    refine va_get (D := (dC, dI)) (ci := 6) (v := .long 0) (C := "ChannelMachineModel") (T := F_Mo) (N := 45) hx hb hts i_Mo hown hK hP 0 rfl rfl 34 (by decide) (hts _ k_1001) (fun _ h9 => h9) (x_gs (by decide) g_time) d_Mo_count_126 ?_
    refine lv_l2i (v := 0) hx hb d_Mo_count_129 (by decide) ?_
    refine W.widen (k := 0) (n := 0) (Nat.le_of_ble_eq_true rfl) (Nat.le_of_ble_eq_true rfl) ?_
    exact W.iret (v := 0) hx hb hr (fun t ht hW => ⟨⟨0, 0, rfl, by decide, ⟨(fs.set 33 (.int 0)), by rw [ht]; exact hP.sub (ws' := [(h0, .inr (6, (fs.set 33 (.int 0))))]) [0] rfl, hD.sub (ws' := [(h0, .inr (6, (fs.set 33 (.int 0))))]) [0] (by decide) rfl, (x_ge (by first | omega | (simp; omega)))⟩⟩, hS.F ht⟩) hS.2.2 d_Mo_count_130
  · refine lv_tableIn (tgt := 131) hx hb d_Mo_count_70 (by decide) (by decide) (off := 61) rfl (by decide) ?_
    refine lv_aload_n hx hb d_Mo_count_131 rfl (lv_at hl 3 rfl) ?_
    refine va_get (D := (dC, dI)) (ci := 6) (v := .int 0) (C := "ChannelMachineModel") (T := F_Mo) (N := 45) hx hb hts i_Mo hown hK hP 0 rfl rfl 9 (by decide) (hts _ k_976) (fun _ h9 => h9) (x_gs (by decide) g_status) d_Mo_count_132 ?_
    refine lv_iconst (v := 1) hx hb d_Mo_count_135 (by decide) ?_
    refine lv_icmp_ne (tgt := 159) hx hb d_Mo_count_136 (by decide) (fun _ => ?_) (fun c3 => absurd c3 (by decide))
    refine lv_iconst (v := 0) hx hb d_Mo_count_159 (by decide) ?_
    refine W.widen (k := 0) (n := 0) (Nat.le_of_ble_eq_true rfl) (Nat.le_of_ble_eq_true rfl) ?_
    exact W.iret (v := 0) hx hb hr (fun t ht hW => ⟨⟨0, 0, rfl, by decide, ⟨(fs.set 33 (.int 0)), by rw [ht]; exact hP.sub (ws' := [(h0, .inr (6, (fs.set 33 (.int 0))))]) [0] rfl, hD.sub (ws' := [(h0, .inr (6, (fs.set 33 (.int 0))))]) [0] (by decide) rfl, (x_ge (by first | omega | (simp; omega)))⟩⟩, hS.F ht⟩) hS.2.2 d_Mo_count_160
  · refine lv_tableIn (tgt := 161) hx hb d_Mo_count_70 (by decide) (by decide) (off := 91) rfl (by decide) ?_
    refine lv_iload_n hx hb d_Mo_count_161 rfl (lv_at hl 2 rfl) ?_
    refine W.widen (k := 0) (n := 0) (Nat.le_of_ble_eq_true rfl) (Nat.le_of_ble_eq_true rfl) ?_
    exact W.iret (v := 0) hx hb hr (fun t ht hW => ⟨⟨0, 0, rfl, by decide, ⟨(fs.set 33 (.int 0)), by rw [ht]; exact hP.sub (ws' := [(h0, .inr (6, (fs.set 33 (.int 0))))]) [0] rfl, hD.sub (ws' := [(h0, .inr (6, (fs.set 33 (.int 0))))]) [0] (by decide) rfl, (x_ge (by first | omega | (simp; omega)))⟩⟩, hS.F ht⟩) hS.2.2 d_Mo_count_162
  · refine lv_tableIn (tgt := 163) hx hb d_Mo_count_70 (by decide) (by decide) (off := 93) rfl (by decide) ?_
    refine lv_aload_n hx hb d_Mo_count_163 rfl (lv_at hl 3 rfl) ?_
    refine va_get (D := (dC, dI)) (ci := 6) (v := .int 0) (C := "ChannelMachineModel") (T := F_Mo) (N := 45) hx hb hts i_Mo hown hK hP 0 rfl rfl 32 (by decide) (hts _ k_999) (fun _ h9 => h9) (x_gs (by decide) g_acts) d_Mo_count_164 ?_
    refine W.widen (k := 0) (n := 0) (Nat.le_of_ble_eq_true rfl) (Nat.le_of_ble_eq_true rfl) ?_
    exact W.iret (v := 0) hx hb hr (fun t ht hW => ⟨⟨0, 0, rfl, by decide, ⟨(fs.set 33 (.int 0)), by rw [ht]; exact hP.sub (ws' := [(h0, .inr (6, (fs.set 33 (.int 0))))]) [0] rfl, hD.sub (ws' := [(h0, .inr (6, (fs.set 33 (.int 0))))]) [0] (by decide) rfl, (x_ge (by first | omega | (simp; omega)))⟩⟩, hS.F ht⟩) hS.2.2 d_Mo_count_167
  · refine lv_tableIn (tgt := 168) hx hb d_Mo_count_70 (by decide) (by decide) (off := 98) rfl (by decide) ?_
    refine lv_aload_n hx hb d_Mo_count_168 rfl (lv_at hl 3 rfl) ?_
    refine va_get (D := (dC, dI)) (ci := 6) (v := .int 0) (C := "ChannelMachineModel") (T := F_Mo) (N := 45) hx hb hts i_Mo hown hK hP 0 rfl rfl 42 (by decide) (hts _ k_1009) (fun _ h9 => h9) (x_gs (by decide) g_given) d_Mo_count_169 ?_
    refine W.widen (k := 0) (n := 0) (Nat.le_of_ble_eq_true rfl) (Nat.le_of_ble_eq_true rfl) ?_
    exact W.iret (v := 0) hx hb hr (fun t ht hW => ⟨⟨0, 0, rfl, by decide, ⟨(fs.set 33 (.int 0)), by rw [ht]; exact hP.sub (ws' := [(h0, .inr (6, (fs.set 33 (.int 0))))]) [0] rfl, hD.sub (ws' := [(h0, .inr (6, (fs.set 33 (.int 0))))]) [0] (by decide) rfl, (x_ge (by first | omega | (simp; omega)))⟩⟩, hS.F ht⟩) hS.2.2 d_Mo_count_172
  · refine lv_tableIn (tgt := 173) hx hb d_Mo_count_70 (by decide) (by decide) (off := 103) rfl (by decide) ?_
    refine lv_aload_n hx hb d_Mo_count_173 rfl (lv_at hl 3 rfl) ?_
    refine va_get (D := (dC, dI)) (ci := 6) (v := .int 0) (C := "ChannelMachineModel") (T := F_Mo) (N := 45) hx hb hts i_Mo hown hK hP 0 rfl rfl 43 (by decide) (hts _ k_1010) (fun _ h9 => h9) (x_gs (by decide) g_boxed) d_Mo_count_174 ?_
    refine W.widen (k := 0) (n := 0) (Nat.le_of_ble_eq_true rfl) (Nat.le_of_ble_eq_true rfl) ?_
    exact W.iret (v := 0) hx hb hr (fun t ht hW => ⟨⟨0, 0, rfl, by decide, ⟨(fs.set 33 (.int 0)), by rw [ht]; exact hP.sub (ws' := [(h0, .inr (6, (fs.set 33 (.int 0))))]) [0] rfl, hD.sub (ws' := [(h0, .inr (6, (fs.set 33 (.int 0))))]) [0] (by decide) rfl, (x_ge (by first | omega | (simp; omega)))⟩⟩, hS.F ht⟩) hS.2.2 d_Mo_count_177
  · refine lv_tableIn (tgt := 178) hx hb d_Mo_count_70 (by decide) (by decide) (off := 108) rfl (by decide) ?_
    refine lv_aload_n hx hb d_Mo_count_178 rfl (lv_at hl 3 rfl) ?_
    refine va_get (D := (dC, dI)) (ci := 6) (v := .int 0) (C := "ChannelMachineModel") (T := F_Mo) (N := 45) hx hb hts i_Mo hown hK hP 0 rfl rfl 9 (by decide) (hts _ k_976) (fun _ h9 => h9) (x_gs (by decide) g_status) d_Mo_count_179 ?_
    refine W.widen (k := 0) (n := 0) (Nat.le_of_ble_eq_true rfl) (Nat.le_of_ble_eq_true rfl) ?_
    exact W.iret (v := 0) hx hb hr (fun t ht hW => ⟨⟨0, 0, rfl, by decide, ⟨(fs.set 33 (.int 0)), by rw [ht]; exact hP.sub (ws' := [(h0, .inr (6, (fs.set 33 (.int 0))))]) [0] rfl, hD.sub (ws' := [(h0, .inr (6, (fs.set 33 (.int 0))))]) [0] (by decide) rfl, (x_ge (by first | omega | (simp; omega)))⟩⟩, hS.F ht⟩) hS.2.2 d_Mo_count_182
  · refine lv_tableIn (tgt := 183) hx hb d_Mo_count_70 (by decide) (by decide) (off := 113) rfl (by decide) ?_
    refine lv_iload_n hx hb d_Mo_count_183 rfl (lv_at hl 1 rfl) ?_
    refine W.widen (k := 0) (n := 0) (Nat.le_of_ble_eq_true rfl) (Nat.le_of_ble_eq_true rfl) ?_
    exact W.iret (v := 0) hx hb hr (fun t ht hW => ⟨⟨0, 0, rfl, by decide, ⟨(fs.set 33 (.int 0)), by rw [ht]; exact hP.sub (ws' := [(h0, .inr (6, (fs.set 33 (.int 0))))]) [0] rfl, hD.sub (ws' := [(h0, .inr (6, (fs.set 33 (.int 0))))]) [0] (by decide) rfl, (x_ge (by first | omega | (simp; omega)))⟩⟩, hS.F ht⟩) hS.2.2 d_Mo_count_184
