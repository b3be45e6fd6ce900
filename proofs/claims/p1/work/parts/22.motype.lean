-- ===== 22.motype: type of the reference on a new object, by program =====
theorem d_Mo_type_0 : decode prog_12_method_6_code 0 = .ok (.iconst 0, 1) := by decide +kernel
theorem d_Mo_type_1 : decode prog_12_method_6_code 1 = .ok (.istore_n 3, 1) := by decide +kernel
theorem d_Mo_type_2 : decode prog_12_method_6_code 2 = .ok (.iconst 1, 1) := by decide +kernel
theorem d_Mo_type_3 : decode prog_12_method_6_code 3 = .ok (.istore 4, 2) := by decide +kernel
theorem d_Mo_type_5 : decode prog_12_method_6_code 5 = .ok (.bipush 56, 2) := by decide +kernel
theorem d_Mo_type_7 : decode prog_12_method_6_code 7 = .ok (.istore 5, 2) := by decide +kernel
theorem d_Mo_type_9 : decode prog_12_method_6_code 9 = .ok (.iload 5, 2) := by decide +kernel
theorem d_Mo_type_11 : decode prog_12_method_6_code 11 = .ok (.ifCond .lt 48, 3) := by decide +kernel
theorem d_Mo_type_14 : decode prog_12_method_6_code 14 = .ok (.lload_n 1, 1) := by decide +kernel
theorem d_Mo_type_15 : decode prog_12_method_6_code 15 = .ok (.iload 5, 2) := by decide +kernel
theorem d_Mo_type_17 : decode prog_12_method_6_code 17 = .ok (.lushr, 1) := by decide +kernel
theorem d_Mo_type_18 : decode prog_12_method_6_code 18 = .ok (.l2i, 1) := by decide +kernel
theorem d_Mo_type_19 : decode prog_12_method_6_code 19 = .ok (.sipush 255, 3) := by decide +kernel
theorem d_Mo_type_22 : decode prog_12_method_6_code 22 = .ok (.iand, 1) := by decide +kernel
theorem d_Mo_type_23 : decode prog_12_method_6_code 23 = .ok (.istore 6, 2) := by decide +kernel
theorem d_Mo_type_25 : decode prog_12_method_6_code 25 = .ok (.iload 6, 2) := by decide +kernel
theorem d_Mo_type_27 : decode prog_12_method_6_code 27 = .ok (.ifCond .eq 6, 3) := by decide +kernel
theorem d_Mo_type_30 : decode prog_12_method_6_code 30 = .ok (.iinc 3 1, 3) := by decide +kernel
theorem d_Mo_type_33 : decode prog_12_method_6_code 33 = .ok (.iload 6, 2) := by decide +kernel
theorem d_Mo_type_35 : decode prog_12_method_6_code 35 = .ok (.ifCond .eq 18, 3) := by decide +kernel
theorem d_Mo_type_38 : decode prog_12_method_6_code 38 = .ok (.iload 6, 2) := by decide +kernel
theorem d_Mo_type_40 : decode prog_12_method_6_code 40 = .ok (.bipush 33, 2) := by decide +kernel
theorem d_Mo_type_42 : decode prog_12_method_6_code 42 = .ok (.bipush 126, 2) := by decide +kernel
theorem d_Mo_type_44 : decode prog_12_method_6_code 44 = .ok (.invokestatic 106, 3) := by decide +kernel
theorem d_Mo_type_47 : decode prog_12_method_6_code 47 = .ok (.ifCond .ne 6, 3) := by decide +kernel
theorem d_Mo_type_50 : decode prog_12_method_6_code 50 = .ok (.iconst 0, 1) := by decide +kernel
theorem d_Mo_type_51 : decode prog_12_method_6_code 51 = .ok (.istore 4, 2) := by decide +kernel
theorem d_Mo_type_53 : decode prog_12_method_6_code 53 = .ok (.iinc 5 (-8), 3) := by decide +kernel
theorem d_Mo_type_56 : decode prog_12_method_6_code 56 = .ok (.goto (-47), 3) := by decide +kernel
theorem d_Mo_type_59 : decode prog_12_method_6_code 59 = .ok (.aload_n 0, 1) := by decide +kernel
theorem d_Mo_type_60 : decode prog_12_method_6_code 60 = .ok (.iload 4, 2) := by decide +kernel
theorem d_Mo_type_62 : decode prog_12_method_6_code 62 = .ok (.invokevirtual 110, 3) := by decide +kernel
theorem d_Mo_type_65 : decode prog_12_method_6_code 65 = .ok (.ifCond .eq 5, 3) := by decide +kernel
theorem d_Mo_type_68 : decode prog_12_method_6_code 68 = .ok (.iconst 0, 1) := by decide +kernel
theorem d_Mo_type_69 : decode prog_12_method_6_code 69 = .ok (.ireturn, 1) := by decide +kernel
theorem d_Mo_type_70 : decode prog_12_method_6_code 70 = .ok (.aload_n 0, 1) := by decide +kernel
theorem d_Mo_type_71 : decode prog_12_method_6_code 71 = .ok (.getfield 114, 3) := by decide +kernel
theorem d_Mo_type_74 : decode prog_12_method_6_code 74 = .ok (.iload_n 3, 1) := by decide +kernel
theorem d_Mo_type_75 : decode prog_12_method_6_code 75 = .ok (.iadd, 1) := by decide +kernel
theorem d_Mo_type_76 : decode prog_12_method_6_code 76 = .ok (.bipush 72, 2) := by decide +kernel
theorem d_Mo_type_78 : decode prog_12_method_6_code 78 = .ok (.if_icmp .le 9, 3) := by decide +kernel
theorem d_Mo_type_81 : decode prog_12_method_6_code 81 = .ok (.aload_n 0, 1) := by decide +kernel
theorem d_Mo_type_82 : decode prog_12_method_6_code 82 = .ok (.iconst 2, 1) := by decide +kernel
theorem d_Mo_type_83 : decode prog_12_method_6_code 83 = .ok (.invokevirtual 117, 3) := by decide +kernel
theorem d_Mo_type_86 : decode prog_12_method_6_code 86 = .ok (.ireturn, 1) := by decide +kernel
theorem d_Mo_type_87 : decode prog_12_method_6_code 87 = .ok (.bipush 56, 2) := by decide +kernel
theorem d_Mo_type_89 : decode prog_12_method_6_code 89 = .ok (.istore 5, 2) := by decide +kernel
theorem d_Mo_type_91 : decode prog_12_method_6_code 91 = .ok (.iload 5, 2) := by decide +kernel
theorem d_Mo_type_93 : decode prog_12_method_6_code 93 = .ok (.ifCond .lt 49, 3) := by decide +kernel
theorem d_Mo_type_96 : decode prog_12_method_6_code 96 = .ok (.lload_n 1, 1) := by decide +kernel
theorem d_Mo_type_97 : decode prog_12_method_6_code 97 = .ok (.iload 5, 2) := by decide +kernel
theorem d_Mo_type_99 : decode prog_12_method_6_code 99 = .ok (.lushr, 1) := by decide +kernel
theorem d_Mo_type_100 : decode prog_12_method_6_code 100 = .ok (.l2i, 1) := by decide +kernel
theorem d_Mo_type_101 : decode prog_12_method_6_code 101 = .ok (.sipush 255, 3) := by decide +kernel
theorem d_Mo_type_104 : decode prog_12_method_6_code 104 = .ok (.iand, 1) := by decide +kernel
theorem d_Mo_type_105 : decode prog_12_method_6_code 105 = .ok (.istore 6, 2) := by decide +kernel
theorem d_Mo_type_107 : decode prog_12_method_6_code 107 = .ok (.iload 6, 2) := by decide +kernel
theorem d_Mo_type_109 : decode prog_12_method_6_code 109 = .ok (.ifCond .ne 6, 3) := by decide +kernel
theorem d_Mo_type_112 : decode prog_12_method_6_code 112 = .ok (.goto 24, 3) := by decide +kernel
theorem d_Mo_type_115 : decode prog_12_method_6_code 115 = .ok (.aload_n 0, 1) := by decide +kernel
theorem d_Mo_type_116 : decode prog_12_method_6_code 116 = .ok (.getfield 7, 3) := by decide +kernel
theorem d_Mo_type_119 : decode prog_12_method_6_code 119 = .ok (.aload_n 0, 1) := by decide +kernel
theorem d_Mo_type_120 : decode prog_12_method_6_code 120 = .ok (.getfield 114, 3) := by decide +kernel
theorem d_Mo_type_123 : decode prog_12_method_6_code 123 = .ok (.iload 6, 2) := by decide +kernel
theorem d_Mo_type_125 : decode prog_12_method_6_code 125 = .ok (.iastore, 1) := by decide +kernel
theorem d_Mo_type_126 : decode prog_12_method_6_code 126 = .ok (.aload_n 0, 1) := by decide +kernel
theorem d_Mo_type_127 : decode prog_12_method_6_code 127 = .ok (.dup, 1) := by decide +kernel
theorem d_Mo_type_128 : decode prog_12_method_6_code 128 = .ok (.getfield 114, 3) := by decide +kernel
theorem d_Mo_type_131 : decode prog_12_method_6_code 131 = .ok (.iconst 1, 1) := by decide +kernel
theorem d_Mo_type_132 : decode prog_12_method_6_code 132 = .ok (.iadd, 1) := by decide +kernel
theorem d_Mo_type_133 : decode prog_12_method_6_code 133 = .ok (.putfield 114, 3) := by decide +kernel
theorem d_Mo_type_136 : decode prog_12_method_6_code 136 = .ok (.iinc 5 (-8), 3) := by decide +kernel
theorem d_Mo_type_139 : decode prog_12_method_6_code 139 = .ok (.goto (-48), 3) := by decide +kernel
theorem d_Mo_type_142 : decode prog_12_method_6_code 142 = .ok (.aload_n 0, 1) := by decide +kernel
theorem d_Mo_type_143 : decode prog_12_method_6_code 143 = .ok (.getfield 114, 3) := by decide +kernel
theorem d_Mo_type_146 : decode prog_12_method_6_code 146 = .ok (.ireturn, 1) := by decide +kernel
set_option maxHeartbeats 4000000 in
set_option maxRecDepth 100000 in
theorem c_Mo_type (l : Launch) (dC : Nat → ClassId) (dI : Nat → Nat → Nat) (ar : Nat → ClassId) (N0 : Nat) (z : Nat → Nat) (h0 m_text : Nat) (fs : List Value) (eg : Int64) (sz : Nat) (hfs : fs.length = 45) (g_text : fs[0]? = some (.ref m_text)) (g_size : fs[4]? = some (.int 0)) : Met l ({ cls := "ChannelMachineModel", name := "type", desc := "(J)I" } : Jvm.MethodName) ((Jvm.Cond.code ({ cls := "ChannelMachineModel", name := "type", desc := "(J)I" } : Jvm.MethodName) prog_12_method_6_code (7 : Nat) (Option.some Jvm.ClassFile.FieldType.int)) :: x_T) ({ frames := 1, cells := 0, slots := 0, locals := 22 }) (x_Pc (dC, dI) ar N0 z [(h0, .inr (6, fs)), (m_text, .inl (ar 0, 72, .inl (fun _ => 0)))] sz [.ref h0, .long eg]) (va_Qi (fun (r : Int32) (u : Int32) => (x_okk eg 8 ∧ r = x_cn eg 8 ∧ u = 0) ∨ (¬ x_okk eg 8 ∧ u = 1)) (fun u t => ∃ fz : List Value, va_P (dC, dI) x_cl [(h0, .inr (6, fz))] t.heap ∧ va_D (va_A [(h0, .inr (6, fs)), (m_text, .inl (ar 0, 72, .inl (fun _ => 0)))] sz) [(h0, .inr (6, fz))] ∧ fz[33]? = some (.int u)) (va_A [(h0, .inr (6, fs)), (m_text, .inl (ar 0, 72, .inl (fun _ => 0)))] sz)) 0 0 (va_A [(h0, .inr (6, fs)), (m_text, .inl (ar 0, 72, .inl (fun _ => 0)))] sz) := by
  refine Met.ofW (cc := prog_12_method_6_code) (maxL := 7) (ret := (some .int)) (by decide) rfl ?_
  intro p e s m args below meth c s₁ B hml hv
  obtain ⟨rfl, hsz, hN0, hP, hU, hZ, hD0⟩ := hv
  have hK := hU.1
  have hx := B.exec
  have hb := B.bytes
  have hr := B.returns
  have hts : ∀ w ∈ x_T, w.before ([.ref h0, .long eg] : List Value).toArray s = true := fun w h => atoms_spec (ws := (Jvm.Cond.code ({ cls := "ChannelMachineModel", name := "type", desc := "(J)I" } : Jvm.MethodName) prog_12_method_6_code (7 : Nat) (Option.some Jvm.ClassFile.FieldType.int)) :: x_T) B.pre w (List.mem_cons_of_mem _ h)
  have hown : s.vm.findClass "ChannelMachineModel" = some m.cls := findClass_of_methodNamed B.named
  have hlocks := B.notSynchronized
  subst hsz
  have hD := hD0.self (sz := s.heap.size)
  have hAN := x_AN hD0 hN0
  generalize hAe : va_A [(h0, .inr (6, fs)), (m_text, .inl (ar 0, 72, .inl (fun _ => 0)))] s.heap.size = A at hD hAN ⊢
  have hA : ∀ q : Nat, s.heap.size ≤ q → A q := fun q h => by rw [← hAe]; exact Or.inr h
  have hS : va_S A s.heap s.heap [] := va_S.rf
  have hP : va_P (dC, dI) x_cl [(h0, .inr (6, fs)), (m_text, .inl (ar 0, 72, .inl (fun _ => 0)))] s.heap := hP
  have hl := lv_entry ([.ref h0, .long eg]) (n := 7) (Nat.le_of_ble_eq_true rfl)
  rw [lg_entry_eq]
  generalize (lg_sl ([.ref h0, .long eg]) ++ List.replicate (7 - (lg_sl ([.ref h0, .long eg])).length) Slot.unset).toArray = ls at hl ⊢
  have hl : lv_has ls 7 [(0, .ref h0), (1, .long eg)] := hl
  have hH0 : s.heap.size ≤ s.heap.size := Nat.le_refl _
  refine lv_iconst (v := 0) hx hb d_Mo_type_0 (by decide) ?_
  refine lv_istore_n (lv' := [(3, .int 0), (0, .ref h0), (1, .long eg)]) hx hb d_Mo_type_1 rfl hl (by decide) rfl (fun ls hl => ?_)
  refine lv_iconst (v := 1) hx hb d_Mo_type_2 (by decide) ?_
  refine lv_istore (lv' := [(4, .int 1), (3, .int 0), (0, .ref h0), (1, .long eg)]) hx hb d_Mo_type_3 hl (by decide) rfl (fun ls hl => ?_)
  refine lv_bipush (v := 56) hx hb d_Mo_type_5 (by decide) ?_
  refine lv_istore (lv' := [(5, .int 56), (4, .int 1), (3, .int 0), (0, .ref h0), (1, .long eg)]) hx hb d_Mo_type_7 hl (by decide) rfl (fun ls hl => ?_)
  refine x_down (fun k H locs ls => ∃ fi : Int32, va_P (dC, dI) x_cl [(h0, .inr (6, fs)), (m_text, .inl (ar 0, 72, .inl (fun _ => 0)))] H ∧ va_D A [(h0, .inr (6, fs)), (m_text, .inl (ar 0, 72, .inl (fun _ => 0)))] ∧ va_S A s.heap H locs ∧ lv_has ls 7 [(5, .int (x_sh k)), (4, .int fi), (3, .int (x_cn eg k)), (0, .ref h0), (1, .long eg)] ∧ x_fine eg k fi) 8 (fun H locs ls h9 => ?_) (fun k hk ih H locs ls h9 => ?_) ⟨1, hP, hD, hS, by rw [show x_sh 0 = 56 from by decide]; exact lv_sub hl [0, 1, 2, 3, 4] rfl, Or.inl ⟨x_ok0, rfl⟩⟩
  · obtain ⟨fi, hP, hD, hS, hl, hf⟩ := h9
    rw [show x_sh 8 = -8 from by decide] at hl
    rcases hf with ⟨hok, rfl⟩ | ⟨hok, rfl⟩
    · refine lv_iload hx hb d_Mo_type_9 (lv_at hl 0 rfl) ?_
      refine lv_if_lt (tgt := 59) hx hb d_Mo_type_11 (by decide) (fun _ => ?_) (fun c1 => absurd (by decide) c1)
      refine lv_aload_n hx hb d_Mo_type_59 rfl (lv_at hl 3 rfl) ?_
      refine lv_iload hx hb d_Mo_type_60 (lv_at hl 1 rfl) ?_
      have hPc := hP.sub (ws' := [(h0, .inr (6, fs))]) [0] rfl
      have hDc := hD.sub (ws' := [(h0, .inr (6, fs))]) [0] (by decide) rfl
      have hFc := va_free (wc := [(h0, .inr (6, fs))]) hD hS hA [0] rfl
      refine va_calli (va_runV (As := [.int 1]) (rest := []) ⟨hx, hb, hml, hown, hts⟩ (c_Mo_bad l dC dI ar N0 z h0 fs (1) H.size (by first | exact hfs | (simp; exact hfs))) (cwV 1 hts (x_goodV k_1116 k_1118 kp_48 k_9 k_1119) rfl rfl rfl (by decide +kernel) ⟨Nat.le_of_ble_eq_true rfl, Nat.le_of_ble_eq_true rfl⟩) ⟨x_blind, va_recv hK hPc (ci := 6) (q0 := 0) rfl rfl, fun U hU9 hW => x_pre hU9 hW hPc hDc hU hZ hS hAN hN0⟩ rfl rfl hl.1 rfl (lv_room (Nat.le_of_ble_eq_true rfl)) d_Mo_type_62 ⟨Nat.le_of_ble_eq_true rfl, Nat.le_of_ble_eq_true rfl⟩) hS (fun q _ h => hFc q h) hFc (fun r2 u3 t H1 locs ht hvm hw hB hz1 hk1 hS => ?_)
      obtain ⟨hP1, hD1⟩ := hB
      rw [ht] at hP1
      obtain ⟨hP, hD⟩ := va_join (wr := [(m_text, .inl (ar 0, 72, .inl (fun _ => 0)))]) (w1 := [(h0, .inr (6, (fs.set 33 (.int u3))))]) hP hD [0] [1] rfl rfl (by decide) (by decide) hk1 hFc hP1 hD1
      generalize H1 = H at hP hS ⊢
      have hP : va_P (dC, dI) x_cl [(m_text, .inl (ar 0, 72, .inl (fun _ => 0))), (h0, .inr (6, (fs.set 33 (.int u3))))] H := hP
      have hD : va_D A [(m_text, .inl (ar 0, 72, .inl (fun _ => 0))), (h0, .inr (6, (fs.set 33 (.int u3))))] := hD
      refine W.widen (k := 0) (n := 0) (Nat.le_of_ble_eq_true rfl) (Nat.le_of_ble_eq_true rfl) ?_
      rcases hw with ⟨h9, rfl, rfl⟩ | ⟨h9, rfl, rfl⟩
      · exact absurd h9 (by decide)
      · refine lv_if_eq (tgt := 70) hx hb d_Mo_type_65 (by decide) (fun _ => ?_) (fun c4 => absurd (by decide) c4)
        refine lv_aload_n hx hb d_Mo_type_70 rfl (lv_at hl 3 rfl) ?_
        refine va_get (D := (dC, dI)) (ci := 6) (v := .int 0) (C := "ChannelMachineModel") (T := F_Mo) (N := 45) hx hb hts i_Mo hown hK hP 1 rfl rfl 4 (by decide) (hts _ k_971) (fun _ h9 => h9) (x_gs (by decide) g_size) d_Mo_type_71 ?_
        refine lv_iload_n hx hb d_Mo_type_74 rfl (lv_at hl 2 rfl) ?_
        refine lv_iadd hx hb d_Mo_type_75 ?_
        refine lv_bipush (v := 72) hx hb d_Mo_type_76 (by decide) ?_
        refine lv_icmp_le (tgt := 87) hx hb d_Mo_type_78 (by decide) (fun _ => ?_) (fun c5 => absurd (x_c72 eg) c5)
        refine lv_bipush (v := 56) hx hb d_Mo_type_87 (by decide) ?_
        refine lv_istore (lv' := [(5, .int 56), (4, .int 1), (3, .int (x_cn eg 8)), (0, .ref h0), (1, .long eg)]) hx hb d_Mo_type_89 hl (by decide) rfl (fun ls hl => ?_)
        refine x_down (fun k H locs ls => ∃ (fz : List Value) (g : Nat → Int32), fz.length = 45 ∧ fz[33]? = some (.int 0) ∧ fz[0]? = some (.ref m_text) ∧ fz[4]? = some (.int (x_cn eg k)) ∧ va_P (dC, dI) x_cl [(m_text, .inl (ar 0, 72, .inl g)), (h0, .inr (6, fz))] H ∧ va_D A [(m_text, .inl (ar 0, 72, .inl g)), (h0, .inr (6, fz))] ∧ va_S A s.heap H locs ∧ lv_has ls 7 [(5, .int (x_sh k)), (0, .ref h0), (1, .long eg)]) 8 (fun H locs ls h9 => ?_) (fun k hk ih H locs ls h9 => ?_) ⟨(fs.set 33 (.int 0)), (fun _ => 0), (by first | exact hfs | exact hfz | (simp; exact hfs) | (simp; exact hfz)), (x_ge (by first | omega | (simp; omega))), (x_gs (by decide) g_text), (x_gs (by decide) g_size), hP, hD, hS, by rw [show x_sh 0 = 56 from by decide]; exact lv_sub hl [0, 3, 4] rfl⟩
        · obtain ⟨fz, g, hfz, gT, gx, gs, hP, hD, hS, hl⟩ := h9
          rw [show x_sh 8 = -8 from by decide] at hl
          refine lv_iload hx hb d_Mo_type_91 (lv_at hl 0 rfl) ?_
          refine lv_if_lt (tgt := 142) hx hb d_Mo_type_93 (by decide) (fun _ => ?_) (fun c6 => absurd (by decide) c6)
          refine lv_aload_n hx hb d_Mo_type_142 rfl (lv_at hl 1 rfl) ?_
          refine va_get (D := (dC, dI)) (ci := 6) (v := .int (x_cn eg 8)) (C := "ChannelMachineModel") (T := F_Mo) (N := 45) hx hb hts i_Mo hown hK hP 1 rfl rfl 4 (by decide) (hts _ k_971) (fun _ h9 => h9) gs d_Mo_type_143 ?_
          refine W.widen (k := 0) (n := 0) (Nat.le_of_ble_eq_true rfl) (Nat.le_of_ble_eq_true rfl) ?_
          exact W.iret (v := (x_cn eg 8)) hx hb hr (fun t ht hW => ⟨⟨(x_cn eg 8), 0, rfl, Or.inl ⟨hok, rfl, rfl⟩, ⟨fz, by rw [ht]; exact hP.sub (ws' := [(h0, .inr (6, fz))]) [1] rfl, hD.sub (ws' := [(h0, .inr (6, fz))]) [1] (by decide) rfl, gT⟩⟩, hS.F ht⟩) hS.2.2 d_Mo_type_146
        · obtain ⟨fz, g, hfz, gT, gx, gs, hP, hD, hS, hl⟩ := h9
          refine lv_iload hx hb d_Mo_type_91 (lv_at hl 0 rfl) ?_
          refine lv_if_lt (tgt := 142) hx hb d_Mo_type_93 (by decide) (fun c7 => absurd c7 (x_shp hk)) (fun _ => ?_)
          refine lv_lload_n hx hb d_Mo_type_96 rfl (lv_at hl 2 rfl) ?_
          refine lv_iload hx hb d_Mo_type_97 (lv_at hl 0 rfl) ?_
          refine lv_lushr (v := (Int64.toUInt64 eg >>> (Int64.toUInt64 (Int32.toInt64 (x_sh k)) &&& Int64.toUInt64 63)).toInt64) hx hb d_Mo_type_99 rfl ?_
          refine lv_l2i (v := (Int64.toInt32 (Int64.toUInt64 eg >>> (Int64.toUInt64 (Int32.toInt64 (x_sh k)) &&& Int64.toUInt64 63)).toInt64)) hx hb d_Mo_type_100 rfl ?_
          refine lv_sipush (v := 255) hx hb d_Mo_type_101 (by decide) ?_
          refine lv_iand hx hb d_Mo_type_104 ?_
          refine W.eq (g2 := F0 m 105 ls [.int (x_y eg k)]) (by rw [x_ysh hk]; rfl) ?_
          refine lv_topi (fun r8 hy => ?_)
          refine lv_istore (lv' := [(6, .int r8), (5, .int (x_sh k)), (0, .ref h0), (1, .long eg)]) hx hb d_Mo_type_105 hl (by decide) rfl (fun ls hl => ?_)
          refine lv_iload hx hb d_Mo_type_107 (lv_at hl 0 rfl) ?_
          refine lv_if_ne (tgt := 115) hx hb d_Mo_type_109 (by decide) (fun c9 => ?_) (fun c9 => ?_)
          · refine lv_aload_n hx hb d_Mo_type_115 rfl (lv_at hl 2 rfl) ?_
            refine va_get (D := (dC, dI)) (ci := 6) (v := .ref m_text) (C := "ChannelMachineModel") (T := F_Mo) (N := 45) hx hb hts i_Mo hown hK hP 1 rfl rfl 0 (by decide) (hts _ k_967) (fun _ h9 => h9) gx d_Mo_type_116 ?_
            refine lv_aload_n hx hb d_Mo_type_119 rfl (lv_at hl 2 rfl) ?_
            refine va_get (D := (dC, dI)) (ci := 6) (v := .int (x_cn eg k)) (C := "ChannelMachineModel") (T := F_Mo) (N := 45) hx hb hts i_Mo hown hK hP 1 rfl rfl 4 (by decide) (hts _ k_971) (fun _ h9 => h9) gs d_Mo_type_120 ?_
            refine lv_iload hx hb d_Mo_type_123 (lv_at hl 0 rfl) ?_
            refine va_iast hx hb hK hP hD hS 0 0 rfl rfl (i := (x_cn eg k)) (x := r8) (x_cin (Nat.le_of_lt hk)) d_Mo_type_125 (fun H locs hP hD hS => ?_)
            have hP : va_P (dC, dI) x_cl [(m_text, .inl (ar 0, 72, .inl (upd g (Int32.toNatClampNeg (x_cn eg k)) r8))), (h0, .inr (6, fz))] H := hP
            have hD : va_D A [(m_text, .inl (ar 0, 72, .inl (upd g (Int32.toNatClampNeg (x_cn eg k)) r8))), (h0, .inr (6, fz))] := hD
            refine lv_aload_n hx hb d_Mo_type_126 rfl (lv_at hl 2 rfl) ?_
            refine lv_dup hx hb d_Mo_type_127 rfl ?_
            refine va_get (D := (dC, dI)) (ci := 6) (v := .int (x_cn eg k)) (C := "ChannelMachineModel") (T := F_Mo) (N := 45) hx hb hts i_Mo hown hK hP 1 rfl rfl 4 (by decide) (hts _ k_971) (fun _ h9 => h9) gs d_Mo_type_128 ?_
            refine lv_iconst (v := 1) hx hb d_Mo_type_131 (by decide) ?_
            refine lv_iadd hx hb d_Mo_type_132 ?_
            refine va_put (D := (dC, dI)) (ci := 6) (v := .int ((x_cn eg k) + 1)) (ty := .int) (C := "ChannelMachineModel") (T := F_Mo) (N := 45) hx hb hts i_Mo t_Mo t_Mo_ok n_Mo hown hK hP hD hS 1 rfl rfl 4 (by decide) (hts _ k_971) (fun _ h9 => h9) rfl (by decide +kernel) rfl rfl (by first | omega | (simp; omega)) d_Mo_type_133 (fun H locs hP hD hS => ?_)
            have hP : va_P (dC, dI) x_cl [(m_text, .inl (ar 0, 72, .inl (upd g (Int32.toNatClampNeg (x_cn eg k)) r8))), (h0, .inr (6, (fz.set 4 (.int ((x_cn eg k) + 1)))))] H := hP
            have hD : va_D A [(m_text, .inl (ar 0, 72, .inl (upd g (Int32.toNatClampNeg (x_cn eg k)) r8))), (h0, .inr (6, (fz.set 4 (.int ((x_cn eg k) + 1)))))] := hD
            refine lv_iinc (v := (x_sh (k + 1))) (lv' := [(5, .int (x_sh (k + 1))), (6, .int r8), (0, .ref h0), (1, .long eg)]) hx hb d_Mo_type_136 hl (k := 1) rfl (x_shs hk) (by decide) rfl (fun ls hl => ?_)
            refine lv_goto (tgt := 91) hx hb d_Mo_type_139 (by decide) ?_
            exact ih H locs ls ⟨(fz.set 4 (.int ((x_cn eg k) + 1))), (upd g (Int32.toNatClampNeg (x_cn eg k)) r8), (by first | exact hfs | exact hfz | (simp; exact hfs) | (simp; exact hfz)), (x_gs (by decide) gT), (x_gs (by decide) gx), by rw [x_cn_s hy c9]; exact (x_ge (by first | omega | (simp; omega))), hP, hD, hS, lv_sub hl [0, 2, 3] rfl⟩
          · refine lv_goto (tgt := 136) hx hb d_Mo_type_112 (by decide) ?_
            refine lv_iinc (v := (x_sh (k + 1))) (lv' := [(5, .int (x_sh (k + 1))), (6, .int r8), (0, .ref h0), (1, .long eg)]) hx hb d_Mo_type_136 hl (k := 1) rfl (x_shs hk) (by decide) rfl (fun ls hl => ?_)
            refine lv_goto (tgt := 91) hx hb d_Mo_type_139 (by decide) ?_
            exact ih H locs ls ⟨fz, g, (by first | exact hfs | exact hfz | (simp; exact hfs) | (simp; exact hfz)), gT, gx, by rw [x_cn_z hy c9]; exact gs, hP, hD, hS, lv_sub hl [0, 2, 3] rfl⟩
    · refine lv_iload hx hb d_Mo_type_9 (lv_at hl 0 rfl) ?_
      refine lv_if_lt (tgt := 59) hx hb d_Mo_type_11 (by decide) (fun _ => ?_) (fun c10 => absurd (by decide) c10)
      refine lv_aload_n hx hb d_Mo_type_59 rfl (lv_at hl 3 rfl) ?_
      refine lv_iload hx hb d_Mo_type_60 (lv_at hl 1 rfl) ?_
      have hPc := hP.sub (ws' := [(h0, .inr (6, fs))]) [0] rfl
      have hDc := hD.sub (ws' := [(h0, .inr (6, fs))]) [0] (by decide) rfl
      have hFc := va_free (wc := [(h0, .inr (6, fs))]) hD hS hA [0] rfl
      refine va_calli (va_runV (As := [.int 0]) (rest := []) ⟨hx, hb, hml, hown, hts⟩ (c_Mo_bad l dC dI ar N0 z h0 fs (0) H.size (by first | exact hfs | (simp; exact hfs))) (cwV 1 hts (x_goodV k_1116 k_1118 kp_48 k_9 k_1119) rfl rfl rfl (by decide +kernel) ⟨Nat.le_of_ble_eq_true rfl, Nat.le_of_ble_eq_true rfl⟩) ⟨x_blind, va_recv hK hPc (ci := 6) (q0 := 0) rfl rfl, fun U hU9 hW => x_pre hU9 hW hPc hDc hU hZ hS hAN hN0⟩ rfl rfl hl.1 rfl (lv_room (Nat.le_of_ble_eq_true rfl)) d_Mo_type_62 ⟨Nat.le_of_ble_eq_true rfl, Nat.le_of_ble_eq_true rfl⟩) hS (fun q _ h => hFc q h) hFc (fun r11 u12 t H1 locs ht hvm hw hB hz1 hk1 hS => ?_)
      obtain ⟨hP1, hD1⟩ := hB
      rw [ht] at hP1
      obtain ⟨hP, hD⟩ := va_join (wr := [(m_text, .inl (ar 0, 72, .inl (fun _ => 0)))]) (w1 := [(h0, .inr (6, (fs.set 33 (.int u12))))]) hP hD [0] [1] rfl rfl (by decide) (by decide) hk1 hFc hP1 hD1
      generalize H1 = H at hP hS ⊢
      have hP : va_P (dC, dI) x_cl [(m_text, .inl (ar 0, 72, .inl (fun _ => 0))), (h0, .inr (6, (fs.set 33 (.int u12))))] H := hP
      have hD : va_D A [(m_text, .inl (ar 0, 72, .inl (fun _ => 0))), (h0, .inr (6, (fs.set 33 (.int u12))))] := hD
      refine W.widen (k := 0) (n := 0) (Nat.le_of_ble_eq_true rfl) (Nat.le_of_ble_eq_true rfl) ?_
      rcases hw with ⟨h9, rfl, rfl⟩ | ⟨h9, rfl, rfl⟩
      · refine lv_if_eq (tgt := 70) hx hb d_Mo_type_65 (by decide) (fun c13 => absurd c13 (by decide)) (fun _ => ?_)
        refine lv_iconst (v := 0) hx hb d_Mo_type_68 (by decide) ?_
        refine W.widen (k := 0) (n := 0) (Nat.le_of_ble_eq_true rfl) (Nat.le_of_ble_eq_true rfl) ?_
        exact W.iret (v := 0) hx hb hr (fun t ht hW => ⟨⟨0, 1, rfl, Or.inr ⟨hok, rfl⟩, ⟨(fs.set 33 (.int 1)), by rw [ht]; exact hP.sub (ws' := [(h0, .inr (6, (fs.set 33 (.int 1))))]) [1] rfl, hD.sub (ws' := [(h0, .inr (6, (fs.set 33 (.int 1))))]) [1] (by decide) rfl, (x_ge (by first | omega | (simp; omega)))⟩⟩, hS.F ht⟩) hS.2.2 d_Mo_type_69
      · exact absurd rfl h9
  · obtain ⟨fi, hP, hD, hS, hl, hf⟩ := h9
    refine lv_iload hx hb d_Mo_type_9 (lv_at hl 0 rfl) ?_
    refine lv_if_lt (tgt := 59) hx hb d_Mo_type_11 (by decide) (fun c14 => absurd c14 (x_shp hk)) (fun _ => ?_)
    refine lv_lload_n hx hb d_Mo_type_14 rfl (lv_at hl 4 rfl) ?_
    refine lv_iload hx hb d_Mo_type_15 (lv_at hl 0 rfl) ?_
    refine lv_lushr (v := (Int64.toUInt64 eg >>> (Int64.toUInt64 (Int32.toInt64 (x_sh k)) &&& Int64.toUInt64 63)).toInt64) hx hb d_Mo_type_17 rfl ?_
    refine lv_l2i (v := (Int64.toInt32 (Int64.toUInt64 eg >>> (Int64.toUInt64 (Int32.toInt64 (x_sh k)) &&& Int64.toUInt64 63)).toInt64)) hx hb d_Mo_type_18 rfl ?_
    refine lv_sipush (v := 255) hx hb d_Mo_type_19 (by decide) ?_
    refine lv_iand hx hb d_Mo_type_22 ?_
    refine W.eq (g2 := F0 m 23 ls [.int (x_y eg k)]) (by rw [x_ysh hk]; rfl) ?_
    refine lv_topi (fun r15 hy => ?_)
    refine lv_istore (lv' := [(6, .int r15), (5, .int (x_sh k)), (4, .int fi), (3, .int (x_cn eg k)), (0, .ref h0), (1, .long eg)]) hx hb d_Mo_type_23 hl (by decide) rfl (fun ls hl => ?_)
    refine lv_iload hx hb d_Mo_type_25 (lv_at hl 0 rfl) ?_
    refine lv_if_eq (tgt := 33) hx hb d_Mo_type_27 (by decide) (fun c16 => ?_) (fun c16 => ?_)
    · refine lv_iload hx hb d_Mo_type_33 (lv_at hl 0 rfl) ?_
      refine lv_if_eq (tgt := 53) hx hb d_Mo_type_35 (by decide) (fun _ => ?_) (fun c17 => absurd c16 c17)
      refine lv_iinc (v := (x_sh (k + 1))) (lv' := [(5, .int (x_sh (k + 1))), (6, .int r15), (4, .int fi), (3, .int (x_cn eg k)), (0, .ref h0), (1, .long eg)]) hx hb d_Mo_type_53 hl (k := 1) rfl (x_shs hk) (by decide) rfl (fun ls hl => ?_)
      refine lv_goto (tgt := 9) hx hb d_Mo_type_56 (by decide) ?_
      exact ih H locs ls ⟨fi, hP, hD, hS, (by rw [x_cn_z hy c16]; exact lv_sub hl [0, 2, 3, 4, 5] rfl), x_fi hy (Or.inl c16) hf⟩
    · refine lv_iinc (v := (x_cn eg (k + 1))) (lv' := [(3, .int (x_cn eg (k + 1))), (6, .int r15), (5, .int (x_sh k)), (4, .int fi), (0, .ref h0), (1, .long eg)]) hx hb d_Mo_type_30 hl (k := 3) rfl (x_cn_i hy c16) (by decide) rfl (fun ls hl => ?_)
      refine lv_iload hx hb d_Mo_type_33 (lv_at hl 1 rfl) ?_
      refine lv_if_eq (tgt := 53) hx hb d_Mo_type_35 (by decide) (fun c18 => absurd c18 c16) (fun _ => ?_)
      refine lv_iload hx hb d_Mo_type_38 (lv_at hl 1 rfl) ?_
      refine lv_bipush (v := 33) hx hb d_Mo_type_40 (by decide) ?_
      refine lv_bipush (v := 126) hx hb d_Mo_type_42 (by decide) ?_
      have hPc := hP.sub (ws' := []) [] rfl
      have hDc := hD.sub (ws' := []) [] (by decide) rfl
      have hFc := va_free (wc := []) hD hS hA [] rfl
      refine va_calli (va_runS (As := [.int r15, .int 33, .int 126]) (rest := []) ⟨hx, hb, hml, hown, hts⟩ (c_Mo_in l dC dI ar N0 z (r15) 33 126 H.size) (cwS 3 hts (x_goodS k_1113 k_1114 k_9 k_1115) rfl rfl rfl (by decide +kernel) ⟨Nat.le_of_ble_eq_true rfl, Nat.le_of_ble_eq_true rfl⟩) ⟨x_blind, fun U hU9 hW => x_pre hU9 hW hPc hDc hU hZ hS hAN hN0⟩ rfl rfl hl.1 rfl (lv_room (Nat.le_of_ble_eq_true rfl)) d_Mo_type_44 ⟨Nat.le_of_ble_eq_true rfl, Nat.le_of_ble_eq_true rfl⟩) hS (fun q _ h => hFc q h) hFc (fun r19 u20 t H1 locs ht hvm hw hB hz1 hk1 hS => ?_)
      obtain ⟨hP1, hD1⟩ := hB
      rw [ht] at hP1
      obtain ⟨hP, hD⟩ := va_join (wr := [(h0, .inr (6, fs)), (m_text, .inl (ar 0, 72, .inl (fun _ => 0)))]) (w1 := []) hP hD [] [0, 1] rfl rfl (by decide) (by decide) hk1 hFc hP1 hD1
      generalize H1 = H at hP hS ⊢
      have hP : va_P (dC, dI) x_cl [(h0, .inr (6, fs)), (m_text, .inl (ar 0, 72, .inl (fun _ => 0)))] H := hP
      have hD : va_D A [(h0, .inr (6, fs)), (m_text, .inl (ar 0, 72, .inl (fun _ => 0)))] := hD
      refine W.widen (k := 0) (n := 0) (Nat.le_of_ble_eq_true rfl) (Nat.le_of_ble_eq_true rfl) ?_
      rcases hw with ⟨i21, i21', rfl⟩ | ⟨i21, rfl⟩
      · have i21 := i21
        refine lv_if_ne (tgt := 53) hx hb d_Mo_type_47 (by decide) (fun _ => ?_) (fun c22 => absurd c22 (by decide))
        refine lv_iinc (v := (x_sh (k + 1))) (lv' := [(5, .int (x_sh (k + 1))), (3, .int (x_cn eg (k + 1))), (6, .int r15), (4, .int fi), (0, .ref h0), (1, .long eg)]) hx hb d_Mo_type_53 hl (k := 2) rfl (x_shs hk) (by decide) rfl (fun ls hl => ?_)
        refine lv_goto (tgt := 9) hx hb d_Mo_type_56 (by decide) ?_
        exact ih H locs ls ⟨fi, hP, hD, hS, lv_sub hl [0, 3, 1, 4, 5] rfl, x_fi hy (Or.inr ⟨i21, i21'⟩) hf⟩
      · have i21 := i21
        refine lv_if_ne (tgt := 53) hx hb d_Mo_type_47 (by decide) (fun c23 => absurd rfl c23) (fun _ => ?_)
        refine lv_iconst (v := 0) hx hb d_Mo_type_50 (by decide) ?_
        refine lv_istore (lv' := [(4, .int 0), (3, .int (x_cn eg (k + 1))), (6, .int r15), (5, .int (x_sh k)), (0, .ref h0), (1, .long eg)]) hx hb d_Mo_type_51 hl (by decide) rfl (fun ls hl => ?_)
        refine lv_iinc (v := (x_sh (k + 1))) (lv' := [(5, .int (x_sh (k + 1))), (4, .int 0), (3, .int (x_cn eg (k + 1))), (6, .int r15), (0, .ref h0), (1, .long eg)]) hx hb d_Mo_type_53 hl (k := 3) rfl (x_shs hk) (by decide) rfl (fun ls hl => ?_)
        refine lv_goto (tgt := 9) hx hb d_Mo_type_56 (by decide) ?_
        exact ih H locs ls ⟨0, hP, hD, hS, lv_sub hl [0, 1, 2, 4, 5] rfl, x_fb hy c16 i21⟩
