-- ===== 63.small3: give, take, variable, set, channel, thrown of the reference, by program =====
theorem d_Mo_give_0 : decode prog_12_method_43_code 0 = .ok (.aload_n 0, 1) := by decide +kernel
theorem d_Mo_give_1 : decode prog_12_method_43_code 1 = .ok (.iconst 0, 1) := by decide +kernel
theorem d_Mo_give_2 : decode prog_12_method_43_code 2 = .ok (.putfield 103, 3) := by decide +kernel
theorem d_Mo_give_5 : decode prog_12_method_43_code 5 = .ok (.aload_n 0, 1) := by decide +kernel
theorem d_Mo_give_6 : decode prog_12_method_43_code 6 = .ok (.getfield 208, 3) := by decide +kernel
theorem d_Mo_give_9 : decode prog_12_method_43_code 9 = .ok (.iconst 1, 1) := by decide +kernel
theorem d_Mo_give_10 : decode prog_12_method_43_code 10 = .ok (.if_icmp .ne 12, 3) := by decide +kernel
theorem d_Mo_give_13 : decode prog_12_method_43_code 13 = .ok (.aload_n 0, 1) := by decide +kernel
theorem d_Mo_give_14 : decode prog_12_method_43_code 14 = .ok (.getfield 198, 3) := by decide +kernel
theorem d_Mo_give_17 : decode prog_12_method_43_code 17 = .ok (.bipush 8, 2) := by decide +kernel
theorem d_Mo_give_19 : decode prog_12_method_43_code 19 = .ok (.if_icmp .ne 9, 3) := by decide +kernel
theorem d_Mo_give_22 : decode prog_12_method_43_code 22 = .ok (.aload_n 0, 1) := by decide +kernel
theorem d_Mo_give_23 : decode prog_12_method_43_code 23 = .ok (.iconst 1, 1) := by decide +kernel
theorem d_Mo_give_24 : decode prog_12_method_43_code 24 = .ok (.invokevirtual 117, 3) := by decide +kernel
theorem d_Mo_give_27 : decode prog_12_method_43_code 27 = .ok (.ireturn, 1) := by decide +kernel
theorem d_Mo_give_28 : decode prog_12_method_43_code 28 = .ok (.aload_n 0, 1) := by decide +kernel
theorem d_Mo_give_29 : decode prog_12_method_43_code 29 = .ok (.getfield 82, 3) := by decide +kernel
theorem d_Mo_give_32 : decode prog_12_method_43_code 32 = .ok (.iconst 4, 1) := by decide +kernel
theorem d_Mo_give_33 : decode prog_12_method_43_code 33 = .ok (.iaload, 1) := by decide +kernel
theorem d_Mo_give_34 : decode prog_12_method_43_code 34 = .ok (.ifCond .lt 12, 3) := by decide +kernel
theorem d_Mo_give_37 : decode prog_12_method_43_code 37 = .ok (.aload_n 0, 1) := by decide +kernel
theorem d_Mo_give_38 : decode prog_12_method_43_code 38 = .ok (.iconst 4, 1) := by decide +kernel
theorem d_Mo_give_39 : decode prog_12_method_43_code 39 = .ok (.iload_n 1, 1) := by decide +kernel
theorem d_Mo_give_40 : decode prog_12_method_43_code 40 = .ok (.invokevirtual 236, 3) := by decide +kernel
theorem d_Mo_give_43 : decode prog_12_method_43_code 43 = .ok (.goto 23, 3) := by decide +kernel
theorem d_Mo_give_46 : decode prog_12_method_43_code 46 = .ok (.aload_n 0, 1) := by decide +kernel
theorem d_Mo_give_47 : decode prog_12_method_43_code 47 = .ok (.getfield 97, 3) := by decide +kernel
theorem d_Mo_give_50 : decode prog_12_method_43_code 50 = .ok (.aload_n 0, 1) := by decide +kernel
theorem d_Mo_give_51 : decode prog_12_method_43_code 51 = .ok (.getfield 198, 3) := by decide +kernel
theorem d_Mo_give_54 : decode prog_12_method_43_code 54 = .ok (.iload_n 1, 1) := by decide +kernel
theorem d_Mo_give_55 : decode prog_12_method_43_code 55 = .ok (.iastore, 1) := by decide +kernel
theorem d_Mo_give_56 : decode prog_12_method_43_code 56 = .ok (.aload_n 0, 1) := by decide +kernel
theorem d_Mo_give_57 : decode prog_12_method_43_code 57 = .ok (.dup, 1) := by decide +kernel
theorem d_Mo_give_58 : decode prog_12_method_43_code 58 = .ok (.getfield 198, 3) := by decide +kernel
theorem d_Mo_give_61 : decode prog_12_method_43_code 61 = .ok (.iconst 1, 1) := by decide +kernel
theorem d_Mo_give_62 : decode prog_12_method_43_code 62 = .ok (.iadd, 1) := by decide +kernel
theorem d_Mo_give_63 : decode prog_12_method_43_code 63 = .ok (.putfield 198, 3) := by decide +kernel
theorem d_Mo_give_66 : decode prog_12_method_43_code 66 = .ok (.aload_n 0, 1) := by decide +kernel
theorem d_Mo_give_67 : decode prog_12_method_43_code 67 = .ok (.getfield 198, 3) := by decide +kernel
theorem d_Mo_give_70 : decode prog_12_method_43_code 70 = .ok (.ireturn, 1) := by decide +kernel
theorem d_Mo_take_0 : decode prog_12_method_44_code 0 = .ok (.aload_n 0, 1) := by decide +kernel
theorem d_Mo_take_1 : decode prog_12_method_44_code 1 = .ok (.iconst 0, 1) := by decide +kernel
theorem d_Mo_take_2 : decode prog_12_method_44_code 2 = .ok (.putfield 103, 3) := by decide +kernel
theorem d_Mo_take_5 : decode prog_12_method_44_code 5 = .ok (.aload_n 0, 1) := by decide +kernel
theorem d_Mo_take_6 : decode prog_12_method_44_code 6 = .ok (.getfield 195, 3) := by decide +kernel
theorem d_Mo_take_9 : decode prog_12_method_44_code 9 = .ok (.ifCond .ne 9, 3) := by decide +kernel
theorem d_Mo_take_12 : decode prog_12_method_44_code 12 = .ok (.aload_n 0, 1) := by decide +kernel
theorem d_Mo_take_13 : decode prog_12_method_44_code 13 = .ok (.iconst 1, 1) := by decide +kernel
theorem d_Mo_take_14 : decode prog_12_method_44_code 14 = .ok (.invokevirtual 117, 3) := by decide +kernel
theorem d_Mo_take_17 : decode prog_12_method_44_code 17 = .ok (.ireturn, 1) := by decide +kernel
theorem d_Mo_take_18 : decode prog_12_method_44_code 18 = .ok (.aload_n 0, 1) := by decide +kernel
theorem d_Mo_take_19 : decode prog_12_method_44_code 19 = .ok (.getfield 100, 3) := by decide +kernel
theorem d_Mo_take_22 : decode prog_12_method_44_code 22 = .ok (.aload_n 0, 1) := by decide +kernel
theorem d_Mo_take_23 : decode prog_12_method_44_code 23 = .ok (.getfield 195, 3) := by decide +kernel
theorem d_Mo_take_26 : decode prog_12_method_44_code 26 = .ok (.invokestatic 217, 3) := by decide +kernel
theorem d_Mo_take_29 : decode prog_12_method_44_code 29 = .ok (.istore_n 1, 1) := by decide +kernel
theorem d_Mo_take_30 : decode prog_12_method_44_code 30 = .ok (.aload_n 0, 1) := by decide +kernel
theorem d_Mo_take_31 : decode prog_12_method_44_code 31 = .ok (.dup, 1) := by decide +kernel
theorem d_Mo_take_32 : decode prog_12_method_44_code 32 = .ok (.getfield 195, 3) := by decide +kernel
theorem d_Mo_take_35 : decode prog_12_method_44_code 35 = .ok (.iconst 1, 1) := by decide +kernel
theorem d_Mo_take_36 : decode prog_12_method_44_code 36 = .ok (.isub, 1) := by decide +kernel
theorem d_Mo_take_37 : decode prog_12_method_44_code 37 = .ok (.putfield 195, 3) := by decide +kernel
theorem d_Mo_take_40 : decode prog_12_method_44_code 40 = .ok (.aload_n 0, 1) := by decide +kernel
theorem d_Mo_take_41 : decode prog_12_method_44_code 41 = .ok (.getfield 208, 3) := by decide +kernel
theorem d_Mo_take_44 : decode prog_12_method_44_code 44 = .ok (.iconst 1, 1) := by decide +kernel
theorem d_Mo_take_45 : decode prog_12_method_44_code 45 = .ok (.if_icmp .ne 12, 3) := by decide +kernel
theorem d_Mo_take_48 : decode prog_12_method_44_code 48 = .ok (.aload_n 0, 1) := by decide +kernel
theorem d_Mo_take_49 : decode prog_12_method_44_code 49 = .ok (.getfield 91, 3) := by decide +kernel
theorem d_Mo_take_52 : decode prog_12_method_44_code 52 = .ok (.iconst 5, 1) := by decide +kernel
theorem d_Mo_take_53 : decode prog_12_method_44_code 53 = .ok (.iaload, 1) := by decide +kernel
theorem d_Mo_take_54 : decode prog_12_method_44_code 54 = .ok (.ifCond .ge 5, 3) := by decide +kernel
theorem d_Mo_take_57 : decode prog_12_method_44_code 57 = .ok (.iload_n 1, 1) := by decide +kernel
theorem d_Mo_take_58 : decode prog_12_method_44_code 58 = .ok (.ireturn, 1) := by decide +kernel
theorem d_Mo_take_59 : decode prog_12_method_44_code 59 = .ok (.aload_n 0, 1) := by decide +kernel
theorem d_Mo_take_60 : decode prog_12_method_44_code 60 = .ok (.getfield 100, 3) := by decide +kernel
theorem d_Mo_take_63 : decode prog_12_method_44_code 63 = .ok (.aload_n 0, 1) := by decide +kernel
theorem d_Mo_take_64 : decode prog_12_method_44_code 64 = .ok (.getfield 195, 3) := by decide +kernel
theorem d_Mo_take_67 : decode prog_12_method_44_code 67 = .ok (.aload_n 0, 1) := by decide +kernel
theorem d_Mo_take_68 : decode prog_12_method_44_code 68 = .ok (.getfield 94, 3) := by decide +kernel
theorem d_Mo_take_71 : decode prog_12_method_44_code 71 = .ok (.iconst 5, 1) := by decide +kernel
theorem d_Mo_take_72 : decode prog_12_method_44_code 72 = .ok (.iaload, 1) := by decide +kernel
theorem d_Mo_take_73 : decode prog_12_method_44_code 73 = .ok (.iastore, 1) := by decide +kernel
theorem d_Mo_take_74 : decode prog_12_method_44_code 74 = .ok (.aload_n 0, 1) := by decide +kernel
theorem d_Mo_take_75 : decode prog_12_method_44_code 75 = .ok (.dup, 1) := by decide +kernel
theorem d_Mo_take_76 : decode prog_12_method_44_code 76 = .ok (.getfield 195, 3) := by decide +kernel
theorem d_Mo_take_79 : decode prog_12_method_44_code 79 = .ok (.iconst 1, 1) := by decide +kernel
theorem d_Mo_take_80 : decode prog_12_method_44_code 80 = .ok (.iadd, 1) := by decide +kernel
theorem d_Mo_take_81 : decode prog_12_method_44_code 81 = .ok (.putfield 195, 3) := by decide +kernel
theorem d_Mo_take_84 : decode prog_12_method_44_code 84 = .ok (.aload_n 0, 1) := by decide +kernel
theorem d_Mo_take_85 : decode prog_12_method_44_code 85 = .ok (.aload_n 0, 1) := by decide +kernel
theorem d_Mo_take_86 : decode prog_12_method_44_code 86 = .ok (.getfield 91, 3) := by decide +kernel
theorem d_Mo_take_89 : decode prog_12_method_44_code 89 = .ok (.iconst 5, 1) := by decide +kernel
theorem d_Mo_take_90 : decode prog_12_method_44_code 90 = .ok (.iaload, 1) := by decide +kernel
theorem d_Mo_take_91 : decode prog_12_method_44_code 91 = .ok (.invokevirtual 214, 3) := by decide +kernel
theorem d_Mo_take_94 : decode prog_12_method_44_code 94 = .ok (.aload_n 0, 1) := by decide +kernel
theorem d_Mo_take_95 : decode prog_12_method_44_code 95 = .ok (.getfield 91, 3) := by decide +kernel
theorem d_Mo_take_98 : decode prog_12_method_44_code 98 = .ok (.iconst 5, 1) := by decide +kernel
theorem d_Mo_take_99 : decode prog_12_method_44_code 99 = .ok (.iconst (-1), 1) := by decide +kernel
theorem d_Mo_take_100 : decode prog_12_method_44_code 100 = .ok (.iastore, 1) := by decide +kernel
theorem d_Mo_take_101 : decode prog_12_method_44_code 101 = .ok (.iload_n 1, 1) := by decide +kernel
theorem d_Mo_take_102 : decode prog_12_method_44_code 102 = .ok (.ireturn, 1) := by decide +kernel
theorem d_Mo_variable_0 : decode prog_12_method_45_code 0 = .ok (.aload_n 0, 1) := by decide +kernel
theorem d_Mo_variable_1 : decode prog_12_method_45_code 1 = .ok (.iload_n 1, 1) := by decide +kernel
theorem d_Mo_variable_2 : decode prog_12_method_45_code 2 = .ok (.iconst 0, 1) := by decide +kernel
theorem d_Mo_variable_3 : decode prog_12_method_45_code 3 = .ok (.iconst 5, 1) := by decide +kernel
theorem d_Mo_variable_4 : decode prog_12_method_45_code 4 = .ok (.invokestatic 106, 3) := by decide +kernel
theorem d_Mo_variable_7 : decode prog_12_method_45_code 7 = .ok (.invokevirtual 110, 3) := by decide +kernel
theorem d_Mo_variable_10 : decode prog_12_method_45_code 10 = .ok (.ifCond .eq 5, 3) := by decide +kernel
theorem d_Mo_variable_13 : decode prog_12_method_45_code 13 = .ok (.iconst 0, 1) := by decide +kernel
theorem d_Mo_variable_14 : decode prog_12_method_45_code 14 = .ok (.ireturn, 1) := by decide +kernel
theorem d_Mo_variable_15 : decode prog_12_method_45_code 15 = .ok (.aload_n 0, 1) := by decide +kernel
theorem d_Mo_variable_16 : decode prog_12_method_45_code 16 = .ok (.getfield 19, 3) := by decide +kernel
theorem d_Mo_variable_19 : decode prog_12_method_45_code 19 = .ok (.iload_n 1, 1) := by decide +kernel
theorem d_Mo_variable_20 : decode prog_12_method_45_code 20 = .ok (.iaload, 1) := by decide +kernel
theorem d_Mo_variable_21 : decode prog_12_method_45_code 21 = .ok (.ireturn, 1) := by decide +kernel
theorem d_Mo_set_0 : decode prog_12_method_46_code 0 = .ok (.aload_n 0, 1) := by decide +kernel
theorem d_Mo_set_1 : decode prog_12_method_46_code 1 = .ok (.iload_n 1, 1) := by decide +kernel
theorem d_Mo_set_2 : decode prog_12_method_46_code 2 = .ok (.iconst 0, 1) := by decide +kernel
theorem d_Mo_set_3 : decode prog_12_method_46_code 3 = .ok (.iconst 5, 1) := by decide +kernel
theorem d_Mo_set_4 : decode prog_12_method_46_code 4 = .ok (.invokestatic 106, 3) := by decide +kernel
theorem d_Mo_set_7 : decode prog_12_method_46_code 7 = .ok (.invokevirtual 110, 3) := by decide +kernel
theorem d_Mo_set_10 : decode prog_12_method_46_code 10 = .ok (.ifCond .eq 4, 3) := by decide +kernel
theorem d_Mo_set_13 : decode prog_12_method_46_code 13 = .ok (.return_, 1) := by decide +kernel
theorem d_Mo_set_14 : decode prog_12_method_46_code 14 = .ok (.aload_n 0, 1) := by decide +kernel
theorem d_Mo_set_15 : decode prog_12_method_46_code 15 = .ok (.getfield 19, 3) := by decide +kernel
theorem d_Mo_set_18 : decode prog_12_method_46_code 18 = .ok (.iload_n 1, 1) := by decide +kernel
theorem d_Mo_set_19 : decode prog_12_method_46_code 19 = .ok (.iload_n 2, 1) := by decide +kernel
theorem d_Mo_set_20 : decode prog_12_method_46_code 20 = .ok (.iastore, 1) := by decide +kernel
theorem d_Mo_set_21 : decode prog_12_method_46_code 21 = .ok (.return_, 1) := by decide +kernel
theorem d_Mo_channel_0 : decode prog_12_method_47_code 0 = .ok (.aload_n 0, 1) := by decide +kernel
theorem d_Mo_channel_1 : decode prog_12_method_47_code 1 = .ok (.iload_n 1, 1) := by decide +kernel
theorem d_Mo_channel_2 : decode prog_12_method_47_code 2 = .ok (.iconst 0, 1) := by decide +kernel
theorem d_Mo_channel_3 : decode prog_12_method_47_code 3 = .ok (.iconst 5, 1) := by decide +kernel
theorem d_Mo_channel_4 : decode prog_12_method_47_code 4 = .ok (.invokestatic 106, 3) := by decide +kernel
theorem d_Mo_channel_7 : decode prog_12_method_47_code 7 = .ok (.invokevirtual 110, 3) := by decide +kernel
theorem d_Mo_channel_10 : decode prog_12_method_47_code 10 = .ok (.ifCond .ne 11, 3) := by decide +kernel
theorem d_Mo_channel_13 : decode prog_12_method_47_code 13 = .ok (.aload_n 0, 1) := by decide +kernel
theorem d_Mo_channel_14 : decode prog_12_method_47_code 14 = .ok (.getfield 208, 3) := by decide +kernel
theorem d_Mo_channel_17 : decode prog_12_method_47_code 17 = .ok (.iconst 1, 1) := by decide +kernel
theorem d_Mo_channel_18 : decode prog_12_method_47_code 18 = .ok (.if_icmp .eq 5, 3) := by decide +kernel
theorem d_Mo_channel_21 : decode prog_12_method_47_code 21 = .ok (.iconst 0, 1) := by decide +kernel
theorem d_Mo_channel_22 : decode prog_12_method_47_code 22 = .ok (.ireturn, 1) := by decide +kernel
theorem d_Mo_channel_23 : decode prog_12_method_47_code 23 = .ok (.aload_n 0, 1) := by decide +kernel
theorem d_Mo_channel_24 : decode prog_12_method_47_code 24 = .ok (.getfield 82, 3) := by decide +kernel
theorem d_Mo_channel_27 : decode prog_12_method_47_code 27 = .ok (.iload_n 1, 1) := by decide +kernel
theorem d_Mo_channel_28 : decode prog_12_method_47_code 28 = .ok (.iaload, 1) := by decide +kernel
theorem d_Mo_channel_29 : decode prog_12_method_47_code 29 = .ok (.ifCond .lt 7, 3) := by decide +kernel
theorem d_Mo_channel_32 : decode prog_12_method_47_code 32 = .ok (.iconst 1, 1) := by decide +kernel
theorem d_Mo_channel_33 : decode prog_12_method_47_code 33 = .ok (.goto 17, 3) := by decide +kernel
theorem d_Mo_channel_36 : decode prog_12_method_47_code 36 = .ok (.aload_n 0, 1) := by decide +kernel
theorem d_Mo_channel_37 : decode prog_12_method_47_code 37 = .ok (.getfield 91, 3) := by decide +kernel
theorem d_Mo_channel_40 : decode prog_12_method_47_code 40 = .ok (.iload_n 1, 1) := by decide +kernel
theorem d_Mo_channel_41 : decode prog_12_method_47_code 41 = .ok (.iaload, 1) := by decide +kernel
theorem d_Mo_channel_42 : decode prog_12_method_47_code 42 = .ok (.ifCond .lt 7, 3) := by decide +kernel
theorem d_Mo_channel_45 : decode prog_12_method_47_code 45 = .ok (.iconst 2, 1) := by decide +kernel
theorem d_Mo_channel_46 : decode prog_12_method_47_code 46 = .ok (.goto 4, 3) := by decide +kernel
theorem d_Mo_channel_49 : decode prog_12_method_47_code 49 = .ok (.iconst 0, 1) := by decide +kernel
theorem d_Mo_channel_50 : decode prog_12_method_47_code 50 = .ok (.ireturn, 1) := by decide +kernel
theorem d_Mo_thrown_0 : decode prog_12_method_2_code 0 = .ok (.aload_n 0, 1) := by decide +kernel
theorem d_Mo_thrown_1 : decode prog_12_method_2_code 1 = .ok (.getfield 103, 3) := by decide +kernel
theorem d_Mo_thrown_4 : decode prog_12_method_2_code 4 = .ok (.ireturn, 1) := by decide +kernel
section OK
variable {S : Nat} {I I' : Nat → Int32} {A A' : Nat → Nat → Int32} {L LA : List Nat} {st st' : Nat → Nat}
theorem m_CU.to (h : m_CU I A st) (h30 : I' 30 = I 30) (h27 : A' 27 = A 27) (hst : ∀ t, st t = 2 → st' t = 2) : m_CU I' A' st' := by
  rcases h with h | ⟨t, h1, h2, h3, h4⟩
  · exact Or.inl (h30.trans h)
  · exact Or.inr ⟨t, h1, h30.trans h2, (by unfold m_al; rw [h27]; exact h3), hst t h4⟩
theorem m_RUN.to (h : m_RUN I A) (hf : m_fr L I I') (ha : m_fa LA A A') (hL : ∀ k ∈ [29, 30], k ∉ L) (hA : ∀ k, k ∈ [1, 20, 21, 22, 24, 27, 28, 35, 36, 37, 38] → k ∉ LA) : m_RUN I' A' := by
  obtain ⟨V, own, pown, bl, role, n, q, pn, br, st, h1, h2, h3⟩ := h
  exact ⟨V, own, pown, bl, role, n, q, pn, br, st, (hf 29 (hL 29 (by decide))).trans h1, h2.fa ha hA, h3.to (hf 30 (hL 30 (by decide))) (ha 27 (hA 27 (by decide))) (fun _ h => h)⟩
theorem m_OK.to (h : m_OK S I A) (hf : m_fr L I I') (ha : m_fa LA A A') (hL : ∀ k ∈ [4, 9, 29, 30, 42, 43], k ∉ L) (hA : ∀ k, k ∈ [1, 20, 21, 22, 24, 27, 28, 35, 36, 37, 38] → k ∉ LA) : m_OK S I' A' := by
  obtain ⟨⟨h1, h2⟩, h3, h4⟩ := h
  have e9 := hf 9 (hL 9 (by decide))
  refine ⟨⟨h1, (hf 4 (hL 4 (by decide))).trans h2⟩, h3.fr hf (hL 42 (by decide)) (hL 43 (by decide)), ?_⟩
  rcases h4 with h4 | h4 | h4 | ⟨h4, h5⟩
  · exact Or.inl (e9.trans h4)
  · exact Or.inr (Or.inl (e9.trans h4))
  · exact Or.inr (Or.inr (Or.inl (e9.trans h4)))
  · exact Or.inr (Or.inr (Or.inr ⟨e9.trans h4, h5.to hf ha (fun k hk => hL k (by simp at hk ⊢; omega)) hA⟩))
end OK
theorem m_st2 {st : Nat → Nat} {t r : Nat} (ht : st t = 2) (hr : st r ≠ 2) : (if t = r then 1 else (if t = r then 0 else st t)) = 2 := by
  have hne : t ≠ r := fun e => hr (by rw [← e]; exact ht)
  rw [if_neg hne, if_neg hne]; exact ht
theorem x_in6 {v : Int32} (h1 : ¬ v < 0) (h2 : ¬ 5 < v) : vp_in v 6 := by
  rw [vp_in_iff]
  rw [x_lt] at h1 h2
  have e1 : (0 : Int32).toInt = 0 := by decide
  have e2 : (5 : Int32).toInt = 5 := by decide
  rw [e1] at h1; rw [e2] at h2
  omega
set_option maxHeartbeats 4000000 in
set_option maxRecDepth 100000 in
theorem m_give (l : Launch) (dC : Nat → ClassId) (dI : Nat → Nat → Nat) (ar : Nat → ClassId) (N0 : Nat) (z : Nat → Nat) (h0 : Nat) (ad : Nat → Nat) (I : Nat → Int32) (T : Int64) (A : Nat → Nat → Int32) (U : Nat → Int64) (S : Nat) (vv : Int32) (sz : Nat) (hok : m_OK S I A) : Met l ({ cls := "ChannelMachineModel", name := "give", desc := "(I)I" } : Jvm.MethodName) ((Jvm.Cond.code ({ cls := "ChannelMachineModel", name := "give", desc := "(I)I" } : Jvm.MethodName) prog_12_method_43_code (2 : Nat) (Option.some Jvm.ClassFile.FieldType.int)) :: x_T) ({ frames := 2, cells := 0, slots := 0, locals := 45 }) (x_Pc (dC, dI) ar N0 z (m_W h0 ad ar I T A U) sz [.ref h0, .int vv]) (va_Qi (fun (r : Int32) (u : (Nat → Int32) × Int64 × (Nat → Nat → Int32) × (Nat → Int64)) => m_OK S u.1 u.2.2.1) (fun u t => va_P (dC, dI) x_cl (m_W h0 ad ar u.1 u.2.1 u.2.2.1 u.2.2.2) t.heap) (va_A (m_W h0 ad ar I T A U) sz)) 0 0 (va_A (m_W h0 ad ar I T A U) sz) := by
  refine Met.ofW (cc := prog_12_method_43_code) (maxL := 2) (ret := (some .int)) (by decide) rfl ?_
  intro p e s m args below meth c s₁ B hml hv
  obtain ⟨rfl, hsz, hN0, hP, hU, hZ, hD0⟩ := hv
  have hK := hU.1
  have hx := B.exec
  have hb := B.bytes
  have hr := B.returns
  have hts : ∀ w ∈ x_T, w.before ([.ref h0, .int vv] : List Value).toArray s = true := fun w h => atoms_spec (ws := (Jvm.Cond.code ({ cls := "ChannelMachineModel", name := "give", desc := "(I)I" } : Jvm.MethodName) prog_12_method_43_code (2 : Nat) (Option.some Jvm.ClassFile.FieldType.int)) :: x_T) B.pre w (List.mem_cons_of_mem _ h)
  have hown : s.vm.findClass "ChannelMachineModel" = some m.cls := findClass_of_methodNamed B.named
  have hlocks := B.notSynchronized
  subst hsz
  have hD := hD0.self (sz := s.heap.size)
  have hAN := x_AN hD0 hN0
  generalize hAe : va_A (m_W h0 ad ar I T A U) s.heap.size = Bq at hD hAN ⊢
  have hA : ∀ q : Nat, s.heap.size ≤ q → Bq q := fun q h => by rw [← hAe]; exact Or.inr h
  have hS : va_S Bq s.heap s.heap [] := va_S.rf
  have hl := lv_entry ([.ref h0, .int vv]) (n := 2) (Nat.le_of_ble_eq_true rfl)
  rw [lg_entry_eq]
  generalize (lg_sl ([.ref h0, .int vv]) ++ List.replicate (2 - (lg_sl ([.ref h0, .int vv])).length) Slot.unset).toArray = ls at hl ⊢
  have hl : lv_has ls 2 [(0, .ref h0), (1, .int vv)] := hl
  have hok0 := hok
  obtain ⟨⟨hS72, h4⟩, ⟨⟨gv, hgv, h42⟩, b9, hb9, h43⟩, h9c⟩ := hok
  rcases h9c with h9 | h9 | h9 | ⟨h9, hrun⟩
  · refine lv_aload_n hx hb d_Mo_give_0 rfl (lv_at hl 0 rfl) ?_
    refine lv_iconst (v := 0) hx hb d_Mo_give_1 (by decide) ?_
    refine m_p hx hb hts hown hK hP hD hS 33 (by decide) rfl (hts _ k_1000) rfl (by decide +kernel) rfl (by decide) (x := 0) d_Mo_give_2 (fun H locs hP hD hS => ?_)
    refine lv_aload_n hx hb d_Mo_give_5 rfl (lv_at hl 0 rfl) ?_
    refine m_g hx hb hts hown hK hP 9 (by decide) rfl (hts _ k_976) (v := .int 0) (congrArg Value.int h9) d_Mo_give_6 ?_
    refine lv_iconst (v := 1) hx hb d_Mo_give_9 (by decide) ?_
    refine lv_icmp_ne (tgt := 22) hx hb d_Mo_give_10 (by decide) (fun _ => ?_) (fun c_1 => absurd c_1 (by decide))
    refine lv_aload_n hx hb d_Mo_give_22 rfl (lv_at hl 0 rfl) ?_
    refine lv_iconst (v := 1) hx hb d_Mo_give_23 (by decide) ?_
    have hFc := m_free hD hS hA
    refine va_calli (va_runV (As := [.int 1]) (rest := []) ⟨hx, hb, hml, hown, hts⟩ (m_fail l dC dI ar N0 z h0 ad (upd I 33 0) T A U (1) H.size ) (cwV 1 hts (x_goodV k_1120 k_1122 kp_49 k_9 k_1123) rfl rfl rfl (by decide +kernel) ⟨Nat.le_of_ble_eq_true rfl, Nat.le_of_ble_eq_true rfl⟩) ⟨x_blind, va_recv hK hP (ci := 6) (q0 := 0) rfl rfl, fun U9 hU9 hW9 => x_pre hU9 hW9 hP hD hU hZ hS hAN hN0⟩ rfl rfl hl.1 rfl (lv_room (Nat.le_of_ble_eq_true rfl)) d_Mo_give_24 ⟨Nat.le_of_ble_eq_true rfl, Nat.le_of_ble_eq_true rfl⟩) hS (fun q _ h => hFc q h) hFc (fun r_2 u t H1 locs ht hvm hw hB hz1 hk1 hS => ?_)
    obtain ⟨I4, T4, A4, U4⟩ := u
    dsimp only at hw hB
    rw [ht] at hB
    have hP : va_P (dC, dI) x_cl (m_W h0 ad ar I4 T4 A4 U4) H1 := hB
    have hD : va_D Bq (m_W h0 ad ar I4 T4 A4 U4) := m_D hD
    generalize H1 = H at hP hS ⊢
    refine W.widen (k := 0) (n := 0) (Nat.le_of_ble_eq_true rfl) (Nat.le_of_ble_eq_true rfl) ?_
    obtain ⟨h9, rfl⟩ := hw
    cases h9
    refine W.widen (k := 0) (n := 0) (Nat.le_of_ble_eq_true rfl) (Nat.le_of_ble_eq_true rfl) ?_
    exact W.iret (v := 0) hx hb hr (fun t ht hW => ⟨⟨0, ((upd (upd I 33 0) 33 1), T, A, U), rfl, hok0.to (L := [33]) (LA := [3, 40, 41]) ((m_fr.rf.up (by decide) _).up (by decide) _) m_fa.rf (by decide) (by decide), by dsimp only; rw [ht]; exact hP⟩, hS.F ht⟩) hS.2.2 d_Mo_give_27
  · refine lv_aload_n hx hb d_Mo_give_0 rfl (lv_at hl 0 rfl) ?_
    refine lv_iconst (v := 0) hx hb d_Mo_give_1 (by decide) ?_
    refine m_p hx hb hts hown hK hP hD hS 33 (by decide) rfl (hts _ k_1000) rfl (by decide +kernel) rfl (by decide) (x := 0) d_Mo_give_2 (fun H locs hP hD hS => ?_)
    refine lv_aload_n hx hb d_Mo_give_5 rfl (lv_at hl 0 rfl) ?_
    refine m_g hx hb hts hown hK hP 9 (by decide) rfl (hts _ k_976) (v := .int 2) (congrArg Value.int h9) d_Mo_give_6 ?_
    refine lv_iconst (v := 1) hx hb d_Mo_give_9 (by decide) ?_
    refine lv_icmp_ne (tgt := 22) hx hb d_Mo_give_10 (by decide) (fun _ => ?_) (fun c_5 => absurd c_5 (by decide))
    refine lv_aload_n hx hb d_Mo_give_22 rfl (lv_at hl 0 rfl) ?_
    refine lv_iconst (v := 1) hx hb d_Mo_give_23 (by decide) ?_
    have hFc := m_free hD hS hA
    refine va_calli (va_runV (As := [.int 1]) (rest := []) ⟨hx, hb, hml, hown, hts⟩ (m_fail l dC dI ar N0 z h0 ad (upd I 33 0) T A U (1) H.size ) (cwV 1 hts (x_goodV k_1120 k_1122 kp_49 k_9 k_1123) rfl rfl rfl (by decide +kernel) ⟨Nat.le_of_ble_eq_true rfl, Nat.le_of_ble_eq_true rfl⟩) ⟨x_blind, va_recv hK hP (ci := 6) (q0 := 0) rfl rfl, fun U9 hU9 hW9 => x_pre hU9 hW9 hP hD hU hZ hS hAN hN0⟩ rfl rfl hl.1 rfl (lv_room (Nat.le_of_ble_eq_true rfl)) d_Mo_give_24 ⟨Nat.le_of_ble_eq_true rfl, Nat.le_of_ble_eq_true rfl⟩) hS (fun q _ h => hFc q h) hFc (fun r_6 u t H1 locs ht hvm hw hB hz1 hk1 hS => ?_)
    obtain ⟨I8, T8, A8, U8⟩ := u
    dsimp only at hw hB
    rw [ht] at hB
    have hP : va_P (dC, dI) x_cl (m_W h0 ad ar I8 T8 A8 U8) H1 := hB
    have hD : va_D Bq (m_W h0 ad ar I8 T8 A8 U8) := m_D hD
    generalize H1 = H at hP hS ⊢
    refine W.widen (k := 0) (n := 0) (Nat.le_of_ble_eq_true rfl) (Nat.le_of_ble_eq_true rfl) ?_
    obtain ⟨h9, rfl⟩ := hw
    cases h9
    refine W.widen (k := 0) (n := 0) (Nat.le_of_ble_eq_true rfl) (Nat.le_of_ble_eq_true rfl) ?_
    exact W.iret (v := 0) hx hb hr (fun t ht hW => ⟨⟨0, ((upd (upd I 33 0) 33 1), T, A, U), rfl, hok0.to (L := [33]) (LA := [3, 40, 41]) ((m_fr.rf.up (by decide) _).up (by decide) _) m_fa.rf (by decide) (by decide), by dsimp only; rw [ht]; exact hP⟩, hS.F ht⟩) hS.2.2 d_Mo_give_27
  · refine lv_aload_n hx hb d_Mo_give_0 rfl (lv_at hl 0 rfl) ?_
    refine lv_iconst (v := 0) hx hb d_Mo_give_1 (by decide) ?_
    refine m_p hx hb hts hown hK hP hD hS 33 (by decide) rfl (hts _ k_1000) rfl (by decide +kernel) rfl (by decide) (x := 0) d_Mo_give_2 (fun H locs hP hD hS => ?_)
    refine lv_aload_n hx hb d_Mo_give_5 rfl (lv_at hl 0 rfl) ?_
    refine m_g hx hb hts hown hK hP 9 (by decide) rfl (hts _ k_976) (v := .int 3) (congrArg Value.int h9) d_Mo_give_6 ?_
    refine lv_iconst (v := 1) hx hb d_Mo_give_9 (by decide) ?_
    refine lv_icmp_ne (tgt := 22) hx hb d_Mo_give_10 (by decide) (fun _ => ?_) (fun c_9 => absurd c_9 (by decide))
    refine lv_aload_n hx hb d_Mo_give_22 rfl (lv_at hl 0 rfl) ?_
    refine lv_iconst (v := 1) hx hb d_Mo_give_23 (by decide) ?_
    have hFc := m_free hD hS hA
    refine va_calli (va_runV (As := [.int 1]) (rest := []) ⟨hx, hb, hml, hown, hts⟩ (m_fail l dC dI ar N0 z h0 ad (upd I 33 0) T A U (1) H.size ) (cwV 1 hts (x_goodV k_1120 k_1122 kp_49 k_9 k_1123) rfl rfl rfl (by decide +kernel) ⟨Nat.le_of_ble_eq_true rfl, Nat.le_of_ble_eq_true rfl⟩) ⟨x_blind, va_recv hK hP (ci := 6) (q0 := 0) rfl rfl, fun U9 hU9 hW9 => x_pre hU9 hW9 hP hD hU hZ hS hAN hN0⟩ rfl rfl hl.1 rfl (lv_room (Nat.le_of_ble_eq_true rfl)) d_Mo_give_24 ⟨Nat.le_of_ble_eq_true rfl, Nat.le_of_ble_eq_true rfl⟩) hS (fun q _ h => hFc q h) hFc (fun r_10 u t H1 locs ht hvm hw hB hz1 hk1 hS => ?_)
    obtain ⟨I12, T12, A12, U12⟩ := u
    dsimp only at hw hB
    rw [ht] at hB
    have hP : va_P (dC, dI) x_cl (m_W h0 ad ar I12 T12 A12 U12) H1 := hB
    have hD : va_D Bq (m_W h0 ad ar I12 T12 A12 U12) := m_D hD
    generalize H1 = H at hP hS ⊢
    refine W.widen (k := 0) (n := 0) (Nat.le_of_ble_eq_true rfl) (Nat.le_of_ble_eq_true rfl) ?_
    obtain ⟨h9, rfl⟩ := hw
    cases h9
    refine W.widen (k := 0) (n := 0) (Nat.le_of_ble_eq_true rfl) (Nat.le_of_ble_eq_true rfl) ?_
    exact W.iret (v := 0) hx hb hr (fun t ht hW => ⟨⟨0, ((upd (upd I 33 0) 33 1), T, A, U), rfl, hok0.to (L := [33]) (LA := [3, 40, 41]) ((m_fr.rf.up (by decide) _).up (by decide) _) m_fa.rf (by decide) (by decide), by dsimp only; rw [ht]; exact hP⟩, hS.F ht⟩) hS.2.2 d_Mo_give_27
  · have hrun0 := hrun
    obtain ⟨V, own, pown, bl, role, k9, q, pn, br, st, h29, hri, hcu⟩ := hrun
    refine lv_aload_n hx hb d_Mo_give_0 rfl (lv_at hl 0 rfl) ?_
    refine lv_iconst (v := 0) hx hb d_Mo_give_1 (by decide) ?_
    refine m_p hx hb hts hown hK hP hD hS 33 (by decide) rfl (hts _ k_1000) rfl (by decide +kernel) rfl (by decide) (x := 0) d_Mo_give_2 (fun H locs hP hD hS => ?_)
    refine lv_aload_n hx hb d_Mo_give_5 rfl (lv_at hl 0 rfl) ?_
    refine m_g hx hb hts hown hK hP 9 (by decide) rfl (hts _ k_976) (v := .int 1) (congrArg Value.int h9) d_Mo_give_6 ?_
    refine lv_iconst (v := 1) hx hb d_Mo_give_9 (by decide) ?_
    refine lv_icmp_ne (tgt := 22) hx hb d_Mo_give_10 (by decide) (fun c_13 => absurd rfl c_13) (fun _ => ?_)
    refine lv_aload_n hx hb d_Mo_give_13 rfl (lv_at hl 0 rfl) ?_
    refine m_g hx hb hts hown hK hP 42 (by decide) rfl (hts _ k_1009) (v := .int (Int32.ofNat gv)) (congrArg Value.int h42) d_Mo_give_14 ?_
    refine lv_bipush (v := 8) hx hb d_Mo_give_17 (by decide) ?_
    refine lv_icmp_ne (tgt := 28) hx hb d_Mo_give_19 (by decide) (fun c_14 => ?_) (fun c_14 => ?_)
    · have c_14 : ¬ gv = 8 := fun h9 => c_14 ((x_eqN (a := gv) (b := 8) (by omega) (by omega)).mpr h9)
      refine lv_aload_n hx hb d_Mo_give_28 rfl (lv_at hl 0 rfl) ?_
      refine m_g hx hb hts hown hK hP 35 (by decide) rfl (hts _ k_1002) (v := .ref (ad 35)) rfl d_Mo_give_29 ?_
      refine lv_iconst (v := 4) hx hb d_Mo_give_32 (by decide) ?_
      refine W.eq (g2 := F0 m 33 ls [.int (Int32.ofNat 4), .ref (ad 35)]) rfl ?_
      rcases hri.2.2.2.2.1 4 (by omega) with hr9 | ⟨r9, w9, x9, hr9l, hr9, har, hsr, hw9, hw9l, e37, hVx, hox⟩
      · refine m_ld hx hb hK hP 21 rfl (by decide) (j := (Int32.ofNat 4)) (x_inN (by omega) (by decide)) d_Mo_give_33 ?_
        refine W.eq (g2 := F0 m 34 ls [.int (-1)]) (by rw [x_nat (a := 4) (by omega), show A 35 4 = (-1) from hr9]) ?_
        refine lv_if_lt (tgt := 46) hx hb d_Mo_give_34 (by decide) (fun _ => ?_) (fun c_15 => absurd (by decide) c_15)
        refine lv_aload_n hx hb d_Mo_give_46 rfl (lv_at hl 0 rfl) ?_
        refine m_g hx hb hts hown hK hP 40 (by decide) rfl (hts _ k_1007) (v := .ref (ad 40)) rfl d_Mo_give_47 ?_
        refine lv_aload_n hx hb d_Mo_give_50 rfl (lv_at hl 0 rfl) ?_
        refine m_g hx hb hts hown hK hP 42 (by decide) rfl (hts _ k_1009) (v := .int (Int32.ofNat gv)) (congrArg Value.int h42) d_Mo_give_51 ?_
        refine lv_iload_n hx hb d_Mo_give_54 rfl (lv_at hl 1 rfl) ?_
        refine m_st hx hb hK hP hD hS 26 rfl (by decide) (j := (Int32.ofNat gv)) (x := vv) (x_inN (by omega) (by decide)) d_Mo_give_55 (fun H locs hP hD hS => ?_)
        rw [x_nat (a := gv) (by omega)] at hP hD
        have hP : va_P (dC, dI) x_cl (m_W h0 ad ar (upd I 33 0) T (m_up A 40 (upd (A 40) gv vv)) U) H := hP
        have hD : va_D Bq (m_W h0 ad ar (upd I 33 0) T (m_up A 40 (upd (A 40) gv vv)) U) := hD
        refine lv_aload_n hx hb d_Mo_give_56 rfl (lv_at hl 0 rfl) ?_
        refine lv_dup hx hb d_Mo_give_57 rfl ?_
        refine m_g hx hb hts hown hK hP 42 (by decide) rfl (hts _ k_1009) (v := .int (Int32.ofNat gv)) (congrArg Value.int h42) d_Mo_give_58 ?_
        refine lv_iconst (v := 1) hx hb d_Mo_give_61 (by decide) ?_
        refine lv_iadd hx hb d_Mo_give_62 ?_
        refine W.eq (g2 := F0 m 63 ls [.int (Int32.ofNat (gv + 1)), .ref h0]) (by rw [← x_addN (a := gv) (b := 1)] <;> rfl) ?_
        refine m_p hx hb hts hown hK hP hD hS 42 (by decide) rfl (hts _ k_1009) rfl (by decide +kernel) rfl (by decide) (x := (Int32.ofNat (gv + 1))) d_Mo_give_63 (fun H locs hP hD hS => ?_)
        refine lv_aload_n hx hb d_Mo_give_66 rfl (lv_at hl 0 rfl) ?_
        refine m_g hx hb hts hown hK hP 42 (by decide) rfl (hts _ k_1009) (v := .int (Int32.ofNat (gv + 1))) rfl d_Mo_give_67 ?_
        refine W.widen (k := 0) (n := 0) (Nat.le_of_ble_eq_true rfl) (Nat.le_of_ble_eq_true rfl) ?_
        exact W.iret (v := (Int32.ofNat (gv + 1))) hx hb hr (fun t ht hW => ⟨⟨(Int32.ofNat (gv + 1)), ((upd (upd I 33 0) 42 (Int32.ofNat (gv + 1))), T, (m_up A 40 (upd (A 40) gv vv)), U), rfl, ⟨⟨hS72, h4⟩, ⟨⟨gv + 1, by omega, rfl⟩, b9, hb9, h43⟩, Or.inr (Or.inr (Or.inr ⟨h9, hrun0.to (L := [33, 42]) (LA := [40]) ((m_fr.rf.up (by decide) _).up (by decide) _) (m_fa.rf.up (by decide) _) (by decide) (by decide)⟩))⟩, by dsimp only; rw [ht]; exact hP⟩, hS.F ht⟩) hS.2.2 d_Mo_give_70
      · refine m_ld hx hb hK hP 21 rfl (by decide) (j := (Int32.ofNat 4)) (x_inN (by omega) (by decide)) d_Mo_give_33 ?_
        refine W.eq (g2 := F0 m 34 ls [.int (Int32.ofNat r9)]) (by rw [x_nat (a := 4) (by omega), show A 35 4 = (Int32.ofNat r9) from hr9]) ?_
        refine lv_if_lt (tgt := 46) hx hb d_Mo_give_34 (by decide) (fun c => absurd ((x_ltN (a := r9) (b := 0) (by omega) (by omega)).mp c) (Nat.not_lt_zero _)) (fun _ => ?_)
        refine lv_aload_n hx hb d_Mo_give_37 rfl (lv_at hl 0 rfl) ?_
        refine lv_iconst (v := 4) hx hb d_Mo_give_38 (by decide) ?_
        refine W.eq (g2 := F0 m 39 ls [.int (Int32.ofNat 4), .ref h0]) rfl ?_
        refine lv_iload_n hx hb d_Mo_give_39 rfl (lv_at hl 1 rfl) ?_
        have hFc := m_free hD hS hA
        refine va_callv (va_runV (As := [.int (Int32.ofNat 4), .int vv]) (rest := []) ⟨hx, hb, hml, hown, hts⟩ (m_hand l dC dI ar N0 z h0 ad (upd I 33 0) T A U 4 r9 w9 q vv H.size h29 hri.qlt (by omega) hr9l hr9 hw9l hw9) (cwV 2 hts (x_goodV k_1246 k_1248 kp_76 k_9 k_1249) rfl rfl rfl (by decide +kernel) ⟨Nat.le_of_ble_eq_true rfl, Nat.le_of_ble_eq_true rfl⟩) ⟨x_blind, va_recv hK hP (ci := 6) (q0 := 0) rfl rfl, fun U9 hU9 hW9 => x_pre hU9 hW9 hP hD hU hZ hS hAN hN0⟩ rfl rfl hl.1 rfl (lv_room (Nat.le_of_ble_eq_true rfl)) d_Mo_give_40 ⟨Nat.le_of_ble_eq_true rfl, Nat.le_of_ble_eq_true rfl⟩) hS (fun q _ h => hFc q h) hFc (fun u t H1 locs ht hvm hw hB hz1 hk1 hS => ?_)
        obtain ⟨I17, T17, A17, U17⟩ := u
        dsimp only at hw hB
        rw [ht] at hB
        have hP : va_P (dC, dI) x_cl (m_W h0 ad ar I17 T17 A17 U17) H1 := hB
        have hD : va_D Bq (m_W h0 ad ar I17 T17 A17 U17) := m_D hD
        generalize H1 = H at hP hS ⊢
        refine W.widen (k := 0) (n := 0) (Nat.le_of_ble_eq_true rfl) (Nat.le_of_ble_eq_true rfl) ?_
        obtain ⟨e1, e2, e3, fa17, h2017, h2417, h3517⟩ := hw
        rw [e1, e2, e3] at hP hD
        have hP : va_P (dC, dI) x_cl (m_W h0 ad ar (upd (upd I 33 0) 29 (Int32.ofNat (q + 1))) T A17 U) H := hP
        have hD : va_D Bq (m_W h0 ad ar (upd (upd I 33 0) 29 (Int32.ofNat (q + 1))) T A17 U) := hD
        refine lv_goto (tgt := 66) hx hb d_Mo_give_43 (by decide) ?_
        refine lv_aload_n hx hb d_Mo_give_66 rfl (lv_at hl 0 rfl) ?_
        refine m_g hx hb hts hown hK hP 42 (by decide) rfl (hts _ k_1009) (v := .int (Int32.ofNat gv)) (congrArg Value.int h42) d_Mo_give_67 ?_
        refine W.widen (k := 0) (n := 0) (Nat.le_of_ble_eq_true rfl) (Nat.le_of_ble_eq_true rfl) ?_
        exact W.iret (v := (Int32.ofNat gv)) hx hb hr (fun t ht hW => ⟨⟨(Int32.ofNat gv), ((upd (upd I 33 0) 29 (Int32.ofNat (q + 1))), T, A17, U), rfl, ⟨⟨hS72, h4⟩, ⟨⟨gv, hgv, h42⟩, b9, hb9, h43⟩, Or.inr (Or.inr (Or.inr ⟨h9, V, own, pown, bl, role, k9, q + 1, _, br, _, rfl, (hri.hand hr9l har hsr e37 hVx hox fa17 h2017 h2417 h3517), hcu.to rfl (fa17 27 (by decide)) (fun t ht => m_st2 ht (by omega))⟩))⟩, by dsimp only; rw [ht]; exact hP⟩, hS.F ht⟩) hS.2.2 d_Mo_give_70
    · have c_14 : gv = 8 := (x_eqN (a := gv) (b := 8) (by omega) (by omega)).mp c_14
      refine lv_aload_n hx hb d_Mo_give_22 rfl (lv_at hl 0 rfl) ?_
      refine lv_iconst (v := 1) hx hb d_Mo_give_23 (by decide) ?_
      have hFc := m_free hD hS hA
      refine va_calli (va_runV (As := [.int 1]) (rest := []) ⟨hx, hb, hml, hown, hts⟩ (m_fail l dC dI ar N0 z h0 ad (upd I 33 0) T A U (1) H.size ) (cwV 1 hts (x_goodV k_1120 k_1122 kp_49 k_9 k_1123) rfl rfl rfl (by decide +kernel) ⟨Nat.le_of_ble_eq_true rfl, Nat.le_of_ble_eq_true rfl⟩) ⟨x_blind, va_recv hK hP (ci := 6) (q0 := 0) rfl rfl, fun U9 hU9 hW9 => x_pre hU9 hW9 hP hD hU hZ hS hAN hN0⟩ rfl rfl hl.1 rfl (lv_room (Nat.le_of_ble_eq_true rfl)) d_Mo_give_24 ⟨Nat.le_of_ble_eq_true rfl, Nat.le_of_ble_eq_true rfl⟩) hS (fun q _ h => hFc q h) hFc (fun r_18 u t H1 locs ht hvm hw hB hz1 hk1 hS => ?_)
      obtain ⟨I20, T20, A20, U20⟩ := u
      dsimp only at hw hB
      rw [ht] at hB
      have hP : va_P (dC, dI) x_cl (m_W h0 ad ar I20 T20 A20 U20) H1 := hB
      have hD : va_D Bq (m_W h0 ad ar I20 T20 A20 U20) := m_D hD
      generalize H1 = H at hP hS ⊢
      refine W.widen (k := 0) (n := 0) (Nat.le_of_ble_eq_true rfl) (Nat.le_of_ble_eq_true rfl) ?_
      obtain ⟨h9, rfl⟩ := hw
      cases h9
      refine W.widen (k := 0) (n := 0) (Nat.le_of_ble_eq_true rfl) (Nat.le_of_ble_eq_true rfl) ?_
      exact W.iret (v := 0) hx hb hr (fun t ht hW => ⟨⟨0, ((upd (upd I 33 0) 33 1), T, A, U), rfl, hok0.to (L := [33]) (LA := [3, 40, 41]) ((m_fr.rf.up (by decide) _).up (by decide) _) m_fa.rf (by decide) (by decide), by dsimp only; rw [ht]; exact hP⟩, hS.F ht⟩) hS.2.2 d_Mo_give_27
set_option maxHeartbeats 4000000 in
set_option maxRecDepth 100000 in
theorem m_take (l : Launch) (dC : Nat → ClassId) (dI : Nat → Nat → Nat) (ar : Nat → ClassId) (N0 : Nat) (z : Nat → Nat) (h0 : Nat) (ad : Nat → Nat) (I : Nat → Int32) (T : Int64) (A : Nat → Nat → Int32) (U : Nat → Int64) (S : Nat) (sz : Nat) (hok : m_OK S I A) : Met l ({ cls := "ChannelMachineModel", name := "take", desc := "()I" } : Jvm.MethodName) ((Jvm.Cond.code ({ cls := "ChannelMachineModel", name := "take", desc := "()I" } : Jvm.MethodName) prog_12_method_44_code (2 : Nat) (Option.some Jvm.ClassFile.FieldType.int)) :: x_T) ({ frames := 1, cells := 0, slots := 0, locals := 23 }) (x_Pc (dC, dI) ar N0 z (m_W h0 ad ar I T A U) sz [.ref h0]) (va_Qi (fun (r : Int32) (u : (Nat → Int32) × Int64 × (Nat → Nat → Int32) × (Nat → Int64)) => m_OK S u.1 u.2.2.1) (fun u t => va_P (dC, dI) x_cl (m_W h0 ad ar u.1 u.2.1 u.2.2.1 u.2.2.2) t.heap) (va_A (m_W h0 ad ar I T A U) sz)) 0 0 (va_A (m_W h0 ad ar I T A U) sz) := by
  refine Met.ofW (cc := prog_12_method_44_code) (maxL := 2) (ret := (some .int)) (by decide) rfl ?_
  intro p e s m args below meth c s₁ B hml hv
  obtain ⟨rfl, hsz, hN0, hP, hU, hZ, hD0⟩ := hv
  have hK := hU.1
  have hx := B.exec
  have hb := B.bytes
  have hr := B.returns
  have hts : ∀ w ∈ x_T, w.before ([.ref h0] : List Value).toArray s = true := fun w h => atoms_spec (ws := (Jvm.Cond.code ({ cls := "ChannelMachineModel", name := "take", desc := "()I" } : Jvm.MethodName) prog_12_method_44_code (2 : Nat) (Option.some Jvm.ClassFile.FieldType.int)) :: x_T) B.pre w (List.mem_cons_of_mem _ h)
  have hown : s.vm.findClass "ChannelMachineModel" = some m.cls := findClass_of_methodNamed B.named
  have hlocks := B.notSynchronized
  subst hsz
  have hD := hD0.self (sz := s.heap.size)
  have hAN := x_AN hD0 hN0
  generalize hAe : va_A (m_W h0 ad ar I T A U) s.heap.size = Bq at hD hAN ⊢
  have hA : ∀ q : Nat, s.heap.size ≤ q → Bq q := fun q h => by rw [← hAe]; exact Or.inr h
  have hS : va_S Bq s.heap s.heap [] := va_S.rf
  have hl := lv_entry ([.ref h0]) (n := 2) (Nat.le_of_ble_eq_true rfl)
  rw [lg_entry_eq]
  generalize (lg_sl ([.ref h0]) ++ List.replicate (2 - (lg_sl ([.ref h0])).length) Slot.unset).toArray = ls at hl ⊢
  have hl : lv_has ls 2 [(0, .ref h0)] := hl
  have hok0 := hok
  obtain ⟨⟨hS72, h4⟩, ⟨⟨gv, hgv, h42⟩, b9, hb9, h43⟩, h9c⟩ := hok
  rcases h9c with h9 | h9 | h9 | ⟨h9, hrun⟩
  · refine lv_aload_n hx hb d_Mo_take_0 rfl (lv_at hl 0 rfl) ?_
    refine lv_iconst (v := 0) hx hb d_Mo_take_1 (by decide) ?_
    refine m_p hx hb hts hown hK hP hD hS 33 (by decide) rfl (hts _ k_1000) rfl (by decide +kernel) rfl (by decide) (x := 0) d_Mo_take_2 (fun H locs hP hD hS => ?_)
    refine lv_aload_n hx hb d_Mo_take_5 rfl (lv_at hl 0 rfl) ?_
    refine m_g hx hb hts hown hK hP 43 (by decide) rfl (hts _ k_1010) (v := .int (Int32.ofNat b9)) (congrArg Value.int h43) d_Mo_take_6 ?_
    refine lv_if_ne (tgt := 18) hx hb d_Mo_take_9 (by decide) (fun c_1 => ?_) (fun c_1 => ?_)
    · have c_1 : ¬ b9 = 0 := fun h9 => c_1 ((x_eqN (a := b9) (b := 0) (by omega) (by omega)).mpr h9)
      refine lv_aload_n hx hb d_Mo_take_18 rfl (lv_at hl 0 rfl) ?_
      refine m_g hx hb hts hown hK hP 41 (by decide) rfl (hts _ k_1008) (v := .ref (ad 41)) rfl d_Mo_take_19 ?_
      refine lv_aload_n hx hb d_Mo_take_22 rfl (lv_at hl 0 rfl) ?_
      refine m_g hx hb hts hown hK hP 43 (by decide) rfl (hts _ k_1010) (v := .int (Int32.ofNat b9)) (congrArg Value.int h43) d_Mo_take_23 ?_
      have hFc := m_free hD hS hA
      refine va_calli (va_runS (As := [.ref (ad 41), .int (Int32.ofNat b9)]) (rest := []) ⟨hx, hb, hml, hown, hts⟩ (m_shift41 l dC dI ar N0 z h0 ad (upd I 33 0) T A U b9 H.size (by omega)) (cwS 2 hts (x_goodS k_1210 k_1211 k_9 k_1212) rfl rfl rfl (by decide +kernel) ⟨Nat.le_of_ble_eq_true rfl, Nat.le_of_ble_eq_true rfl⟩) ⟨x_blind, fun U9 hU9 hW9 => x_pre hU9 hW9 hP hD hU hZ hS hAN hN0⟩ rfl rfl hl.1 rfl (lv_room (Nat.le_of_ble_eq_true rfl)) d_Mo_take_26 ⟨Nat.le_of_ble_eq_true rfl, Nat.le_of_ble_eq_true rfl⟩) hS (fun q _ h => hFc q h) hFc (fun r_2 u t H1 locs ht hvm hw hB hz1 hk1 hS => ?_)
      obtain ⟨I4, T4, A4, U4⟩ := u
      dsimp only at hw hB
      rw [ht] at hB
      have hP : va_P (dC, dI) x_cl (m_W h0 ad ar I4 T4 A4 U4) H1 := hB
      have hD : va_D Bq (m_W h0 ad ar I4 T4 A4 U4) := m_D hD
      generalize H1 = H at hP hS ⊢
      refine W.widen (k := 0) (n := 0) (Nat.le_of_ble_eq_true rfl) (Nat.le_of_ble_eq_true rfl) ?_
      obtain ⟨rfl, e1, e2, e3, fa4, g14, _⟩ := hw
      rw [e1, e2, e3] at hP hD
      refine lv_istore_n (lv' := [(1, .int (A 41 0)), (0, .ref h0)]) hx hb d_Mo_take_29 rfl hl (by decide) rfl (fun ls hl => ?_)
      refine lv_aload_n hx hb d_Mo_take_30 rfl (lv_at hl 1 rfl) ?_
      refine lv_dup hx hb d_Mo_take_31 rfl ?_
      refine m_g hx hb hts hown hK hP 43 (by decide) rfl (hts _ k_1010) (v := .int (Int32.ofNat b9)) (congrArg Value.int h43) d_Mo_take_32 ?_
      refine lv_iconst (v := 1) hx hb d_Mo_take_35 (by decide) ?_
      refine lv_isub hx hb d_Mo_take_36 ?_
      refine W.eq (g2 := F0 m 37 ls [.int (Int32.ofNat (b9 - 1)), .ref h0]) (by rw [← x_subN (a := b9) (b := 1) (by omega)] <;> rfl) ?_
      refine m_p hx hb hts hown hK hP hD hS 43 (by decide) rfl (hts _ k_1010) rfl (by decide +kernel) rfl (by decide) (x := (Int32.ofNat (b9 - 1))) d_Mo_take_37 (fun H locs hP hD hS => ?_)
      refine lv_aload_n hx hb d_Mo_take_40 rfl (lv_at hl 1 rfl) ?_
      refine m_g hx hb hts hown hK hP 9 (by decide) rfl (hts _ k_976) (v := .int 0) (congrArg Value.int h9) d_Mo_take_41 ?_
      refine lv_iconst (v := 1) hx hb d_Mo_take_44 (by decide) ?_
      refine lv_icmp_ne (tgt := 57) hx hb d_Mo_take_45 (by decide) (fun _ => ?_) (fun c_5 => absurd c_5 (by decide))
      refine lv_iload_n hx hb d_Mo_take_57 rfl (lv_at hl 0 rfl) ?_
      refine W.widen (k := 0) (n := 0) (Nat.le_of_ble_eq_true rfl) (Nat.le_of_ble_eq_true rfl) ?_
      exact W.iret (v := (A 41 0)) hx hb hr (fun t ht hW => ⟨⟨(A 41 0), ((upd (upd I 33 0) 43 (Int32.ofNat (b9 - 1))), T, A4, U), rfl, ⟨⟨hS72, h4⟩, ⟨⟨gv, hgv, h42⟩, b9 - 1, by omega, rfl⟩, Or.inl h9⟩, by dsimp only; rw [ht]; exact hP⟩, hS.F ht⟩) hS.2.2 d_Mo_take_58
    · have c_1 : b9 = 0 := (x_eqN (a := b9) (b := 0) (by omega) (by omega)).mp c_1
      refine lv_aload_n hx hb d_Mo_take_12 rfl (lv_at hl 0 rfl) ?_
      refine lv_iconst (v := 1) hx hb d_Mo_take_13 (by decide) ?_
      have hFc := m_free hD hS hA
      refine va_calli (va_runV (As := [.int 1]) (rest := []) ⟨hx, hb, hml, hown, hts⟩ (m_fail l dC dI ar N0 z h0 ad (upd I 33 0) T A U (1) H.size ) (cwV 1 hts (x_goodV k_1120 k_1122 kp_49 k_9 k_1123) rfl rfl rfl (by decide +kernel) ⟨Nat.le_of_ble_eq_true rfl, Nat.le_of_ble_eq_true rfl⟩) ⟨x_blind, va_recv hK hP (ci := 6) (q0 := 0) rfl rfl, fun U9 hU9 hW9 => x_pre hU9 hW9 hP hD hU hZ hS hAN hN0⟩ rfl rfl hl.1 rfl (lv_room (Nat.le_of_ble_eq_true rfl)) d_Mo_take_14 ⟨Nat.le_of_ble_eq_true rfl, Nat.le_of_ble_eq_true rfl⟩) hS (fun q _ h => hFc q h) hFc (fun r_6 u t H1 locs ht hvm hw hB hz1 hk1 hS => ?_)
      obtain ⟨I8, T8, A8, U8⟩ := u
      dsimp only at hw hB
      rw [ht] at hB
      have hP : va_P (dC, dI) x_cl (m_W h0 ad ar I8 T8 A8 U8) H1 := hB
      have hD : va_D Bq (m_W h0 ad ar I8 T8 A8 U8) := m_D hD
      generalize H1 = H at hP hS ⊢
      refine W.widen (k := 0) (n := 0) (Nat.le_of_ble_eq_true rfl) (Nat.le_of_ble_eq_true rfl) ?_
      obtain ⟨h9, rfl⟩ := hw
      cases h9
      refine W.widen (k := 0) (n := 0) (Nat.le_of_ble_eq_true rfl) (Nat.le_of_ble_eq_true rfl) ?_
      exact W.iret (v := 0) hx hb hr (fun t ht hW => ⟨⟨0, ((upd (upd I 33 0) 33 1), T, A, U), rfl, hok0.to (L := [33]) (LA := [3, 40, 41]) ((m_fr.rf.up (by decide) _).up (by decide) _) m_fa.rf (by decide) (by decide), by dsimp only; rw [ht]; exact hP⟩, hS.F ht⟩) hS.2.2 d_Mo_take_17
  · refine lv_aload_n hx hb d_Mo_take_0 rfl (lv_at hl 0 rfl) ?_
    refine lv_iconst (v := 0) hx hb d_Mo_take_1 (by decide) ?_
    refine m_p hx hb hts hown hK hP hD hS 33 (by decide) rfl (hts _ k_1000) rfl (by decide +kernel) rfl (by decide) (x := 0) d_Mo_take_2 (fun H locs hP hD hS => ?_)
    refine lv_aload_n hx hb d_Mo_take_5 rfl (lv_at hl 0 rfl) ?_
    refine m_g hx hb hts hown hK hP 43 (by decide) rfl (hts _ k_1010) (v := .int (Int32.ofNat b9)) (congrArg Value.int h43) d_Mo_take_6 ?_
    refine lv_if_ne (tgt := 18) hx hb d_Mo_take_9 (by decide) (fun c_9 => ?_) (fun c_9 => ?_)
    · have c_9 : ¬ b9 = 0 := fun h9 => c_9 ((x_eqN (a := b9) (b := 0) (by omega) (by omega)).mpr h9)
      refine lv_aload_n hx hb d_Mo_take_18 rfl (lv_at hl 0 rfl) ?_
      refine m_g hx hb hts hown hK hP 41 (by decide) rfl (hts _ k_1008) (v := .ref (ad 41)) rfl d_Mo_take_19 ?_
      refine lv_aload_n hx hb d_Mo_take_22 rfl (lv_at hl 0 rfl) ?_
      refine m_g hx hb hts hown hK hP 43 (by decide) rfl (hts _ k_1010) (v := .int (Int32.ofNat b9)) (congrArg Value.int h43) d_Mo_take_23 ?_
      have hFc := m_free hD hS hA
      refine va_calli (va_runS (As := [.ref (ad 41), .int (Int32.ofNat b9)]) (rest := []) ⟨hx, hb, hml, hown, hts⟩ (m_shift41 l dC dI ar N0 z h0 ad (upd I 33 0) T A U b9 H.size (by omega)) (cwS 2 hts (x_goodS k_1210 k_1211 k_9 k_1212) rfl rfl rfl (by decide +kernel) ⟨Nat.le_of_ble_eq_true rfl, Nat.le_of_ble_eq_true rfl⟩) ⟨x_blind, fun U9 hU9 hW9 => x_pre hU9 hW9 hP hD hU hZ hS hAN hN0⟩ rfl rfl hl.1 rfl (lv_room (Nat.le_of_ble_eq_true rfl)) d_Mo_take_26 ⟨Nat.le_of_ble_eq_true rfl, Nat.le_of_ble_eq_true rfl⟩) hS (fun q _ h => hFc q h) hFc (fun r_10 u t H1 locs ht hvm hw hB hz1 hk1 hS => ?_)
      obtain ⟨I12, T12, A12, U12⟩ := u
      dsimp only at hw hB
      rw [ht] at hB
      have hP : va_P (dC, dI) x_cl (m_W h0 ad ar I12 T12 A12 U12) H1 := hB
      have hD : va_D Bq (m_W h0 ad ar I12 T12 A12 U12) := m_D hD
      generalize H1 = H at hP hS ⊢
      refine W.widen (k := 0) (n := 0) (Nat.le_of_ble_eq_true rfl) (Nat.le_of_ble_eq_true rfl) ?_
      obtain ⟨rfl, e1, e2, e3, fa12, g112, _⟩ := hw
      rw [e1, e2, e3] at hP hD
      refine lv_istore_n (lv' := [(1, .int (A 41 0)), (0, .ref h0)]) hx hb d_Mo_take_29 rfl hl (by decide) rfl (fun ls hl => ?_)
      refine lv_aload_n hx hb d_Mo_take_30 rfl (lv_at hl 1 rfl) ?_
      refine lv_dup hx hb d_Mo_take_31 rfl ?_
      refine m_g hx hb hts hown hK hP 43 (by decide) rfl (hts _ k_1010) (v := .int (Int32.ofNat b9)) (congrArg Value.int h43) d_Mo_take_32 ?_
      refine lv_iconst (v := 1) hx hb d_Mo_take_35 (by decide) ?_
      refine lv_isub hx hb d_Mo_take_36 ?_
      refine W.eq (g2 := F0 m 37 ls [.int (Int32.ofNat (b9 - 1)), .ref h0]) (by rw [← x_subN (a := b9) (b := 1) (by omega)] <;> rfl) ?_
      refine m_p hx hb hts hown hK hP hD hS 43 (by decide) rfl (hts _ k_1010) rfl (by decide +kernel) rfl (by decide) (x := (Int32.ofNat (b9 - 1))) d_Mo_take_37 (fun H locs hP hD hS => ?_)
      refine lv_aload_n hx hb d_Mo_take_40 rfl (lv_at hl 1 rfl) ?_
      refine m_g hx hb hts hown hK hP 9 (by decide) rfl (hts _ k_976) (v := .int 2) (congrArg Value.int h9) d_Mo_take_41 ?_
      refine lv_iconst (v := 1) hx hb d_Mo_take_44 (by decide) ?_
      refine lv_icmp_ne (tgt := 57) hx hb d_Mo_take_45 (by decide) (fun _ => ?_) (fun c_13 => absurd c_13 (by decide))
      refine lv_iload_n hx hb d_Mo_take_57 rfl (lv_at hl 0 rfl) ?_
      refine W.widen (k := 0) (n := 0) (Nat.le_of_ble_eq_true rfl) (Nat.le_of_ble_eq_true rfl) ?_
      exact W.iret (v := (A 41 0)) hx hb hr (fun t ht hW => ⟨⟨(A 41 0), ((upd (upd I 33 0) 43 (Int32.ofNat (b9 - 1))), T, A12, U), rfl, ⟨⟨hS72, h4⟩, ⟨⟨gv, hgv, h42⟩, b9 - 1, by omega, rfl⟩, Or.inr (Or.inl h9)⟩, by dsimp only; rw [ht]; exact hP⟩, hS.F ht⟩) hS.2.2 d_Mo_take_58
    · have c_9 : b9 = 0 := (x_eqN (a := b9) (b := 0) (by omega) (by omega)).mp c_9
      refine lv_aload_n hx hb d_Mo_take_12 rfl (lv_at hl 0 rfl) ?_
      refine lv_iconst (v := 1) hx hb d_Mo_take_13 (by decide) ?_
      have hFc := m_free hD hS hA
      refine va_calli (va_runV (As := [.int 1]) (rest := []) ⟨hx, hb, hml, hown, hts⟩ (m_fail l dC dI ar N0 z h0 ad (upd I 33 0) T A U (1) H.size ) (cwV 1 hts (x_goodV k_1120 k_1122 kp_49 k_9 k_1123) rfl rfl rfl (by decide +kernel) ⟨Nat.le_of_ble_eq_true rfl, Nat.le_of_ble_eq_true rfl⟩) ⟨x_blind, va_recv hK hP (ci := 6) (q0 := 0) rfl rfl, fun U9 hU9 hW9 => x_pre hU9 hW9 hP hD hU hZ hS hAN hN0⟩ rfl rfl hl.1 rfl (lv_room (Nat.le_of_ble_eq_true rfl)) d_Mo_take_14 ⟨Nat.le_of_ble_eq_true rfl, Nat.le_of_ble_eq_true rfl⟩) hS (fun q _ h => hFc q h) hFc (fun r_14 u t H1 locs ht hvm hw hB hz1 hk1 hS => ?_)
      obtain ⟨I16, T16, A16, U16⟩ := u
      dsimp only at hw hB
      rw [ht] at hB
      have hP : va_P (dC, dI) x_cl (m_W h0 ad ar I16 T16 A16 U16) H1 := hB
      have hD : va_D Bq (m_W h0 ad ar I16 T16 A16 U16) := m_D hD
      generalize H1 = H at hP hS ⊢
      refine W.widen (k := 0) (n := 0) (Nat.le_of_ble_eq_true rfl) (Nat.le_of_ble_eq_true rfl) ?_
      obtain ⟨h9, rfl⟩ := hw
      cases h9
      refine W.widen (k := 0) (n := 0) (Nat.le_of_ble_eq_true rfl) (Nat.le_of_ble_eq_true rfl) ?_
      exact W.iret (v := 0) hx hb hr (fun t ht hW => ⟨⟨0, ((upd (upd I 33 0) 33 1), T, A, U), rfl, hok0.to (L := [33]) (LA := [3, 40, 41]) ((m_fr.rf.up (by decide) _).up (by decide) _) m_fa.rf (by decide) (by decide), by dsimp only; rw [ht]; exact hP⟩, hS.F ht⟩) hS.2.2 d_Mo_take_17
  · refine lv_aload_n hx hb d_Mo_take_0 rfl (lv_at hl 0 rfl) ?_
    refine lv_iconst (v := 0) hx hb d_Mo_take_1 (by decide) ?_
    refine m_p hx hb hts hown hK hP hD hS 33 (by decide) rfl (hts _ k_1000) rfl (by decide +kernel) rfl (by decide) (x := 0) d_Mo_take_2 (fun H locs hP hD hS => ?_)
    refine lv_aload_n hx hb d_Mo_take_5 rfl (lv_at hl 0 rfl) ?_
    refine m_g hx hb hts hown hK hP 43 (by decide) rfl (hts _ k_1010) (v := .int (Int32.ofNat b9)) (congrArg Value.int h43) d_Mo_take_6 ?_
    refine lv_if_ne (tgt := 18) hx hb d_Mo_take_9 (by decide) (fun c_17 => ?_) (fun c_17 => ?_)
    · have c_17 : ¬ b9 = 0 := fun h9 => c_17 ((x_eqN (a := b9) (b := 0) (by omega) (by omega)).mpr h9)
      refine lv_aload_n hx hb d_Mo_take_18 rfl (lv_at hl 0 rfl) ?_
      refine m_g hx hb hts hown hK hP 41 (by decide) rfl (hts _ k_1008) (v := .ref (ad 41)) rfl d_Mo_take_19 ?_
      refine lv_aload_n hx hb d_Mo_take_22 rfl (lv_at hl 0 rfl) ?_
      refine m_g hx hb hts hown hK hP 43 (by decide) rfl (hts _ k_1010) (v := .int (Int32.ofNat b9)) (congrArg Value.int h43) d_Mo_take_23 ?_
      have hFc := m_free hD hS hA
      refine va_calli (va_runS (As := [.ref (ad 41), .int (Int32.ofNat b9)]) (rest := []) ⟨hx, hb, hml, hown, hts⟩ (m_shift41 l dC dI ar N0 z h0 ad (upd I 33 0) T A U b9 H.size (by omega)) (cwS 2 hts (x_goodS k_1210 k_1211 k_9 k_1212) rfl rfl rfl (by decide +kernel) ⟨Nat.le_of_ble_eq_true rfl, Nat.le_of_ble_eq_true rfl⟩) ⟨x_blind, fun U9 hU9 hW9 => x_pre hU9 hW9 hP hD hU hZ hS hAN hN0⟩ rfl rfl hl.1 rfl (lv_room (Nat.le_of_ble_eq_true rfl)) d_Mo_take_26 ⟨Nat.le_of_ble_eq_true rfl, Nat.le_of_ble_eq_true rfl⟩) hS (fun q _ h => hFc q h) hFc (fun r_18 u t H1 locs ht hvm hw hB hz1 hk1 hS => ?_)
      obtain ⟨I20, T20, A20, U20⟩ := u
      dsimp only at hw hB
      rw [ht] at hB
      have hP : va_P (dC, dI) x_cl (m_W h0 ad ar I20 T20 A20 U20) H1 := hB
      have hD : va_D Bq (m_W h0 ad ar I20 T20 A20 U20) := m_D hD
      generalize H1 = H at hP hS ⊢
      refine W.widen (k := 0) (n := 0) (Nat.le_of_ble_eq_true rfl) (Nat.le_of_ble_eq_true rfl) ?_
      obtain ⟨rfl, e1, e2, e3, fa20, g120, _⟩ := hw
      rw [e1, e2, e3] at hP hD
      refine lv_istore_n (lv' := [(1, .int (A 41 0)), (0, .ref h0)]) hx hb d_Mo_take_29 rfl hl (by decide) rfl (fun ls hl => ?_)
      refine lv_aload_n hx hb d_Mo_take_30 rfl (lv_at hl 1 rfl) ?_
      refine lv_dup hx hb d_Mo_take_31 rfl ?_
      refine m_g hx hb hts hown hK hP 43 (by decide) rfl (hts _ k_1010) (v := .int (Int32.ofNat b9)) (congrArg Value.int h43) d_Mo_take_32 ?_
      refine lv_iconst (v := 1) hx hb d_Mo_take_35 (by decide) ?_
      refine lv_isub hx hb d_Mo_take_36 ?_
      refine W.eq (g2 := F0 m 37 ls [.int (Int32.ofNat (b9 - 1)), .ref h0]) (by rw [← x_subN (a := b9) (b := 1) (by omega)] <;> rfl) ?_
      refine m_p hx hb hts hown hK hP hD hS 43 (by decide) rfl (hts _ k_1010) rfl (by decide +kernel) rfl (by decide) (x := (Int32.ofNat (b9 - 1))) d_Mo_take_37 (fun H locs hP hD hS => ?_)
      refine lv_aload_n hx hb d_Mo_take_40 rfl (lv_at hl 1 rfl) ?_
      refine m_g hx hb hts hown hK hP 9 (by decide) rfl (hts _ k_976) (v := .int 3) (congrArg Value.int h9) d_Mo_take_41 ?_
      refine lv_iconst (v := 1) hx hb d_Mo_take_44 (by decide) ?_
      refine lv_icmp_ne (tgt := 57) hx hb d_Mo_take_45 (by decide) (fun _ => ?_) (fun c_21 => absurd c_21 (by decide))
      refine lv_iload_n hx hb d_Mo_take_57 rfl (lv_at hl 0 rfl) ?_
      refine W.widen (k := 0) (n := 0) (Nat.le_of_ble_eq_true rfl) (Nat.le_of_ble_eq_true rfl) ?_
      exact W.iret (v := (A 41 0)) hx hb hr (fun t ht hW => ⟨⟨(A 41 0), ((upd (upd I 33 0) 43 (Int32.ofNat (b9 - 1))), T, A20, U), rfl, ⟨⟨hS72, h4⟩, ⟨⟨gv, hgv, h42⟩, b9 - 1, by omega, rfl⟩, Or.inr (Or.inr (Or.inl h9))⟩, by dsimp only; rw [ht]; exact hP⟩, hS.F ht⟩) hS.2.2 d_Mo_take_58
    · have c_17 : b9 = 0 := (x_eqN (a := b9) (b := 0) (by omega) (by omega)).mp c_17
      refine lv_aload_n hx hb d_Mo_take_12 rfl (lv_at hl 0 rfl) ?_
      refine lv_iconst (v := 1) hx hb d_Mo_take_13 (by decide) ?_
      have hFc := m_free hD hS hA
      refine va_calli (va_runV (As := [.int 1]) (rest := []) ⟨hx, hb, hml, hown, hts⟩ (m_fail l dC dI ar N0 z h0 ad (upd I 33 0) T A U (1) H.size ) (cwV 1 hts (x_goodV k_1120 k_1122 kp_49 k_9 k_1123) rfl rfl rfl (by decide +kernel) ⟨Nat.le_of_ble_eq_true rfl, Nat.le_of_ble_eq_true rfl⟩) ⟨x_blind, va_recv hK hP (ci := 6) (q0 := 0) rfl rfl, fun U9 hU9 hW9 => x_pre hU9 hW9 hP hD hU hZ hS hAN hN0⟩ rfl rfl hl.1 rfl (lv_room (Nat.le_of_ble_eq_true rfl)) d_Mo_take_14 ⟨Nat.le_of_ble_eq_true rfl, Nat.le_of_ble_eq_true rfl⟩) hS (fun q _ h => hFc q h) hFc (fun r_22 u t H1 locs ht hvm hw hB hz1 hk1 hS => ?_)
      obtain ⟨I24, T24, A24, U24⟩ := u
      dsimp only at hw hB
      rw [ht] at hB
      have hP : va_P (dC, dI) x_cl (m_W h0 ad ar I24 T24 A24 U24) H1 := hB
      have hD : va_D Bq (m_W h0 ad ar I24 T24 A24 U24) := m_D hD
      generalize H1 = H at hP hS ⊢
      refine W.widen (k := 0) (n := 0) (Nat.le_of_ble_eq_true rfl) (Nat.le_of_ble_eq_true rfl) ?_
      obtain ⟨h9, rfl⟩ := hw
      cases h9
      refine W.widen (k := 0) (n := 0) (Nat.le_of_ble_eq_true rfl) (Nat.le_of_ble_eq_true rfl) ?_
      exact W.iret (v := 0) hx hb hr (fun t ht hW => ⟨⟨0, ((upd (upd I 33 0) 33 1), T, A, U), rfl, hok0.to (L := [33]) (LA := [3, 40, 41]) ((m_fr.rf.up (by decide) _).up (by decide) _) m_fa.rf (by decide) (by decide), by dsimp only; rw [ht]; exact hP⟩, hS.F ht⟩) hS.2.2 d_Mo_take_17
  · have hrun0 := hrun
    obtain ⟨V, own, pown, bl, role, k9, q, pn, br, st, h29, hri, hcu⟩ := hrun
    refine lv_aload_n hx hb d_Mo_take_0 rfl (lv_at hl 0 rfl) ?_
    refine lv_iconst (v := 0) hx hb d_Mo_take_1 (by decide) ?_
    refine m_p hx hb hts hown hK hP hD hS 33 (by decide) rfl (hts _ k_1000) rfl (by decide +kernel) rfl (by decide) (x := 0) d_Mo_take_2 (fun H locs hP hD hS => ?_)
    refine lv_aload_n hx hb d_Mo_take_5 rfl (lv_at hl 0 rfl) ?_
    refine m_g hx hb hts hown hK hP 43 (by decide) rfl (hts _ k_1010) (v := .int (Int32.ofNat b9)) (congrArg Value.int h43) d_Mo_take_6 ?_
    refine lv_if_ne (tgt := 18) hx hb d_Mo_take_9 (by decide) (fun c_25 => ?_) (fun c_25 => ?_)
    · have c_25 : ¬ b9 = 0 := fun h9 => c_25 ((x_eqN (a := b9) (b := 0) (by omega) (by omega)).mpr h9)
      refine lv_aload_n hx hb d_Mo_take_18 rfl (lv_at hl 0 rfl) ?_
      refine m_g hx hb hts hown hK hP 41 (by decide) rfl (hts _ k_1008) (v := .ref (ad 41)) rfl d_Mo_take_19 ?_
      refine lv_aload_n hx hb d_Mo_take_22 rfl (lv_at hl 0 rfl) ?_
      refine m_g hx hb hts hown hK hP 43 (by decide) rfl (hts _ k_1010) (v := .int (Int32.ofNat b9)) (congrArg Value.int h43) d_Mo_take_23 ?_
      have hFc := m_free hD hS hA
      refine va_calli (va_runS (As := [.ref (ad 41), .int (Int32.ofNat b9)]) (rest := []) ⟨hx, hb, hml, hown, hts⟩ (m_shift41 l dC dI ar N0 z h0 ad (upd I 33 0) T A U b9 H.size (by omega)) (cwS 2 hts (x_goodS k_1210 k_1211 k_9 k_1212) rfl rfl rfl (by decide +kernel) ⟨Nat.le_of_ble_eq_true rfl, Nat.le_of_ble_eq_true rfl⟩) ⟨x_blind, fun U9 hU9 hW9 => x_pre hU9 hW9 hP hD hU hZ hS hAN hN0⟩ rfl rfl hl.1 rfl (lv_room (Nat.le_of_ble_eq_true rfl)) d_Mo_take_26 ⟨Nat.le_of_ble_eq_true rfl, Nat.le_of_ble_eq_true rfl⟩) hS (fun q _ h => hFc q h) hFc (fun r_26 u t H1 locs ht hvm hw hB hz1 hk1 hS => ?_)
      obtain ⟨I28, T28, A28, U28⟩ := u
      dsimp only at hw hB
      rw [ht] at hB
      have hP : va_P (dC, dI) x_cl (m_W h0 ad ar I28 T28 A28 U28) H1 := hB
      have hD : va_D Bq (m_W h0 ad ar I28 T28 A28 U28) := m_D hD
      generalize H1 = H at hP hS ⊢
      refine W.widen (k := 0) (n := 0) (Nat.le_of_ble_eq_true rfl) (Nat.le_of_ble_eq_true rfl) ?_
      obtain ⟨rfl, e1, e2, e3, fa28, g128, _⟩ := hw
      rw [e1, e2, e3] at hP hD
      refine lv_istore_n (lv' := [(1, .int (A 41 0)), (0, .ref h0)]) hx hb d_Mo_take_29 rfl hl (by decide) rfl (fun ls hl => ?_)
      refine lv_aload_n hx hb d_Mo_take_30 rfl (lv_at hl 1 rfl) ?_
      refine lv_dup hx hb d_Mo_take_31 rfl ?_
      refine m_g hx hb hts hown hK hP 43 (by decide) rfl (hts _ k_1010) (v := .int (Int32.ofNat b9)) (congrArg Value.int h43) d_Mo_take_32 ?_
      refine lv_iconst (v := 1) hx hb d_Mo_take_35 (by decide) ?_
      refine lv_isub hx hb d_Mo_take_36 ?_
      refine W.eq (g2 := F0 m 37 ls [.int (Int32.ofNat (b9 - 1)), .ref h0]) (by rw [← x_subN (a := b9) (b := 1) (by omega)] <;> rfl) ?_
      refine m_p hx hb hts hown hK hP hD hS 43 (by decide) rfl (hts _ k_1010) rfl (by decide +kernel) rfl (by decide) (x := (Int32.ofNat (b9 - 1))) d_Mo_take_37 (fun H locs hP hD hS => ?_)
      refine lv_aload_n hx hb d_Mo_take_40 rfl (lv_at hl 1 rfl) ?_
      refine m_g hx hb hts hown hK hP 9 (by decide) rfl (hts _ k_976) (v := .int 1) (congrArg Value.int h9) d_Mo_take_41 ?_
      refine lv_iconst (v := 1) hx hb d_Mo_take_44 (by decide) ?_
      refine lv_icmp_ne (tgt := 57) hx hb d_Mo_take_45 (by decide) (fun c_29 => absurd rfl c_29) (fun _ => ?_)
      refine lv_aload_n hx hb d_Mo_take_48 rfl (lv_at hl 1 rfl) ?_
      refine m_g hx hb hts hown hK hP 38 (by decide) rfl (hts _ k_1005) (v := .ref (ad 38)) rfl d_Mo_take_49 ?_
      refine lv_iconst (v := 5) hx hb d_Mo_take_52 (by decide) ?_
      refine W.eq (g2 := F0 m 53 ls [.int (Int32.ofNat 5), .ref (ad 38)]) rfl ?_
      have hri1 := hri.fa fa28 (by decide)
      rcases hri1.2.2.2.2.2.1 5 (by omega) with hr9 | ⟨r9, hr9l, hr9, har, hsr⟩
      · refine m_ld hx hb hK hP 24 rfl (by decide) (j := (Int32.ofNat 5)) (x_inN (by omega) (by decide)) d_Mo_take_53 ?_
        refine W.eq (g2 := F0 m 54 ls [.int (-1)]) (by rw [x_nat (a := 5) (by omega), show A28 38 5 = (-1) from hr9]) ?_
        refine lv_if_ge (tgt := 59) hx hb d_Mo_take_54 (by decide) (fun c_30 => absurd c_30 (by decide)) (fun _ => ?_)
        refine lv_iload_n hx hb d_Mo_take_57 rfl (lv_at hl 0 rfl) ?_
        refine W.widen (k := 0) (n := 0) (Nat.le_of_ble_eq_true rfl) (Nat.le_of_ble_eq_true rfl) ?_
        exact W.iret (v := (A 41 0)) hx hb hr (fun t ht hW => ⟨⟨(A 41 0), ((upd (upd I 33 0) 43 (Int32.ofNat (b9 - 1))), T, A28, U), rfl, ⟨⟨hS72, h4⟩, ⟨⟨gv, hgv, h42⟩, b9 - 1, by omega, rfl⟩, Or.inr (Or.inr (Or.inr ⟨h9, hrun0.to (L := [33, 43]) (LA := [41]) ((m_fr.rf.up (by decide) _).up (by decide) _) fa28 (by decide) (by decide)⟩))⟩, by dsimp only; rw [ht]; exact hP⟩, hS.F ht⟩) hS.2.2 d_Mo_take_58
      · refine m_ld hx hb hK hP 24 rfl (by decide) (j := (Int32.ofNat 5)) (x_inN (by omega) (by decide)) d_Mo_take_53 ?_
        refine W.eq (g2 := F0 m 54 ls [.int (Int32.ofNat r9)]) (by rw [x_nat (a := 5) (by omega), show A28 38 5 = (Int32.ofNat r9) from hr9]) ?_
        refine lv_if_ge (tgt := 59) hx hb d_Mo_take_54 (by decide) (fun _ => ?_) (fun c => absurd ((x_leN (a := 0) (b := r9) (by omega) (by omega)).mpr (Nat.zero_le _)) c)
        refine lv_aload_n hx hb d_Mo_take_59 rfl (lv_at hl 1 rfl) ?_
        refine m_g hx hb hts hown hK hP 41 (by decide) rfl (hts _ k_1008) (v := .ref (ad 41)) rfl d_Mo_take_60 ?_
        refine lv_aload_n hx hb d_Mo_take_63 rfl (lv_at hl 1 rfl) ?_
        refine m_g hx hb hts hown hK hP 43 (by decide) rfl (hts _ k_1010) (v := .int (Int32.ofNat (b9 - 1))) rfl d_Mo_take_64 ?_
        refine lv_aload_n hx hb d_Mo_take_67 rfl (lv_at hl 1 rfl) ?_
        refine m_g hx hb hts hown hK hP 39 (by decide) rfl (hts _ k_1006) (v := .ref (ad 39)) rfl d_Mo_take_68 ?_
        refine lv_iconst (v := 5) hx hb d_Mo_take_71 (by decide) ?_
        refine W.eq (g2 := F0 m 72 ls [.int (Int32.ofNat 5), .ref (ad 39), .int (Int32.ofNat (b9 - 1)), .ref (ad 41)]) rfl ?_
        refine m_ld hx hb hK hP 25 rfl (by decide) (j := (Int32.ofNat 5)) (x_inN (by omega) (by decide)) d_Mo_take_72 ?_
        refine W.eq (g2 := F0 m 73 ls [.int (A28 39 (5)), .int (Int32.ofNat (b9 - 1)), .ref (ad 41)]) (by rw [x_nat (a := 5) (by omega)]) ?_
        refine m_st hx hb hK hP hD hS 27 rfl (by decide) (j := (Int32.ofNat (b9 - 1))) (x := (A28 39 (5))) (x_inN (by omega) (by decide)) d_Mo_take_73 (fun H locs hP hD hS => ?_)
        rw [x_nat (a := (b9 - 1)) (by omega)] at hP hD
        have hP : va_P (dC, dI) x_cl (m_W h0 ad ar (upd (upd I 33 0) 43 (Int32.ofNat (b9 - 1))) T (m_up A28 41 (upd (A28 41) ((b9 - 1)) (A28 39 (5)))) U) H := hP
        have hD : va_D Bq (m_W h0 ad ar (upd (upd I 33 0) 43 (Int32.ofNat (b9 - 1))) T (m_up A28 41 (upd (A28 41) ((b9 - 1)) (A28 39 (5)))) U) := hD
        refine lv_aload_n hx hb d_Mo_take_74 rfl (lv_at hl 1 rfl) ?_
        refine lv_dup hx hb d_Mo_take_75 rfl ?_
        refine m_g hx hb hts hown hK hP 43 (by decide) rfl (hts _ k_1010) (v := .int (Int32.ofNat (b9 - 1))) rfl d_Mo_take_76 ?_
        refine lv_iconst (v := 1) hx hb d_Mo_take_79 (by decide) ?_
        refine lv_iadd hx hb d_Mo_take_80 ?_
        refine W.eq (g2 := F0 m 81 ls [.int (Int32.ofNat ((b9 - 1) + 1)), .ref h0]) (by rw [← x_addN (a := (b9 - 1)) (b := 1)] <;> rfl) ?_
        refine m_p hx hb hts hown hK hP hD hS 43 (by decide) rfl (hts _ k_1010) rfl (by decide +kernel) rfl (by decide) (x := (Int32.ofNat ((b9 - 1) + 1))) d_Mo_take_81 (fun H locs hP hD hS => ?_)
        have hq90 := hri.qlt
        refine lv_aload_n hx hb d_Mo_take_84 rfl (lv_at hl 1 rfl) ?_
        refine lv_aload_n hx hb d_Mo_take_85 rfl (lv_at hl 1 rfl) ?_
        refine m_g hx hb hts hown hK hP 38 (by decide) rfl (hts _ k_1005) (v := .ref (ad 38)) rfl d_Mo_take_86 ?_
        refine lv_iconst (v := 5) hx hb d_Mo_take_89 (by decide) ?_
        refine W.eq (g2 := F0 m 90 ls [.int (Int32.ofNat 5), .ref (ad 38), .ref h0]) rfl ?_
        refine m_ld hx hb hK hP 24 rfl (by decide) (j := (Int32.ofNat 5)) (x_inN (by omega) (by decide)) d_Mo_take_90 ?_
        refine W.eq (g2 := F0 m 91 ls [.int (Int32.ofNat r9), .ref h0]) (by rw [x_nat (a := 5) (by omega), show (m_up A28 41 (upd (A28 41) ((b9 - 1)) (A28 39 (5)))) 38 5 = (Int32.ofNat r9) from hr9]) ?_
        have hFc := m_free hD hS hA
        refine va_callv (va_runV (As := [.int (Int32.ofNat r9)]) (rest := []) ⟨hx, hb, hml, hown, hts⟩ (m_put l dC dI ar N0 z h0 ad (upd (upd (upd I 33 0) 43 (Int32.ofNat (b9 - 1))) 43 (Int32.ofNat ((b9 - 1) + 1))) T (m_up A28 41 (upd (A28 41) ((b9 - 1)) (A28 39 (5)))) U q ((Int32.ofNat r9)) H.size h29 (by omega)) (cwV 1 hts (x_goodV k_1194 k_1196 kp_65 k_9 k_1197) rfl rfl rfl (by decide +kernel) ⟨Nat.le_of_ble_eq_true rfl, Nat.le_of_ble_eq_true rfl⟩) ⟨x_blind, va_recv hK hP (ci := 6) (q0 := 0) rfl rfl, fun U9 hU9 hW9 => x_pre hU9 hW9 hP hD hU hZ hS hAN hN0⟩ rfl rfl hl.1 rfl (lv_room (Nat.le_of_ble_eq_true rfl)) d_Mo_take_91 ⟨Nat.le_of_ble_eq_true rfl, Nat.le_of_ble_eq_true rfl⟩) hS (fun q _ h => hFc q h) hFc (fun u t H1 locs ht hvm hw hB hz1 hk1 hS => ?_)
        obtain ⟨I32, T32, A32, U32⟩ := u
        dsimp only at hw hB
        rw [ht] at hB
        have hP : va_P (dC, dI) x_cl (m_W h0 ad ar I32 T32 A32 U32) H1 := hB
        have hD : va_D Bq (m_W h0 ad ar I32 T32 A32 U32) := m_D hD
        generalize H1 = H at hP hS ⊢
        refine W.widen (k := 0) (n := 0) (Nat.le_of_ble_eq_true rfl) (Nat.le_of_ble_eq_true rfl) ?_
        cases hw
        have hP : va_P (dC, dI) x_cl (m_W h0 ad ar (upd (upd (upd (upd I 33 0) 43 (Int32.ofNat (b9 - 1))) 43 (Int32.ofNat ((b9 - 1) + 1))) 29 (Int32.ofNat (q + 1))) T (m_up (m_up A28 41 (upd (A28 41) ((b9 - 1)) (A28 39 (5)))) 24 (upd (A28 24) q (Int32.ofNat r9))) U) H := hP
        have hD : va_D Bq (m_W h0 ad ar (upd (upd (upd (upd I 33 0) 43 (Int32.ofNat (b9 - 1))) 43 (Int32.ofNat ((b9 - 1) + 1))) 29 (Int32.ofNat (q + 1))) T (m_up (m_up A28 41 (upd (A28 41) ((b9 - 1)) (A28 39 (5)))) 24 (upd (A28 24) q (Int32.ofNat r9))) U) := hD
        refine lv_aload_n hx hb d_Mo_take_94 rfl (lv_at hl 1 rfl) ?_
        refine m_g hx hb hts hown hK hP 38 (by decide) rfl (hts _ k_1005) (v := .ref (ad 38)) rfl d_Mo_take_95 ?_
        refine lv_iconst (v := 5) hx hb d_Mo_take_98 (by decide) ?_
        refine W.eq (g2 := F0 m 99 ls [.int (Int32.ofNat 5), .ref (ad 38)]) rfl ?_
        refine lv_iconst (v := (-1)) hx hb d_Mo_take_99 (by decide) ?_
        refine m_st hx hb hK hP hD hS 24 rfl (by decide) (j := (Int32.ofNat 5)) (x := (-1)) (x_inN (by omega) (by decide)) d_Mo_take_100 (fun H locs hP hD hS => ?_)
        rw [x_nat (a := 5) (by omega)] at hP hD
        have hP : va_P (dC, dI) x_cl (m_W h0 ad ar (upd (upd (upd (upd I 33 0) 43 (Int32.ofNat (b9 - 1))) 43 (Int32.ofNat ((b9 - 1) + 1))) 29 (Int32.ofNat (q + 1))) T (m_up (m_up (m_up A28 41 (upd (A28 41) ((b9 - 1)) (A28 39 (5)))) 24 (upd (A28 24) q (Int32.ofNat r9))) 38 (upd (A28 38) 5 (-1))) U) H := hP
        have hD : va_D Bq (m_W h0 ad ar (upd (upd (upd (upd I 33 0) 43 (Int32.ofNat (b9 - 1))) 43 (Int32.ofNat ((b9 - 1) + 1))) 29 (Int32.ofNat (q + 1))) T (m_up (m_up (m_up A28 41 (upd (A28 41) ((b9 - 1)) (A28 39 (5)))) 24 (upd (A28 24) q (Int32.ofNat r9))) 38 (upd (A28 38) 5 (-1))) U) := hD
        refine lv_iload_n hx hb d_Mo_take_101 rfl (lv_at hl 0 rfl) ?_
        refine W.widen (k := 0) (n := 0) (Nat.le_of_ble_eq_true rfl) (Nat.le_of_ble_eq_true rfl) ?_
        exact W.iret (v := (A 41 0)) hx hb hr (fun t ht hW => ⟨⟨(A 41 0), ((upd (upd (upd (upd I 33 0) 43 (Int32.ofNat (b9 - 1))) 43 (Int32.ofNat ((b9 - 1) + 1))) 29 (Int32.ofNat (q + 1))), T, (m_up (m_up (m_up A28 41 (upd (A28 41) ((b9 - 1)) (A28 39 (5)))) 24 (upd (A28 24) q (Int32.ofNat r9))) 38 (upd (A28 38) 5 (-1))), U), rfl, ⟨⟨hS72, h4⟩, ⟨⟨gv, hgv, h42⟩, b9 - 1 + 1, by omega, rfl⟩, Or.inr (Or.inr (Or.inr ⟨h9, V, own, pown, bl, role, k9, q + 1, _, br, _, rfl, (hri1.took (c := 5) (A' := (m_up (m_up (m_up A28 41 (upd (A28 41) ((b9 - 1)) (A28 39 (5)))) 24 (upd (A28 24) q (Int32.ofNat r9))) 38 (upd (A28 38) 5 (-1)))) (by omega) hr9l hr9 rfl rfl rfl rfl rfl rfl rfl rfl rfl rfl rfl).2, hcu.to rfl (fa28 27 (by decide)) (fun t ht => m_st2 ht (by omega))⟩))⟩, by dsimp only; rw [ht]; exact hP⟩, hS.F ht⟩) hS.2.2 d_Mo_take_102
    · have c_25 : b9 = 0 := (x_eqN (a := b9) (b := 0) (by omega) (by omega)).mp c_25
      refine lv_aload_n hx hb d_Mo_take_12 rfl (lv_at hl 0 rfl) ?_
      refine lv_iconst (v := 1) hx hb d_Mo_take_13 (by decide) ?_
      have hFc := m_free hD hS hA
      refine va_calli (va_runV (As := [.int 1]) (rest := []) ⟨hx, hb, hml, hown, hts⟩ (m_fail l dC dI ar N0 z h0 ad (upd I 33 0) T A U (1) H.size ) (cwV 1 hts (x_goodV k_1120 k_1122 kp_49 k_9 k_1123) rfl rfl rfl (by decide +kernel) ⟨Nat.le_of_ble_eq_true rfl, Nat.le_of_ble_eq_true rfl⟩) ⟨x_blind, va_recv hK hP (ci := 6) (q0 := 0) rfl rfl, fun U9 hU9 hW9 => x_pre hU9 hW9 hP hD hU hZ hS hAN hN0⟩ rfl rfl hl.1 rfl (lv_room (Nat.le_of_ble_eq_true rfl)) d_Mo_take_14 ⟨Nat.le_of_ble_eq_true rfl, Nat.le_of_ble_eq_true rfl⟩) hS (fun q _ h => hFc q h) hFc (fun r_33 u t H1 locs ht hvm hw hB hz1 hk1 hS => ?_)
      obtain ⟨I35, T35, A35, U35⟩ := u
      dsimp only at hw hB
      rw [ht] at hB
      have hP : va_P (dC, dI) x_cl (m_W h0 ad ar I35 T35 A35 U35) H1 := hB
      have hD : va_D Bq (m_W h0 ad ar I35 T35 A35 U35) := m_D hD
      generalize H1 = H at hP hS ⊢
      refine W.widen (k := 0) (n := 0) (Nat.le_of_ble_eq_true rfl) (Nat.le_of_ble_eq_true rfl) ?_
      obtain ⟨h9, rfl⟩ := hw
      cases h9
      refine W.widen (k := 0) (n := 0) (Nat.le_of_ble_eq_true rfl) (Nat.le_of_ble_eq_true rfl) ?_
      exact W.iret (v := 0) hx hb hr (fun t ht hW => ⟨⟨0, ((upd (upd I 33 0) 33 1), T, A, U), rfl, hok0.to (L := [33]) (LA := [3, 40, 41]) ((m_fr.rf.up (by decide) _).up (by decide) _) m_fa.rf (by decide) (by decide), by dsimp only; rw [ht]; exact hP⟩, hS.F ht⟩) hS.2.2 d_Mo_take_17
set_option maxHeartbeats 4000000 in
set_option maxRecDepth 100000 in
theorem m_variable (l : Launch) (dC : Nat → ClassId) (dI : Nat → Nat → Nat) (ar : Nat → ClassId) (N0 : Nat) (z : Nat → Nat) (h0 : Nat) (ad : Nat → Nat) (I : Nat → Int32) (T : Int64) (A : Nat → Nat → Int32) (U : Nat → Int64) (S : Nat) (vv : Int32) (sz : Nat) (hok : m_OK S I A) : Met l ({ cls := "ChannelMachineModel", name := "variable", desc := "(I)I" } : Jvm.MethodName) ((Jvm.Cond.code ({ cls := "ChannelMachineModel", name := "variable", desc := "(I)I" } : Jvm.MethodName) prog_12_method_45_code (2 : Nat) (Option.some Jvm.ClassFile.FieldType.int)) :: x_T) ({ frames := 1, cells := 0, slots := 0, locals := 22 }) (x_Pc (dC, dI) ar N0 z (m_W h0 ad ar I T A U) sz [.ref h0, .int vv]) (va_Qi (fun (r : Int32) (u : (Nat → Int32) × Int64 × (Nat → Nat → Int32) × (Nat → Int64)) => m_OK S u.1 u.2.2.1) (fun u t => va_P (dC, dI) x_cl (m_W h0 ad ar u.1 u.2.1 u.2.2.1 u.2.2.2) t.heap) (va_A (m_W h0 ad ar I T A U) sz)) 0 0 (va_A (m_W h0 ad ar I T A U) sz) := by
  refine Met.ofW (cc := prog_12_method_45_code) (maxL := 2) (ret := (some .int)) (by decide) rfl ?_
  intro p e s m args below meth c s₁ B hml hv
  obtain ⟨rfl, hsz, hN0, hP, hU, hZ, hD0⟩ := hv
  have hK := hU.1
  have hx := B.exec
  have hb := B.bytes
  have hr := B.returns
  have hts : ∀ w ∈ x_T, w.before ([.ref h0, .int vv] : List Value).toArray s = true := fun w h => atoms_spec (ws := (Jvm.Cond.code ({ cls := "ChannelMachineModel", name := "variable", desc := "(I)I" } : Jvm.MethodName) prog_12_method_45_code (2 : Nat) (Option.some Jvm.ClassFile.FieldType.int)) :: x_T) B.pre w (List.mem_cons_of_mem _ h)
  have hown : s.vm.findClass "ChannelMachineModel" = some m.cls := findClass_of_methodNamed B.named
  have hlocks := B.notSynchronized
  subst hsz
  have hD := hD0.self (sz := s.heap.size)
  have hAN := x_AN hD0 hN0
  generalize hAe : va_A (m_W h0 ad ar I T A U) s.heap.size = Bq at hD hAN ⊢
  have hA : ∀ q : Nat, s.heap.size ≤ q → Bq q := fun q h => by rw [← hAe]; exact Or.inr h
  have hS : va_S Bq s.heap s.heap [] := va_S.rf
  have hl := lv_entry ([.ref h0, .int vv]) (n := 2) (Nat.le_of_ble_eq_true rfl)
  rw [lg_entry_eq]
  generalize (lg_sl ([.ref h0, .int vv]) ++ List.replicate (2 - (lg_sl ([.ref h0, .int vv])).length) Slot.unset).toArray = ls at hl ⊢
  have hl : lv_has ls 2 [(0, .ref h0), (1, .int vv)] := hl
  refine lv_aload_n hx hb d_Mo_variable_0 rfl (lv_at hl 0 rfl) ?_
  refine lv_iload_n hx hb d_Mo_variable_1 rfl (lv_at hl 1 rfl) ?_
  refine lv_iconst (v := 0) hx hb d_Mo_variable_2 (by decide) ?_
  refine lv_iconst (v := 5) hx hb d_Mo_variable_3 (by decide) ?_
  have hFc := m_free hD hS hA
  refine va_calli (va_runS (As := [.int vv, .int 0, .int 5]) (rest := [.ref h0]) ⟨hx, hb, hml, hown, hts⟩ (c_Mo_in l dC dI ar N0 z (vv) (0) (5) s.heap.size) (cwS 3 hts (x_goodS k_1113 k_1114 k_9 k_1115) rfl rfl rfl (by decide +kernel) ⟨Nat.le_of_ble_eq_true rfl, Nat.le_of_ble_eq_true rfl⟩) ⟨x_blind, fun U9 hU9 hW9 => x_pre (ws := []) hU9 hW9 (fun k q h => by simp at h) (⟨fun i j p q h => by simp at h, fun k q h => by simp at h⟩ : va_D Bq []) hU hZ hS hAN hN0⟩ rfl rfl hl.1 rfl (lv_room (Nat.le_of_ble_eq_true rfl)) d_Mo_variable_4 ⟨Nat.le_of_ble_eq_true rfl, Nat.le_of_ble_eq_true rfl⟩) hS (fun q _ h => hA q (Nat.le_trans hS.1 (h.elim (fun ⟨k, e9, hk⟩ => by simp at hk) id))) (fun q h => hA q (Nat.le_trans hS.1 (h.elim (fun ⟨k, e9, hk⟩ => by simp at hk) id))) (fun r_1 u t H1 locs ht hvm hw hB hz1 hk1 hS => ?_)
  have hP : va_P (dC, dI) x_cl (m_W h0 ad ar I T A U) H1 := fun k q hk => (hP k q hk).kept (hk1 q.1 ((hP k q hk).lt) (fun h9 => h9.elim (fun ⟨k, e9, hk⟩ => by simp at hk) (fun h8 => absurd (hP k q hk).lt (Nat.not_lt.mpr h8))))
  generalize H1 = H at hP hS ⊢
  refine W.widen (k := 0) (n := 0) (Nat.le_of_ble_eq_true rfl) (Nat.le_of_ble_eq_true rfl) ?_
  rcases hw with ⟨i_3, i_3', rfl⟩ | ⟨i_3, rfl⟩
  · have i_3 := i_3
    have hFc := m_free hD hS hA
    refine va_calli (va_runV (As := [.int 1]) (rest := []) ⟨hx, hb, hml, hown, hts⟩ (m_bad l dC dI ar N0 z h0 ad I T A U (1) H.size ) (cwV 1 hts (x_goodV k_1116 k_1118 kp_48 k_9 k_1119) rfl rfl rfl (by decide +kernel) ⟨Nat.le_of_ble_eq_true rfl, Nat.le_of_ble_eq_true rfl⟩) ⟨x_blind, va_recv hK hP (ci := 6) (q0 := 0) rfl rfl, fun U9 hU9 hW9 => x_pre hU9 hW9 hP hD hU hZ hS hAN hN0⟩ rfl rfl hl.1 rfl (lv_room (Nat.le_of_ble_eq_true rfl)) d_Mo_variable_7 ⟨Nat.le_of_ble_eq_true rfl, Nat.le_of_ble_eq_true rfl⟩) hS (fun q _ h => hFc q h) hFc (fun r_4 u t H1 locs ht hvm hw hB hz1 hk1 hS => ?_)
    obtain ⟨I6, T6, A6, U6⟩ := u
    dsimp only at hw hB
    rw [ht] at hB
    have hP : va_P (dC, dI) x_cl (m_W h0 ad ar I6 T6 A6 U6) H1 := hB
    have hD : va_D Bq (m_W h0 ad ar I6 T6 A6 U6) := m_D hD
    generalize H1 = H at hP hS ⊢
    refine W.widen (k := 0) (n := 0) (Nat.le_of_ble_eq_true rfl) (Nat.le_of_ble_eq_true rfl) ?_
    rcases hw with ⟨b_7, rfl, h9⟩ | ⟨b_7, rfl, h9⟩
    · exact absurd b_7 (by decide)
    · cases h9
      refine lv_if_eq (tgt := 15) hx hb d_Mo_variable_10 (by decide) (fun _ => ?_) (fun c_8 => absurd (by decide) c_8)
      refine lv_aload_n hx hb d_Mo_variable_15 rfl (lv_at hl 0 rfl) ?_
      refine m_g hx hb hts hown hK hP 3 (by decide) rfl (hts _ k_970) (v := .ref (ad 3)) rfl d_Mo_variable_16 ?_
      refine lv_iload_n hx hb d_Mo_variable_19 rfl (lv_at hl 1 rfl) ?_
      refine m_ld hx hb hK hP 3 rfl (by decide) (j := vv) (x_in6 i_3 i_3') d_Mo_variable_20 ?_
      refine W.widen (k := 0) (n := 0) (Nat.le_of_ble_eq_true rfl) (Nat.le_of_ble_eq_true rfl) ?_
      exact W.iret (v := (A 3 (Int32.toNatClampNeg vv))) hx hb hr (fun t ht hW => ⟨⟨(A 3 (Int32.toNatClampNeg vv)), ((upd I 33 0), T, A, U), rfl, hok.to (L := [33]) (LA := [3]) (m_fr.rf.up (by decide) _) m_fa.rf (by decide) (by decide), by dsimp only; rw [ht]; exact hP⟩, hS.F ht⟩) hS.2.2 d_Mo_variable_21
  · have i_3 := i_3
    have hFc := m_free hD hS hA
    refine va_calli (va_runV (As := [.int 0]) (rest := []) ⟨hx, hb, hml, hown, hts⟩ (m_bad l dC dI ar N0 z h0 ad I T A U (0) H.size ) (cwV 1 hts (x_goodV k_1116 k_1118 kp_48 k_9 k_1119) rfl rfl rfl (by decide +kernel) ⟨Nat.le_of_ble_eq_true rfl, Nat.le_of_ble_eq_true rfl⟩) ⟨x_blind, va_recv hK hP (ci := 6) (q0 := 0) rfl rfl, fun U9 hU9 hW9 => x_pre hU9 hW9 hP hD hU hZ hS hAN hN0⟩ rfl rfl hl.1 rfl (lv_room (Nat.le_of_ble_eq_true rfl)) d_Mo_variable_7 ⟨Nat.le_of_ble_eq_true rfl, Nat.le_of_ble_eq_true rfl⟩) hS (fun q _ h => hFc q h) hFc (fun r_9 u t H1 locs ht hvm hw hB hz1 hk1 hS => ?_)
    obtain ⟨I11, T11, A11, U11⟩ := u
    dsimp only at hw hB
    rw [ht] at hB
    have hP : va_P (dC, dI) x_cl (m_W h0 ad ar I11 T11 A11 U11) H1 := hB
    have hD : va_D Bq (m_W h0 ad ar I11 T11 A11 U11) := m_D hD
    generalize H1 = H at hP hS ⊢
    refine W.widen (k := 0) (n := 0) (Nat.le_of_ble_eq_true rfl) (Nat.le_of_ble_eq_true rfl) ?_
    rcases hw with ⟨b_12, rfl, h9⟩ | ⟨b_12, rfl, h9⟩
    · cases h9
      refine lv_if_eq (tgt := 15) hx hb d_Mo_variable_10 (by decide) (fun c_13 => absurd c_13 (by decide)) (fun _ => ?_)
      refine lv_iconst (v := 0) hx hb d_Mo_variable_13 (by decide) ?_
      refine W.widen (k := 0) (n := 0) (Nat.le_of_ble_eq_true rfl) (Nat.le_of_ble_eq_true rfl) ?_
      exact W.iret (v := 0) hx hb hr (fun t ht hW => ⟨⟨0, ((upd I 33 1), T, A, U), rfl, hok.to (L := [33]) (LA := [3]) (m_fr.rf.up (by decide) _) m_fa.rf (by decide) (by decide), by dsimp only; rw [ht]; exact hP⟩, hS.F ht⟩) hS.2.2 d_Mo_variable_14
    · exact absurd rfl b_12
set_option maxHeartbeats 4000000 in
set_option maxRecDepth 100000 in
theorem m_set (l : Launch) (dC : Nat → ClassId) (dI : Nat → Nat → Nat) (ar : Nat → ClassId) (N0 : Nat) (z : Nat → Nat) (h0 : Nat) (ad : Nat → Nat) (I : Nat → Int32) (T : Int64) (A : Nat → Nat → Int32) (U : Nat → Int64) (S : Nat) (vv yv : Int32) (sz : Nat) (hok : m_OK S I A) : Met l ({ cls := "ChannelMachineModel", name := "set", desc := "(II)V" } : Jvm.MethodName) ((Jvm.Cond.code ({ cls := "ChannelMachineModel", name := "set", desc := "(II)V" } : Jvm.MethodName) prog_12_method_46_code (3 : Nat) (Option.none : Option Jvm.ClassFile.FieldType)) :: x_T) ({ frames := 1, cells := 0, slots := 0, locals := 22 }) (x_Pc (dC, dI) ar N0 z (m_W h0 ad ar I T A U) sz [.ref h0, .int vv, .int yv]) (va_Qv (fun (u : (Nat → Int32) × Int64 × (Nat → Nat → Int32) × (Nat → Int64)) => m_OK S u.1 u.2.2.1 ∧ (((¬ vv < 0 ∧ ¬ 5 < vv) ∧ u.1 33 = 0) ∨ ((vv < 0 ∨ 5 < vv) ∧ u.1 33 = 1))) (fun u t => va_P (dC, dI) x_cl (m_W h0 ad ar u.1 u.2.1 u.2.2.1 u.2.2.2) t.heap) (va_A (m_W h0 ad ar I T A U) sz)) 0 0 (va_A (m_W h0 ad ar I T A U) sz) := by
  refine Met.ofW (cc := prog_12_method_46_code) (maxL := 3) (ret := none) (by decide) rfl ?_
  intro p e s m args below meth c s₁ B hml hv
  obtain ⟨rfl, hsz, hN0, hP, hU, hZ, hD0⟩ := hv
  have hK := hU.1
  have hx := B.exec
  have hb := B.bytes
  have hr := B.returns
  have hts : ∀ w ∈ x_T, w.before ([.ref h0, .int vv, .int yv] : List Value).toArray s = true := fun w h => atoms_spec (ws := (Jvm.Cond.code ({ cls := "ChannelMachineModel", name := "set", desc := "(II)V" } : Jvm.MethodName) prog_12_method_46_code (3 : Nat) (Option.none : Option Jvm.ClassFile.FieldType)) :: x_T) B.pre w (List.mem_cons_of_mem _ h)
  have hown : s.vm.findClass "ChannelMachineModel" = some m.cls := findClass_of_methodNamed B.named
  have hlocks := B.notSynchronized
  subst hsz
  have hD := hD0.self (sz := s.heap.size)
  have hAN := x_AN hD0 hN0
  generalize hAe : va_A (m_W h0 ad ar I T A U) s.heap.size = Bq at hD hAN ⊢
  have hA : ∀ q : Nat, s.heap.size ≤ q → Bq q := fun q h => by rw [← hAe]; exact Or.inr h
  have hS : va_S Bq s.heap s.heap [] := va_S.rf
  have hl := lv_entry ([.ref h0, .int vv, .int yv]) (n := 3) (Nat.le_of_ble_eq_true rfl)
  rw [lg_entry_eq]
  generalize (lg_sl ([.ref h0, .int vv, .int yv]) ++ List.replicate (3 - (lg_sl ([.ref h0, .int vv, .int yv])).length) Slot.unset).toArray = ls at hl ⊢
  have hl : lv_has ls 3 [(0, .ref h0), (1, .int vv), (2, .int yv)] := hl
  refine lv_aload_n hx hb d_Mo_set_0 rfl (lv_at hl 0 rfl) ?_
  refine lv_iload_n hx hb d_Mo_set_1 rfl (lv_at hl 1 rfl) ?_
  refine lv_iconst (v := 0) hx hb d_Mo_set_2 (by decide) ?_
  refine lv_iconst (v := 5) hx hb d_Mo_set_3 (by decide) ?_
  have hFc := m_free hD hS hA
  refine va_calli (va_runS (As := [.int vv, .int 0, .int 5]) (rest := [.ref h0]) ⟨hx, hb, hml, hown, hts⟩ (c_Mo_in l dC dI ar N0 z (vv) (0) (5) s.heap.size) (cwS 3 hts (x_goodS k_1113 k_1114 k_9 k_1115) rfl rfl rfl (by decide +kernel) ⟨Nat.le_of_ble_eq_true rfl, Nat.le_of_ble_eq_true rfl⟩) ⟨x_blind, fun U9 hU9 hW9 => x_pre (ws := []) hU9 hW9 (fun k q h => by simp at h) (⟨fun i j p q h => by simp at h, fun k q h => by simp at h⟩ : va_D Bq []) hU hZ hS hAN hN0⟩ rfl rfl hl.1 rfl (lv_room (Nat.le_of_ble_eq_true rfl)) d_Mo_set_4 ⟨Nat.le_of_ble_eq_true rfl, Nat.le_of_ble_eq_true rfl⟩) hS (fun q _ h => hA q (Nat.le_trans hS.1 (h.elim (fun ⟨k, e9, hk⟩ => by simp at hk) id))) (fun q h => hA q (Nat.le_trans hS.1 (h.elim (fun ⟨k, e9, hk⟩ => by simp at hk) id))) (fun r_1 u t H1 locs ht hvm hw hB hz1 hk1 hS => ?_)
  have hP : va_P (dC, dI) x_cl (m_W h0 ad ar I T A U) H1 := fun k q hk => (hP k q hk).kept (hk1 q.1 ((hP k q hk).lt) (fun h9 => h9.elim (fun ⟨k, e9, hk⟩ => by simp at hk) (fun h8 => absurd (hP k q hk).lt (Nat.not_lt.mpr h8))))
  generalize H1 = H at hP hS ⊢
  refine W.widen (k := 0) (n := 0) (Nat.le_of_ble_eq_true rfl) (Nat.le_of_ble_eq_true rfl) ?_
  rcases hw with ⟨i_3, i_3', rfl⟩ | ⟨i_3, rfl⟩
  · have i_3 := i_3
    have hFc := m_free hD hS hA
    refine va_calli (va_runV (As := [.int 1]) (rest := []) ⟨hx, hb, hml, hown, hts⟩ (m_bad l dC dI ar N0 z h0 ad I T A U (1) H.size ) (cwV 1 hts (x_goodV k_1116 k_1118 kp_48 k_9 k_1119) rfl rfl rfl (by decide +kernel) ⟨Nat.le_of_ble_eq_true rfl, Nat.le_of_ble_eq_true rfl⟩) ⟨x_blind, va_recv hK hP (ci := 6) (q0 := 0) rfl rfl, fun U9 hU9 hW9 => x_pre hU9 hW9 hP hD hU hZ hS hAN hN0⟩ rfl rfl hl.1 rfl (lv_room (Nat.le_of_ble_eq_true rfl)) d_Mo_set_7 ⟨Nat.le_of_ble_eq_true rfl, Nat.le_of_ble_eq_true rfl⟩) hS (fun q _ h => hFc q h) hFc (fun r_4 u t H1 locs ht hvm hw hB hz1 hk1 hS => ?_)
    obtain ⟨I6, T6, A6, U6⟩ := u
    dsimp only at hw hB
    rw [ht] at hB
    have hP : va_P (dC, dI) x_cl (m_W h0 ad ar I6 T6 A6 U6) H1 := hB
    have hD : va_D Bq (m_W h0 ad ar I6 T6 A6 U6) := m_D hD
    generalize H1 = H at hP hS ⊢
    refine W.widen (k := 0) (n := 0) (Nat.le_of_ble_eq_true rfl) (Nat.le_of_ble_eq_true rfl) ?_
    rcases hw with ⟨b_7, rfl, h9⟩ | ⟨b_7, rfl, h9⟩
    · exact absurd b_7 (by decide)
    · cases h9
      refine lv_if_eq (tgt := 14) hx hb d_Mo_set_10 (by decide) (fun _ => ?_) (fun c_8 => absurd (by decide) c_8)
      refine lv_aload_n hx hb d_Mo_set_14 rfl (lv_at hl 0 rfl) ?_
      refine m_g hx hb hts hown hK hP 3 (by decide) rfl (hts _ k_970) (v := .ref (ad 3)) rfl d_Mo_set_15 ?_
      refine lv_iload_n hx hb d_Mo_set_18 rfl (lv_at hl 1 rfl) ?_
      refine lv_iload_n hx hb d_Mo_set_19 rfl (lv_at hl 2 rfl) ?_
      refine m_st hx hb hK hP hD hS 3 rfl (by decide) (j := vv) (x := yv) (x_in6 i_3 i_3') d_Mo_set_20 (fun H locs hP hD hS => ?_)
      have hP : va_P (dC, dI) x_cl (m_W h0 ad ar (upd I 33 0) T (m_up A 3 (upd (A 3) (Int32.toNatClampNeg vv) yv)) U) H := hP
      have hD : va_D Bq (m_W h0 ad ar (upd I 33 0) T (m_up A 3 (upd (A 3) (Int32.toNatClampNeg vv) yv)) U) := hD
      refine W.widen (k := 0) (n := 0) (Nat.le_of_ble_eq_true rfl) (Nat.le_of_ble_eq_true rfl) ?_
      exact W.vret hx hb hr (fun t ht hW => ⟨⟨((upd I 33 0), T, (m_up A 3 (upd (A 3) (Int32.toNatClampNeg vv) yv)), U), rfl, ⟨hok.to (L := [33]) (LA := [3]) (m_fr.rf.up (by decide) _) (m_fa.rf.up (by decide) _) (by decide) (by decide), Or.inl ⟨⟨i_3, i_3'⟩, rfl⟩⟩, by dsimp only; rw [ht]; exact hP⟩, hS.F ht⟩) hS.2.2 d_Mo_set_21
  · have i_3 := i_3
    have hFc := m_free hD hS hA
    refine va_calli (va_runV (As := [.int 0]) (rest := []) ⟨hx, hb, hml, hown, hts⟩ (m_bad l dC dI ar N0 z h0 ad I T A U (0) H.size ) (cwV 1 hts (x_goodV k_1116 k_1118 kp_48 k_9 k_1119) rfl rfl rfl (by decide +kernel) ⟨Nat.le_of_ble_eq_true rfl, Nat.le_of_ble_eq_true rfl⟩) ⟨x_blind, va_recv hK hP (ci := 6) (q0 := 0) rfl rfl, fun U9 hU9 hW9 => x_pre hU9 hW9 hP hD hU hZ hS hAN hN0⟩ rfl rfl hl.1 rfl (lv_room (Nat.le_of_ble_eq_true rfl)) d_Mo_set_7 ⟨Nat.le_of_ble_eq_true rfl, Nat.le_of_ble_eq_true rfl⟩) hS (fun q _ h => hFc q h) hFc (fun r_9 u t H1 locs ht hvm hw hB hz1 hk1 hS => ?_)
    obtain ⟨I11, T11, A11, U11⟩ := u
    dsimp only at hw hB
    rw [ht] at hB
    have hP : va_P (dC, dI) x_cl (m_W h0 ad ar I11 T11 A11 U11) H1 := hB
    have hD : va_D Bq (m_W h0 ad ar I11 T11 A11 U11) := m_D hD
    generalize H1 = H at hP hS ⊢
    refine W.widen (k := 0) (n := 0) (Nat.le_of_ble_eq_true rfl) (Nat.le_of_ble_eq_true rfl) ?_
    rcases hw with ⟨b_12, rfl, h9⟩ | ⟨b_12, rfl, h9⟩
    · cases h9
      refine lv_if_eq (tgt := 14) hx hb d_Mo_set_10 (by decide) (fun c_13 => absurd c_13 (by decide)) (fun _ => ?_)
      refine W.widen (k := 0) (n := 0) (Nat.le_of_ble_eq_true rfl) (Nat.le_of_ble_eq_true rfl) ?_
      exact W.vret hx hb hr (fun t ht hW => ⟨⟨((upd I 33 1), T, A, U), rfl, ⟨hok.to (L := [33]) (LA := [3]) (m_fr.rf.up (by decide) _) m_fa.rf (by decide) (by decide), Or.inr ⟨i_3, rfl⟩⟩, by dsimp only; rw [ht]; exact hP⟩, hS.F ht⟩) hS.2.2 d_Mo_set_13
    · exact absurd rfl b_12
set_option maxHeartbeats 4000000 in
set_option maxRecDepth 100000 in
theorem m_channel (l : Launch) (dC : Nat → ClassId) (dI : Nat → Nat → Nat) (ar : Nat → ClassId) (N0 : Nat) (z : Nat → Nat) (h0 : Nat) (ad : Nat → Nat) (I : Nat → Int32) (T : Int64) (A : Nat → Nat → Int32) (U : Nat → Int64) (S : Nat) (vv : Int32) (sz : Nat) (hok : m_OK S I A) : Met l ({ cls := "ChannelMachineModel", name := "channel", desc := "(I)I" } : Jvm.MethodName) ((Jvm.Cond.code ({ cls := "ChannelMachineModel", name := "channel", desc := "(I)I" } : Jvm.MethodName) prog_12_method_47_code (2 : Nat) (Option.some Jvm.ClassFile.FieldType.int)) :: x_T) ({ frames := 1, cells := 0, slots := 0, locals := 22 }) (x_Pc (dC, dI) ar N0 z (m_W h0 ad ar I T A U) sz [.ref h0, .int vv]) (va_Qi (fun (r : Int32) (u : (Nat → Int32) × Int64 × (Nat → Nat → Int32) × (Nat → Int64)) => m_OK S u.1 u.2.2.1) (fun u t => va_P (dC, dI) x_cl (m_W h0 ad ar u.1 u.2.1 u.2.2.1 u.2.2.2) t.heap) (va_A (m_W h0 ad ar I T A U) sz)) 0 0 (va_A (m_W h0 ad ar I T A U) sz) := by
  refine Met.ofW (cc := prog_12_method_47_code) (maxL := 2) (ret := (some .int)) (by decide) rfl ?_
  intro p e s m args below meth c s₁ B hml hv
  obtain ⟨rfl, hsz, hN0, hP, hU, hZ, hD0⟩ := hv
  have hK := hU.1
  have hx := B.exec
  have hb := B.bytes
  have hr := B.returns
  have hts : ∀ w ∈ x_T, w.before ([.ref h0, .int vv] : List Value).toArray s = true := fun w h => atoms_spec (ws := (Jvm.Cond.code ({ cls := "ChannelMachineModel", name := "channel", desc := "(I)I" } : Jvm.MethodName) prog_12_method_47_code (2 : Nat) (Option.some Jvm.ClassFile.FieldType.int)) :: x_T) B.pre w (List.mem_cons_of_mem _ h)
  have hown : s.vm.findClass "ChannelMachineModel" = some m.cls := findClass_of_methodNamed B.named
  have hlocks := B.notSynchronized
  subst hsz
  have hD := hD0.self (sz := s.heap.size)
  have hAN := x_AN hD0 hN0
  generalize hAe : va_A (m_W h0 ad ar I T A U) s.heap.size = Bq at hD hAN ⊢
  have hA : ∀ q : Nat, s.heap.size ≤ q → Bq q := fun q h => by rw [← hAe]; exact Or.inr h
  have hS : va_S Bq s.heap s.heap [] := va_S.rf
  have hl := lv_entry ([.ref h0, .int vv]) (n := 2) (Nat.le_of_ble_eq_true rfl)
  rw [lg_entry_eq]
  generalize (lg_sl ([.ref h0, .int vv]) ++ List.replicate (2 - (lg_sl ([.ref h0, .int vv])).length) Slot.unset).toArray = ls at hl ⊢
  have hl : lv_has ls 2 [(0, .ref h0), (1, .int vv)] := hl
  refine lv_aload_n hx hb d_Mo_channel_0 rfl (lv_at hl 0 rfl) ?_
  refine lv_iload_n hx hb d_Mo_channel_1 rfl (lv_at hl 1 rfl) ?_
  refine lv_iconst (v := 0) hx hb d_Mo_channel_2 (by decide) ?_
  refine lv_iconst (v := 5) hx hb d_Mo_channel_3 (by decide) ?_
  have hFc := m_free hD hS hA
  refine va_calli (va_runS (As := [.int vv, .int 0, .int 5]) (rest := [.ref h0]) ⟨hx, hb, hml, hown, hts⟩ (c_Mo_in l dC dI ar N0 z (vv) (0) (5) s.heap.size) (cwS 3 hts (x_goodS k_1113 k_1114 k_9 k_1115) rfl rfl rfl (by decide +kernel) ⟨Nat.le_of_ble_eq_true rfl, Nat.le_of_ble_eq_true rfl⟩) ⟨x_blind, fun U9 hU9 hW9 => x_pre (ws := []) hU9 hW9 (fun k q h => by simp at h) (⟨fun i j p q h => by simp at h, fun k q h => by simp at h⟩ : va_D Bq []) hU hZ hS hAN hN0⟩ rfl rfl hl.1 rfl (lv_room (Nat.le_of_ble_eq_true rfl)) d_Mo_channel_4 ⟨Nat.le_of_ble_eq_true rfl, Nat.le_of_ble_eq_true rfl⟩) hS (fun q _ h => hA q (Nat.le_trans hS.1 (h.elim (fun ⟨k, e9, hk⟩ => by simp at hk) id))) (fun q h => hA q (Nat.le_trans hS.1 (h.elim (fun ⟨k, e9, hk⟩ => by simp at hk) id))) (fun r_1 u t H1 locs ht hvm hw hB hz1 hk1 hS => ?_)
  have hP : va_P (dC, dI) x_cl (m_W h0 ad ar I T A U) H1 := fun k q hk => (hP k q hk).kept (hk1 q.1 ((hP k q hk).lt) (fun h9 => h9.elim (fun ⟨k, e9, hk⟩ => by simp at hk) (fun h8 => absurd (hP k q hk).lt (Nat.not_lt.mpr h8))))
  generalize H1 = H at hP hS ⊢
  refine W.widen (k := 0) (n := 0) (Nat.le_of_ble_eq_true rfl) (Nat.le_of_ble_eq_true rfl) ?_
  rcases hw with ⟨i_3, i_3', rfl⟩ | ⟨i_3, rfl⟩
  · have i_3 := i_3
    have hFc := m_free hD hS hA
    refine va_calli (va_runV (As := [.int 1]) (rest := []) ⟨hx, hb, hml, hown, hts⟩ (m_bad l dC dI ar N0 z h0 ad I T A U (1) H.size ) (cwV 1 hts (x_goodV k_1116 k_1118 kp_48 k_9 k_1119) rfl rfl rfl (by decide +kernel) ⟨Nat.le_of_ble_eq_true rfl, Nat.le_of_ble_eq_true rfl⟩) ⟨x_blind, va_recv hK hP (ci := 6) (q0 := 0) rfl rfl, fun U9 hU9 hW9 => x_pre hU9 hW9 hP hD hU hZ hS hAN hN0⟩ rfl rfl hl.1 rfl (lv_room (Nat.le_of_ble_eq_true rfl)) d_Mo_channel_7 ⟨Nat.le_of_ble_eq_true rfl, Nat.le_of_ble_eq_true rfl⟩) hS (fun q _ h => hFc q h) hFc (fun r_4 u t H1 locs ht hvm hw hB hz1 hk1 hS => ?_)
    obtain ⟨I6, T6, A6, U6⟩ := u
    dsimp only at hw hB
    rw [ht] at hB
    have hP : va_P (dC, dI) x_cl (m_W h0 ad ar I6 T6 A6 U6) H1 := hB
    have hD : va_D Bq (m_W h0 ad ar I6 T6 A6 U6) := m_D hD
    generalize H1 = H at hP hS ⊢
    refine W.widen (k := 0) (n := 0) (Nat.le_of_ble_eq_true rfl) (Nat.le_of_ble_eq_true rfl) ?_
    rcases hw with ⟨b_7, rfl, h9⟩ | ⟨b_7, rfl, h9⟩
    · exact absurd b_7 (by decide)
    · cases h9
      refine lv_if_ne (tgt := 21) hx hb d_Mo_channel_10 (by decide) (fun c_8 => absurd rfl c_8) (fun _ => ?_)
      refine lv_aload_n hx hb d_Mo_channel_13 rfl (lv_at hl 0 rfl) ?_
      refine m_g hx hb hts hown hK hP 9 (by decide) rfl (hts _ k_976) (v := .int (I 9)) rfl d_Mo_channel_14 ?_
      refine lv_iconst (v := 1) hx hb d_Mo_channel_17 (by decide) ?_
      refine lv_icmp_eq (tgt := 23) hx hb d_Mo_channel_18 (by decide) (fun c_9 => ?_) (fun c_9 => ?_)
      · refine lv_aload_n hx hb d_Mo_channel_23 rfl (lv_at hl 0 rfl) ?_
        refine m_g hx hb hts hown hK hP 35 (by decide) rfl (hts _ k_1002) (v := .ref (ad 35)) rfl d_Mo_channel_24 ?_
        refine lv_iload_n hx hb d_Mo_channel_27 rfl (lv_at hl 1 rfl) ?_
        refine m_ld hx hb hK hP 21 rfl (by decide) (j := vv) (x_in6 i_3 i_3') d_Mo_channel_28 ?_
        refine lv_if_lt (tgt := 36) hx hb d_Mo_channel_29 (by decide) (fun c_10 => ?_) (fun c_10 => ?_)
        · refine lv_aload_n hx hb d_Mo_channel_36 rfl (lv_at hl 0 rfl) ?_
          refine m_g hx hb hts hown hK hP 38 (by decide) rfl (hts _ k_1005) (v := .ref (ad 38)) rfl d_Mo_channel_37 ?_
          refine lv_iload_n hx hb d_Mo_channel_40 rfl (lv_at hl 1 rfl) ?_
          refine m_ld hx hb hK hP 24 rfl (by decide) (j := vv) (x_in6 i_3 i_3') d_Mo_channel_41 ?_
          refine lv_if_lt (tgt := 49) hx hb d_Mo_channel_42 (by decide) (fun c_11 => ?_) (fun c_11 => ?_)
          · refine lv_iconst (v := 0) hx hb d_Mo_channel_49 (by decide) ?_
            refine W.widen (k := 0) (n := 0) (Nat.le_of_ble_eq_true rfl) (Nat.le_of_ble_eq_true rfl) ?_
            exact W.iret (v := 0) hx hb hr (fun t ht hW => ⟨⟨0, ((upd I 33 0), T, A, U), rfl, hok.to (L := [33]) (LA := [3]) (m_fr.rf.up (by decide) _) m_fa.rf (by decide) (by decide), by dsimp only; rw [ht]; exact hP⟩, hS.F ht⟩) hS.2.2 d_Mo_channel_50
          · refine lv_iconst (v := 2) hx hb d_Mo_channel_45 (by decide) ?_
            refine lv_goto (tgt := 50) hx hb d_Mo_channel_46 (by decide) ?_
            refine W.widen (k := 0) (n := 0) (Nat.le_of_ble_eq_true rfl) (Nat.le_of_ble_eq_true rfl) ?_
            exact W.iret (v := 2) hx hb hr (fun t ht hW => ⟨⟨2, ((upd I 33 0), T, A, U), rfl, hok.to (L := [33]) (LA := [3]) (m_fr.rf.up (by decide) _) m_fa.rf (by decide) (by decide), by dsimp only; rw [ht]; exact hP⟩, hS.F ht⟩) hS.2.2 d_Mo_channel_50
        · refine lv_iconst (v := 1) hx hb d_Mo_channel_32 (by decide) ?_
          refine lv_goto (tgt := 50) hx hb d_Mo_channel_33 (by decide) ?_
          refine W.widen (k := 0) (n := 0) (Nat.le_of_ble_eq_true rfl) (Nat.le_of_ble_eq_true rfl) ?_
          exact W.iret (v := 1) hx hb hr (fun t ht hW => ⟨⟨1, ((upd I 33 0), T, A, U), rfl, hok.to (L := [33]) (LA := [3]) (m_fr.rf.up (by decide) _) m_fa.rf (by decide) (by decide), by dsimp only; rw [ht]; exact hP⟩, hS.F ht⟩) hS.2.2 d_Mo_channel_50
      · refine lv_iconst (v := 0) hx hb d_Mo_channel_21 (by decide) ?_
        refine W.widen (k := 0) (n := 0) (Nat.le_of_ble_eq_true rfl) (Nat.le_of_ble_eq_true rfl) ?_
        exact W.iret (v := 0) hx hb hr (fun t ht hW => ⟨⟨0, ((upd I 33 0), T, A, U), rfl, hok.to (L := [33]) (LA := [3]) (m_fr.rf.up (by decide) _) m_fa.rf (by decide) (by decide), by dsimp only; rw [ht]; exact hP⟩, hS.F ht⟩) hS.2.2 d_Mo_channel_22
  · have i_3 := i_3
    have hFc := m_free hD hS hA
    refine va_calli (va_runV (As := [.int 0]) (rest := []) ⟨hx, hb, hml, hown, hts⟩ (m_bad l dC dI ar N0 z h0 ad I T A U (0) H.size ) (cwV 1 hts (x_goodV k_1116 k_1118 kp_48 k_9 k_1119) rfl rfl rfl (by decide +kernel) ⟨Nat.le_of_ble_eq_true rfl, Nat.le_of_ble_eq_true rfl⟩) ⟨x_blind, va_recv hK hP (ci := 6) (q0 := 0) rfl rfl, fun U9 hU9 hW9 => x_pre hU9 hW9 hP hD hU hZ hS hAN hN0⟩ rfl rfl hl.1 rfl (lv_room (Nat.le_of_ble_eq_true rfl)) d_Mo_channel_7 ⟨Nat.le_of_ble_eq_true rfl, Nat.le_of_ble_eq_true rfl⟩) hS (fun q _ h => hFc q h) hFc (fun r_12 u t H1 locs ht hvm hw hB hz1 hk1 hS => ?_)
    obtain ⟨I14, T14, A14, U14⟩ := u
    dsimp only at hw hB
    rw [ht] at hB
    have hP : va_P (dC, dI) x_cl (m_W h0 ad ar I14 T14 A14 U14) H1 := hB
    have hD : va_D Bq (m_W h0 ad ar I14 T14 A14 U14) := m_D hD
    generalize H1 = H at hP hS ⊢
    refine W.widen (k := 0) (n := 0) (Nat.le_of_ble_eq_true rfl) (Nat.le_of_ble_eq_true rfl) ?_
    rcases hw with ⟨b_15, rfl, h9⟩ | ⟨b_15, rfl, h9⟩
    · cases h9
      refine lv_if_ne (tgt := 21) hx hb d_Mo_channel_10 (by decide) (fun _ => ?_) (fun c_16 => absurd c_16 (by decide))
      refine lv_iconst (v := 0) hx hb d_Mo_channel_21 (by decide) ?_
      refine W.widen (k := 0) (n := 0) (Nat.le_of_ble_eq_true rfl) (Nat.le_of_ble_eq_true rfl) ?_
      exact W.iret (v := 0) hx hb hr (fun t ht hW => ⟨⟨0, ((upd I 33 1), T, A, U), rfl, hok.to (L := [33]) (LA := [3]) (m_fr.rf.up (by decide) _) m_fa.rf (by decide) (by decide), by dsimp only; rw [ht]; exact hP⟩, hS.F ht⟩) hS.2.2 d_Mo_channel_22
    · exact absurd rfl b_15
set_option maxHeartbeats 4000000 in
set_option maxRecDepth 100000 in
theorem m_thrown (l : Launch) (dC : Nat → ClassId) (dI : Nat → Nat → Nat) (ar : Nat → ClassId) (N0 : Nat) (z : Nat → Nat) (h0 : Nat) (ad : Nat → Nat) (I : Nat → Int32) (T : Int64) (A : Nat → Nat → Int32) (U : Nat → Int64)  (sz : Nat) : Met l ({ cls := "ChannelMachineModel", name := "thrown", desc := "()I" } : Jvm.MethodName) ((Jvm.Cond.code ({ cls := "ChannelMachineModel", name := "thrown", desc := "()I" } : Jvm.MethodName) prog_12_method_2_code (1 : Nat) (Option.some Jvm.ClassFile.FieldType.int)) :: x_T) ({ frames := 0, cells := 0, slots := 0, locals := 0 }) (x_Pc (dC, dI) ar N0 z (m_W h0 ad ar I T A U) sz [.ref h0]) (va_Qi (fun (r : Int32) (u : (Nat → Int32) × Int64 × (Nat → Nat → Int32) × (Nat → Int64)) => r = I 33 ∧ u = (I, T, A, U)) (fun u t => va_P (dC, dI) x_cl (m_W h0 ad ar u.1 u.2.1 u.2.2.1 u.2.2.2) t.heap) (va_A (m_W h0 ad ar I T A U) sz)) 0 0 (va_A (m_W h0 ad ar I T A U) sz) := by
  refine Met.ofW (cc := prog_12_method_2_code) (maxL := 1) (ret := (some .int)) (by decide) rfl ?_
  intro p e s m args below meth c s₁ B hml hv
  obtain ⟨rfl, hsz, hN0, hP, hU, hZ, hD0⟩ := hv
  have hK := hU.1
  have hx := B.exec
  have hb := B.bytes
  have hr := B.returns
  have hts : ∀ w ∈ x_T, w.before ([.ref h0] : List Value).toArray s = true := fun w h => atoms_spec (ws := (Jvm.Cond.code ({ cls := "ChannelMachineModel", name := "thrown", desc := "()I" } : Jvm.MethodName) prog_12_method_2_code (1 : Nat) (Option.some Jvm.ClassFile.FieldType.int)) :: x_T) B.pre w (List.mem_cons_of_mem _ h)
  have hown : s.vm.findClass "ChannelMachineModel" = some m.cls := findClass_of_methodNamed B.named
  have hlocks := B.notSynchronized
  subst hsz
  have hD := hD0.self (sz := s.heap.size)
  have hAN := x_AN hD0 hN0
  generalize hAe : va_A (m_W h0 ad ar I T A U) s.heap.size = Bq at hD hAN ⊢
  have hA : ∀ q : Nat, s.heap.size ≤ q → Bq q := fun q h => by rw [← hAe]; exact Or.inr h
  have hS : va_S Bq s.heap s.heap [] := va_S.rf
  have hl := lv_entry ([.ref h0]) (n := 1) (Nat.le_of_ble_eq_true rfl)
  rw [lg_entry_eq]
  generalize (lg_sl ([.ref h0]) ++ List.replicate (1 - (lg_sl ([.ref h0])).length) Slot.unset).toArray = ls at hl ⊢
  have hl : lv_has ls 1 [(0, .ref h0)] := hl
  refine lv_aload_n hx hb d_Mo_thrown_0 rfl (lv_at hl 0 rfl) ?_
  refine m_g hx hb hts hown hK hP 33 (by decide) rfl (hts _ k_1000) (v := .int (I 33)) rfl d_Mo_thrown_1 ?_
  refine W.widen (k := 0) (n := 0) (Nat.le_of_ble_eq_true rfl) (Nat.le_of_ble_eq_true rfl) ?_
  exact W.iret (v := (I 33)) hx hb hr (fun t ht hW => ⟨⟨(I 33), (I, T, A, U), rfl, ⟨rfl, rfl⟩, by dsimp only; rw [ht]; exact hP⟩, hS.F ht⟩) hS.2.2 d_Mo_thrown_4
