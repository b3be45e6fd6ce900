-- ===== 86.yactm: act of the machine, by program =====
theorem k_15 : (Jvm.Cond.initialized "java/lang/Enum") ∈ x_T := x_at 15 (by decide +kernel) (by decide +kernel)
theorem k_487 : (Jvm.Cond.sameMethod "ChannelMachine$Kind" "java/lang/Enum" "ordinal" "()I") ∈ x_T := x_at 487 (by decide +kernel) (by decide +kernel)
theorem k_489 : (Jvm.Cond.selects "ChannelMachine$Kind" ({ cls := "ChannelMachine$Kind", name := "ordinal", desc := "()I" } : Jvm.MethodName) ({ cls := "java/lang/Enum", name := "ordinal", desc := "()I" } : Jvm.MethodName)) ∈ x_T := x_at 489 (by decide +kernel) (by decide +kernel)
theorem k_490 : (Jvm.Cond.instanceMethod ({ cls := "java/lang/Enum", name := "ordinal", desc := "()I" } : Jvm.MethodName)) ∈ x_T := x_at 490 (by decide +kernel) (by decide +kernel)
theorem k_491 : (Jvm.Cond.code ({ cls := "java/lang/Enum", name := "ordinal", desc := "()I" } : Jvm.MethodName) prog_16_method_2_code (1 : Nat) (Option.some Jvm.ClassFile.FieldType.int)) ∈ x_T := x_at 491 (by decide +kernel) (by decide +kernel)
theorem k_785 : (Jvm.Cond.fieldLink "ChannelMachine$Machine" (167 : Nat) "ChannelMachine$1" "$SwitchMap$ChannelMachine$Kind" "[I") ∈ x_T := x_at 785 (by decide +kernel) (by decide +kernel)
theorem k_786 : (Jvm.Cond.methodLink "ChannelMachine$Machine" (178 : Nat) ({ cls := "ChannelMachine$Kind", name := "ordinal", desc := "()I" } : Jvm.MethodName)) ∈ x_T := x_at 786 (by decide +kernel) (by decide +kernel)
theorem k_819 : (Jvm.Cond.methodLink "ChannelMachine$Machine" (206 : Nat) ({ cls := "ChannelMachine$Machine", name := "loop", desc := "(LChannelMachine$Task;LChannelMachine$Process;)V" } : Jvm.MethodName)) ∈ x_T := x_at 819 (by decide +kernel) (by decide +kernel)
theorem k_821 : (Jvm.Cond.instanceMethod ({ cls := "ChannelMachine$Machine", name := "loop", desc := "(LChannelMachine$Task;LChannelMachine$Process;)V" } : Jvm.MethodName)) ∈ x_T := x_at 821 (by decide +kernel) (by decide +kernel)
theorem k_822 : (Jvm.Cond.code ({ cls := "ChannelMachine$Machine", name := "loop", desc := "(LChannelMachine$Task;LChannelMachine$Process;)V" } : Jvm.MethodName) prog_6_method_14_code (3 : Nat) (Option.none : Option Jvm.ClassFile.FieldType)) ∈ x_T := x_at 822 (by decide +kernel) (by decide +kernel)
theorem k_823 : (Jvm.Cond.methodLink "ChannelMachine$Machine" (210 : Nat) ({ cls := "ChannelMachine$Machine", name := "makeTasks", desc := "(LChannelMachine$Task;LChannelMachine$Process;)V" } : Jvm.MethodName)) ∈ x_T := x_at 823 (by decide +kernel) (by decide +kernel)
theorem k_825 : (Jvm.Cond.instanceMethod ({ cls := "ChannelMachine$Machine", name := "makeTasks", desc := "(LChannelMachine$Task;LChannelMachine$Process;)V" } : Jvm.MethodName)) ∈ x_T := x_at 825 (by decide +kernel) (by decide +kernel)
theorem k_826 : (Jvm.Cond.code ({ cls := "ChannelMachine$Machine", name := "makeTasks", desc := "(LChannelMachine$Task;LChannelMachine$Process;)V" } : Jvm.MethodName) prog_6_method_15_code (4 : Nat) (Option.none : Option Jvm.ClassFile.FieldType)) ∈ x_T := x_at 826 (by decide +kernel) (by decide +kernel)
theorem k_827 : (Jvm.Cond.methodLink "ChannelMachine$Machine" (216 : Nat) ({ cls := "ChannelMachine$Machine", name := "output", desc := "(LChannelMachine$Task;II)V" } : Jvm.MethodName)) ∈ x_T := x_at 827 (by decide +kernel) (by decide +kernel)
theorem k_829 : (Jvm.Cond.instanceMethod ({ cls := "ChannelMachine$Machine", name := "output", desc := "(LChannelMachine$Task;II)V" } : Jvm.MethodName)) ∈ x_T := x_at 829 (by decide +kernel) (by decide +kernel)
theorem k_830 : (Jvm.Cond.code ({ cls := "ChannelMachine$Machine", name := "output", desc := "(LChannelMachine$Task;II)V" } : Jvm.MethodName) prog_6_method_16_code (5 : Nat) (Option.none : Option Jvm.ClassFile.FieldType)) ∈ x_T := x_at 830 (by decide +kernel) (by decide +kernel)
theorem k_850 : (Jvm.Cond.methodLink "ChannelMachine$Machine" (220 : Nat) ({ cls := "ChannelMachine$Machine", name := "input", desc := "(LChannelMachine$Task;LChannelMachine$Process;)V" } : Jvm.MethodName)) ∈ x_T := x_at 850 (by decide +kernel) (by decide +kernel)
theorem k_852 : (Jvm.Cond.instanceMethod ({ cls := "ChannelMachine$Machine", name := "input", desc := "(LChannelMachine$Task;LChannelMachine$Process;)V" } : Jvm.MethodName)) ∈ x_T := x_at 852 (by decide +kernel) (by decide +kernel)
theorem k_853 : (Jvm.Cond.code ({ cls := "ChannelMachine$Machine", name := "input", desc := "(LChannelMachine$Task;LChannelMachine$Process;)V" } : Jvm.MethodName) prog_6_method_17_code (3 : Nat) (Option.none : Option Jvm.ClassFile.FieldType)) ∈ x_T := x_at 853 (by decide +kernel) (by decide +kernel)
theorem k_871 : (Jvm.Cond.methodLink "ChannelMachine$Machine" (223 : Nat) ({ cls := "ChannelMachine$Machine", name := "choose", desc := "(LChannelMachine$Task;LChannelMachine$Process;)V" } : Jvm.MethodName)) ∈ x_T := x_at 871 (by decide +kernel) (by decide +kernel)
theorem k_873 : (Jvm.Cond.instanceMethod ({ cls := "ChannelMachine$Machine", name := "choose", desc := "(LChannelMachine$Task;LChannelMachine$Process;)V" } : Jvm.MethodName)) ∈ x_T := x_at 873 (by decide +kernel) (by decide +kernel)
theorem k_874 : (Jvm.Cond.code ({ cls := "ChannelMachine$Machine", name := "choose", desc := "(LChannelMachine$Task;LChannelMachine$Process;)V" } : Jvm.MethodName) prog_6_method_24_code (4 : Nat) (Option.none : Option Jvm.ClassFile.FieldType)) ∈ x_T := x_at 874 (by decide +kernel) (by decide +kernel)
theorem k_879 : (Jvm.Cond.methodLink "ChannelMachine$Machine" (226 : Nat) ({ cls := "ChannelMachine$Machine", name := "delay", desc := "(LChannelMachine$Task;I)V" } : Jvm.MethodName)) ∈ x_T := x_at 879 (by decide +kernel) (by decide +kernel)
theorem k_881 : (Jvm.Cond.instanceMethod ({ cls := "ChannelMachine$Machine", name := "delay", desc := "(LChannelMachine$Task;I)V" } : Jvm.MethodName)) ∈ x_T := x_at 881 (by decide +kernel) (by decide +kernel)
theorem k_882 : (Jvm.Cond.code ({ cls := "ChannelMachine$Machine", name := "delay", desc := "(LChannelMachine$Task;I)V" } : Jvm.MethodName) prog_6_method_23_code (3 : Nat) (Option.none : Option Jvm.ClassFile.FieldType)) ∈ x_T := x_at 882 (by decide +kernel) (by decide +kernel)
theorem k_1307 : (Jvm.Cond.fieldLink "java/lang/Enum" (7 : Nat) "java/lang/Enum" "ordinal" "I") ∈ x_T := x_at 1307 (by decide +kernel) (by decide +kernel)
theorem kn_391 : (Jvm.Cond.fieldLinkNest "ChannelMachine$Machine" (172 : Nat) "ChannelMachine$Process" "kind" "LChannelMachine$Kind;" "ChannelMachine") ∈ x_nest := x_nest_at 391 (by decide +kernel) (by decide +kernel)
theorem kn_400 : (Jvm.Cond.fieldLinkNest "ChannelMachine$Machine" (203 : Nat) "ChannelMachine$Process" "last" "LChannelMachine$Process;" "ChannelMachine") ∈ x_nest := x_nest_at 400 (by decide +kernel) (by decide +kernel)
theorem kn_454 : (Jvm.Cond.fieldLinkNest "ChannelMachine$Machine" (164 : Nat) "ChannelMachine$Task" "at" "LChannelMachine$Process;" "ChannelMachine") ∈ x_nest := x_nest_at 454 (by decide +kernel) (by decide +kernel)
theorem kp_34 : (Jvm.Cond.selects "ChannelMachine$Machine" ({ cls := "ChannelMachine$Machine", name := "loop", desc := "(LChannelMachine$Task;LChannelMachine$Process;)V" } : Jvm.MethodName) ({ cls := "ChannelMachine$Machine", name := "loop", desc := "(LChannelMachine$Task;LChannelMachine$Process;)V" } : Jvm.MethodName)) ∈ x_T := x_sel (q := (({ cls := "ChannelMachine$Machine", name := "loop", desc := "(LChannelMachine$Task;LChannelMachine$Process;)V" } : Jvm.MethodName), 11)) 34 (by decide +kernel) (by decide +kernel)
theorem kp_35 : (Jvm.Cond.selects "ChannelMachine$Machine" ({ cls := "ChannelMachine$Machine", name := "makeTasks", desc := "(LChannelMachine$Task;LChannelMachine$Process;)V" } : Jvm.MethodName) ({ cls := "ChannelMachine$Machine", name := "makeTasks", desc := "(LChannelMachine$Task;LChannelMachine$Process;)V" } : Jvm.MethodName)) ∈ x_T := x_sel (q := (({ cls := "ChannelMachine$Machine", name := "makeTasks", desc := "(LChannelMachine$Task;LChannelMachine$Process;)V" } : Jvm.MethodName), 11)) 35 (by decide +kernel) (by decide +kernel)
theorem kp_36 : (Jvm.Cond.selects "ChannelMachine$Machine" ({ cls := "ChannelMachine$Machine", name := "output", desc := "(LChannelMachine$Task;II)V" } : Jvm.MethodName) ({ cls := "ChannelMachine$Machine", name := "output", desc := "(LChannelMachine$Task;II)V" } : Jvm.MethodName)) ∈ x_T := x_sel (q := (({ cls := "ChannelMachine$Machine", name := "output", desc := "(LChannelMachine$Task;II)V" } : Jvm.MethodName), 11)) 36 (by decide +kernel) (by decide +kernel)
theorem kp_39 : (Jvm.Cond.selects "ChannelMachine$Machine" ({ cls := "ChannelMachine$Machine", name := "input", desc := "(LChannelMachine$Task;LChannelMachine$Process;)V" } : Jvm.MethodName) ({ cls := "ChannelMachine$Machine", name := "input", desc := "(LChannelMachine$Task;LChannelMachine$Process;)V" } : Jvm.MethodName)) ∈ x_T := x_sel (q := (({ cls := "ChannelMachine$Machine", name := "input", desc := "(LChannelMachine$Task;LChannelMachine$Process;)V" } : Jvm.MethodName), 11)) 39 (by decide +kernel) (by decide +kernel)
theorem kp_43 : (Jvm.Cond.selects "ChannelMachine$Machine" ({ cls := "ChannelMachine$Machine", name := "choose", desc := "(LChannelMachine$Task;LChannelMachine$Process;)V" } : Jvm.MethodName) ({ cls := "ChannelMachine$Machine", name := "choose", desc := "(LChannelMachine$Task;LChannelMachine$Process;)V" } : Jvm.MethodName)) ∈ x_T := x_sel (q := (({ cls := "ChannelMachine$Machine", name := "choose", desc := "(LChannelMachine$Task;LChannelMachine$Process;)V" } : Jvm.MethodName), 11)) 43 (by decide +kernel) (by decide +kernel)
theorem kp_45 : (Jvm.Cond.selects "ChannelMachine$Machine" ({ cls := "ChannelMachine$Machine", name := "delay", desc := "(LChannelMachine$Task;I)V" } : Jvm.MethodName) ({ cls := "ChannelMachine$Machine", name := "delay", desc := "(LChannelMachine$Task;I)V" } : Jvm.MethodName)) ∈ x_T := x_sel (q := (({ cls := "ChannelMachine$Machine", name := "delay", desc := "(LChannelMachine$Task;I)V" } : Jvm.MethodName), 11)) 45 (by decide +kernel) (by decide +kernel)
theorem d_Enum_ordinal_0 : decode prog_16_method_2_code 0 = .ok (.aload_n 0, 1) := by decide +kernel
theorem d_Enum_ordinal_1 : decode prog_16_method_2_code 1 = .ok (.getfield 7, 3) := by decide +kernel
theorem d_Enum_ordinal_4 : decode prog_16_method_2_code 4 = .ok (.ireturn, 1) := by decide +kernel
theorem d_Machine_act_0 : decode prog_6_method_12_code 0 = .ok (.aload_n 0, 1) := by decide +kernel
theorem d_Machine_act_1 : decode prog_6_method_12_code 1 = .ok (.dup, 1) := by decide +kernel
theorem d_Machine_act_2 : decode prog_6_method_12_code 2 = .ok (.getfield 51, 3) := by decide +kernel
theorem d_Machine_act_5 : decode prog_6_method_12_code 5 = .ok (.iconst 1, 1) := by decide +kernel
theorem d_Machine_act_6 : decode prog_6_method_12_code 6 = .ok (.iadd, 1) := by decide +kernel
theorem d_Machine_act_7 : decode prog_6_method_12_code 7 = .ok (.putfield 51, 3) := by decide +kernel
theorem d_Machine_act_10 : decode prog_6_method_12_code 10 = .ok (.aload_n 1, 1) := by decide +kernel
theorem d_Machine_act_11 : decode prog_6_method_12_code 11 = .ok (.getfield 164, 3) := by decide +kernel
theorem d_Machine_act_14 : decode prog_6_method_12_code 14 = .ok (.astore_n 2, 1) := by decide +kernel
theorem d_Machine_act_15 : decode prog_6_method_12_code 15 = .ok (.getstatic 167, 3) := by decide +kernel
theorem d_Machine_act_18 : decode prog_6_method_12_code 18 = .ok (.aload_n 2, 1) := by decide +kernel
theorem d_Machine_act_19 : decode prog_6_method_12_code 19 = .ok (.getfield 172, 3) := by decide +kernel
theorem d_Machine_act_22 : decode prog_6_method_12_code 22 = .ok (.invokevirtual 178, 3) := by decide +kernel
theorem d_Machine_act_25 : decode prog_6_method_12_code 25 = .ok (.iaload, 1) := by decide +kernel
theorem d_Machine_act_26 : decode prog_6_method_12_code 26 = .ok (.tableswitch 185 1 10 #[61, 131, 169, 151, 185, 122, 160, 113, 84, 54], 54) := by decide +kernel
theorem d_Machine_act_80 : decode prog_6_method_12_code 80 = .ok (.aload_n 0, 1) := by decide +kernel
theorem d_Machine_act_81 : decode prog_6_method_12_code 81 = .ok (.invokevirtual 183, 3) := by decide +kernel
theorem d_Machine_act_84 : decode prog_6_method_12_code 84 = .ok (.goto 131, 3) := by decide +kernel
theorem d_Machine_act_87 : decode prog_6_method_12_code 87 = .ok (.aload_n 0, 1) := by decide +kernel
theorem d_Machine_act_88 : decode prog_6_method_12_code 88 = .ok (.aload_n 2, 1) := by decide +kernel
theorem d_Machine_act_89 : decode prog_6_method_12_code 89 = .ok (.getfield 186, 3) := by decide +kernel
theorem d_Machine_act_92 : decode prog_6_method_12_code 92 = .ok (.aload_n 0, 1) := by decide +kernel
theorem d_Machine_act_93 : decode prog_6_method_12_code 93 = .ok (.aload_n 2, 1) := by decide +kernel
theorem d_Machine_act_94 : decode prog_6_method_12_code 94 = .ok (.getfield 189, 3) := by decide +kernel
theorem d_Machine_act_97 : decode prog_6_method_12_code 97 = .ok (.invokevirtual 192, 3) := by decide +kernel
theorem d_Machine_act_100 : decode prog_6_method_12_code 100 = .ok (.invokevirtual 196, 3) := by decide +kernel
theorem d_Machine_act_103 : decode prog_6_method_12_code 103 = .ok (.aload_n 1, 1) := by decide +kernel
theorem d_Machine_act_104 : decode prog_6_method_12_code 104 = .ok (.invokevirtual 150, 3) := by decide +kernel
theorem d_Machine_act_107 : decode prog_6_method_12_code 107 = .ok (.goto 108, 3) := by decide +kernel
theorem d_Machine_act_110 : decode prog_6_method_12_code 110 = .ok (.aload_n 1, 1) := by decide +kernel
theorem d_Machine_act_111 : decode prog_6_method_12_code 111 = .ok (.aload_n 0, 1) := by decide +kernel
theorem d_Machine_act_112 : decode prog_6_method_12_code 112 = .ok (.aload_n 2, 1) := by decide +kernel
theorem d_Machine_act_113 : decode prog_6_method_12_code 113 = .ok (.getfield 189, 3) := by decide +kernel
theorem d_Machine_act_116 : decode prog_6_method_12_code 116 = .ok (.invokevirtual 192, 3) := by decide +kernel
theorem d_Machine_act_119 : decode prog_6_method_12_code 119 = .ok (.ifCond .eq 10, 3) := by decide +kernel
theorem d_Machine_act_122 : decode prog_6_method_12_code 122 = .ok (.aload_n 2, 1) := by decide +kernel
theorem d_Machine_act_123 : decode prog_6_method_12_code 123 = .ok (.getfield 200, 3) := by decide +kernel
theorem d_Machine_act_126 : decode prog_6_method_12_code 126 = .ok (.goto 7, 3) := by decide +kernel
theorem d_Machine_act_129 : decode prog_6_method_12_code 129 = .ok (.aload_n 2, 1) := by decide +kernel
theorem d_Machine_act_130 : decode prog_6_method_12_code 130 = .ok (.getfield 203, 3) := by decide +kernel
theorem d_Machine_act_133 : decode prog_6_method_12_code 133 = .ok (.invokevirtual 82, 3) := by decide +kernel
theorem d_Machine_act_136 : decode prog_6_method_12_code 136 = .ok (.goto 79, 3) := by decide +kernel
theorem d_Machine_act_139 : decode prog_6_method_12_code 139 = .ok (.aload_n 0, 1) := by decide +kernel
theorem d_Machine_act_140 : decode prog_6_method_12_code 140 = .ok (.aload_n 1, 1) := by decide +kernel
theorem d_Machine_act_141 : decode prog_6_method_12_code 141 = .ok (.aload_n 2, 1) := by decide +kernel
theorem d_Machine_act_142 : decode prog_6_method_12_code 142 = .ok (.invokevirtual 206, 3) := by decide +kernel
theorem d_Machine_act_145 : decode prog_6_method_12_code 145 = .ok (.goto 70, 3) := by decide +kernel
theorem d_Machine_act_148 : decode prog_6_method_12_code 148 = .ok (.aload_n 0, 1) := by decide +kernel
theorem d_Machine_act_149 : decode prog_6_method_12_code 149 = .ok (.aload_n 1, 1) := by decide +kernel
theorem d_Machine_act_150 : decode prog_6_method_12_code 150 = .ok (.aload_n 2, 1) := by decide +kernel
theorem d_Machine_act_151 : decode prog_6_method_12_code 151 = .ok (.invokevirtual 210, 3) := by decide +kernel
theorem d_Machine_act_154 : decode prog_6_method_12_code 154 = .ok (.goto 61, 3) := by decide +kernel
theorem d_Machine_act_157 : decode prog_6_method_12_code 157 = .ok (.aload_n 0, 1) := by decide +kernel
theorem d_Machine_act_158 : decode prog_6_method_12_code 158 = .ok (.aload_n 1, 1) := by decide +kernel
theorem d_Machine_act_159 : decode prog_6_method_12_code 159 = .ok (.aload_n 2, 1) := by decide +kernel
theorem d_Machine_act_160 : decode prog_6_method_12_code 160 = .ok (.getfield 213, 3) := by decide +kernel
theorem d_Machine_act_163 : decode prog_6_method_12_code 163 = .ok (.aload_n 0, 1) := by decide +kernel
theorem d_Machine_act_164 : decode prog_6_method_12_code 164 = .ok (.aload_n 2, 1) := by decide +kernel
theorem d_Machine_act_165 : decode prog_6_method_12_code 165 = .ok (.getfield 189, 3) := by decide +kernel
theorem d_Machine_act_168 : decode prog_6_method_12_code 168 = .ok (.invokevirtual 192, 3) := by decide +kernel
theorem d_Machine_act_171 : decode prog_6_method_12_code 171 = .ok (.invokevirtual 216, 3) := by decide +kernel
theorem d_Machine_act_174 : decode prog_6_method_12_code 174 = .ok (.goto 41, 3) := by decide +kernel
theorem d_Machine_act_177 : decode prog_6_method_12_code 177 = .ok (.aload_n 0, 1) := by decide +kernel
theorem d_Machine_act_178 : decode prog_6_method_12_code 178 = .ok (.aload_n 1, 1) := by decide +kernel
theorem d_Machine_act_179 : decode prog_6_method_12_code 179 = .ok (.aload_n 2, 1) := by decide +kernel
theorem d_Machine_act_180 : decode prog_6_method_12_code 180 = .ok (.invokevirtual 220, 3) := by decide +kernel
theorem d_Machine_act_183 : decode prog_6_method_12_code 183 = .ok (.goto 32, 3) := by decide +kernel
theorem d_Machine_act_186 : decode prog_6_method_12_code 186 = .ok (.aload_n 0, 1) := by decide +kernel
theorem d_Machine_act_187 : decode prog_6_method_12_code 187 = .ok (.aload_n 1, 1) := by decide +kernel
theorem d_Machine_act_188 : decode prog_6_method_12_code 188 = .ok (.aload_n 2, 1) := by decide +kernel
theorem d_Machine_act_189 : decode prog_6_method_12_code 189 = .ok (.invokevirtual 223, 3) := by decide +kernel
theorem d_Machine_act_192 : decode prog_6_method_12_code 192 = .ok (.goto 23, 3) := by decide +kernel
theorem d_Machine_act_195 : decode prog_6_method_12_code 195 = .ok (.aload_n 0, 1) := by decide +kernel
theorem d_Machine_act_196 : decode prog_6_method_12_code 196 = .ok (.aload_n 1, 1) := by decide +kernel
theorem d_Machine_act_197 : decode prog_6_method_12_code 197 = .ok (.aload_n 0, 1) := by decide +kernel
theorem d_Machine_act_198 : decode prog_6_method_12_code 198 = .ok (.aload_n 2, 1) := by decide +kernel
theorem d_Machine_act_199 : decode prog_6_method_12_code 199 = .ok (.getfield 189, 3) := by decide +kernel
theorem d_Machine_act_202 : decode prog_6_method_12_code 202 = .ok (.invokevirtual 192, 3) := by decide +kernel
theorem d_Machine_act_205 : decode prog_6_method_12_code 205 = .ok (.invokevirtual 226, 3) := by decide +kernel
theorem d_Machine_act_208 : decode prog_6_method_12_code 208 = .ok (.goto 7, 3) := by decide +kernel
theorem d_Machine_act_211 : decode prog_6_method_12_code 211 = .ok (.aload_n 1, 1) := by decide +kernel
theorem d_Machine_act_212 : decode prog_6_method_12_code 212 = .ok (.invokevirtual 150, 3) := by decide +kernel
theorem d_Machine_act_215 : decode prog_6_method_12_code 215 = .ok (.return_, 1) := by decide +kernel
theorem x_goodU {own C owner : String} {idx : Nat} {x y : MethodName} {c2 : Cond} (h1 : Cond.methodLink own idx x ∈ x_T) (h0 : Cond.sameMethod x.cls owner x.name x.desc ∈ x_T) (h2 : Cond.selects C x y ∈ x_T) (h3 : Cond.instanceMethod y ∈ x_T) (h4 : Cond.initialized y.cls ∈ x_T) (h5 : c2 ∈ x_T) : GoodIn x_T (va_wsU own idx C owner x y (c2 :: x_T)) := fun w hw => by
  have hm : w ∈ x_T := by
    rcases List.mem_append.mp hw with h | h
    · simp only [List.mem_cons, List.not_mem_nil, or_false] at h
      rcases h with rfl | rfl | rfl | rfl | rfl
      · exact h1
      · exact h0
      · exact h2
      · exact h3
      · exact h4
    · exact (List.mem_cons.mp h).elim (fun e => by rw [e]; exact h5) id
  exact ⟨hm, good_of_word (x_T_good w hm)⟩
theorem y_ord : ∀ j : Nat, j < 11 → ([0, 1, 2, 3, 4, 5, 6, 7, 8, 9, 10] : List Int32).getD j 0 = Int32.ofNat j := by decide
theorem y_11 {j : Nat} (h : j < 11) : j = 0 ∨ j = 1 ∨ j = 2 ∨ j = 3 ∨ j = 4 ∨ j = 5 ∨ j = 6 ∨ j = 7 ∨ j = 8 ∨ j = 9 ∨ j = 10 := by omega
theorem y_mx.mono {a b c : Nat} (h : b ≤ c) : y_mx a b ≤ y_mx a c := by unfold y_mx; omega
set_option maxHeartbeats 4000000 in
set_option maxRecDepth 100000 in
theorem c_E_ordinal (l : Launch) (dC : Nat → ClassId) (dI : Nat → Nat → Nat) (ar : Nat → ClassId) (N0 : Nat) (z : Nat → Nat) (ad : Nat → Nat) (I : Nat → Int32) (T : Int64) (A : Nat → Nat → Int32) (O : Nat → Option Nat) (pl : va_W) (G : Nat → Nat) (C Gs : Nat → List Nat) (qn sn cq cs : Nat) (jj : Nat) (sz w0 : Nat) (hmi : y_MI z ar G C Gs I O (y_L pl) (qn, sn, cq, cs)) (hjj : jj < 11) : Met l ({ cls := "java/lang/Enum", name := "ordinal", desc := "()I" } : Jvm.MethodName) ((Jvm.Cond.code ({ cls := "java/lang/Enum", name := "ordinal", desc := "()I" } : Jvm.MethodName) prog_16_method_2_code (1 : Nat) (Option.some Jvm.ClassFile.FieldType.int)) :: x_T) ({ frames := 0, cells := 0, slots := 0, locals := 0 }) (y_Pc (dC, dI) ar N0 z (y_W ad ar I T A O pl) sz w0 [.ref (z (3 + jj))]) (va_Qi (fun (r : Int32) (u : (Nat → Int32) × Int64 × (Nat → Nat → Int32) × (Nat → Option Nat) × va_W × (Nat × Nat × Nat × Nat)) => u = (I, T, A, O, pl, qn, sn, cq, cs) ∧ r = Int32.ofNat jj) (fun u t => va_P (dC, dI) y_cl (y_W ad ar u.1 u.2.1 u.2.2.1 u.2.2.2.1 u.2.2.2.2.1) t.heap ∧ va_D (va_A (y_W ad ar I T A O pl) sz) (y_W ad ar u.1 u.2.1 u.2.2.1 u.2.2.2.1 u.2.2.2.2.1) ∧ y_ac (cq + cs) sz w0 (u.2.2.2.2.2.2.2.1 + u.2.2.2.2.2.2.2.2) t.heap) (va_A (y_W ad ar I T A O pl) sz)) (0) (0) (va_A (y_W ad ar I T A O pl) sz) := by
  refine Met.ofW (cc := prog_16_method_2_code) (maxL := 1) (ret := (some .int)) (by decide) rfl ?_
  intro p e s m args below meth c s₁ B hml hv
  obtain ⟨rfl, hsz, hN0, hP, hU, hZ, hD0, hw0⟩ := hv
  have hK := hU.2.1
  have hx := B.exec
  have hb := B.bytes
  have hr := B.returns
  have hts : ∀ w ∈ x_T, w.before ([.ref (z (3 + jj))] : List Value).toArray s = true := fun w h => atoms_spec (ws := (Jvm.Cond.code ({ cls := "java/lang/Enum", name := "ordinal", desc := "()I" } : Jvm.MethodName) prog_16_method_2_code (1 : Nat) (Option.some Jvm.ClassFile.FieldType.int)) :: x_T) B.pre w (List.mem_cons_of_mem _ h)
  have hown : s.vm.findClass "java/lang/Enum" = some m.cls := findClass_of_methodNamed B.named
  have hlocks := B.notSynchronized
  subst hsz
  subst hw0
  have hD := hD0.self (sz := s.heap.size)
  have hAN := x_AN hD0 hN0
  generalize hAe : va_A (y_W ad ar I T A O pl) s.heap.size = Bq at hD hAN ⊢
  have hA : ∀ q : Nat, s.heap.size ≤ q → Bq q := fun q h => by rw [← hAe]; exact Or.inr h
  have hS : va_S Bq s.heap s.heap [] := va_S.rf
  have hl := lv_entry ([.ref (z (3 + jj))]) (n := 1) (Nat.le_of_ble_eq_true rfl)
  rw [lg_entry_eq]
  generalize (lg_sl ([.ref (z (3 + jj))]) ++ List.replicate (1 - (lg_sl ([.ref (z (3 + jj))])).length) Slot.unset).toArray = ls at hl ⊢
  have hl : lv_has ls 1 [(0, .ref (z (3 + jj)))] := hl
  refine lv_aload_n hx hb d_Enum_ordinal_0 rfl (lv_at hl 0 rfl) ?_
  refine va_getE (E := "ChannelMachine$Kind") (i := jj) (ad := fun i => z (3 + i)) hx hb (hZ.2.1.narrow hAN) hjj hS hown (q := ("java/lang/Enum", "ordinal", "I", [0, 1, 2, 3, 4, 5, 6, 7, 8, 9, 10])) List.mem_cons_self (hts _ k_1307) (fun _ h9 => h9) d_Enum_ordinal_1 ?_
  refine W.eq (g2 := F0 m 4 ls [.int (Int32.ofNat jj)]) (by dsimp only; rw [y_ord jj hjj]) ?_
  refine y_know (fun hy91 hy92 hy93 hy94 => ?_)
  have hac9 : y_ac (cq + cs) s.heap.size (y_hs s.heap) (cq + cs) s.heap := ⟨by omega, by omega⟩
  refine W.widen (k := 0) (n := 0) (by omega) (by omega) ?_
  exact W.iret (v := (Int32.ofNat jj)) hx hb hr (fun t ht hW => ⟨⟨(Int32.ofNat jj), (I, T, A, O, pl, (qn, sn, cq, cs)), rfl, ⟨rfl, rfl⟩, (by dsimp only; rw [ht]; exact ⟨hP, hD, hac9⟩)⟩, hS.F ht⟩) hS.2.2 d_Enum_ordinal_4
set_option maxHeartbeats 4000000 in
set_option maxRecDepth 100000 in
theorem c_M_act (l : Launch) (hst : l.stackTraces = false) (dC : Nat → ClassId) (dI : Nat → Nat → Nat) (ar : Nat → ClassId) (N0 : Nat) (z : Nat → Nat) (ad : Nat → Nat) (I : Nat → Int32) (T : Int64) (A : Nat → Nat → Int32) (O : Nat → Option Nat) (pl : va_W) (G : Nat → Nat) (C Gs : Nat → List Nat) (qn sn cq cs : Nat) (tt : Nat) (sz w0 : Nat) (hmi : y_MI z ar G C Gs I O (y_L pl) (qn, sn, cq, cs)) (htt : G tt = 8) (hlim : qn ≤ 10000000) (hlim2 : sn ≤ 10000000) : vx_Met l ({ cls := "ChannelMachine$Machine", name := "act", desc := "(LChannelMachine$Task;)V" } : Jvm.MethodName) ((Jvm.Cond.code ({ cls := "ChannelMachine$Machine", name := "act", desc := "(LChannelMachine$Task;)V" } : Jvm.MethodName) prog_6_method_12_code (3 : Nat) (Option.none : Option Jvm.ClassFile.FieldType)) :: x_T) ({ frames := 11, cells := (y_mx cq (2 * (qn + 4) + 12) - cq + (y_mx cs (2 * (sn + 1) + 12) - cs)) / 5 + 6, slots := 4 * (y_mx cq (2 * (qn + 4) + 12) - cq + (y_mx cs (2 * (sn + 1) + 12) - cs)) + 106, locals := 279 }) (y_Pc (dC, dI) ar N0 z (y_W ad ar I T A O pl) sz w0 [.ref (ad 4), .ref tt]) (va_Qv (fun (u : (Nat → Int32) × Int64 × (Nat → Nat → Int32) × (Nat → Option Nat) × va_W × (Nat × Nat × Nat × Nat)) => y_MI z ar G C Gs u.1 u.2.2.2.1 (y_L u.2.2.2.2.1) u.2.2.2.2.2 ∧ y_bd (qn, sn, cq, cs) u.2.2.2.2.2 4 1 ∧ m_fr [7, 8, 9, 10, 11, 12, 13, 14, 15, 16, 17, 18, 19, 20, 21] I u.1 ∧ u.1 9 = I 9 + 1) (fun u t => va_P (dC, dI) y_cl (y_W ad ar u.1 u.2.1 u.2.2.1 u.2.2.2.1 u.2.2.2.2.1) t.heap ∧ va_D (va_A (y_W ad ar I T A O pl) sz) (y_W ad ar u.1 u.2.1 u.2.2.1 u.2.2.2.1 u.2.2.2.2.1) ∧ y_ac (cq + cs) sz w0 (u.2.2.2.2.2.2.2.1 + u.2.2.2.2.2.2.2.2) t.heap) (va_A (y_W ad ar I T A O pl) sz)) (vx_X (fun (u : (Nat → Int32) × Int64 × (Nat → Nat → Int32) × (Nat → Option Nat) × va_W × (Nat × Nat × Nat × Nat)) => y_MI z ar G C Gs u.1 u.2.2.2.1 (y_L u.2.2.2.2.1) u.2.2.2.2.2 ∧ y_bd (qn, sn, cq, cs) u.2.2.2.2.2 4 1 ∧ m_fr [7, 8, 9, 10, 11, 12, 13, 14, 15, 16, 17, 18, 19, 20, 21] I u.1 ∧ u.1 7 = 3) (fun E u t => va_P (dC, dI) y_cl (y_W ad ar u.1 u.2.1 u.2.2.1 u.2.2.2.1 u.2.2.2.2.1) t.heap ∧ va_D (va_A (y_W ad ar I T A O pl) sz) (y_W ad ar u.1 u.2.1 u.2.2.1 u.2.2.2.1 u.2.2.2.2.1) ∧ (E = "java/lang/IllegalStateException" ∨ E = "java/lang/ArithmeticException") ∧ y_ac (cq + cs) (sz + 1) (w0 + 6) (u.2.2.2.2.2.2.2.1 + u.2.2.2.2.2.2.2.2) t.heap) (va_A (y_W ad ar I T A O pl) sz)) ((y_mx cq (2 * (qn + 4) + 12) - cq + (y_mx cs (2 * (sn + 1) + 12) - cs)) / 5 + 6) (4 * (y_mx cq (2 * (qn + 4) + 12) - cq + (y_mx cs (2 * (sn + 1) + 12) - cs)) + 106) (va_A (y_W ad ar I T A O pl) sz) := by
  refine vx_ofW (cc := prog_6_method_12_code) (maxL := 3) (ret := none) (by decide) rfl ?_
  intro p e s m args below meth c s₁ B hml htb hv
  obtain ⟨rfl, hsz, hN0, hP, hU, hZ, hD0, hw0⟩ := hv
  have hK := hU.2.1
  have hx := B.exec
  have hb := B.bytes
  have hr := B.returns
  have hts : ∀ w ∈ x_T, w.before ([.ref (ad 4), .ref tt] : List Value).toArray s = true := fun w h => atoms_spec (ws := (Jvm.Cond.code ({ cls := "ChannelMachine$Machine", name := "act", desc := "(LChannelMachine$Task;)V" } : Jvm.MethodName) prog_6_method_12_code (3 : Nat) (Option.none : Option Jvm.ClassFile.FieldType)) :: x_T) B.pre w (List.mem_cons_of_mem _ h)
  have hown : s.vm.findClass "ChannelMachine$Machine" = some m.cls := findClass_of_methodNamed B.named
  have hlocks := B.notSynchronized
  subst hsz
  subst hw0
  have hD := hD0.self (sz := s.heap.size)
  have hAN := x_AN hD0 hN0
  generalize hAe : va_A (y_W ad ar I T A O pl) s.heap.size = Bq at hD hAN ⊢
  have hA : ∀ q : Nat, s.heap.size ≤ q → Bq q := fun q h => by rw [← hAe]; exact Or.inr h
  have hS : va_S Bq s.heap s.heap [] := va_S.rf
  have hl := lv_entry ([.ref (ad 4), .ref tt]) (n := 3) (Nat.le_of_ble_eq_true rfl)
  rw [lg_entry_eq]
  generalize (lg_sl ([.ref (ad 4), .ref tt]) ++ List.replicate (3 - (lg_sl ([.ref (ad 4), .ref tt])).length) Slot.unset).toArray = ls at hl ⊢
  have hl : lv_has ls 3 [(0, .ref (ad 4)), (1, .ref tt)] := hl
  have hle := y_LS.le hmi.2.1.2
  have hle2 := y_LS.le hmi.2.2.1.2
  have hcap := hmi.2.2.2.2.1
  dsimp only at hle hle2 hcap
  have hm1 := @y_mx.r cq (2 * (qn + 4) + 12)
  have hm2 := @y_mx.l cq (2 * (qn + 4) + 12)
  have hm3 := @y_mx.l cs (2 * (sn + 1) + 12)
  have hm4 := @y_mx.r cs (2 * (sn + 1) + 12)
  have hm5 : y_mx cs (2 * (sn + 0) + 12) ≤ y_mx cs (2 * (sn + 1) + 12) := y_mx.mono (by omega)
  have hm6 := @y_mx.l cs (2 * (sn + 0) + 12)
  refine lv_aload_n hx hb d_Machine_act_0 rfl (lv_at hl 0 rfl) ?_
  refine lv_dup hx hb d_Machine_act_1 rfl ?_
  refine k_g (C := "ChannelMachine$Machine") (F := F_Machine) (N := 11) hx hb hts i_Machine hown hK hP 4 9 (by decide) (by decide) rfl (by decide) (d := (1, 9)) rfl (hts _ k_167) (fun _ h9 => h9) (v := .int (I 9)) rfl d_Machine_act_2 ?_
  refine lv_iconst (v := 1) hx hb d_Machine_act_5 (by decide) ?_
  refine lv_iadd hx hb d_Machine_act_6 ?_
  refine k_pi (C := "ChannelMachine$Machine") (F := F_Machine) (N := 11) hx hb hts i_Machine hown t_Machine t_Machine_ok n_Machine hK hP hD hS 4 9 (by decide) (by decide) rfl (by decide) (j := 9) (x := ((I 9) + 1)) rfl (hts _ k_167) (fun _ h9 => h9) rfl (by decide +kernel) d_Machine_act_7 (fun H locs hP hD hS => ?_)
  have hmi : y_MI z ar G C Gs (upd I 9 ((I 9) + 1)) O (y_L pl) (qn, sn, cq, cs) := hmi
  refine lv_aload_n hx hb d_Machine_act_10 rfl (lv_at hl 1 rfl) ?_
  obtain ⟨w1, m1, a1, b1, r1, v1, u1, hf1, hw1, hm1, ha1⟩ := hmi.1.2.1 tt htt
  refine d_gN (C := "ChannelMachine$Task") (F := F_Task) (N := 7) hx hb hts i_Task hown hK hP hf1 2 rfl (by decide) (hU.1.2.1 _ kn_454) (fun _ h9 => h9) (v := .ref a1) rfl d_Machine_act_11 ?_
  refine lv_astore_n (lv' := [(2, .ref a1), (0, .ref (ad 4)), (1, .ref tt)]) hx hb d_Machine_act_14 rfl hl (by decide) rfl (fun ls hl => ?_)
  obtain ⟨j2, par2, nx2, tk2, co2, ch2, va2, hf2, hpk2⟩ := hmi.1.1 a1 ha1
  have hpar2 := hpk2.2.1
  have hnx2 := hpk2.2.2.1
  obtain ⟨t2, rfl, ht2⟩ := hpk2.2.2.2.1
  have hj9 := hpk2.1
  rcases y_11 hj9 with rfl | rfl | rfl | rfl | rfl | rfl | rfl | rfl | rfl | rfl | rfl
  · have hco9 := hpk2.2.2.2.2.1 (by decide)
    refine va_gets hx hb (hZ.2.2.1.narrow hAN) hS hown (hts _ k_785) (fun _ h9 => h9) d_Machine_act_15 ?_
    refine lv_aload_n hx hb d_Machine_act_18 rfl (lv_at hl 0 rfl) ?_
    refine d_gN (C := "ChannelMachine$Process") (F := F_Process) (N := 10) hx hb hts i_Process hown hK hP hf2 0 rfl (by decide) (hU.1.2.1 _ kn_391) (fun _ h9 => h9) (v := .ref (z (3 + 0))) rfl d_Machine_act_19 ?_
    have hFc := y_free hD hS hA
    refine va_calli (va_runU (As := []) (rest := [.ref (z 20)]) ⟨hx, hb, hml, hown, hts⟩ (c_E_ordinal l dC dI ar N0 z ad (upd I 9 ((I 9) + 1)) T A O pl G C Gs qn sn cq cs 0 H.size (y_hs H) hmi (by decide)) (va_cwU (owner := "java/lang/Enum") 0 hts (x_goodU k_786 k_487 k_489 k_490 k_15 k_491) rfl rfl rfl rfl (by decide +kernel) ⟨Nat.le_of_ble_eq_true rfl, Nat.le_of_ble_eq_true rfl⟩) ⟨y_blind, va_recvE (E := "ChannelMachine$Kind") (ad := fun i => z (3 + i)) (hZ.2.1.narrow hAN) (show 0 < 11 from by decide) hS, fun U9 hU9 hW9 => y_pre hU9 hW9 hP hD hU hZ hS hAN hN0⟩ rfl rfl hl.1 rfl (lv_room (Nat.le_of_ble_eq_true rfl)) d_Machine_act_22 ⟨(by show 0 + (0) ≤ (y_mx cq (2 * (qn + 4) + 12) - cq + (y_mx cs (2 * (sn + 1) + 12) - cs)) / 5 + 6; omega), (by show 0 + (0) ≤ 4 * (y_mx cq (2 * (qn + 4) + 12) - cq + (y_mx cs (2 * (sn + 1) + 12) - cs)) + 106; omega)⟩) hS (fun q _ h => hFc q h) hFc (fun r_3 u t H1 locs ht hvm hw hB hz1 hk1 hS => ?_)
    obtain ⟨I4, T4, A4, O4, pl4, q4, s4, cq4, cs4⟩ := u
    dsimp only at hw hB
    rw [ht] at hB
    obtain ⟨hP, hD1, hac4⟩ := hB
    have hD : va_D Bq (y_W ad ar I4 T4 A4 O4 pl4) := hD1.weaken (fun _ q _ h => hFc q.1 h)
    generalize H1 = H at hP hS hac4 ⊢
    have hae4 := hac4
    try unfold y_ac at hae4
    try dsimp only at hae4
    refine W.widen (k := 0) (n := 0) (by omega) (by omega) ?_
    obtain ⟨h9, hw⟩ := hw
    cases h9
    subst hw
    refine va_ti (t := z 20) (N := 11) (f := y_sw) (v := .int 1) hx hb (hZ.2.2.2.1.narrow hAN) hS (by unfold vp_in; decide) rfl d_Machine_act_25 ?_
    refine lv_tableIn (tgt := 87) hx hb d_Machine_act_26 (by decide) (by decide) (off := 61) rfl (by decide) ?_
    refine lv_aload_n hx hb d_Machine_act_87 rfl (lv_at hl 1 rfl) ?_
    refine lv_aload_n hx hb d_Machine_act_88 rfl (lv_at hl 0 rfl) ?_
    refine d_gN (C := "ChannelMachine$Process") (F := F_Process) (N := 10) hx hb hts i_Process hown hK hP hf2 9 rfl (by decide) (hU.1.2.1 _ kn_420) (fun _ h9 => h9) (v := .int va2) rfl d_Machine_act_89 ?_
    refine lv_aload_n hx hb d_Machine_act_92 rfl (lv_at hl 1 rfl) ?_
    refine lv_aload_n hx hb d_Machine_act_93 rfl (lv_at hl 0 rfl) ?_
    refine d_gN (C := "ChannelMachine$Process") (F := F_Process) (N := 10) hx hb hts i_Process hown hK hP hf2 7 rfl (by decide) (hU.1.2.1 _ kn_414) (fun _ h9 => h9) (v := .ref co2) rfl d_Machine_act_94 ?_
    refine y_know (fun hya1 hya2 hya3 hya4 => ?_)
    have hFc := y_free hD hS hA
    refine vx_calli (vx_runV (As := [.ref co2]) (rest := [.int va2, .ref (ad 4)]) ⟨hx, hb, hml, hown, hts⟩ (c_M_evaluate l hst dC dI ar N0 z ad (upd I 9 ((I 9) + 1)) T A O pl G C Gs qn sn cq cs co2 H.size (y_hs H) hmi hco9) (cwV 1 hts (x_goodV k_791 k_793 kp_31 k_3 k_794) rfl rfl rfl (by decide +kernel) ⟨Nat.le_of_ble_eq_true rfl, Nat.le_of_ble_eq_true rfl⟩) ⟨y_blind, va_recv hK hP (ci := 2) (q0 := 4) rfl (y_W_ob (by decide) (by decide)), fun U9 hU9 hW9 => y_pre hU9 hW9 hP hD hU hZ hS hAN hN0⟩ rfl rfl hl.1 rfl (lv_room (Nat.le_of_ble_eq_true rfl)) d_Machine_act_97 ⟨(by show 0 + (1) ≤ (y_mx cq (2 * (qn + 4) + 12) - cq + (y_mx cs (2 * (sn + 1) + 12) - cs)) / 5 + 6; omega), (by show 0 + (6) ≤ 4 * (y_mx cq (2 * (qn + 4) + 12) - cq + (y_mx cs (2 * (sn + 1) + 12) - cs)) + 106; omega)⟩) hS (fun q _ h => hFc q h) hFc (fun q h1 h2 => hFc q h2) (fun E ce q9 u t H1 locs ht hvm hpx hbx hz1 hk1 hS hce hcv hcl => ?_) (fun r_5 u t H1 locs ht hvm hw hB hz1 hk1 hS => ?_)
    · obtain ⟨I6, T6, A6, O6, pl6, q6, s6, cq6, cs6⟩ := u
      dsimp only at hpx hbx
      rw [ht] at hbx
      obtain ⟨hP, hD1, hac6⟩ := hbx
      have hD : va_D Bq (y_W ad ar I6 T6 A6 O6 pl6) := hD1.weaken (fun _ q _ h => hFc q.1 h)
      generalize H1 = H at hP hS hac6 hce ⊢
      obtain ⟨hE, hac6⟩ := hac6
      obtain ⟨hmi, hbd6, fr6, h73⟩ := hpx
      have hb6 := hbd6
      unfold y_bd at hb6
      dsimp only at hb6
      unfold y_ac at hac6
      try dsimp only at hac6
      refine y_knowx (fun hy91 hy92 hy93 hy94 => ?_)
      have hac9 : y_ac (cq + cs) (s.heap.size + 1) (y_hs s.heap + 6) (cq6 + cs6) H := ⟨by omega, by omega⟩
      exact vx_out (fun x hx9 => (htb x hx9).elim) hlocks hce hcv hcl (fun t ht hvm => ⟨(I6, T6, A6, O6, pl6, (q6, s6, cq6, cs6)), ⟨hmi, (y_bd.tr hbd6 (y_bd.rf (a := 0) (b := 0)) (e := 4) (g := 1) (by decide) (by decide)), ((m_fr.rf.up (by decide) _).tr fr6 (by decide)), h73⟩, (by dsimp only; rw [ht]; exact ⟨hP, hD, hE, hac9⟩), hS.F ht⟩) hS.2.2 (by show 0 + (1) ≤ (y_mx cq (2 * (qn + 4) + 12) - cq + (y_mx cs (2 * (sn + 1) + 12) - cs)) / 5 + 6; omega) (by show 0 + (6) ≤ 4 * (y_mx cq (2 * (qn + 4) + 12) - cq + (y_mx cs (2 * (sn + 1) + 12) - cs)) + 106; omega)
    · obtain ⟨I7, T7, A7, O7, pl7, q7, s7, cq7, cs7⟩ := u
      dsimp only at hw hB
      rw [ht] at hB
      obtain ⟨hP, hD1, hac7⟩ := hB
      have hD : va_D Bq (y_W ad ar I7 T7 A7 O7 pl7) := hD1.weaken (fun _ q _ h => hFc q.1 h)
      generalize H1 = H at hP hS hac7 ⊢
      have hae7 := hac7
      try unfold y_ac at hae7
      try dsimp only at hae7
      obtain ⟨e1, e2, e3, e4, e5⟩ := hw
      cases e5
      rw [e1, e2, e3, e4] at hP hD
      unfold y_ac at hac7
      try dsimp only at hac7
      refine y_tight (k := 0) (n := 0) (by omega) (by omega) ?_
      have hFc := y_free hD hS hA
      refine va_callv (va_runV (As := [.int va2, .int r_5]) (rest := []) ⟨hx, hb, hml, hown, hts⟩ (c_M_assign l dC dI ar N0 z ad (upd I 9 ((I 9) + 1)) T A7 O pl G C Gs qn sn cq cs (va2) (r_5) H.size (y_hs H) hmi) (cwV 2 hts (x_goodV k_815 k_817 kp_33 k_3 k_818) rfl rfl rfl (by decide +kernel) ⟨Nat.le_of_ble_eq_true rfl, Nat.le_of_ble_eq_true rfl⟩) ⟨y_blind, va_recv hK hP (ci := 2) (q0 := 4) rfl (y_W_ob (by decide) (by decide)), fun U9 hU9 hW9 => y_pre hU9 hW9 hP hD hU hZ hS hAN hN0⟩ rfl rfl hl.1 rfl (lv_room (Nat.le_of_ble_eq_true rfl)) d_Machine_act_100 ⟨(by show 0 + (0) ≤ (y_mx cq (2 * (qn + 4) + 12) - cq + (y_mx cs (2 * (sn + 1) + 12) - cs)) / 5 + 6; omega), (by show 0 + (0) ≤ 4 * (y_mx cq (2 * (qn + 4) + 12) - cq + (y_mx cs (2 * (sn + 1) + 12) - cs)) + 106; omega)⟩) hS (fun q _ h => hFc q h) hFc (fun u t H1 locs ht hvm hw hB hz1 hk1 hS => ?_)
      obtain ⟨I8, T8, A8, O8, pl8, q8, s8, cq8, cs8⟩ := u
      dsimp only at hw hB
      rw [ht] at hB
      obtain ⟨hP, hD1, hac8⟩ := hB
      have hD : va_D Bq (y_W ad ar I8 T8 A8 O8 pl8) := hD1.weaken (fun _ q _ h => hFc q.1 h)
      generalize H1 = H at hP hS hac8 ⊢
      have hae8 := hac8
      try unfold y_ac at hae8
      try dsimp only at hae8
      refine W.widen (k := 0) (n := 0) (by omega) (by omega) ?_
      obtain ⟨e1, e2, e3, e4, e5⟩ := hw
      cases e5
      rw [e1, e2, e3, e4] at hP hD
      refine lv_aload_n hx hb d_Machine_act_103 rfl (lv_at hl 2 rfl) ?_
      have hFc := y_free hD hS hA
      refine va_callv (va_runV (As := []) (rest := []) ⟨hx, hb, hml, hown, hts⟩ (c_T_goOn l dC dI ar N0 z ad (upd I 9 ((I 9) + 1)) T A8 O pl G C Gs qn sn cq cs tt H.size (y_hs H) hmi htt) (cwV 0 hts (x_goodV k_777 k_778 k_779 k_18 k_780) rfl rfl rfl (by decide +kernel) ⟨Nat.le_of_ble_eq_true rfl, Nat.le_of_ble_eq_true rfl⟩) ⟨y_blind, (by obtain ⟨q9, hq9⟩ := y_L_at hf1; exact va_recv hK hP (ci := 8) (q0 := 20 + q9) rfl (by rw [y_W_pl]; exact hq9)), fun U9 hU9 hW9 => y_pre hU9 hW9 hP hD hU hZ hS hAN hN0⟩ rfl rfl hl.1 rfl (lv_room (Nat.le_of_ble_eq_true rfl)) d_Machine_act_104 ⟨(by show 0 + (0) ≤ (y_mx cq (2 * (qn + 4) + 12) - cq + (y_mx cs (2 * (sn + 1) + 12) - cs)) / 5 + 6; omega), (by show 0 + (0) ≤ 4 * (y_mx cq (2 * (qn + 4) + 12) - cq + (y_mx cs (2 * (sn + 1) + 12) - cs)) + 106; omega)⟩) hS (fun q _ h => hFc q h) hFc (fun u t H1 locs ht hvm hw hB hz1 hk1 hS => ?_)
      obtain ⟨I9, T9, A9, O9, pl9, q9, s9, cq9, cs9⟩ := u
      dsimp only at hw hB
      rw [ht] at hB
      obtain ⟨hP, hD1, hac9⟩ := hB
      have hD : va_D Bq (y_W ad ar I9 T9 A9 O9 pl9) := hD1.weaken (fun _ q _ h => hFc q.1 h)
      generalize H1 = H at hP hS hac9 ⊢
      have hae9 := hac9
      try unfold y_ac at hae9
      try dsimp only at hae9
      refine W.widen (k := 0) (n := 0) (by omega) (by omega) ?_
      obtain ⟨e1, e2, e3, e4, e5, hmi⟩ := hw
      cases e5
      rw [e1, e2, e3, e4] at hP hD
      rw [e1, e4] at hmi
      have hmi : y_MI z ar G C Gs (upd I 9 ((I 9) + 1)) O (y_L pl9) (qn, sn, cq, cs) := hmi
      refine lv_goto (tgt := 215) hx hb d_Machine_act_107 (by decide) ?_
      have hbd9 : y_bd (qn, sn, cq, cs) (qn, sn, cq, cs) 4 1 := (y_bd.mono (y_bd.rf (a := 0) (b := 0)) (c := 4) (d := 1) (by omega) (by omega))
      have hb9 := hbd9.lin
      dsimp only at hb9
      refine vx_ret ?_
      refine y_know (fun hy91 hy92 hy93 hy94 => ?_)
      have hac9 : y_ac (cq + cs) s.heap.size (y_hs s.heap) (cq + cs) H := ⟨by omega, by omega⟩
      refine W.widen (k := (y_mx cq (2 * (qn + 4) + 12) - cq + (y_mx cs (2 * (sn + 1) + 12) - cs)) / 5 + 6) (n := 4 * (y_mx cq (2 * (qn + 4) + 12) - cq + (y_mx cs (2 * (sn + 1) + 12) - cs)) + 106) (by omega) (by omega) ?_
      exact W.vret hx hb hr (fun t ht hW => ⟨⟨((upd I 9 ((I 9) + 1)), T, A8, O, pl9, (qn, sn, cq, cs)), rfl, ⟨hmi, hbd9, (m_fr.rf.up (by decide) _), rfl⟩, (by dsimp only; rw [ht]; exact ⟨hP, hD, hac9⟩)⟩, hS.F ht⟩) hS.2.2 d_Machine_act_215
  · have hco9 := hpk2.2.2.2.2.1 (by decide)
    obtain ⟨c9, hc9, hch9⟩ := hpk2.2.2.2.2.2.1 (by decide)
    subst hch9
    refine va_gets hx hb (hZ.2.2.1.narrow hAN) hS hown (hts _ k_785) (fun _ h9 => h9) d_Machine_act_15 ?_
    refine lv_aload_n hx hb d_Machine_act_18 rfl (lv_at hl 0 rfl) ?_
    refine d_gN (C := "ChannelMachine$Process") (F := F_Process) (N := 10) hx hb hts i_Process hown hK hP hf2 0 rfl (by decide) (hU.1.2.1 _ kn_391) (fun _ h9 => h9) (v := .ref (z (3 + 1))) rfl d_Machine_act_19 ?_
    have hFc := y_free hD hS hA
    refine va_calli (va_runU (As := []) (rest := [.ref (z 20)]) ⟨hx, hb, hml, hown, hts⟩ (c_E_ordinal l dC dI ar N0 z ad (upd I 9 ((I 9) + 1)) T A O pl G C Gs qn sn cq cs 1 H.size (y_hs H) hmi (by decide)) (va_cwU (owner := "java/lang/Enum") 0 hts (x_goodU k_786 k_487 k_489 k_490 k_15 k_491) rfl rfl rfl rfl (by decide +kernel) ⟨Nat.le_of_ble_eq_true rfl, Nat.le_of_ble_eq_true rfl⟩) ⟨y_blind, va_recvE (E := "ChannelMachine$Kind") (ad := fun i => z (3 + i)) (hZ.2.1.narrow hAN) (show 1 < 11 from by decide) hS, fun U9 hU9 hW9 => y_pre hU9 hW9 hP hD hU hZ hS hAN hN0⟩ rfl rfl hl.1 rfl (lv_room (Nat.le_of_ble_eq_true rfl)) d_Machine_act_22 ⟨(by show 0 + (0) ≤ (y_mx cq (2 * (qn + 4) + 12) - cq + (y_mx cs (2 * (sn + 1) + 12) - cs)) / 5 + 6; omega), (by show 0 + (0) ≤ 4 * (y_mx cq (2 * (qn + 4) + 12) - cq + (y_mx cs (2 * (sn + 1) + 12) - cs)) + 106; omega)⟩) hS (fun q _ h => hFc q h) hFc (fun r_10 u t H1 locs ht hvm hw hB hz1 hk1 hS => ?_)
    obtain ⟨I11, T11, A11, O11, pl11, q11, s11, cq11, cs11⟩ := u
    dsimp only at hw hB
    rw [ht] at hB
    obtain ⟨hP, hD1, hac11⟩ := hB
    have hD : va_D Bq (y_W ad ar I11 T11 A11 O11 pl11) := hD1.weaken (fun _ q _ h => hFc q.1 h)
    generalize H1 = H at hP hS hac11 ⊢
    have hae11 := hac11
    try unfold y_ac at hae11
    try dsimp only at hae11
    refine W.widen (k := 0) (n := 0) (by omega) (by omega) ?_
    obtain ⟨h9, hw⟩ := hw
    cases h9
    subst hw
    refine va_ti (t := z 20) (N := 11) (f := y_sw) (v := .int 2) hx hb (hZ.2.2.2.1.narrow hAN) hS (by unfold vp_in; decide) rfl d_Machine_act_25 ?_
    refine lv_tableIn (tgt := 157) hx hb d_Machine_act_26 (by decide) (by decide) (off := 131) rfl (by decide) ?_
    refine lv_aload_n hx hb d_Machine_act_157 rfl (lv_at hl 1 rfl) ?_
    refine lv_aload_n hx hb d_Machine_act_158 rfl (lv_at hl 2 rfl) ?_
    refine lv_aload_n hx hb d_Machine_act_159 rfl (lv_at hl 0 rfl) ?_
    refine d_gN (C := "ChannelMachine$Process") (F := F_Process) (N := 10) hx hb hts i_Process hown hK hP hf2 8 rfl (by decide) (hU.1.2.1 _ kn_417) (fun _ h9 => h9) (v := .int (Int32.ofNat c9)) rfl d_Machine_act_160 ?_
    refine lv_aload_n hx hb d_Machine_act_163 rfl (lv_at hl 1 rfl) ?_
    refine lv_aload_n hx hb d_Machine_act_164 rfl (lv_at hl 0 rfl) ?_
    refine d_gN (C := "ChannelMachine$Process") (F := F_Process) (N := 10) hx hb hts i_Process hown hK hP hf2 7 rfl (by decide) (hU.1.2.1 _ kn_414) (fun _ h9 => h9) (v := .ref co2) rfl d_Machine_act_165 ?_
    refine y_know (fun hya1 hya2 hya3 hya4 => ?_)
    have hFc := y_free hD hS hA
    refine vx_calli (vx_runV (As := [.ref co2]) (rest := [.int (Int32.ofNat c9), .ref tt, .ref (ad 4)]) ⟨hx, hb, hml, hown, hts⟩ (c_M_evaluate l hst dC dI ar N0 z ad (upd I 9 ((I 9) + 1)) T A O pl G C Gs qn sn cq cs co2 H.size (y_hs H) hmi hco9) (cwV 1 hts (x_goodV k_791 k_793 kp_31 k_3 k_794) rfl rfl rfl (by decide +kernel) ⟨Nat.le_of_ble_eq_true rfl, Nat.le_of_ble_eq_true rfl⟩) ⟨y_blind, va_recv hK hP (ci := 2) (q0 := 4) rfl (y_W_ob (by decide) (by decide)), fun U9 hU9 hW9 => y_pre hU9 hW9 hP hD hU hZ hS hAN hN0⟩ rfl rfl hl.1 rfl (lv_room (Nat.le_of_ble_eq_true rfl)) d_Machine_act_168 ⟨(by show 0 + (1) ≤ (y_mx cq (2 * (qn + 4) + 12) - cq + (y_mx cs (2 * (sn + 1) + 12) - cs)) / 5 + 6; omega), (by show 0 + (6) ≤ 4 * (y_mx cq (2 * (qn + 4) + 12) - cq + (y_mx cs (2 * (sn + 1) + 12) - cs)) + 106; omega)⟩) hS (fun q _ h => hFc q h) hFc (fun q h1 h2 => hFc q h2) (fun E ce q9 u t H1 locs ht hvm hpx hbx hz1 hk1 hS hce hcv hcl => ?_) (fun r_12 u t H1 locs ht hvm hw hB hz1 hk1 hS => ?_)
    · obtain ⟨I13, T13, A13, O13, pl13, q13, s13, cq13, cs13⟩ := u
      dsimp only at hpx hbx
      rw [ht] at hbx
      obtain ⟨hP, hD1, hac13⟩ := hbx
      have hD : va_D Bq (y_W ad ar I13 T13 A13 O13 pl13) := hD1.weaken (fun _ q _ h => hFc q.1 h)
      generalize H1 = H at hP hS hac13 hce ⊢
      obtain ⟨hE, hac13⟩ := hac13
      obtain ⟨hmi, hbd13, fr13, h73⟩ := hpx
      have hb13 := hbd13
      unfold y_bd at hb13
      dsimp only at hb13
      unfold y_ac at hac13
      try dsimp only at hac13
      refine y_knowx (fun hy91 hy92 hy93 hy94 => ?_)
      have hac9 : y_ac (cq + cs) (s.heap.size + 1) (y_hs s.heap + 6) (cq13 + cs13) H := ⟨by omega, by omega⟩
      exact vx_out (fun x hx9 => (htb x hx9).elim) hlocks hce hcv hcl (fun t ht hvm => ⟨(I13, T13, A13, O13, pl13, (q13, s13, cq13, cs13)), ⟨hmi, (y_bd.tr hbd13 (y_bd.rf (a := 0) (b := 0)) (e := 4) (g := 1) (by decide) (by decide)), ((m_fr.rf.up (by decide) _).tr fr13 (by decide)), h73⟩, (by dsimp only; rw [ht]; exact ⟨hP, hD, hE, hac9⟩), hS.F ht⟩) hS.2.2 (by show 0 + (1) ≤ (y_mx cq (2 * (qn + 4) + 12) - cq + (y_mx cs (2 * (sn + 1) + 12) - cs)) / 5 + 6; omega) (by show 0 + (6) ≤ 4 * (y_mx cq (2 * (qn + 4) + 12) - cq + (y_mx cs (2 * (sn + 1) + 12) - cs)) + 106; omega)
    · obtain ⟨I14, T14, A14, O14, pl14, q14, s14, cq14, cs14⟩ := u
      dsimp only at hw hB
      rw [ht] at hB
      obtain ⟨hP, hD1, hac14⟩ := hB
      have hD : va_D Bq (y_W ad ar I14 T14 A14 O14 pl14) := hD1.weaken (fun _ q _ h => hFc q.1 h)
      generalize H1 = H at hP hS hac14 ⊢
      have hae14 := hac14
      try unfold y_ac at hae14
      try dsimp only at hae14
      obtain ⟨e1, e2, e3, e4, e5⟩ := hw
      cases e5
      rw [e1, e2, e3, e4] at hP hD
      unfold y_ac at hac14
      try dsimp only at hac14
      refine y_tight (k := 0) (n := 0) (by omega) (by omega) ?_
      have hgg15 := y_gg qn cq
      refine y_know (fun hya1 hya2 hya3 hya4 => ?_)
      have hFc := y_free hD hS hA
      refine vx_callv (vx_runV (As := [.ref tt, .int (Int32.ofNat c9), .int r_12]) (rest := []) ⟨hx, hb, hml, hown, hts⟩ (c_M_output l hst dC dI ar N0 z ad (upd I 9 ((I 9) + 1)) T A14 O pl G C Gs qn sn cq cs tt c9 (r_12) H.size (y_hs H) hmi htt (by omega) (by omega)) (cwV 3 hts (x_goodV k_827 k_829 kp_36 k_3 k_830) rfl rfl rfl (by decide +kernel) ⟨Nat.le_of_ble_eq_true rfl, Nat.le_of_ble_eq_true rfl⟩) ⟨y_blind, va_recv hK hP (ci := 2) (q0 := 4) rfl (y_W_ob (by decide) (by decide)), fun U9 hU9 hW9 => y_pre hU9 hW9 hP hD hU hZ hS hAN hN0⟩ rfl rfl hl.1 rfl (lv_room (Nat.le_of_ble_eq_true rfl)) d_Machine_act_171 ⟨(by show 0 + (y_gc qn cq + 1) ≤ (y_mx cq (2 * (qn + 4) + 12) - cq + (y_mx cs (2 * (sn + 1) + 12) - cs)) / 5 + 6; omega), (by show 0 + (y_gs qn cq + 6) ≤ 4 * (y_mx cq (2 * (qn + 4) + 12) - cq + (y_mx cs (2 * (sn + 1) + 12) - cs)) + 106; omega)⟩) hS (fun q _ h => hFc q h) hFc (fun q h1 h2 => hFc q h2) (fun E ce q9 u t H1 locs ht hvm hpx hbx hz1 hk1 hS hce hcv hcl => ?_) (fun u t H1 locs ht hvm hw hB hz1 hk1 hS => ?_)
      · obtain ⟨I16, T16, A16, O16, pl16, q16, s16, cq16, cs16⟩ := u
        dsimp only at hpx hbx
        rw [ht] at hbx
        obtain ⟨hP, hD1, hac16⟩ := hbx
        have hD : va_D Bq (y_W ad ar I16 T16 A16 O16 pl16) := hD1.weaken (fun _ q _ h => hFc q.1 h)
        generalize H1 = H at hP hS hac16 hce ⊢
        obtain ⟨hE, hac16⟩ := hac16
        obtain ⟨hmi, hbd16, fr16, h73⟩ := hpx
        have hb16 := hbd16
        unfold y_bd at hb16
        dsimp only at hb16
        unfold y_ac at hac16
        try dsimp only at hac16
        refine y_knowx (fun hy91 hy92 hy93 hy94 => ?_)
        have hac9 : y_ac (cq + cs) (s.heap.size + 1) (y_hs s.heap + 6) (cq16 + cs16) H := ⟨by omega, by omega⟩
        exact vx_out (fun x hx9 => (htb x hx9).elim) hlocks hce hcv hcl (fun t ht hvm => ⟨(I16, T16, A16, O16, pl16, (q16, s16, cq16, cs16)), ⟨hmi, (y_bd.tr hbd16 (y_bd.rf (a := 0) (b := 0)) (e := 4) (g := 1) (by decide) (by decide)), ((m_fr.rf.up (by decide) _).tr fr16 (by decide)), h73⟩, (by dsimp only; rw [ht]; exact ⟨hP, hD, hE, hac9⟩), hS.F ht⟩) hS.2.2 (by show 0 + (y_gc qn cq + 1) ≤ (y_mx cq (2 * (qn + 4) + 12) - cq + (y_mx cs (2 * (sn + 1) + 12) - cs)) / 5 + 6; omega) (by show 0 + (y_gs qn cq + 6) ≤ 4 * (y_mx cq (2 * (qn + 4) + 12) - cq + (y_mx cs (2 * (sn + 1) + 12) - cs)) + 106; omega)
      · obtain ⟨I17, T17, A17, O17, pl17, q17, s17, cq17, cs17⟩ := u
        dsimp only at hw hB
        rw [ht] at hB
        obtain ⟨hP, hD1, hac17⟩ := hB
        have hD : va_D Bq (y_W ad ar I17 T17 A17 O17 pl17) := hD1.weaken (fun _ q _ h => hFc q.1 h)
        generalize H1 = H at hP hS hac17 ⊢
        have hae17 := hac17
        try unfold y_ac at hae17
        try dsimp only at hae17
        obtain ⟨hmi, hbd17, fr17⟩ := hw
        unfold y_ac at hac17
        try dsimp only at hac17
        have hb17 := hbd17.lin
        dsimp only at hb17
        have hbo17 : y_bd (qn, sn, cq, cs) (q17, s17, cq17, cs17) 4 1 := (y_bd.mono (y_bd.tr (y_bd.rf (a := 0) (b := 0)) hbd17 (e := 0 + 1) (g := 0 + 0) (by omega) (by omega)) (c := 4) (d := 1) (by omega) (by omega))
        have hbo17 := hbo17.lin
        dsimp only at hbo17
        refine y_tight (k := (cq17 + cs17 - (cq + cs)) / 5) (n := 4 * (cq17 + cs17 - (cq + cs))) (by omega) (by omega) ?_
        refine lv_goto (tgt := 215) hx hb d_Machine_act_174 (by decide) ?_
        have hbd9 : y_bd (qn, sn, cq, cs) (q17, s17, cq17, cs17) 4 1 := (y_bd.mono (y_bd.tr (y_bd.rf (a := 0) (b := 0)) hbd17 (e := 0 + 1) (g := 0 + 0) (by omega) (by omega)) (c := 4) (d := 1) (by omega) (by omega))
        have hb9 := hbd9.lin
        dsimp only at hb9
        refine vx_ret ?_
        refine y_know (fun hy91 hy92 hy93 hy94 => ?_)
        have hac9 : y_ac (cq + cs) s.heap.size (y_hs s.heap) (cq17 + cs17) H := ⟨by omega, by omega⟩
        refine W.widen (k := (y_mx cq (2 * (qn + 4) + 12) - cq + (y_mx cs (2 * (sn + 1) + 12) - cs)) / 5 + 6) (n := 4 * (y_mx cq (2 * (qn + 4) + 12) - cq + (y_mx cs (2 * (sn + 1) + 12) - cs)) + 106) (by omega) (by omega) ?_
        exact W.vret hx hb hr (fun t ht hW => ⟨⟨(I17, T17, A17, O17, pl17, (q17, s17, cq17, cs17)), rfl, ⟨hmi, hbd9, ((m_fr.rf.up (by decide) _).tr fr17 (by decide)), ((fr17 9 (by decide)).trans rfl)⟩, (by dsimp only; rw [ht]; exact ⟨hP, hD, hac9⟩)⟩, hS.F ht⟩) hS.2.2 d_Machine_act_215
  · obtain ⟨c9, hc9, hch9⟩ := hpk2.2.2.2.2.2.1 (by decide)
    subst hch9
    refine va_gets hx hb (hZ.2.2.1.narrow hAN) hS hown (hts _ k_785) (fun _ h9 => h9) d_Machine_act_15 ?_
    refine lv_aload_n hx hb d_Machine_act_18 rfl (lv_at hl 0 rfl) ?_
    refine d_gN (C := "ChannelMachine$Process") (F := F_Process) (N := 10) hx hb hts i_Process hown hK hP hf2 0 rfl (by decide) (hU.1.2.1 _ kn_391) (fun _ h9 => h9) (v := .ref (z (3 + 2))) rfl d_Machine_act_19 ?_
    have hFc := y_free hD hS hA
    refine va_calli (va_runU (As := []) (rest := [.ref (z 20)]) ⟨hx, hb, hml, hown, hts⟩ (c_E_ordinal l dC dI ar N0 z ad (upd I 9 ((I 9) + 1)) T A O pl G C Gs qn sn cq cs 2 H.size (y_hs H) hmi (by decide)) (va_cwU (owner := "java/lang/Enum") 0 hts (x_goodU k_786 k_487 k_489 k_490 k_15 k_491) rfl rfl rfl rfl (by decide +kernel) ⟨Nat.le_of_ble_eq_true rfl, Nat.le_of_ble_eq_true rfl⟩) ⟨y_blind, va_recvE (E := "ChannelMachine$Kind") (ad := fun i => z (3 + i)) (hZ.2.1.narrow hAN) (show 2 < 11 from by decide) hS, fun U9 hU9 hW9 => y_pre hU9 hW9 hP hD hU hZ hS hAN hN0⟩ rfl rfl hl.1 rfl (lv_room (Nat.le_of_ble_eq_true rfl)) d_Machine_act_22 ⟨(by show 0 + (0) ≤ (y_mx cq (2 * (qn + 4) + 12) - cq + (y_mx cs (2 * (sn + 1) + 12) - cs)) / 5 + 6; omega), (by show 0 + (0) ≤ 4 * (y_mx cq (2 * (qn + 4) + 12) - cq + (y_mx cs (2 * (sn + 1) + 12) - cs)) + 106; omega)⟩) hS (fun q _ h => hFc q h) hFc (fun r_18 u t H1 locs ht hvm hw hB hz1 hk1 hS => ?_)
    obtain ⟨I19, T19, A19, O19, pl19, q19, s19, cq19, cs19⟩ := u
    dsimp only at hw hB
    rw [ht] at hB
    obtain ⟨hP, hD1, hac19⟩ := hB
    have hD : va_D Bq (y_W ad ar I19 T19 A19 O19 pl19) := hD1.weaken (fun _ q _ h => hFc q.1 h)
    generalize H1 = H at hP hS hac19 ⊢
    have hae19 := hac19
    try unfold y_ac at hae19
    try dsimp only at hae19
    refine W.widen (k := 0) (n := 0) (by omega) (by omega) ?_
    obtain ⟨h9, hw⟩ := hw
    cases h9
    subst hw
    refine va_ti (t := z 20) (N := 11) (f := y_sw) (v := .int 4) hx hb (hZ.2.2.2.1.narrow hAN) hS (by unfold vp_in; decide) rfl d_Machine_act_25 ?_
    refine lv_tableIn (tgt := 177) hx hb d_Machine_act_26 (by decide) (by decide) (off := 151) rfl (by decide) ?_
    refine lv_aload_n hx hb d_Machine_act_177 rfl (lv_at hl 1 rfl) ?_
    refine lv_aload_n hx hb d_Machine_act_178 rfl (lv_at hl 2 rfl) ?_
    refine lv_aload_n hx hb d_Machine_act_179 rfl (lv_at hl 0 rfl) ?_
    have hgg20 := y_gg qn cq
    refine y_know (fun hya1 hya2 hya3 hya4 => ?_)
    have hFc := y_free hD hS hA
    refine vx_callv (vx_runV (As := [.ref tt, .ref a1]) (rest := []) ⟨hx, hb, hml, hown, hts⟩ (c_M_input l hst dC dI ar N0 z ad (upd I 9 ((I 9) + 1)) T A O pl G C Gs qn sn cq cs tt a1 c9 H.size (y_hs H) hmi htt ha1 (by rw [y_sl_at hf2]; rfl) hc9 (by omega)) (cwV 2 hts (x_goodV k_850 k_852 kp_39 k_3 k_853) rfl rfl rfl (by decide +kernel) ⟨Nat.le_of_ble_eq_true rfl, Nat.le_of_ble_eq_true rfl⟩) ⟨y_blind, va_recv hK hP (ci := 2) (q0 := 4) rfl (y_W_ob (by decide) (by decide)), fun U9 hU9 hW9 => y_pre hU9 hW9 hP hD hU hZ hS hAN hN0⟩ rfl rfl hl.1 rfl (lv_room (Nat.le_of_ble_eq_true rfl)) d_Machine_act_180 ⟨(by show 0 + (y_gc qn cq + 1) ≤ (y_mx cq (2 * (qn + 4) + 12) - cq + (y_mx cs (2 * (sn + 1) + 12) - cs)) / 5 + 6; omega), (by show 0 + (y_gs qn cq + 6) ≤ 4 * (y_mx cq (2 * (qn + 4) + 12) - cq + (y_mx cs (2 * (sn + 1) + 12) - cs)) + 106; omega)⟩) hS (fun q _ h => hFc q h) hFc (fun q h1 h2 => hFc q h2) (fun E ce q9 u t H1 locs ht hvm hpx hbx hz1 hk1 hS hce hcv hcl => ?_) (fun u t H1 locs ht hvm hw hB hz1 hk1 hS => ?_)
    · obtain ⟨I21, T21, A21, O21, pl21, q21, s21, cq21, cs21⟩ := u
      dsimp only at hpx hbx
      rw [ht] at hbx
      obtain ⟨hP, hD1, hac21⟩ := hbx
      have hD : va_D Bq (y_W ad ar I21 T21 A21 O21 pl21) := hD1.weaken (fun _ q _ h => hFc q.1 h)
      generalize H1 = H at hP hS hac21 hce ⊢
      obtain ⟨hE, hac21⟩ := hac21
      obtain ⟨hmi, hbd21, fr21, h73⟩ := hpx
      have hb21 := hbd21
      unfold y_bd at hb21
      dsimp only at hb21
      unfold y_ac at hac21
      try dsimp only at hac21
      refine y_knowx (fun hy91 hy92 hy93 hy94 => ?_)
      have hac9 : y_ac (cq + cs) (s.heap.size + 1) (y_hs s.heap + 6) (cq21 + cs21) H := ⟨by omega, by omega⟩
      exact vx_out (fun x hx9 => (htb x hx9).elim) hlocks hce hcv hcl (fun t ht hvm => ⟨(I21, T21, A21, O21, pl21, (q21, s21, cq21, cs21)), ⟨hmi, (y_bd.tr hbd21 (y_bd.rf (a := 0) (b := 0)) (e := 4) (g := 1) (by decide) (by decide)), ((m_fr.rf.up (by decide) _).tr fr21 (by decide)), h73⟩, (by dsimp only; rw [ht]; exact ⟨hP, hD, hE, hac9⟩), hS.F ht⟩) hS.2.2 (by show 0 + (y_gc qn cq + 1) ≤ (y_mx cq (2 * (qn + 4) + 12) - cq + (y_mx cs (2 * (sn + 1) + 12) - cs)) / 5 + 6; omega) (by show 0 + (y_gs qn cq + 6) ≤ 4 * (y_mx cq (2 * (qn + 4) + 12) - cq + (y_mx cs (2 * (sn + 1) + 12) - cs)) + 106; omega)
    · obtain ⟨I22, T22, A22, O22, pl22, q22, s22, cq22, cs22⟩ := u
      dsimp only at hw hB
      rw [ht] at hB
      obtain ⟨hP, hD1, hac22⟩ := hB
      have hD : va_D Bq (y_W ad ar I22 T22 A22 O22 pl22) := hD1.weaken (fun _ q _ h => hFc q.1 h)
      generalize H1 = H at hP hS hac22 ⊢
      have hae22 := hac22
      try unfold y_ac at hae22
      try dsimp only at hae22
      obtain ⟨hmi, hbd22, fr22⟩ := hw
      unfold y_ac at hac22
      try dsimp only at hac22
      have hb22 := hbd22.lin
      dsimp only at hb22
      have hbo22 : y_bd (qn, sn, cq, cs) (q22, s22, cq22, cs22) 4 1 := (y_bd.mono (y_bd.tr (y_bd.rf (a := 0) (b := 0)) hbd22 (e := 0 + 1) (g := 0 + 0) (by omega) (by omega)) (c := 4) (d := 1) (by omega) (by omega))
      have hbo22 := hbo22.lin
      dsimp only at hbo22
      refine y_tight (k := (cq22 + cs22 - (cq + cs)) / 5) (n := 4 * (cq22 + cs22 - (cq + cs))) (by omega) (by omega) ?_
      refine lv_goto (tgt := 215) hx hb d_Machine_act_183 (by decide) ?_
      have hbd9 : y_bd (qn, sn, cq, cs) (q22, s22, cq22, cs22) 4 1 := (y_bd.mono (y_bd.tr (y_bd.rf (a := 0) (b := 0)) hbd22 (e := 0 + 1) (g := 0 + 0) (by omega) (by omega)) (c := 4) (d := 1) (by omega) (by omega))
      have hb9 := hbd9.lin
      dsimp only at hb9
      refine vx_ret ?_
      refine y_know (fun hy91 hy92 hy93 hy94 => ?_)
      have hac9 : y_ac (cq + cs) s.heap.size (y_hs s.heap) (cq22 + cs22) H := ⟨by omega, by omega⟩
      refine W.widen (k := (y_mx cq (2 * (qn + 4) + 12) - cq + (y_mx cs (2 * (sn + 1) + 12) - cs)) / 5 + 6) (n := 4 * (y_mx cq (2 * (qn + 4) + 12) - cq + (y_mx cs (2 * (sn + 1) + 12) - cs)) + 106) (by omega) (by omega) ?_
      exact W.vret hx hb hr (fun t ht hW => ⟨⟨(I22, T22, A22, O22, pl22, (q22, s22, cq22, cs22)), rfl, ⟨hmi, hbd9, ((m_fr.rf.up (by decide) _).tr fr22 (by decide)), ((fr22 9 (by decide)).trans rfl)⟩, (by dsimp only; rw [ht]; exact ⟨hP, hD, hac9⟩)⟩, hS.F ht⟩) hS.2.2 d_Machine_act_215
  · refine va_gets hx hb (hZ.2.2.1.narrow hAN) hS hown (hts _ k_785) (fun _ h9 => h9) d_Machine_act_15 ?_
    refine lv_aload_n hx hb d_Machine_act_18 rfl (lv_at hl 0 rfl) ?_
    refine d_gN (C := "ChannelMachine$Process") (F := F_Process) (N := 10) hx hb hts i_Process hown hK hP hf2 0 rfl (by decide) (hU.1.2.1 _ kn_391) (fun _ h9 => h9) (v := .ref (z (3 + 3))) rfl d_Machine_act_19 ?_
    have hFc := y_free hD hS hA
    refine va_calli (va_runU (As := []) (rest := [.ref (z 20)]) ⟨hx, hb, hml, hown, hts⟩ (c_E_ordinal l dC dI ar N0 z ad (upd I 9 ((I 9) + 1)) T A O pl G C Gs qn sn cq cs 3 H.size (y_hs H) hmi (by decide)) (va_cwU (owner := "java/lang/Enum") 0 hts (x_goodU k_786 k_487 k_489 k_490 k_15 k_491) rfl rfl rfl rfl (by decide +kernel) ⟨Nat.le_of_ble_eq_true rfl, Nat.le_of_ble_eq_true rfl⟩) ⟨y_blind, va_recvE (E := "ChannelMachine$Kind") (ad := fun i => z (3 + i)) (hZ.2.1.narrow hAN) (show 3 < 11 from by decide) hS, fun U9 hU9 hW9 => y_pre hU9 hW9 hP hD hU hZ hS hAN hN0⟩ rfl rfl hl.1 rfl (lv_room (Nat.le_of_ble_eq_true rfl)) d_Machine_act_22 ⟨(by show 0 + (0) ≤ (y_mx cq (2 * (qn + 4) + 12) - cq + (y_mx cs (2 * (sn + 1) + 12) - cs)) / 5 + 6; omega), (by show 0 + (0) ≤ 4 * (y_mx cq (2 * (qn + 4) + 12) - cq + (y_mx cs (2 * (sn + 1) + 12) - cs)) + 106; omega)⟩) hS (fun q _ h => hFc q h) hFc (fun r_23 u t H1 locs ht hvm hw hB hz1 hk1 hS => ?_)
    obtain ⟨I24, T24, A24, O24, pl24, q24, s24, cq24, cs24⟩ := u
    dsimp only at hw hB
    rw [ht] at hB
    obtain ⟨hP, hD1, hac24⟩ := hB
    have hD : va_D Bq (y_W ad ar I24 T24 A24 O24 pl24) := hD1.weaken (fun _ q _ h => hFc q.1 h)
    generalize H1 = H at hP hS hac24 ⊢
    have hae24 := hac24
    try unfold y_ac at hae24
    try dsimp only at hae24
    refine W.widen (k := 0) (n := 0) (by omega) (by omega) ?_
    obtain ⟨h9, hw⟩ := hw
    cases h9
    subst hw
    refine va_ti (t := z 20) (N := 11) (f := y_sw) (v := .int 0) hx hb (hZ.2.2.2.1.narrow hAN) hS (by unfold vp_in; decide) rfl d_Machine_act_25 ?_
    refine lv_tableOut (tgt := 211) hx hb d_Machine_act_26 (by decide) (by decide) ?_
    refine lv_aload_n hx hb d_Machine_act_211 rfl (lv_at hl 2 rfl) ?_
    have hFc := y_free hD hS hA
    refine va_callv (va_runV (As := []) (rest := []) ⟨hx, hb, hml, hown, hts⟩ (c_T_goOn l dC dI ar N0 z ad (upd I 9 ((I 9) + 1)) T A O pl G C Gs qn sn cq cs tt H.size (y_hs H) hmi htt) (cwV 0 hts (x_goodV k_777 k_778 k_779 k_18 k_780) rfl rfl rfl (by decide +kernel) ⟨Nat.le_of_ble_eq_true rfl, Nat.le_of_ble_eq_true rfl⟩) ⟨y_blind, (by obtain ⟨q9, hq9⟩ := y_L_at hf1; exact va_recv hK hP (ci := 8) (q0 := 20 + q9) rfl (by rw [y_W_pl]; exact hq9)), fun U9 hU9 hW9 => y_pre hU9 hW9 hP hD hU hZ hS hAN hN0⟩ rfl rfl hl.1 rfl (lv_room (Nat.le_of_ble_eq_true rfl)) d_Machine_act_212 ⟨(by show 0 + (0) ≤ (y_mx cq (2 * (qn + 4) + 12) - cq + (y_mx cs (2 * (sn + 1) + 12) - cs)) / 5 + 6; omega), (by show 0 + (0) ≤ 4 * (y_mx cq (2 * (qn + 4) + 12) - cq + (y_mx cs (2 * (sn + 1) + 12) - cs)) + 106; omega)⟩) hS (fun q _ h => hFc q h) hFc (fun u t H1 locs ht hvm hw hB hz1 hk1 hS => ?_)
    obtain ⟨I25, T25, A25, O25, pl25, q25, s25, cq25, cs25⟩ := u
    dsimp only at hw hB
    rw [ht] at hB
    obtain ⟨hP, hD1, hac25⟩ := hB
    have hD : va_D Bq (y_W ad ar I25 T25 A25 O25 pl25) := hD1.weaken (fun _ q _ h => hFc q.1 h)
    generalize H1 = H at hP hS hac25 ⊢
    have hae25 := hac25
    try unfold y_ac at hae25
    try dsimp only at hae25
    refine W.widen (k := 0) (n := 0) (by omega) (by omega) ?_
    obtain ⟨e1, e2, e3, e4, e5, hmi⟩ := hw
    cases e5
    rw [e1, e2, e3, e4] at hP hD
    rw [e1, e4] at hmi
    have hmi : y_MI z ar G C Gs (upd I 9 ((I 9) + 1)) O (y_L pl25) (qn, sn, cq, cs) := hmi
    have hbd9 : y_bd (qn, sn, cq, cs) (qn, sn, cq, cs) 4 1 := (y_bd.mono (y_bd.rf (a := 0) (b := 0)) (c := 4) (d := 1) (by omega) (by omega))
    have hb9 := hbd9.lin
    dsimp only at hb9
    refine vx_ret ?_
    refine y_know (fun hy91 hy92 hy93 hy94 => ?_)
    have hac9 : y_ac (cq + cs) s.heap.size (y_hs s.heap) (cq + cs) H := ⟨by omega, by omega⟩
    refine W.widen (k := (y_mx cq (2 * (qn + 4) + 12) - cq + (y_mx cs (2 * (sn + 1) + 12) - cs)) / 5 + 6) (n := 4 * (y_mx cq (2 * (qn + 4) + 12) - cq + (y_mx cs (2 * (sn + 1) + 12) - cs)) + 106) (by omega) (by omega) ?_
    exact W.vret hx hb hr (fun t ht hW => ⟨⟨((upd I 9 ((I 9) + 1)), T, A, O, pl25, (qn, sn, cq, cs)), rfl, ⟨hmi, hbd9, (m_fr.rf.up (by decide) _), rfl⟩, (by dsimp only; rw [ht]; exact ⟨hP, hD, hac9⟩)⟩, hS.F ht⟩) hS.2.2 d_Machine_act_215
  · refine va_gets hx hb (hZ.2.2.1.narrow hAN) hS hown (hts _ k_785) (fun _ h9 => h9) d_Machine_act_15 ?_
    refine lv_aload_n hx hb d_Machine_act_18 rfl (lv_at hl 0 rfl) ?_
    refine d_gN (C := "ChannelMachine$Process") (F := F_Process) (N := 10) hx hb hts i_Process hown hK hP hf2 0 rfl (by decide) (hU.1.2.1 _ kn_391) (fun _ h9 => h9) (v := .ref (z (3 + 4))) rfl d_Machine_act_19 ?_
    have hFc := y_free hD hS hA
    refine va_calli (va_runU (As := []) (rest := [.ref (z 20)]) ⟨hx, hb, hml, hown, hts⟩ (c_E_ordinal l dC dI ar N0 z ad (upd I 9 ((I 9) + 1)) T A O pl G C Gs qn sn cq cs 4 H.size (y_hs H) hmi (by decide)) (va_cwU (owner := "java/lang/Enum") 0 hts (x_goodU k_786 k_487 k_489 k_490 k_15 k_491) rfl rfl rfl rfl (by decide +kernel) ⟨Nat.le_of_ble_eq_true rfl, Nat.le_of_ble_eq_true rfl⟩) ⟨y_blind, va_recvE (E := "ChannelMachine$Kind") (ad := fun i => z (3 + i)) (hZ.2.1.narrow hAN) (show 4 < 11 from by decide) hS, fun U9 hU9 hW9 => y_pre hU9 hW9 hP hD hU hZ hS hAN hN0⟩ rfl rfl hl.1 rfl (lv_room (Nat.le_of_ble_eq_true rfl)) d_Machine_act_22 ⟨(by show 0 + (0) ≤ (y_mx cq (2 * (qn + 4) + 12) - cq + (y_mx cs (2 * (sn + 1) + 12) - cs)) / 5 + 6; omega), (by show 0 + (0) ≤ 4 * (y_mx cq (2 * (qn + 4) + 12) - cq + (y_mx cs (2 * (sn + 1) + 12) - cs)) + 106; omega)⟩) hS (fun q _ h => hFc q h) hFc (fun r_26 u t H1 locs ht hvm hw hB hz1 hk1 hS => ?_)
    obtain ⟨I27, T27, A27, O27, pl27, q27, s27, cq27, cs27⟩ := u
    dsimp only at hw hB
    rw [ht] at hB
    obtain ⟨hP, hD1, hac27⟩ := hB
    have hD : va_D Bq (y_W ad ar I27 T27 A27 O27 pl27) := hD1.weaken (fun _ q _ h => hFc q.1 h)
    generalize H1 = H at hP hS hac27 ⊢
    have hae27 := hac27
    try unfold y_ac at hae27
    try dsimp only at hae27
    refine W.widen (k := 0) (n := 0) (by omega) (by omega) ?_
    obtain ⟨h9, hw⟩ := hw
    cases h9
    subst hw
    refine va_ti (t := z 20) (N := 11) (f := y_sw) (v := .int 10) hx hb (hZ.2.2.2.1.narrow hAN) hS (by unfold vp_in; decide) rfl d_Machine_act_25 ?_
    refine lv_tableIn (tgt := 80) hx hb d_Machine_act_26 (by decide) (by decide) (off := 54) rfl (by decide) ?_
    refine lv_aload_n hx hb d_Machine_act_80 rfl (lv_at hl 1 rfl) ?_
    have hFc := y_free hD hS hA
    refine va_callv (va_runV (As := []) (rest := []) ⟨hx, hb, hml, hown, hts⟩ (c_M_pause l dC dI ar N0 z ad (upd I 9 ((I 9) + 1)) T A O pl G C Gs qn sn cq cs H.size (y_hs H) hmi) (cwV 0 hts (x_goodV k_787 k_789 kp_30 k_3 k_790) rfl rfl rfl (by decide +kernel) ⟨Nat.le_of_ble_eq_true rfl, Nat.le_of_ble_eq_true rfl⟩) ⟨y_blind, va_recv hK hP (ci := 2) (q0 := 4) rfl (y_W_ob (by decide) (by decide)), fun U9 hU9 hW9 => y_pre hU9 hW9 hP hD hU hZ hS hAN hN0⟩ rfl rfl hl.1 rfl (lv_room (Nat.le_of_ble_eq_true rfl)) d_Machine_act_81 ⟨(by show 0 + (0) ≤ (y_mx cq (2 * (qn + 4) + 12) - cq + (y_mx cs (2 * (sn + 1) + 12) - cs)) / 5 + 6; omega), (by show 0 + (0) ≤ 4 * (y_mx cq (2 * (qn + 4) + 12) - cq + (y_mx cs (2 * (sn + 1) + 12) - cs)) + 106; omega)⟩) hS (fun q _ h => hFc q h) hFc (fun u t H1 locs ht hvm hw hB hz1 hk1 hS => ?_)
    obtain ⟨I28, T28, A28, O28, pl28, q28, s28, cq28, cs28⟩ := u
    dsimp only at hw hB
    rw [ht] at hB
    obtain ⟨hP, hD1, hac28⟩ := hB
    have hD : va_D Bq (y_W ad ar I28 T28 A28 O28 pl28) := hD1.weaken (fun _ q _ h => hFc q.1 h)
    generalize H1 = H at hP hS hac28 ⊢
    have hae28 := hac28
    try unfold y_ac at hae28
    try dsimp only at hae28
    refine W.widen (k := 0) (n := 0) (by omega) (by omega) ?_
    obtain ⟨hmi, hbd28, fr28⟩ := hw
    have hb28 := hbd28.lin
    dsimp only at hb28
    unfold y_ac at hac28
    try dsimp only at hac28
    refine lv_goto (tgt := 215) hx hb d_Machine_act_84 (by decide) ?_
    have hbd9 : y_bd (qn, sn, cq, cs) (q28, s28, cq28, cs28) 4 1 := (y_bd.mono (y_bd.tr (y_bd.rf (a := 0) (b := 0)) hbd28 (e := 0 + 0) (g := 0 + 0) (by omega) (by omega)) (c := 4) (d := 1) (by omega) (by omega))
    have hb9 := hbd9.lin
    dsimp only at hb9
    refine vx_ret ?_
    refine y_know (fun hy91 hy92 hy93 hy94 => ?_)
    have hac9 : y_ac (cq + cs) s.heap.size (y_hs s.heap) (cq28 + cs28) H := ⟨by omega, by omega⟩
    refine W.widen (k := (y_mx cq (2 * (qn + 4) + 12) - cq + (y_mx cs (2 * (sn + 1) + 12) - cs)) / 5 + 6) (n := 4 * (y_mx cq (2 * (qn + 4) + 12) - cq + (y_mx cs (2 * (sn + 1) + 12) - cs)) + 106) (by omega) (by omega) ?_
    exact W.vret hx hb hr (fun t ht hW => ⟨⟨(I28, T28, A28, O28, pl28, (q28, s28, cq28, cs28)), rfl, ⟨hmi, hbd9, ((m_fr.rf.up (by decide) _).tr fr28 (by decide)), ((fr28 9 (by decide)).trans rfl)⟩, (by dsimp only; rw [ht]; exact ⟨hP, hD, hac9⟩)⟩, hS.F ht⟩) hS.2.2 d_Machine_act_215
  · refine va_gets hx hb (hZ.2.2.1.narrow hAN) hS hown (hts _ k_785) (fun _ h9 => h9) d_Machine_act_15 ?_
    refine lv_aload_n hx hb d_Machine_act_18 rfl (lv_at hl 0 rfl) ?_
    refine d_gN (C := "ChannelMachine$Process") (F := F_Process) (N := 10) hx hb hts i_Process hown hK hP hf2 0 rfl (by decide) (hU.1.2.1 _ kn_391) (fun _ h9 => h9) (v := .ref (z (3 + 5))) rfl d_Machine_act_19 ?_
    have hFc := y_free hD hS hA
    refine va_calli (va_runU (As := []) (rest := [.ref (z 20)]) ⟨hx, hb, hml, hown, hts⟩ (c_E_ordinal l dC dI ar N0 z ad (upd I 9 ((I 9) + 1)) T A O pl G C Gs qn sn cq cs 5 H.size (y_hs H) hmi (by decide)) (va_cwU (owner := "java/lang/Enum") 0 hts (x_goodU k_786 k_487 k_489 k_490 k_15 k_491) rfl rfl rfl rfl (by decide +kernel) ⟨Nat.le_of_ble_eq_true rfl, Nat.le_of_ble_eq_true rfl⟩) ⟨y_blind, va_recvE (E := "ChannelMachine$Kind") (ad := fun i => z (3 + i)) (hZ.2.1.narrow hAN) (show 5 < 11 from by decide) hS, fun U9 hU9 hW9 => y_pre hU9 hW9 hP hD hU hZ hS hAN hN0⟩ rfl rfl hl.1 rfl (lv_room (Nat.le_of_ble_eq_true rfl)) d_Machine_act_22 ⟨(by show 0 + (0) ≤ (y_mx cq (2 * (qn + 4) + 12) - cq + (y_mx cs (2 * (sn + 1) + 12) - cs)) / 5 + 6; omega), (by show 0 + (0) ≤ 4 * (y_mx cq (2 * (qn + 4) + 12) - cq + (y_mx cs (2 * (sn + 1) + 12) - cs)) + 106; omega)⟩) hS (fun q _ h => hFc q h) hFc (fun r_29 u t H1 locs ht hvm hw hB hz1 hk1 hS => ?_)
    obtain ⟨I30, T30, A30, O30, pl30, q30, s30, cq30, cs30⟩ := u
    dsimp only at hw hB
    rw [ht] at hB
    obtain ⟨hP, hD1, hac30⟩ := hB
    have hD : va_D Bq (y_W ad ar I30 T30 A30 O30 pl30) := hD1.weaken (fun _ q _ h => hFc q.1 h)
    generalize H1 = H at hP hS hac30 ⊢
    have hae30 := hac30
    try unfold y_ac at hae30
    try dsimp only at hae30
    refine W.widen (k := 0) (n := 0) (by omega) (by omega) ?_
    obtain ⟨h9, hw⟩ := hw
    cases h9
    subst hw
    refine va_ti (t := z 20) (N := 11) (f := y_sw) (v := .int 5) hx hb (hZ.2.2.2.1.narrow hAN) hS (by unfold vp_in; decide) rfl d_Machine_act_25 ?_
    refine lv_tableIn (tgt := 211) hx hb d_Machine_act_26 (by decide) (by decide) (off := 185) rfl (by decide) ?_
    refine lv_aload_n hx hb d_Machine_act_211 rfl (lv_at hl 2 rfl) ?_
    have hFc := y_free hD hS hA
    refine va_callv (va_runV (As := []) (rest := []) ⟨hx, hb, hml, hown, hts⟩ (c_T_goOn l dC dI ar N0 z ad (upd I 9 ((I 9) + 1)) T A O pl G C Gs qn sn cq cs tt H.size (y_hs H) hmi htt) (cwV 0 hts (x_goodV k_777 k_778 k_779 k_18 k_780) rfl rfl rfl (by decide +kernel) ⟨Nat.le_of_ble_eq_true rfl, Nat.le_of_ble_eq_true rfl⟩) ⟨y_blind, (by obtain ⟨q9, hq9⟩ := y_L_at hf1; exact va_recv hK hP (ci := 8) (q0 := 20 + q9) rfl (by rw [y_W_pl]; exact hq9)), fun U9 hU9 hW9 => y_pre hU9 hW9 hP hD hU hZ hS hAN hN0⟩ rfl rfl hl.1 rfl (lv_room (Nat.le_of_ble_eq_true rfl)) d_Machine_act_212 ⟨(by show 0 + (0) ≤ (y_mx cq (2 * (qn + 4) + 12) - cq + (y_mx cs (2 * (sn + 1) + 12) - cs)) / 5 + 6; omega), (by show 0 + (0) ≤ 4 * (y_mx cq (2 * (qn + 4) + 12) - cq + (y_mx cs (2 * (sn + 1) + 12) - cs)) + 106; omega)⟩) hS (fun q _ h => hFc q h) hFc (fun u t H1 locs ht hvm hw hB hz1 hk1 hS => ?_)
    obtain ⟨I31, T31, A31, O31, pl31, q31, s31, cq31, cs31⟩ := u
    dsimp only at hw hB
    rw [ht] at hB
    obtain ⟨hP, hD1, hac31⟩ := hB
    have hD : va_D Bq (y_W ad ar I31 T31 A31 O31 pl31) := hD1.weaken (fun _ q _ h => hFc q.1 h)
    generalize H1 = H at hP hS hac31 ⊢
    have hae31 := hac31
    try unfold y_ac at hae31
    try dsimp only at hae31
    refine W.widen (k := 0) (n := 0) (by omega) (by omega) ?_
    obtain ⟨e1, e2, e3, e4, e5, hmi⟩ := hw
    cases e5
    rw [e1, e2, e3, e4] at hP hD
    rw [e1, e4] at hmi
    have hmi : y_MI z ar G C Gs (upd I 9 ((I 9) + 1)) O (y_L pl31) (qn, sn, cq, cs) := hmi
    have hbd9 : y_bd (qn, sn, cq, cs) (qn, sn, cq, cs) 4 1 := (y_bd.mono (y_bd.rf (a := 0) (b := 0)) (c := 4) (d := 1) (by omega) (by omega))
    have hb9 := hbd9.lin
    dsimp only at hb9
    refine vx_ret ?_
    refine y_know (fun hy91 hy92 hy93 hy94 => ?_)
    have hac9 : y_ac (cq + cs) s.heap.size (y_hs s.heap) (cq + cs) H := ⟨by omega, by omega⟩
    refine W.widen (k := (y_mx cq (2 * (qn + 4) + 12) - cq + (y_mx cs (2 * (sn + 1) + 12) - cs)) / 5 + 6) (n := 4 * (y_mx cq (2 * (qn + 4) + 12) - cq + (y_mx cs (2 * (sn + 1) + 12) - cs)) + 106) (by omega) (by omega) ?_
    exact W.vret hx hb hr (fun t ht hW => ⟨⟨((upd I 9 ((I 9) + 1)), T, A, O, pl31, (qn, sn, cq, cs)), rfl, ⟨hmi, hbd9, (m_fr.rf.up (by decide) _), rfl⟩, (by dsimp only; rw [ht]; exact ⟨hP, hD, hac9⟩)⟩, hS.F ht⟩) hS.2.2 d_Machine_act_215
  · refine va_gets hx hb (hZ.2.2.1.narrow hAN) hS hown (hts _ k_785) (fun _ h9 => h9) d_Machine_act_15 ?_
    refine lv_aload_n hx hb d_Machine_act_18 rfl (lv_at hl 0 rfl) ?_
    refine d_gN (C := "ChannelMachine$Process") (F := F_Process) (N := 10) hx hb hts i_Process hown hK hP hf2 0 rfl (by decide) (hU.1.2.1 _ kn_391) (fun _ h9 => h9) (v := .ref (z (3 + 6))) rfl d_Machine_act_19 ?_
    have hFc := y_free hD hS hA
    refine va_calli (va_runU (As := []) (rest := [.ref (z 20)]) ⟨hx, hb, hml, hown, hts⟩ (c_E_ordinal l dC dI ar N0 z ad (upd I 9 ((I 9) + 1)) T A O pl G C Gs qn sn cq cs 6 H.size (y_hs H) hmi (by decide)) (va_cwU (owner := "java/lang/Enum") 0 hts (x_goodU k_786 k_487 k_489 k_490 k_15 k_491) rfl rfl rfl rfl (by decide +kernel) ⟨Nat.le_of_ble_eq_true rfl, Nat.le_of_ble_eq_true rfl⟩) ⟨y_blind, va_recvE (E := "ChannelMachine$Kind") (ad := fun i => z (3 + i)) (hZ.2.1.narrow hAN) (show 6 < 11 from by decide) hS, fun U9 hU9 hW9 => y_pre hU9 hW9 hP hD hU hZ hS hAN hN0⟩ rfl rfl hl.1 rfl (lv_room (Nat.le_of_ble_eq_true rfl)) d_Machine_act_22 ⟨(by show 0 + (0) ≤ (y_mx cq (2 * (qn + 4) + 12) - cq + (y_mx cs (2 * (sn + 1) + 12) - cs)) / 5 + 6; omega), (by show 0 + (0) ≤ 4 * (y_mx cq (2 * (qn + 4) + 12) - cq + (y_mx cs (2 * (sn + 1) + 12) - cs)) + 106; omega)⟩) hS (fun q _ h => hFc q h) hFc (fun r_32 u t H1 locs ht hvm hw hB hz1 hk1 hS => ?_)
    obtain ⟨I33, T33, A33, O33, pl33, q33, s33, cq33, cs33⟩ := u
    dsimp only at hw hB
    rw [ht] at hB
    obtain ⟨hP, hD1, hac33⟩ := hB
    have hD : va_D Bq (y_W ad ar I33 T33 A33 O33 pl33) := hD1.weaken (fun _ q _ h => hFc q.1 h)
    generalize H1 = H at hP hS hac33 ⊢
    have hae33 := hac33
    try unfold y_ac at hae33
    try dsimp only at hae33
    refine W.widen (k := 0) (n := 0) (by omega) (by omega) ?_
    obtain ⟨h9, hw⟩ := hw
    cases h9
    subst hw
    refine va_ti (t := z 20) (N := 11) (f := y_sw) (v := .int 6) hx hb (hZ.2.2.2.1.narrow hAN) hS (by unfold vp_in; decide) rfl d_Machine_act_25 ?_
    refine lv_tableIn (tgt := 148) hx hb d_Machine_act_26 (by decide) (by decide) (off := 122) rfl (by decide) ?_
    refine lv_aload_n hx hb d_Machine_act_148 rfl (lv_at hl 1 rfl) ?_
    refine lv_aload_n hx hb d_Machine_act_149 rfl (lv_at hl 2 rfl) ?_
    refine lv_aload_n hx hb d_Machine_act_150 rfl (lv_at hl 0 rfl) ?_
    refine y_know (fun hya1 hya2 hya3 hya4 => ?_)
    have hFc := y_free hD hS hA
    refine va_callv (va_runV (As := [.ref tt, .ref a1]) (rest := []) ⟨hx, hb, hml, hown, hts⟩ (c_M_makeTasks l dC dI ar N0 z ad (upd I 9 ((I 9) + 1)) T A O pl G C Gs qn sn cq cs tt a1 H.size (y_hs H) hmi htt ha1 (hpk2.2.2.2.2.2.2.2 rfl) (by omega)) (cwV 2 hts (x_goodV k_823 k_825 kp_35 k_3 k_826) rfl rfl rfl (by decide +kernel) ⟨Nat.le_of_ble_eq_true rfl, Nat.le_of_ble_eq_true rfl⟩) ⟨y_blind, va_recv hK hP (ci := 2) (q0 := 4) rfl (y_W_ob (by decide) (by decide)), fun U9 hU9 hW9 => y_pre hU9 hW9 hP hD hU hZ hS hAN hN0⟩ rfl rfl hl.1 rfl (lv_room (Nat.le_of_ble_eq_true rfl)) d_Machine_act_151 ⟨(by show 0 + ((y_mx cq (2 * (qn + 4) + 12) - cq + (y_mx cs (2 * (sn + 0) + 12) - cs)) / 5 + 5) ≤ (y_mx cq (2 * (qn + 4) + 12) - cq + (y_mx cs (2 * (sn + 1) + 12) - cs)) / 5 + 6; omega), (by show 0 + (4 * (y_mx cq (2 * (qn + 4) + 12) - cq + (y_mx cs (2 * (sn + 0) + 12) - cs)) + 100) ≤ 4 * (y_mx cq (2 * (qn + 4) + 12) - cq + (y_mx cs (2 * (sn + 1) + 12) - cs)) + 106; omega)⟩) hS (fun q _ h => hFc q h) hFc (fun u t H1 locs ht hvm hw hB hz1 hk1 hS => ?_)
    obtain ⟨I34, T34, A34, O34, pl34, q34, s34, cq34, cs34⟩ := u
    dsimp only at hw hB
    rw [ht] at hB
    obtain ⟨hP, hD1, hac34⟩ := hB
    have hD : va_D Bq (y_W ad ar I34 T34 A34 O34 pl34) := hD1.weaken (fun _ q _ h => hFc q.1 h)
    generalize H1 = H at hP hS hac34 ⊢
    have hae34 := hac34
    try unfold y_ac at hae34
    try dsimp only at hae34
    obtain ⟨hmi, hbd34, fr34⟩ := hw
    unfold y_ac at hac34
    try dsimp only at hac34
    have hb34 := hbd34.lin
    dsimp only at hb34
    have hbo34 : y_bd (qn, sn, cq, cs) (q34, s34, cq34, cs34) 4 1 := (y_bd.mono (y_bd.tr (y_bd.rf (a := 0) (b := 0)) hbd34 (e := 0 + 4) (g := 0 + 0) (by omega) (by omega)) (c := 4) (d := 1) (by omega) (by omega))
    have hbo34 := hbo34.lin
    dsimp only at hbo34
    refine y_tight (k := (cq34 + cs34 - (cq + cs)) / 5) (n := 4 * (cq34 + cs34 - (cq + cs))) (by omega) (by omega) ?_
    refine lv_goto (tgt := 215) hx hb d_Machine_act_154 (by decide) ?_
    have hbd9 : y_bd (qn, sn, cq, cs) (q34, s34, cq34, cs34) 4 1 := (y_bd.mono (y_bd.tr (y_bd.rf (a := 0) (b := 0)) hbd34 (e := 0 + 4) (g := 0 + 0) (by omega) (by omega)) (c := 4) (d := 1) (by omega) (by omega))
    have hb9 := hbd9.lin
    dsimp only at hb9
    refine vx_ret ?_
    refine y_know (fun hy91 hy92 hy93 hy94 => ?_)
    have hac9 : y_ac (cq + cs) s.heap.size (y_hs s.heap) (cq34 + cs34) H := ⟨by omega, by omega⟩
    refine W.widen (k := (y_mx cq (2 * (qn + 4) + 12) - cq + (y_mx cs (2 * (sn + 1) + 12) - cs)) / 5 + 6) (n := 4 * (y_mx cq (2 * (qn + 4) + 12) - cq + (y_mx cs (2 * (sn + 1) + 12) - cs)) + 106) (by omega) (by omega) ?_
    exact W.vret hx hb hr (fun t ht hW => ⟨⟨(I34, T34, A34, O34, pl34, (q34, s34, cq34, cs34)), rfl, ⟨hmi, hbd9, ((m_fr.rf.up (by decide) _).tr fr34 (by decide)), ((fr34 9 (by decide)).trans rfl)⟩, (by dsimp only; rw [ht]; exact ⟨hP, hD, hac9⟩)⟩, hS.F ht⟩) hS.2.2 d_Machine_act_215
  · have hco9 := hpk2.2.2.2.2.1 (by decide)
    have hlen9 := hpk2.2.2.2.2.2.2.1 (by decide)
    refine va_gets hx hb (hZ.2.2.1.narrow hAN) hS hown (hts _ k_785) (fun _ h9 => h9) d_Machine_act_15 ?_
    refine lv_aload_n hx hb d_Machine_act_18 rfl (lv_at hl 0 rfl) ?_
    refine d_gN (C := "ChannelMachine$Process") (F := F_Process) (N := 10) hx hb hts i_Process hown hK hP hf2 0 rfl (by decide) (hU.1.2.1 _ kn_391) (fun _ h9 => h9) (v := .ref (z (3 + 7))) rfl d_Machine_act_19 ?_
    have hFc := y_free hD hS hA
    refine va_calli (va_runU (As := []) (rest := [.ref (z 20)]) ⟨hx, hb, hml, hown, hts⟩ (c_E_ordinal l dC dI ar N0 z ad (upd I 9 ((I 9) + 1)) T A O pl G C Gs qn sn cq cs 7 H.size (y_hs H) hmi (by decide)) (va_cwU (owner := "java/lang/Enum") 0 hts (x_goodU k_786 k_487 k_489 k_490 k_15 k_491) rfl rfl rfl rfl (by decide +kernel) ⟨Nat.le_of_ble_eq_true rfl, Nat.le_of_ble_eq_true rfl⟩) ⟨y_blind, va_recvE (E := "ChannelMachine$Kind") (ad := fun i => z (3 + i)) (hZ.2.1.narrow hAN) (show 7 < 11 from by decide) hS, fun U9 hU9 hW9 => y_pre hU9 hW9 hP hD hU hZ hS hAN hN0⟩ rfl rfl hl.1 rfl (lv_room (Nat.le_of_ble_eq_true rfl)) d_Machine_act_22 ⟨(by show 0 + (0) ≤ (y_mx cq (2 * (qn + 4) + 12) - cq + (y_mx cs (2 * (sn + 1) + 12) - cs)) / 5 + 6; omega), (by show 0 + (0) ≤ 4 * (y_mx cq (2 * (qn + 4) + 12) - cq + (y_mx cs (2 * (sn + 1) + 12) - cs)) + 106; omega)⟩) hS (fun q _ h => hFc q h) hFc (fun r_35 u t H1 locs ht hvm hw hB hz1 hk1 hS => ?_)
    obtain ⟨I36, T36, A36, O36, pl36, q36, s36, cq36, cs36⟩ := u
    dsimp only at hw hB
    rw [ht] at hB
    obtain ⟨hP, hD1, hac36⟩ := hB
    have hD : va_D Bq (y_W ad ar I36 T36 A36 O36 pl36) := hD1.weaken (fun _ q _ h => hFc q.1 h)
    generalize H1 = H at hP hS hac36 ⊢
    have hae36 := hac36
    try unfold y_ac at hae36
    try dsimp only at hae36
    refine W.widen (k := 0) (n := 0) (by omega) (by omega) ?_
    obtain ⟨h9, hw⟩ := hw
    cases h9
    subst hw
    refine va_ti (t := z 20) (N := 11) (f := y_sw) (v := .int 8) hx hb (hZ.2.2.2.1.narrow hAN) hS (by unfold vp_in; decide) rfl d_Machine_act_25 ?_
    refine lv_tableIn (tgt := 139) hx hb d_Machine_act_26 (by decide) (by decide) (off := 113) rfl (by decide) ?_
    refine lv_aload_n hx hb d_Machine_act_139 rfl (lv_at hl 1 rfl) ?_
    refine lv_aload_n hx hb d_Machine_act_140 rfl (lv_at hl 2 rfl) ?_
    refine lv_aload_n hx hb d_Machine_act_141 rfl (lv_at hl 0 rfl) ?_
    refine y_know (fun hya1 hya2 hya3 hya4 => ?_)
    have hFc := y_free hD hS hA
    refine vx_callv (vx_runV (As := [.ref tt, .ref a1]) (rest := []) ⟨hx, hb, hml, hown, hts⟩ (c_M_loop l hst dC dI ar N0 z ad (upd I 9 ((I 9) + 1)) T A O pl G C Gs qn sn cq cs tt a1 co2 H.size (y_hs H) hmi htt ha1 (by rw [y_sl_at hf2]; rfl) hco9 hlen9) (cwV 2 hts (x_goodV k_819 k_821 kp_34 k_3 k_822) rfl rfl rfl (by decide +kernel) ⟨Nat.le_of_ble_eq_true rfl, Nat.le_of_ble_eq_true rfl⟩) ⟨y_blind, va_recv hK hP (ci := 2) (q0 := 4) rfl (y_W_ob (by decide) (by decide)), fun U9 hU9 hW9 => y_pre hU9 hW9 hP hD hU hZ hS hAN hN0⟩ rfl rfl hl.1 rfl (lv_room (Nat.le_of_ble_eq_true rfl)) d_Machine_act_142 ⟨(by show 0 + (1) ≤ (y_mx cq (2 * (qn + 4) + 12) - cq + (y_mx cs (2 * (sn + 1) + 12) - cs)) / 5 + 6; omega), (by show 0 + (6) ≤ 4 * (y_mx cq (2 * (qn + 4) + 12) - cq + (y_mx cs (2 * (sn + 1) + 12) - cs)) + 106; omega)⟩) hS (fun q _ h => hFc q h) hFc (fun q h1 h2 => hFc q h2) (fun E ce q9 u t H1 locs ht hvm hpx hbx hz1 hk1 hS hce hcv hcl => ?_) (fun u t H1 locs ht hvm hw hB hz1 hk1 hS => ?_)
    · obtain ⟨I37, T37, A37, O37, pl37, q37, s37, cq37, cs37⟩ := u
      dsimp only at hpx hbx
      rw [ht] at hbx
      obtain ⟨hP, hD1, hac37⟩ := hbx
      have hD : va_D Bq (y_W ad ar I37 T37 A37 O37 pl37) := hD1.weaken (fun _ q _ h => hFc q.1 h)
      generalize H1 = H at hP hS hac37 hce ⊢
      obtain ⟨hE, hac37⟩ := hac37
      obtain ⟨hmi, hbd37, fr37, h73⟩ := hpx
      have hb37 := hbd37
      unfold y_bd at hb37
      dsimp only at hb37
      unfold y_ac at hac37
      try dsimp only at hac37
      refine y_knowx (fun hy91 hy92 hy93 hy94 => ?_)
      have hac9 : y_ac (cq + cs) (s.heap.size + 1) (y_hs s.heap + 6) (cq37 + cs37) H := ⟨by omega, by omega⟩
      exact vx_out (fun x hx9 => (htb x hx9).elim) hlocks hce hcv hcl (fun t ht hvm => ⟨(I37, T37, A37, O37, pl37, (q37, s37, cq37, cs37)), ⟨hmi, (y_bd.tr hbd37 (y_bd.rf (a := 0) (b := 0)) (e := 4) (g := 1) (by decide) (by decide)), ((m_fr.rf.up (by decide) _).tr fr37 (by decide)), h73⟩, (by dsimp only; rw [ht]; exact ⟨hP, hD, hE, hac9⟩), hS.F ht⟩) hS.2.2 (by show 0 + (1) ≤ (y_mx cq (2 * (qn + 4) + 12) - cq + (y_mx cs (2 * (sn + 1) + 12) - cs)) / 5 + 6; omega) (by show 0 + (6) ≤ 4 * (y_mx cq (2 * (qn + 4) + 12) - cq + (y_mx cs (2 * (sn + 1) + 12) - cs)) + 106; omega)
    · obtain ⟨I38, T38, A38, O38, pl38, q38, s38, cq38, cs38⟩ := u
      dsimp only at hw hB
      rw [ht] at hB
      obtain ⟨hP, hD1, hac38⟩ := hB
      have hD : va_D Bq (y_W ad ar I38 T38 A38 O38 pl38) := hD1.weaken (fun _ q _ h => hFc q.1 h)
      generalize H1 = H at hP hS hac38 ⊢
      have hae38 := hac38
      try unfold y_ac at hae38
      try dsimp only at hae38
      obtain ⟨hmi, hbd38, fr38⟩ := hw
      unfold y_ac at hac38
      try dsimp only at hac38
      have hb38 := hbd38.lin
      dsimp only at hb38
      have hbo38 : y_bd (qn, sn, cq, cs) (q38, s38, cq38, cs38) 4 1 := (y_bd.mono (y_bd.tr (y_bd.rf (a := 0) (b := 0)) hbd38 (e := 0 + 0) (g := 0 + 0) (by omega) (by omega)) (c := 4) (d := 1) (by omega) (by omega))
      have hbo38 := hbo38.lin
      dsimp only at hbo38
      refine y_tight (k := (cq38 + cs38 - (cq + cs)) / 5) (n := 4 * (cq38 + cs38 - (cq + cs))) (by omega) (by omega) ?_
      refine lv_goto (tgt := 215) hx hb d_Machine_act_145 (by decide) ?_
      have hbd9 : y_bd (qn, sn, cq, cs) (q38, s38, cq38, cs38) 4 1 := (y_bd.mono (y_bd.tr (y_bd.rf (a := 0) (b := 0)) hbd38 (e := 0 + 0) (g := 0 + 0) (by omega) (by omega)) (c := 4) (d := 1) (by omega) (by omega))
      have hb9 := hbd9.lin
      dsimp only at hb9
      refine vx_ret ?_
      refine y_know (fun hy91 hy92 hy93 hy94 => ?_)
      have hac9 : y_ac (cq + cs) s.heap.size (y_hs s.heap) (cq38 + cs38) H := ⟨by omega, by omega⟩
      refine W.widen (k := (y_mx cq (2 * (qn + 4) + 12) - cq + (y_mx cs (2 * (sn + 1) + 12) - cs)) / 5 + 6) (n := 4 * (y_mx cq (2 * (qn + 4) + 12) - cq + (y_mx cs (2 * (sn + 1) + 12) - cs)) + 106) (by omega) (by omega) ?_
      exact W.vret hx hb hr (fun t ht hW => ⟨⟨(I38, T38, A38, O38, pl38, (q38, s38, cq38, cs38)), rfl, ⟨hmi, hbd9, ((m_fr.rf.up (by decide) _).tr fr38 (by decide)), ((fr38 9 (by decide)).trans rfl)⟩, (by dsimp only; rw [ht]; exact ⟨hP, hD, hac9⟩)⟩, hS.F ht⟩) hS.2.2 d_Machine_act_215
  · have hco9 := hpk2.2.2.2.2.1 (by decide)
    have hlen9 := hpk2.2.2.2.2.2.2.1 (by decide)
    refine va_gets hx hb (hZ.2.2.1.narrow hAN) hS hown (hts _ k_785) (fun _ h9 => h9) d_Machine_act_15 ?_
    refine lv_aload_n hx hb d_Machine_act_18 rfl (lv_at hl 0 rfl) ?_
    refine d_gN (C := "ChannelMachine$Process") (F := F_Process) (N := 10) hx hb hts i_Process hown hK hP hf2 0 rfl (by decide) (hU.1.2.1 _ kn_391) (fun _ h9 => h9) (v := .ref (z (3 + 8))) rfl d_Machine_act_19 ?_
    have hFc := y_free hD hS hA
    refine va_calli (va_runU (As := []) (rest := [.ref (z 20)]) ⟨hx, hb, hml, hown, hts⟩ (c_E_ordinal l dC dI ar N0 z ad (upd I 9 ((I 9) + 1)) T A O pl G C Gs qn sn cq cs 8 H.size (y_hs H) hmi (by decide)) (va_cwU (owner := "java/lang/Enum") 0 hts (x_goodU k_786 k_487 k_489 k_490 k_15 k_491) rfl rfl rfl rfl (by decide +kernel) ⟨Nat.le_of_ble_eq_true rfl, Nat.le_of_ble_eq_true rfl⟩) ⟨y_blind, va_recvE (E := "ChannelMachine$Kind") (ad := fun i => z (3 + i)) (hZ.2.1.narrow hAN) (show 8 < 11 from by decide) hS, fun U9 hU9 hW9 => y_pre hU9 hW9 hP hD hU hZ hS hAN hN0⟩ rfl rfl hl.1 rfl (lv_room (Nat.le_of_ble_eq_true rfl)) d_Machine_act_22 ⟨(by show 0 + (0) ≤ (y_mx cq (2 * (qn + 4) + 12) - cq + (y_mx cs (2 * (sn + 1) + 12) - cs)) / 5 + 6; omega), (by show 0 + (0) ≤ 4 * (y_mx cq (2 * (qn + 4) + 12) - cq + (y_mx cs (2 * (sn + 1) + 12) - cs)) + 106; omega)⟩) hS (fun q _ h => hFc q h) hFc (fun r_39 u t H1 locs ht hvm hw hB hz1 hk1 hS => ?_)
    obtain ⟨I40, T40, A40, O40, pl40, q40, s40, cq40, cs40⟩ := u
    dsimp only at hw hB
    rw [ht] at hB
    obtain ⟨hP, hD1, hac40⟩ := hB
    have hD : va_D Bq (y_W ad ar I40 T40 A40 O40 pl40) := hD1.weaken (fun _ q _ h => hFc q.1 h)
    generalize H1 = H at hP hS hac40 ⊢
    have hae40 := hac40
    try unfold y_ac at hae40
    try dsimp only at hae40
    refine W.widen (k := 0) (n := 0) (by omega) (by omega) ?_
    obtain ⟨h9, hw⟩ := hw
    cases h9
    subst hw
    refine va_ti (t := z 20) (N := 11) (f := y_sw) (v := .int 9) hx hb (hZ.2.2.2.1.narrow hAN) hS (by unfold vp_in; decide) rfl d_Machine_act_25 ?_
    refine lv_tableIn (tgt := 110) hx hb d_Machine_act_26 (by decide) (by decide) (off := 84) rfl (by decide) ?_
    refine lv_aload_n hx hb d_Machine_act_110 rfl (lv_at hl 2 rfl) ?_
    refine lv_aload_n hx hb d_Machine_act_111 rfl (lv_at hl 1 rfl) ?_
    refine lv_aload_n hx hb d_Machine_act_112 rfl (lv_at hl 0 rfl) ?_
    refine d_gN (C := "ChannelMachine$Process") (F := F_Process) (N := 10) hx hb hts i_Process hown hK hP hf2 7 rfl (by decide) (hU.1.2.1 _ kn_414) (fun _ h9 => h9) (v := .ref co2) rfl d_Machine_act_113 ?_
    refine y_know (fun hya1 hya2 hya3 hya4 => ?_)
    have hFc := y_free hD hS hA
    refine vx_calli (vx_runV (As := [.ref co2]) (rest := [.ref tt]) ⟨hx, hb, hml, hown, hts⟩ (c_M_evaluate l hst dC dI ar N0 z ad (upd I 9 ((I 9) + 1)) T A O pl G C Gs qn sn cq cs co2 H.size (y_hs H) hmi hco9) (cwV 1 hts (x_goodV k_791 k_793 kp_31 k_3 k_794) rfl rfl rfl (by decide +kernel) ⟨Nat.le_of_ble_eq_true rfl, Nat.le_of_ble_eq_true rfl⟩) ⟨y_blind, va_recv hK hP (ci := 2) (q0 := 4) rfl (y_W_ob (by decide) (by decide)), fun U9 hU9 hW9 => y_pre hU9 hW9 hP hD hU hZ hS hAN hN0⟩ rfl rfl hl.1 rfl (lv_room (Nat.le_of_ble_eq_true rfl)) d_Machine_act_116 ⟨(by show 0 + (1) ≤ (y_mx cq (2 * (qn + 4) + 12) - cq + (y_mx cs (2 * (sn + 1) + 12) - cs)) / 5 + 6; omega), (by show 0 + (6) ≤ 4 * (y_mx cq (2 * (qn + 4) + 12) - cq + (y_mx cs (2 * (sn + 1) + 12) - cs)) + 106; omega)⟩) hS (fun q _ h => hFc q h) hFc (fun q h1 h2 => hFc q h2) (fun E ce q9 u t H1 locs ht hvm hpx hbx hz1 hk1 hS hce hcv hcl => ?_) (fun r_41 u t H1 locs ht hvm hw hB hz1 hk1 hS => ?_)
    · obtain ⟨I42, T42, A42, O42, pl42, q42, s42, cq42, cs42⟩ := u
      dsimp only at hpx hbx
      rw [ht] at hbx
      obtain ⟨hP, hD1, hac42⟩ := hbx
      have hD : va_D Bq (y_W ad ar I42 T42 A42 O42 pl42) := hD1.weaken (fun _ q _ h => hFc q.1 h)
      generalize H1 = H at hP hS hac42 hce ⊢
      obtain ⟨hE, hac42⟩ := hac42
      obtain ⟨hmi, hbd42, fr42, h73⟩ := hpx
      have hb42 := hbd42
      unfold y_bd at hb42
      dsimp only at hb42
      unfold y_ac at hac42
      try dsimp only at hac42
      refine y_knowx (fun hy91 hy92 hy93 hy94 => ?_)
      have hac9 : y_ac (cq + cs) (s.heap.size + 1) (y_hs s.heap + 6) (cq42 + cs42) H := ⟨by omega, by omega⟩
      exact vx_out (fun x hx9 => (htb x hx9).elim) hlocks hce hcv hcl (fun t ht hvm => ⟨(I42, T42, A42, O42, pl42, (q42, s42, cq42, cs42)), ⟨hmi, (y_bd.tr hbd42 (y_bd.rf (a := 0) (b := 0)) (e := 4) (g := 1) (by decide) (by decide)), ((m_fr.rf.up (by decide) _).tr fr42 (by decide)), h73⟩, (by dsimp only; rw [ht]; exact ⟨hP, hD, hE, hac9⟩), hS.F ht⟩) hS.2.2 (by show 0 + (1) ≤ (y_mx cq (2 * (qn + 4) + 12) - cq + (y_mx cs (2 * (sn + 1) + 12) - cs)) / 5 + 6; omega) (by show 0 + (6) ≤ 4 * (y_mx cq (2 * (qn + 4) + 12) - cq + (y_mx cs (2 * (sn + 1) + 12) - cs)) + 106; omega)
    · obtain ⟨I43, T43, A43, O43, pl43, q43, s43, cq43, cs43⟩ := u
      dsimp only at hw hB
      rw [ht] at hB
      obtain ⟨hP, hD1, hac43⟩ := hB
      have hD : va_D Bq (y_W ad ar I43 T43 A43 O43 pl43) := hD1.weaken (fun _ q _ h => hFc q.1 h)
      generalize H1 = H at hP hS hac43 ⊢
      have hae43 := hac43
      try unfold y_ac at hae43
      try dsimp only at hae43
      obtain ⟨e1, e2, e3, e4, e5⟩ := hw
      cases e5
      rw [e1, e2, e3, e4] at hP hD
      unfold y_ac at hac43
      try dsimp only at hac43
      refine y_tight (k := 0) (n := 0) (by omega) (by omega) ?_
      refine lv_if_eq (tgt := 129) hx hb d_Machine_act_119 (by decide) (fun c44 => ?_) (fun c44 => ?_)
      · refine lv_aload_n hx hb d_Machine_act_129 rfl (lv_at hl 0 rfl) ?_
        refine d_gN (C := "ChannelMachine$Process") (F := F_Process) (N := 10) hx hb hts i_Process hown hK hP hf2 3 rfl (by decide) (hU.1.2.1 _ kn_400) (fun _ h9 => h9) (v := va_rf (C a1).getLast?) rfl d_Machine_act_130 ?_
        rcases hhy45 : (C a1).getLast? with _ | y45
        · refine W.eq (g2 := F0 m 133 ls [.null, .ref tt]) rfl ?_
          rw [List.getLast?_eq_none_iff] at hhy45
          rw [hhy45] at hlen9
          exact absurd hlen9 (by decide)
        · have hy45 := hmi.1.last ha1 hhy45
          refine W.eq (g2 := F0 m 133 ls [.ref y45, .ref tt]) rfl ?_
          have hFc := y_free hD hS hA
          refine va_callv (va_runV (As := [.ref y45]) (rest := []) ⟨hx, hb, hml, hown, hts⟩ (c_T_enter l dC dI ar N0 z ad (upd I 9 ((I 9) + 1)) T A43 O pl G C Gs qn sn cq cs tt y45 H.size (y_hs H) hmi htt hy45) (cwV 1 hts (x_goodV k_636 k_637 k_638 k_18 k_639) rfl rfl rfl (by decide +kernel) ⟨Nat.le_of_ble_eq_true rfl, Nat.le_of_ble_eq_true rfl⟩) ⟨y_blind, (by obtain ⟨q9, hq9⟩ := y_L_at hf1; exact va_recv hK hP (ci := 8) (q0 := 20 + q9) rfl (by rw [y_W_pl]; exact hq9)), fun U9 hU9 hW9 => y_pre hU9 hW9 hP hD hU hZ hS hAN hN0⟩ rfl rfl hl.1 rfl (lv_room (Nat.le_of_ble_eq_true rfl)) d_Machine_act_133 ⟨(by show 0 + (0) ≤ (y_mx cq (2 * (qn + 4) + 12) - cq + (y_mx cs (2 * (sn + 1) + 12) - cs)) / 5 + 6; omega), (by show 0 + (0) ≤ 4 * (y_mx cq (2 * (qn + 4) + 12) - cq + (y_mx cs (2 * (sn + 1) + 12) - cs)) + 106; omega)⟩) hS (fun q _ h => hFc q h) hFc (fun u t H1 locs ht hvm hw hB hz1 hk1 hS => ?_)
          obtain ⟨I46, T46, A46, O46, pl46, q46, s46, cq46, cs46⟩ := u
          dsimp only at hw hB
          rw [ht] at hB
          obtain ⟨hP, hD1, hac46⟩ := hB
          have hD : va_D Bq (y_W ad ar I46 T46 A46 O46 pl46) := hD1.weaken (fun _ q _ h => hFc q.1 h)
          generalize H1 = H at hP hS hac46 ⊢
          have hae46 := hac46
          try unfold y_ac at hae46
          try dsimp only at hae46
          refine W.widen (k := 0) (n := 0) (by omega) (by omega) ?_
          obtain ⟨e1, e2, e3, e4, e5, hmi⟩ := hw
          cases e5
          rw [e1, e2, e3, e4] at hP hD
          rw [e1, e4] at hmi
          have hmi : y_MI z ar G C Gs (upd I 9 ((I 9) + 1)) O (y_L pl46) (qn, sn, cq, cs) := hmi
          refine lv_goto (tgt := 215) hx hb d_Machine_act_136 (by decide) ?_
          have hbd9 : y_bd (qn, sn, cq, cs) (qn, sn, cq, cs) 4 1 := (y_bd.mono (y_bd.rf (a := 0) (b := 0)) (c := 4) (d := 1) (by omega) (by omega))
          have hb9 := hbd9.lin
          dsimp only at hb9
          refine vx_ret ?_
          refine y_know (fun hy91 hy92 hy93 hy94 => ?_)
          have hac9 : y_ac (cq + cs) s.heap.size (y_hs s.heap) (cq + cs) H := ⟨by omega, by omega⟩
          refine W.widen (k := (y_mx cq (2 * (qn + 4) + 12) - cq + (y_mx cs (2 * (sn + 1) + 12) - cs)) / 5 + 6) (n := 4 * (y_mx cq (2 * (qn + 4) + 12) - cq + (y_mx cs (2 * (sn + 1) + 12) - cs)) + 106) (by omega) (by omega) ?_
          exact W.vret hx hb hr (fun t ht hW => ⟨⟨((upd I 9 ((I 9) + 1)), T, A43, O, pl46, (qn, sn, cq, cs)), rfl, ⟨hmi, hbd9, (m_fr.rf.up (by decide) _), rfl⟩, (by dsimp only; rw [ht]; exact ⟨hP, hD, hac9⟩)⟩, hS.F ht⟩) hS.2.2 d_Machine_act_215
      · refine lv_aload_n hx hb d_Machine_act_122 rfl (lv_at hl 0 rfl) ?_
        refine d_gN (C := "ChannelMachine$Process") (F := F_Process) (N := 10) hx hb hts i_Process hown hK hP hf2 2 rfl (by decide) (hU.1.2.1 _ kn_397) (fun _ h9 => h9) (v := va_rf (C a1).head?) rfl d_Machine_act_123 ?_
        rcases hhy47 : (C a1).head? with _ | y47
        · refine W.eq (g2 := F0 m 126 ls [.null, .ref tt]) rfl ?_
          refine lv_goto (tgt := 133) hx hb d_Machine_act_126 (by decide) ?_
          rw [List.head?_eq_none_iff] at hhy47
          rw [hhy47] at hlen9
          exact absurd hlen9 (by decide)
        · have hy47 := hmi.1.head ha1 hhy47
          refine W.eq (g2 := F0 m 126 ls [.ref y47, .ref tt]) rfl ?_
          refine lv_goto (tgt := 133) hx hb d_Machine_act_126 (by decide) ?_
          have hFc := y_free hD hS hA
          refine va_callv (va_runV (As := [.ref y47]) (rest := []) ⟨hx, hb, hml, hown, hts⟩ (c_T_enter l dC dI ar N0 z ad (upd I 9 ((I 9) + 1)) T A43 O pl G C Gs qn sn cq cs tt y47 H.size (y_hs H) hmi htt hy47) (cwV 1 hts (x_goodV k_636 k_637 k_638 k_18 k_639) rfl rfl rfl (by decide +kernel) ⟨Nat.le_of_ble_eq_true rfl, Nat.le_of_ble_eq_true rfl⟩) ⟨y_blind, (by obtain ⟨q9, hq9⟩ := y_L_at hf1; exact va_recv hK hP (ci := 8) (q0 := 20 + q9) rfl (by rw [y_W_pl]; exact hq9)), fun U9 hU9 hW9 => y_pre hU9 hW9 hP hD hU hZ hS hAN hN0⟩ rfl rfl hl.1 rfl (lv_room (Nat.le_of_ble_eq_true rfl)) d_Machine_act_133 ⟨(by show 0 + (0) ≤ (y_mx cq (2 * (qn + 4) + 12) - cq + (y_mx cs (2 * (sn + 1) + 12) - cs)) / 5 + 6; omega), (by show 0 + (0) ≤ 4 * (y_mx cq (2 * (qn + 4) + 12) - cq + (y_mx cs (2 * (sn + 1) + 12) - cs)) + 106; omega)⟩) hS (fun q _ h => hFc q h) hFc (fun u t H1 locs ht hvm hw hB hz1 hk1 hS => ?_)
          obtain ⟨I48, T48, A48, O48, pl48, q48, s48, cq48, cs48⟩ := u
          dsimp only at hw hB
          rw [ht] at hB
          obtain ⟨hP, hD1, hac48⟩ := hB
          have hD : va_D Bq (y_W ad ar I48 T48 A48 O48 pl48) := hD1.weaken (fun _ q _ h => hFc q.1 h)
          generalize H1 = H at hP hS hac48 ⊢
          have hae48 := hac48
          try unfold y_ac at hae48
          try dsimp only at hae48
          refine W.widen (k := 0) (n := 0) (by omega) (by omega) ?_
          obtain ⟨e1, e2, e3, e4, e5, hmi⟩ := hw
          cases e5
          rw [e1, e2, e3, e4] at hP hD
          rw [e1, e4] at hmi
          have hmi : y_MI z ar G C Gs (upd I 9 ((I 9) + 1)) O (y_L pl48) (qn, sn, cq, cs) := hmi
          refine lv_goto (tgt := 215) hx hb d_Machine_act_136 (by decide) ?_
          have hbd9 : y_bd (qn, sn, cq, cs) (qn, sn, cq, cs) 4 1 := (y_bd.mono (y_bd.rf (a := 0) (b := 0)) (c := 4) (d := 1) (by omega) (by omega))
          have hb9 := hbd9.lin
          dsimp only at hb9
          refine vx_ret ?_
          refine y_know (fun hy91 hy92 hy93 hy94 => ?_)
          have hac9 : y_ac (cq + cs) s.heap.size (y_hs s.heap) (cq + cs) H := ⟨by omega, by omega⟩
          refine W.widen (k := (y_mx cq (2 * (qn + 4) + 12) - cq + (y_mx cs (2 * (sn + 1) + 12) - cs)) / 5 + 6) (n := 4 * (y_mx cq (2 * (qn + 4) + 12) - cq + (y_mx cs (2 * (sn + 1) + 12) - cs)) + 106) (by omega) (by omega) ?_
          exact W.vret hx hb hr (fun t ht hW => ⟨⟨((upd I 9 ((I 9) + 1)), T, A43, O, pl48, (qn, sn, cq, cs)), rfl, ⟨hmi, hbd9, (m_fr.rf.up (by decide) _), rfl⟩, (by dsimp only; rw [ht]; exact ⟨hP, hD, hac9⟩)⟩, hS.F ht⟩) hS.2.2 d_Machine_act_215
  · have hco9 := hpk2.2.2.2.2.1 (by decide)
    refine va_gets hx hb (hZ.2.2.1.narrow hAN) hS hown (hts _ k_785) (fun _ h9 => h9) d_Machine_act_15 ?_
    refine lv_aload_n hx hb d_Machine_act_18 rfl (lv_at hl 0 rfl) ?_
    refine d_gN (C := "ChannelMachine$Process") (F := F_Process) (N := 10) hx hb hts i_Process hown hK hP hf2 0 rfl (by decide) (hU.1.2.1 _ kn_391) (fun _ h9 => h9) (v := .ref (z (3 + 9))) rfl d_Machine_act_19 ?_
    have hFc := y_free hD hS hA
    refine va_calli (va_runU (As := []) (rest := [.ref (z 20)]) ⟨hx, hb, hml, hown, hts⟩ (c_E_ordinal l dC dI ar N0 z ad (upd I 9 ((I 9) + 1)) T A O pl G C Gs qn sn cq cs 9 H.size (y_hs H) hmi (by decide)) (va_cwU (owner := "java/lang/Enum") 0 hts (x_goodU k_786 k_487 k_489 k_490 k_15 k_491) rfl rfl rfl rfl (by decide +kernel) ⟨Nat.le_of_ble_eq_true rfl, Nat.le_of_ble_eq_true rfl⟩) ⟨y_blind, va_recvE (E := "ChannelMachine$Kind") (ad := fun i => z (3 + i)) (hZ.2.1.narrow hAN) (show 9 < 11 from by decide) hS, fun U9 hU9 hW9 => y_pre hU9 hW9 hP hD hU hZ hS hAN hN0⟩ rfl rfl hl.1 rfl (lv_room (Nat.le_of_ble_eq_true rfl)) d_Machine_act_22 ⟨(by show 0 + (0) ≤ (y_mx cq (2 * (qn + 4) + 12) - cq + (y_mx cs (2 * (sn + 1) + 12) - cs)) / 5 + 6; omega), (by show 0 + (0) ≤ 4 * (y_mx cq (2 * (qn + 4) + 12) - cq + (y_mx cs (2 * (sn + 1) + 12) - cs)) + 106; omega)⟩) hS (fun q _ h => hFc q h) hFc (fun r_49 u t H1 locs ht hvm hw hB hz1 hk1 hS => ?_)
    obtain ⟨I50, T50, A50, O50, pl50, q50, s50, cq50, cs50⟩ := u
    dsimp only at hw hB
    rw [ht] at hB
    obtain ⟨hP, hD1, hac50⟩ := hB
    have hD : va_D Bq (y_W ad ar I50 T50 A50 O50 pl50) := hD1.weaken (fun _ q _ h => hFc q.1 h)
    generalize H1 = H at hP hS hac50 ⊢
    have hae50 := hac50
    try unfold y_ac at hae50
    try dsimp only at hae50
    refine W.widen (k := 0) (n := 0) (by omega) (by omega) ?_
    obtain ⟨h9, hw⟩ := hw
    cases h9
    subst hw
    refine va_ti (t := z 20) (N := 11) (f := y_sw) (v := .int 3) hx hb (hZ.2.2.2.1.narrow hAN) hS (by unfold vp_in; decide) rfl d_Machine_act_25 ?_
    refine lv_tableIn (tgt := 195) hx hb d_Machine_act_26 (by decide) (by decide) (off := 169) rfl (by decide) ?_
    refine lv_aload_n hx hb d_Machine_act_195 rfl (lv_at hl 1 rfl) ?_
    refine lv_aload_n hx hb d_Machine_act_196 rfl (lv_at hl 2 rfl) ?_
    refine lv_aload_n hx hb d_Machine_act_197 rfl (lv_at hl 1 rfl) ?_
    refine lv_aload_n hx hb d_Machine_act_198 rfl (lv_at hl 0 rfl) ?_
    refine d_gN (C := "ChannelMachine$Process") (F := F_Process) (N := 10) hx hb hts i_Process hown hK hP hf2 7 rfl (by decide) (hU.1.2.1 _ kn_414) (fun _ h9 => h9) (v := .ref co2) rfl d_Machine_act_199 ?_
    refine y_know (fun hya1 hya2 hya3 hya4 => ?_)
    have hFc := y_free hD hS hA
    refine vx_calli (vx_runV (As := [.ref co2]) (rest := [.ref tt, .ref (ad 4)]) ⟨hx, hb, hml, hown, hts⟩ (c_M_evaluate l hst dC dI ar N0 z ad (upd I 9 ((I 9) + 1)) T A O pl G C Gs qn sn cq cs co2 H.size (y_hs H) hmi hco9) (cwV 1 hts (x_goodV k_791 k_793 kp_31 k_3 k_794) rfl rfl rfl (by decide +kernel) ⟨Nat.le_of_ble_eq_true rfl, Nat.le_of_ble_eq_true rfl⟩) ⟨y_blind, va_recv hK hP (ci := 2) (q0 := 4) rfl (y_W_ob (by decide) (by decide)), fun U9 hU9 hW9 => y_pre hU9 hW9 hP hD hU hZ hS hAN hN0⟩ rfl rfl hl.1 rfl (lv_room (Nat.le_of_ble_eq_true rfl)) d_Machine_act_202 ⟨(by show 0 + (1) ≤ (y_mx cq (2 * (qn + 4) + 12) - cq + (y_mx cs (2 * (sn + 1) + 12) - cs)) / 5 + 6; omega), (by show 0 + (6) ≤ 4 * (y_mx cq (2 * (qn + 4) + 12) - cq + (y_mx cs (2 * (sn + 1) + 12) - cs)) + 106; omega)⟩) hS (fun q _ h => hFc q h) hFc (fun q h1 h2 => hFc q h2) (fun E ce q9 u t H1 locs ht hvm hpx hbx hz1 hk1 hS hce hcv hcl => ?_) (fun r_51 u t H1 locs ht hvm hw hB hz1 hk1 hS => ?_)
    · obtain ⟨I52, T52, A52, O52, pl52, q52, s52, cq52, cs52⟩ := u
      dsimp only at hpx hbx
      rw [ht] at hbx
      obtain ⟨hP, hD1, hac52⟩ := hbx
      have hD : va_D Bq (y_W ad ar I52 T52 A52 O52 pl52) := hD1.weaken (fun _ q _ h => hFc q.1 h)
      generalize H1 = H at hP hS hac52 hce ⊢
      obtain ⟨hE, hac52⟩ := hac52
      obtain ⟨hmi, hbd52, fr52, h73⟩ := hpx
      have hb52 := hbd52
      unfold y_bd at hb52
      dsimp only at hb52
      unfold y_ac at hac52
      try dsimp only at hac52
      refine y_knowx (fun hy91 hy92 hy93 hy94 => ?_)
      have hac9 : y_ac (cq + cs) (s.heap.size + 1) (y_hs s.heap + 6) (cq52 + cs52) H := ⟨by omega, by omega⟩
      exact vx_out (fun x hx9 => (htb x hx9).elim) hlocks hce hcv hcl (fun t ht hvm => ⟨(I52, T52, A52, O52, pl52, (q52, s52, cq52, cs52)), ⟨hmi, (y_bd.tr hbd52 (y_bd.rf (a := 0) (b := 0)) (e := 4) (g := 1) (by decide) (by decide)), ((m_fr.rf.up (by decide) _).tr fr52 (by decide)), h73⟩, (by dsimp only; rw [ht]; exact ⟨hP, hD, hE, hac9⟩), hS.F ht⟩) hS.2.2 (by show 0 + (1) ≤ (y_mx cq (2 * (qn + 4) + 12) - cq + (y_mx cs (2 * (sn + 1) + 12) - cs)) / 5 + 6; omega) (by show 0 + (6) ≤ 4 * (y_mx cq (2 * (qn + 4) + 12) - cq + (y_mx cs (2 * (sn + 1) + 12) - cs)) + 106; omega)
    · obtain ⟨I53, T53, A53, O53, pl53, q53, s53, cq53, cs53⟩ := u
      dsimp only at hw hB
      rw [ht] at hB
      obtain ⟨hP, hD1, hac53⟩ := hB
      have hD : va_D Bq (y_W ad ar I53 T53 A53 O53 pl53) := hD1.weaken (fun _ q _ h => hFc q.1 h)
      generalize H1 = H at hP hS hac53 ⊢
      have hae53 := hac53
      try unfold y_ac at hae53
      try dsimp only at hae53
      obtain ⟨e1, e2, e3, e4, e5⟩ := hw
      cases e5
      rw [e1, e2, e3, e4] at hP hD
      unfold y_ac at hac53
      try dsimp only at hac53
      refine y_tight (k := 0) (n := 0) (by omega) (by omega) ?_
      have hgg54 := y_gg sn cs
      refine y_know (fun hya1 hya2 hya3 hya4 => ?_)
      have hFc := y_free hD hS hA
      refine va_callv (va_runV (As := [.ref tt, .int r_51]) (rest := []) ⟨hx, hb, hml, hown, hts⟩ (c_M_delay l dC dI ar N0 z ad (upd I 9 ((I 9) + 1)) T A53 O pl G C Gs qn sn cq cs tt (r_51) H.size (y_hs H) hmi htt (by omega)) (cwV 2 hts (x_goodV k_879 k_881 kp_45 k_3 k_882) rfl rfl rfl (by decide +kernel) ⟨Nat.le_of_ble_eq_true rfl, Nat.le_of_ble_eq_true rfl⟩) ⟨y_blind, va_recv hK hP (ci := 2) (q0 := 4) rfl (y_W_ob (by decide) (by decide)), fun U9 hU9 hW9 => y_pre hU9 hW9 hP hD hU hZ hS hAN hN0⟩ rfl rfl hl.1 rfl (lv_room (Nat.le_of_ble_eq_true rfl)) d_Machine_act_205 ⟨(by show 0 + (y_gc sn cs) ≤ (y_mx cq (2 * (qn + 4) + 12) - cq + (y_mx cs (2 * (sn + 1) + 12) - cs)) / 5 + 6; omega), (by show 0 + (y_gs sn cs) ≤ 4 * (y_mx cq (2 * (qn + 4) + 12) - cq + (y_mx cs (2 * (sn + 1) + 12) - cs)) + 106; omega)⟩) hS (fun q _ h => hFc q h) hFc (fun u t H1 locs ht hvm hw hB hz1 hk1 hS => ?_)
      obtain ⟨I55, T55, A55, O55, pl55, q55, s55, cq55, cs55⟩ := u
      dsimp only at hw hB
      rw [ht] at hB
      obtain ⟨hP, hD1, hac55⟩ := hB
      have hD : va_D Bq (y_W ad ar I55 T55 A55 O55 pl55) := hD1.weaken (fun _ q _ h => hFc q.1 h)
      generalize H1 = H at hP hS hac55 ⊢
      have hae55 := hac55
      try unfold y_ac at hae55
      try dsimp only at hae55
      obtain ⟨hmi, hbd55, fr55⟩ := hw
      unfold y_ac at hac55
      try dsimp only at hac55
      have hb55 := hbd55.lin
      dsimp only at hb55
      have hbo55 : y_bd (qn, sn, cq, cs) (q55, s55, cq55, cs55) 4 1 := (y_bd.mono (y_bd.tr (y_bd.rf (a := 0) (b := 0)) hbd55 (e := 0 + 0) (g := 0 + 1) (by omega) (by omega)) (c := 4) (d := 1) (by omega) (by omega))
      have hbo55 := hbo55.lin
      dsimp only at hbo55
      refine y_tight (k := (cq55 + cs55 - (cq + cs)) / 5) (n := 4 * (cq55 + cs55 - (cq + cs))) (by omega) (by omega) ?_
      refine lv_goto (tgt := 215) hx hb d_Machine_act_208 (by decide) ?_
      have hbd9 : y_bd (qn, sn, cq, cs) (q55, s55, cq55, cs55) 4 1 := (y_bd.mono (y_bd.tr (y_bd.rf (a := 0) (b := 0)) hbd55 (e := 0 + 0) (g := 0 + 1) (by omega) (by omega)) (c := 4) (d := 1) (by omega) (by omega))
      have hb9 := hbd9.lin
      dsimp only at hb9
      refine vx_ret ?_
      refine y_know (fun hy91 hy92 hy93 hy94 => ?_)
      have hac9 : y_ac (cq + cs) s.heap.size (y_hs s.heap) (cq55 + cs55) H := ⟨by omega, by omega⟩
      refine W.widen (k := (y_mx cq (2 * (qn + 4) + 12) - cq + (y_mx cs (2 * (sn + 1) + 12) - cs)) / 5 + 6) (n := 4 * (y_mx cq (2 * (qn + 4) + 12) - cq + (y_mx cs (2 * (sn + 1) + 12) - cs)) + 106) (by omega) (by omega) ?_
      exact W.vret hx hb hr (fun t ht hW => ⟨⟨(I55, T55, A55, O55, pl55, (q55, s55, cq55, cs55)), rfl, ⟨hmi, hbd9, ((m_fr.rf.up (by decide) _).tr fr55 (by decide)), ((fr55 9 (by decide)).trans rfl)⟩, (by dsimp only; rw [ht]; exact ⟨hP, hD, hac9⟩)⟩, hS.F ht⟩) hS.2.2 d_Machine_act_215
  · refine va_gets hx hb (hZ.2.2.1.narrow hAN) hS hown (hts _ k_785) (fun _ h9 => h9) d_Machine_act_15 ?_
    refine lv_aload_n hx hb d_Machine_act_18 rfl (lv_at hl 0 rfl) ?_
    refine d_gN (C := "ChannelMachine$Process") (F := F_Process) (N := 10) hx hb hts i_Process hown hK hP hf2 0 rfl (by decide) (hU.1.2.1 _ kn_391) (fun _ h9 => h9) (v := .ref (z (3 + 10))) rfl d_Machine_act_19 ?_
    have hFc := y_free hD hS hA
    refine va_calli (va_runU (As := []) (rest := [.ref (z 20)]) ⟨hx, hb, hml, hown, hts⟩ (c_E_ordinal l dC dI ar N0 z ad (upd I 9 ((I 9) + 1)) T A O pl G C Gs qn sn cq cs 10 H.size (y_hs H) hmi (by decide)) (va_cwU (owner := "java/lang/Enum") 0 hts (x_goodU k_786 k_487 k_489 k_490 k_15 k_491) rfl rfl rfl rfl (by decide +kernel) ⟨Nat.le_of_ble_eq_true rfl, Nat.le_of_ble_eq_true rfl⟩) ⟨y_blind, va_recvE (E := "ChannelMachine$Kind") (ad := fun i => z (3 + i)) (hZ.2.1.narrow hAN) (show 10 < 11 from by decide) hS, fun U9 hU9 hW9 => y_pre hU9 hW9 hP hD hU hZ hS hAN hN0⟩ rfl rfl hl.1 rfl (lv_room (Nat.le_of_ble_eq_true rfl)) d_Machine_act_22 ⟨(by show 0 + (0) ≤ (y_mx cq (2 * (qn + 4) + 12) - cq + (y_mx cs (2 * (sn + 1) + 12) - cs)) / 5 + 6; omega), (by show 0 + (0) ≤ 4 * (y_mx cq (2 * (qn + 4) + 12) - cq + (y_mx cs (2 * (sn + 1) + 12) - cs)) + 106; omega)⟩) hS (fun q _ h => hFc q h) hFc (fun r_56 u t H1 locs ht hvm hw hB hz1 hk1 hS => ?_)
    obtain ⟨I57, T57, A57, O57, pl57, q57, s57, cq57, cs57⟩ := u
    dsimp only at hw hB
    rw [ht] at hB
    obtain ⟨hP, hD1, hac57⟩ := hB
    have hD : va_D Bq (y_W ad ar I57 T57 A57 O57 pl57) := hD1.weaken (fun _ q _ h => hFc q.1 h)
    generalize H1 = H at hP hS hac57 ⊢
    have hae57 := hac57
    try unfold y_ac at hae57
    try dsimp only at hae57
    refine W.widen (k := 0) (n := 0) (by omega) (by omega) ?_
    obtain ⟨h9, hw⟩ := hw
    cases h9
    subst hw
    refine va_ti (t := z 20) (N := 11) (f := y_sw) (v := .int 7) hx hb (hZ.2.2.2.1.narrow hAN) hS (by unfold vp_in; decide) rfl d_Machine_act_25 ?_
    refine lv_tableIn (tgt := 186) hx hb d_Machine_act_26 (by decide) (by decide) (off := 160) rfl (by decide) ?_
    refine lv_aload_n hx hb d_Machine_act_186 rfl (lv_at hl 1 rfl) ?_
    refine lv_aload_n hx hb d_Machine_act_187 rfl (lv_at hl 2 rfl) ?_
    refine lv_aload_n hx hb d_Machine_act_188 rfl (lv_at hl 0 rfl) ?_
    have hgg58 := y_gg qn cq
    refine y_know (fun hya1 hya2 hya3 hya4 => ?_)
    have hFc := y_free hD hS hA
    refine vx_callv (vx_runV (As := [.ref tt, .ref a1]) (rest := []) ⟨hx, hb, hml, hown, hts⟩ (c_M_choose l hst dC dI ar N0 z ad (upd I 9 ((I 9) + 1)) T A O pl G C Gs qn sn cq cs tt a1 H.size (y_hs H) hmi htt ha1 (by omega)) (cwV 2 hts (x_goodV k_871 k_873 kp_43 k_3 k_874) rfl rfl rfl (by decide +kernel) ⟨Nat.le_of_ble_eq_true rfl, Nat.le_of_ble_eq_true rfl⟩) ⟨y_blind, va_recv hK hP (ci := 2) (q0 := 4) rfl (y_W_ob (by decide) (by decide)), fun U9 hU9 hW9 => y_pre hU9 hW9 hP hD hU hZ hS hAN hN0⟩ rfl rfl hl.1 rfl (lv_room (Nat.le_of_ble_eq_true rfl)) d_Machine_act_189 ⟨(by show 0 + (y_gc qn cq + 1) ≤ (y_mx cq (2 * (qn + 4) + 12) - cq + (y_mx cs (2 * (sn + 1) + 12) - cs)) / 5 + 6; omega), (by show 0 + (y_gs qn cq + 6) ≤ 4 * (y_mx cq (2 * (qn + 4) + 12) - cq + (y_mx cs (2 * (sn + 1) + 12) - cs)) + 106; omega)⟩) hS (fun q _ h => hFc q h) hFc (fun q h1 h2 => hFc q h2) (fun E ce q9 u t H1 locs ht hvm hpx hbx hz1 hk1 hS hce hcv hcl => ?_) (fun u t H1 locs ht hvm hw hB hz1 hk1 hS => ?_)
    · obtain ⟨I59, T59, A59, O59, pl59, q59, s59, cq59, cs59⟩ := u
      dsimp only at hpx hbx
      rw [ht] at hbx
      obtain ⟨hP, hD1, hac59⟩ := hbx
      have hD : va_D Bq (y_W ad ar I59 T59 A59 O59 pl59) := hD1.weaken (fun _ q _ h => hFc q.1 h)
      generalize H1 = H at hP hS hac59 hce ⊢
      obtain ⟨hE, hac59⟩ := hac59
      obtain ⟨hmi, hbd59, fr59, h73⟩ := hpx
      have hb59 := hbd59
      unfold y_bd at hb59
      dsimp only at hb59
      unfold y_ac at hac59
      try dsimp only at hac59
      refine y_knowx (fun hy91 hy92 hy93 hy94 => ?_)
      have hac9 : y_ac (cq + cs) (s.heap.size + 1) (y_hs s.heap + 6) (cq59 + cs59) H := ⟨by omega, by omega⟩
      exact vx_out (fun x hx9 => (htb x hx9).elim) hlocks hce hcv hcl (fun t ht hvm => ⟨(I59, T59, A59, O59, pl59, (q59, s59, cq59, cs59)), ⟨hmi, (y_bd.tr hbd59 (y_bd.rf (a := 0) (b := 0)) (e := 4) (g := 1) (by decide) (by decide)), ((m_fr.rf.up (by decide) _).tr fr59 (by decide)), h73⟩, (by dsimp only; rw [ht]; exact ⟨hP, hD, hE, hac9⟩), hS.F ht⟩) hS.2.2 (by show 0 + (y_gc qn cq + 1) ≤ (y_mx cq (2 * (qn + 4) + 12) - cq + (y_mx cs (2 * (sn + 1) + 12) - cs)) / 5 + 6; omega) (by show 0 + (y_gs qn cq + 6) ≤ 4 * (y_mx cq (2 * (qn + 4) + 12) - cq + (y_mx cs (2 * (sn + 1) + 12) - cs)) + 106; omega)
    · obtain ⟨I60, T60, A60, O60, pl60, q60, s60, cq60, cs60⟩ := u
      dsimp only at hw hB
      rw [ht] at hB
      obtain ⟨hP, hD1, hac60⟩ := hB
      have hD : va_D Bq (y_W ad ar I60 T60 A60 O60 pl60) := hD1.weaken (fun _ q _ h => hFc q.1 h)
      generalize H1 = H at hP hS hac60 ⊢
      have hae60 := hac60
      try unfold y_ac at hae60
      try dsimp only at hae60
      obtain ⟨hmi, hbd60, fr60⟩ := hw
      unfold y_ac at hac60
      try dsimp only at hac60
      have hb60 := hbd60.lin
      dsimp only at hb60
      have hbo60 : y_bd (qn, sn, cq, cs) (q60, s60, cq60, cs60) 4 1 := (y_bd.mono (y_bd.tr (y_bd.rf (a := 0) (b := 0)) hbd60 (e := 0 + 1) (g := 0 + 0) (by omega) (by omega)) (c := 4) (d := 1) (by omega) (by omega))
      have hbo60 := hbo60.lin
      dsimp only at hbo60
      refine y_tight (k := (cq60 + cs60 - (cq + cs)) / 5) (n := 4 * (cq60 + cs60 - (cq + cs))) (by omega) (by omega) ?_
      refine lv_goto (tgt := 215) hx hb d_Machine_act_192 (by decide) ?_
      have hbd9 : y_bd (qn, sn, cq, cs) (q60, s60, cq60, cs60) 4 1 := (y_bd.mono (y_bd.tr (y_bd.rf (a := 0) (b := 0)) hbd60 (e := 0 + 1) (g := 0 + 0) (by omega) (by omega)) (c := 4) (d := 1) (by omega) (by omega))
      have hb9 := hbd9.lin
      dsimp only at hb9
      refine vx_ret ?_
      refine y_know (fun hy91 hy92 hy93 hy94 => ?_)
      have hac9 : y_ac (cq + cs) s.heap.size (y_hs s.heap) (cq60 + cs60) H := ⟨by omega, by omega⟩
      refine W.widen (k := (y_mx cq (2 * (qn + 4) + 12) - cq + (y_mx cs (2 * (sn + 1) + 12) - cs)) / 5 + 6) (n := 4 * (y_mx cq (2 * (qn + 4) + 12) - cq + (y_mx cs (2 * (sn + 1) + 12) - cs)) + 106) (by omega) (by omega) ?_
      exact W.vret hx hb hr (fun t ht hW => ⟨⟨(I60, T60, A60, O60, pl60, (q60, s60, cq60, cs60)), rfl, ⟨hmi, hbd9, ((m_fr.rf.up (by decide) _).tr fr60 (by decide)), ((fr60 9 (by decide)).trans rfl)⟩, (by dsimp only; rw [ht]; exact ⟨hP, hD, hac9⟩)⟩, hS.F ht⟩) hS.2.2 d_Machine_act_215
