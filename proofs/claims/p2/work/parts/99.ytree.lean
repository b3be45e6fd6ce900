-- ===== 99.ytree: parts and guards, by program =====
theorem k_23 : (Jvm.Cond.initialized "ChannelMachine$Guard") ∈ x_T := x_at 23 (by decide +kernel) (by decide +kernel)
theorem k_332 : (Jvm.Cond.instanceMethod ({ cls := "ChannelMachine$Reader", name := "process", desc := "(LChannelMachine$Process;IZ)Z" } : Jvm.MethodName)) ∈ x_T := x_at 332 (by decide +kernel) (by decide +kernel)
theorem k_333 : (Jvm.Cond.code ({ cls := "ChannelMachine$Reader", name := "process", desc := "(LChannelMachine$Process;IZ)Z" } : Jvm.MethodName) prog_8_method_13_code (5 : Nat) (Option.some Jvm.ClassFile.FieldType.boolean)) ∈ x_T := x_at 333 (by decide +kernel) (by decide +kernel)
theorem k_554 : (Jvm.Cond.methodLink "ChannelMachine$Reader" (185 : Nat) ({ cls := "ChannelMachine$Reader", name := "isClosing", desc := "(C)Z" } : Jvm.MethodName)) ∈ x_T := x_at 554 (by decide +kernel) (by decide +kernel)
theorem k_555 : (Jvm.Cond.static ({ cls := "ChannelMachine$Reader", name := "isClosing", desc := "(C)Z" } : Jvm.MethodName)) ∈ x_T := x_at 555 (by decide +kernel) (by decide +kernel)
theorem k_556 : (Jvm.Cond.code ({ cls := "ChannelMachine$Reader", name := "isClosing", desc := "(C)Z" } : Jvm.MethodName) prog_8_method_17_code (1 : Nat) (Option.some Jvm.ClassFile.FieldType.boolean)) ∈ x_T := x_at 556 (by decide +kernel) (by decide +kernel)
theorem k_557 : (Jvm.Cond.methodLink "ChannelMachine$Reader" (109 : Nat) ({ cls := "ChannelMachine$Reader", name := "process", desc := "(LChannelMachine$Process;IZ)Z" } : Jvm.MethodName)) ∈ x_T := x_at 557 (by decide +kernel) (by decide +kernel)
theorem k_562 : (Jvm.Cond.classLink "ChannelMachine$Reader" (188 : Nat) "ChannelMachine$Guard") ∈ x_T := x_at 562 (by decide +kernel) (by decide +kernel)
theorem k_563 : (Jvm.Cond.instantiable "ChannelMachine$Guard" (6 : Nat)) ∈ x_T := x_at 563 (by decide +kernel) (by decide +kernel)
theorem k_565 : (Jvm.Cond.instanceMethod ({ cls := "ChannelMachine$Guard", name := "<init>", desc := "()V" } : Jvm.MethodName)) ∈ x_T := x_at 565 (by decide +kernel) (by decide +kernel)
theorem k_566 : (Jvm.Cond.code ({ cls := "ChannelMachine$Guard", name := "<init>", desc := "()V" } : Jvm.MethodName) prog_4_method_1_code (1 : Nat) (Option.none : Option Jvm.ClassFile.FieldType)) ∈ x_T := x_at 566 (by decide +kernel) (by decide +kernel)
theorem k_599 : (Jvm.Cond.methodLink "ChannelMachine$Reader" (199 : Nat) ({ cls := "ChannelMachine$Reader", name := "guardInput", desc := "(LChannelMachine$Guard;)Z" } : Jvm.MethodName)) ∈ x_T := x_at 599 (by decide +kernel) (by decide +kernel)
theorem k_601 : (Jvm.Cond.instanceMethod ({ cls := "ChannelMachine$Reader", name := "guardInput", desc := "(LChannelMachine$Guard;)Z" } : Jvm.MethodName)) ∈ x_T := x_at 601 (by decide +kernel) (by decide +kernel)
theorem k_602 : (Jvm.Cond.code ({ cls := "ChannelMachine$Reader", name := "guardInput", desc := "(LChannelMachine$Guard;)Z" } : Jvm.MethodName) prog_8_method_20_code (3 : Nat) (Option.some Jvm.ClassFile.FieldType.boolean)) ∈ x_T := x_at 602 (by decide +kernel) (by decide +kernel)
theorem kn_411 : (Jvm.Cond.fieldLinkNest "ChannelMachine$Reader" (206 : Nat) "ChannelMachine$Process" "guards" "LChannelMachine$Guard;" "ChannelMachine") ∈ x_nest := x_nest_at 411 (by decide +kernel) (by decide +kernel)
theorem kn_564 : (Jvm.Cond.methodLinkNest "ChannelMachine$Reader" (190 : Nat) ({ cls := "ChannelMachine$Guard", name := "<init>", desc := "()V" } : Jvm.MethodName) "ChannelMachine") ∈ x_nest := x_nest_at 564 (by decide +kernel) (by decide +kernel)
theorem kn_570 : (Jvm.Cond.fieldLinkNest "ChannelMachine$Reader" (198 : Nat) "ChannelMachine$Guard" "code" "[I" "ChannelMachine") ∈ x_nest := x_nest_at 570 (by decide +kernel) (by decide +kernel)
theorem kn_579 : (Jvm.Cond.fieldLinkNest "ChannelMachine$Reader" (203 : Nat) "ChannelMachine$Guard" "follow" "LChannelMachine$Process;" "ChannelMachine") ∈ x_nest := x_nest_at 579 (by decide +kernel) (by decide +kernel)
theorem kn_582 : (Jvm.Cond.fieldLinkNest "ChannelMachine$Reader" (209 : Nat) "ChannelMachine$Guard" "next" "LChannelMachine$Guard;" "ChannelMachine") ∈ x_nest := x_nest_at 582 (by decide +kernel) (by decide +kernel)
theorem kp_1 : (Jvm.Cond.selects "ChannelMachine$Reader" ({ cls := "ChannelMachine$Reader", name := "process", desc := "(LChannelMachine$Process;IZ)Z" } : Jvm.MethodName) ({ cls := "ChannelMachine$Reader", name := "process", desc := "(LChannelMachine$Process;IZ)Z" } : Jvm.MethodName)) ∈ x_T := x_sel (q := (({ cls := "ChannelMachine$Reader", name := "process", desc := "(LChannelMachine$Process;IZ)Z" } : Jvm.MethodName), 9)) 1 (by decide +kernel) (by decide +kernel)
theorem kp_18 : (Jvm.Cond.selects "ChannelMachine$Reader" ({ cls := "ChannelMachine$Reader", name := "guardInput", desc := "(LChannelMachine$Guard;)Z" } : Jvm.MethodName) ({ cls := "ChannelMachine$Reader", name := "guardInput", desc := "(LChannelMachine$Guard;)Z" } : Jvm.MethodName)) ∈ x_T := x_sel (q := (({ cls := "ChannelMachine$Reader", name := "guardInput", desc := "(LChannelMachine$Guard;)Z" } : Jvm.MethodName), 9)) 18 (by decide +kernel) (by decide +kernel)
theorem d_Reader_parts_0 : decode prog_8_method_18_code 0 = .ok (.iconst 0, 1) := by decide +kernel
theorem d_Reader_parts_1 : decode prog_8_method_18_code 1 = .ok (.istore 4, 2) := by decide +kernel
theorem d_Reader_parts_3 : decode prog_8_method_18_code 3 = .ok (.iload 4, 2) := by decide +kernel
theorem d_Reader_parts_5 : decode prog_8_method_18_code 5 = .ok (.iload_n 3, 1) := by decide +kernel
theorem d_Reader_parts_6 : decode prog_8_method_18_code 6 = .ok (.if_icmp .ge 33, 3) := by decide +kernel
theorem d_Reader_parts_9 : decode prog_8_method_18_code 9 = .ok (.aload_n 0, 1) := by decide +kernel
theorem d_Reader_parts_10 : decode prog_8_method_18_code 10 = .ok (.invokevirtual 52, 3) := by decide +kernel
theorem d_Reader_parts_13 : decode prog_8_method_18_code 13 = .ok (.invokestatic 185, 3) := by decide +kernel
theorem d_Reader_parts_16 : decode prog_8_method_18_code 16 = .ok (.ifCond .ne 23, 3) := by decide +kernel
theorem d_Reader_parts_19 : decode prog_8_method_18_code 19 = .ok (.aload_n 0, 1) := by decide +kernel
theorem d_Reader_parts_20 : decode prog_8_method_18_code 20 = .ok (.aload_n 1, 1) := by decide +kernel
theorem d_Reader_parts_21 : decode prog_8_method_18_code 21 = .ok (.iload_n 2, 1) := by decide +kernel
theorem d_Reader_parts_22 : decode prog_8_method_18_code 22 = .ok (.iconst 1, 1) := by decide +kernel
theorem d_Reader_parts_23 : decode prog_8_method_18_code 23 = .ok (.iadd, 1) := by decide +kernel
theorem d_Reader_parts_24 : decode prog_8_method_18_code 24 = .ok (.iconst 0, 1) := by decide +kernel
theorem d_Reader_parts_25 : decode prog_8_method_18_code 25 = .ok (.invokevirtual 109, 3) := by decide +kernel
theorem d_Reader_parts_28 : decode prog_8_method_18_code 28 = .ok (.ifCond .ne 5, 3) := by decide +kernel
theorem d_Reader_parts_31 : decode prog_8_method_18_code 31 = .ok (.iconst 0, 1) := by decide +kernel
theorem d_Reader_parts_32 : decode prog_8_method_18_code 32 = .ok (.ireturn, 1) := by decide +kernel
theorem d_Reader_parts_33 : decode prog_8_method_18_code 33 = .ok (.iinc 4 1, 3) := by decide +kernel
theorem d_Reader_parts_36 : decode prog_8_method_18_code 36 = .ok (.goto (-33), 3) := by decide +kernel
theorem d_Reader_parts_39 : decode prog_8_method_18_code 39 = .ok (.iconst 1, 1) := by decide +kernel
theorem d_Reader_parts_40 : decode prog_8_method_18_code 40 = .ok (.ireturn, 1) := by decide +kernel
theorem d_Reader_guards_0 : decode prog_8_method_19_code 0 = .ok (.iload_n 2, 1) := by decide +kernel
theorem d_Reader_guards_1 : decode prog_8_method_19_code 1 = .ok (.bipush 7, 2) := by decide +kernel
theorem d_Reader_guards_3 : decode prog_8_method_19_code 3 = .ok (.if_icmp .ge 7, 3) := by decide +kernel
theorem d_Reader_guards_6 : decode prog_8_method_19_code 6 = .ok (.iconst 4, 1) := by decide +kernel
theorem d_Reader_guards_7 : decode prog_8_method_19_code 7 = .ok (.goto 4, 3) := by decide +kernel
theorem d_Reader_guards_10 : decode prog_8_method_19_code 10 = .ok (.iconst 0, 1) := by decide +kernel
theorem d_Reader_guards_11 : decode prog_8_method_19_code 11 = .ok (.istore_n 3, 1) := by decide +kernel
theorem d_Reader_guards_12 : decode prog_8_method_19_code 12 = .ok (.aconst_null, 1) := by decide +kernel
theorem d_Reader_guards_13 : decode prog_8_method_19_code 13 = .ok (.astore 4, 2) := by decide +kernel
theorem d_Reader_guards_15 : decode prog_8_method_19_code 15 = .ok (.iconst 1, 1) := by decide +kernel
theorem d_Reader_guards_16 : decode prog_8_method_19_code 16 = .ok (.istore 5, 2) := by decide +kernel
theorem d_Reader_guards_18 : decode prog_8_method_19_code 18 = .ok (.iload 5, 2) := by decide +kernel
theorem d_Reader_guards_20 : decode prog_8_method_19_code 20 = .ok (.iload_n 3, 1) := by decide +kernel
theorem d_Reader_guards_21 : decode prog_8_method_19_code 21 = .ok (.if_icmp .gt 131, 3) := by decide +kernel
theorem d_Reader_guards_24 : decode prog_8_method_19_code 24 = .ok (.aload_n 0, 1) := by decide +kernel
theorem d_Reader_guards_25 : decode prog_8_method_19_code 25 = .ok (.invokevirtual 52, 3) := by decide +kernel
theorem d_Reader_guards_28 : decode prog_8_method_19_code 28 = .ok (.invokestatic 185, 3) := by decide +kernel
theorem d_Reader_guards_31 : decode prog_8_method_19_code 31 = .ok (.ifCond .ne 121, 3) := by decide +kernel
theorem d_Reader_guards_34 : decode prog_8_method_19_code 34 = .ok (.new 188, 3) := by decide +kernel
theorem d_Reader_guards_37 : decode prog_8_method_19_code 37 = .ok (.dup, 1) := by decide +kernel
theorem d_Reader_guards_38 : decode prog_8_method_19_code 38 = .ok (.invokespecial 190, 3) := by decide +kernel
theorem d_Reader_guards_41 : decode prog_8_method_19_code 41 = .ok (.astore 6, 2) := by decide +kernel
theorem d_Reader_guards_43 : decode prog_8_method_19_code 43 = .ok (.aload_n 0, 1) := by decide +kernel
theorem d_Reader_guards_44 : decode prog_8_method_19_code 44 = .ok (.invokevirtual 191, 3) := by decide +kernel
theorem d_Reader_guards_47 : decode prog_8_method_19_code 47 = .ok (.ifCond .ne 5, 3) := by decide +kernel
theorem d_Reader_guards_50 : decode prog_8_method_19_code 50 = .ok (.iconst 0, 1) := by decide +kernel
theorem d_Reader_guards_51 : decode prog_8_method_19_code 51 = .ok (.ireturn, 1) := by decide +kernel
theorem d_Reader_guards_52 : decode prog_8_method_19_code 52 = .ok (.aload 6, 2) := by decide +kernel
theorem d_Reader_guards_54 : decode prog_8_method_19_code 54 = .ok (.aload_n 0, 1) := by decide +kernel
theorem d_Reader_guards_55 : decode prog_8_method_19_code 55 = .ok (.invokevirtual 194, 3) := by decide +kernel
theorem d_Reader_guards_58 : decode prog_8_method_19_code 58 = .ok (.putfield 198, 3) := by decide +kernel
theorem d_Reader_guards_61 : decode prog_8_method_19_code 61 = .ok (.aload_n 0, 1) := by decide +kernel
theorem d_Reader_guards_62 : decode prog_8_method_19_code 62 = .ok (.bipush 38, 2) := by decide +kernel
theorem d_Reader_guards_64 : decode prog_8_method_19_code 64 = .ok (.invokevirtual 56, 3) := by decide +kernel
theorem d_Reader_guards_67 : decode prog_8_method_19_code 67 = .ok (.ifCond .eq 43, 3) := by decide +kernel
theorem d_Reader_guards_70 : decode prog_8_method_19_code 70 = .ok (.aload_n 0, 1) := by decide +kernel
theorem d_Reader_guards_71 : decode prog_8_method_19_code 71 = .ok (.aload 6, 2) := by decide +kernel
theorem d_Reader_guards_73 : decode prog_8_method_19_code 73 = .ok (.invokevirtual 199, 3) := by decide +kernel
theorem d_Reader_guards_76 : decode prog_8_method_19_code 76 = .ok (.ifCond .eq 34, 3) := by decide +kernel
theorem d_Reader_guards_79 : decode prog_8_method_19_code 79 = .ok (.aload_n 0, 1) := by decide +kernel
theorem d_Reader_guards_80 : decode prog_8_method_19_code 80 = .ok (.bipush 44, 2) := by decide +kernel
theorem d_Reader_guards_82 : decode prog_8_method_19_code 82 = .ok (.invokevirtual 56, 3) := by decide +kernel
theorem d_Reader_guards_85 : decode prog_8_method_19_code 85 = .ok (.ifCond .eq 25, 3) := by decide +kernel
theorem d_Reader_guards_88 : decode prog_8_method_19_code 88 = .ok (.aload_n 0, 1) := by decide +kernel
theorem d_Reader_guards_89 : decode prog_8_method_19_code 89 = .ok (.aload_n 1, 1) := by decide +kernel
theorem d_Reader_guards_90 : decode prog_8_method_19_code 90 = .ok (.iload_n 2, 1) := by decide +kernel
theorem d_Reader_guards_91 : decode prog_8_method_19_code 91 = .ok (.iconst 1, 1) := by decide +kernel
theorem d_Reader_guards_92 : decode prog_8_method_19_code 92 = .ok (.iadd, 1) := by decide +kernel
theorem d_Reader_guards_93 : decode prog_8_method_19_code 93 = .ok (.iload 5, 2) := by decide +kernel
theorem d_Reader_guards_95 : decode prog_8_method_19_code 95 = .ok (.iload_n 3, 1) := by decide +kernel
theorem d_Reader_guards_96 : decode prog_8_method_19_code 96 = .ok (.if_icmp .ge 7, 3) := by decide +kernel
theorem d_Reader_guards_99 : decode prog_8_method_19_code 99 = .ok (.iconst 1, 1) := by decide +kernel
theorem d_Reader_guards_100 : decode prog_8_method_19_code 100 = .ok (.goto 4, 3) := by decide +kernel
theorem d_Reader_guards_103 : decode prog_8_method_19_code 103 = .ok (.iconst 0, 1) := by decide +kernel
theorem d_Reader_guards_104 : decode prog_8_method_19_code 104 = .ok (.invokevirtual 109, 3) := by decide +kernel
theorem d_Reader_guards_107 : decode prog_8_method_19_code 107 = .ok (.ifCond .ne 5, 3) := by decide +kernel
theorem d_Reader_guards_110 : decode prog_8_method_19_code 110 = .ok (.iconst 0, 1) := by decide +kernel
theorem d_Reader_guards_111 : decode prog_8_method_19_code 111 = .ok (.ireturn, 1) := by decide +kernel
theorem d_Reader_guards_112 : decode prog_8_method_19_code 112 = .ok (.aload 6, 2) := by decide +kernel
theorem d_Reader_guards_114 : decode prog_8_method_19_code 114 = .ok (.aload_n 1, 1) := by decide +kernel
theorem d_Reader_guards_115 : decode prog_8_method_19_code 115 = .ok (.getfield 176, 3) := by decide +kernel
theorem d_Reader_guards_118 : decode prog_8_method_19_code 118 = .ok (.putfield 203, 3) := by decide +kernel
theorem d_Reader_guards_121 : decode prog_8_method_19_code 121 = .ok (.aload 4, 2) := by decide +kernel
theorem d_Reader_guards_123 : decode prog_8_method_19_code 123 = .ok (.ifnonnull 12, 3) := by decide +kernel
theorem d_Reader_guards_126 : decode prog_8_method_19_code 126 = .ok (.aload_n 1, 1) := by decide +kernel
theorem d_Reader_guards_127 : decode prog_8_method_19_code 127 = .ok (.aload 6, 2) := by decide +kernel
theorem d_Reader_guards_129 : decode prog_8_method_19_code 129 = .ok (.putfield 206, 3) := by decide +kernel
theorem d_Reader_guards_132 : decode prog_8_method_19_code 132 = .ok (.goto 10, 3) := by decide +kernel
theorem d_Reader_guards_135 : decode prog_8_method_19_code 135 = .ok (.aload 4, 2) := by decide +kernel
theorem d_Reader_guards_137 : decode prog_8_method_19_code 137 = .ok (.aload 6, 2) := by decide +kernel
theorem d_Reader_guards_139 : decode prog_8_method_19_code 139 = .ok (.putfield 209, 3) := by decide +kernel
theorem d_Reader_guards_142 : decode prog_8_method_19_code 142 = .ok (.aload 6, 2) := by decide +kernel
theorem d_Reader_guards_144 : decode prog_8_method_19_code 144 = .ok (.astore 4, 2) := by decide +kernel
theorem d_Reader_guards_146 : decode prog_8_method_19_code 146 = .ok (.iinc 5 1, 3) := by decide +kernel
theorem d_Reader_guards_149 : decode prog_8_method_19_code 149 = .ok (.goto (-131), 3) := by decide +kernel
theorem d_Reader_guards_152 : decode prog_8_method_19_code 152 = .ok (.iconst 1, 1) := by decide +kernel
theorem d_Reader_guards_153 : decode prog_8_method_19_code 153 = .ok (.ireturn, 1) := by decide +kernel
/-- the room that reading took, against what was read -/
def y_rc (sz w0 aa a1 sl : Nat) (H : Heap) : Prop := y_hs H + 100 * aa ≤ w0 + 100 * a1 + 80 * sl ∧ H.size + 3 * aa ≤ sz + 3 * a1 + 2 * sl
set_option maxHeartbeats 4000000 in
set_option maxRecDepth 100000 in
theorem st_T (nn : Nat) (ihP : ∀ (l : Launch) (dC : Nat → ClassId) (dI : Nat → Nat → Nat) (ar : Nat → ClassId) (N0 : Nat) (z : Nat → Nat) (ad : Nat → Nat) (I : Nat → Int32) (T : Int64) (A : Nat → Nat → Int32) (O : Nat → Option Nat) (pl : va_W) (ln cl aa : Nat) (f0 : Nat → Option va_E) (G J : Nat → Nat) (C Gs : Nat → List Nat) (S : Nat → Nat) (par : Option Nat) (dp : Nat) (gv : Int32) (sz w0 : Nat) (hmi : y_RD I A (ln, cl, ln, aa)) (hdx : y_DX z ar f0 G J C Gs S (y_L pl)) (hpar : ∀ P, par = some P → G P = 7 ∧ (J P = 6 → (C P).length < 4)) (hdp : 1 ≤ dp ∧ dp ≤ 8) (hrk : 8 - dp < nn) , Met l ({ cls := "ChannelMachine$Reader", name := "process", desc := "(LChannelMachine$Process;IZ)Z" } : Jvm.MethodName) ((Jvm.Cond.code ({ cls := "ChannelMachine$Reader", name := "process", desc := "(LChannelMachine$Process;IZ)Z" } : Jvm.MethodName) prog_8_method_13_code (5 : Nat) (Option.some Jvm.ClassFile.FieldType.boolean)) :: x_T) ({ frames := 2 * nn + 40, cells := 3 * (72 - aa) + 2, slots := 100 * (72 - aa) + 80, locals := 100 * nn + 1400 }) (y_Pc (dC, dI) ar N0 z (y_W ad ar I T A O pl) sz w0 [.ref (ad 1), va_rf par, .int (Int32.ofNat dp), .int gv]) (va_Qi (fun (r : Int32) (u : (Nat → Int32) × Int64 × (Nat → Nat → Int32) × (Nat → Option Nat) × va_W × (Nat × Nat × Nat × Nat)) => y_RD u.1 u.2.2.1 (ln, u.2.2.2.2.2.2.1, ln, u.2.2.2.2.2.2.2.2) ∧ u.2.1 = T ∧ (∀ k, (k ≠ 0 ∨ par ≠ none) → u.2.2.2.1 k = O k) ∧ m_fr [2, 3, 4, 5, 6] I u.1 ∧ aa ≤ u.2.2.2.2.2.2.2.2 ∧ ((r = 0 ∧ u.2.2.2.2.2.2.2.1 ≤ 1 ∧ ∀ a, f0 a ≠ none → y_L u.2.2.2.2.1 a = f0 a) ∨ (r = 1 ∧ u.2.2.2.2.2.2.2.1 = 0 ∧ ∃ p, y_SU z ar f0 (y_L pl) G J C Gs S par p (y_L u.2.2.2.2.1) ∧ (par = none → u.2.2.2.1 0 = some p)))) (fun u t => va_P (dC, dI) y_cl (y_W ad ar u.1 u.2.1 u.2.2.1 u.2.2.2.1 u.2.2.2.2.1) t.heap ∧ va_D (va_A (y_W ad ar I T A O pl) sz) (y_W ad ar u.1 u.2.1 u.2.2.1 u.2.2.2.1 u.2.2.2.2.1) ∧ y_rc sz w0 aa u.2.2.2.2.2.2.2.2 u.2.2.2.2.2.2.2.1 t.heap) (va_A (y_W ad ar I T A O pl) sz)) (3 * (72 - aa) + 2) (100 * (72 - aa) + 80) (va_A (y_W ad ar I T A O pl) sz)) (l : Launch) (dC : Nat → ClassId) (dI : Nat → Nat → Nat) (ar : Nat → ClassId) (N0 : Nat) (z : Nat → Nat) (ad : Nat → Nat) (I : Nat → Int32) (T : Int64) (A : Nat → Nat → Int32) (O : Nat → Option Nat) (pl : va_W) (ln cl aa : Nat) (f0 : Nat → Option va_E) (G J : Nat → Nat) (C Gs : Nat → List Nat) (S : Nat → Nat) (P dp mo : Nat) (sz w0 : Nat) (hmi : y_RD I A (ln, cl, ln, aa)) (hdx : y_DX z ar f0 G J C Gs S (y_L pl)) (hPG : G P = 7) (hdp : 1 ≤ dp ∧ dp ≤ 7) (hrk : 7 - dp < nn) (hC0 : C P = []) (hmo : mo ≤ 72 ∧ (J P = 6 → mo ≤ 4)) : Met l ({ cls := "ChannelMachine$Reader", name := "parts", desc := "(LChannelMachine$Process;II)Z" } : Jvm.MethodName) ((Jvm.Cond.code ({ cls := "ChannelMachine$Reader", name := "parts", desc := "(LChannelMachine$Process;II)Z" } : Jvm.MethodName) prog_8_method_18_code (5 : Nat) (Option.some Jvm.ClassFile.FieldType.boolean)) :: x_T) ({ frames := 2 * nn + 41, cells := 3 * (72 - aa) + 2, slots := 100 * (72 - aa) + 80, locals := 100 * nn + 1440 }) (y_Pc (dC, dI) ar N0 z (y_W ad ar I T A O pl) sz w0 [.ref (ad 1), .ref P, .int (Int32.ofNat dp), .int (Int32.ofNat mo)]) (va_Qi (fun (r : Int32) (u : (Nat → Int32) × Int64 × (Nat → Nat → Int32) × (Nat → Option Nat) × va_W × (Nat × Nat × Nat × Nat)) => y_RD u.1 u.2.2.1 (ln, u.2.2.2.2.2.2.1, ln, u.2.2.2.2.2.2.2.2) ∧ u.2.1 = T ∧ (∀ k, u.2.2.2.1 k = O k) ∧ m_fr [2, 3, 4, 5, 6] I u.1 ∧ aa ≤ u.2.2.2.2.2.2.2.2 ∧ ((r = 0 ∧ u.2.2.2.2.2.2.2.1 ≤ 1 ∧ ∀ a, f0 a ≠ none → y_L u.2.2.2.2.1 a = f0 a) ∨ (r = 1 ∧ u.2.2.2.2.2.2.2.1 = 0 ∧ ∃ (G' J' : Nat → Nat) (C' Gs' : Nat → List Nat) (S' : Nat → Nat), y_DX z ar f0 G' J' C' Gs' S' (y_L u.2.2.2.2.1) ∧ y_PH P (y_L pl) G J C Gs S (y_L u.2.2.2.2.1) G' J' C' Gs' S' ∧ S' P = S P))) (fun u t => va_P (dC, dI) y_cl (y_W ad ar u.1 u.2.1 u.2.2.1 u.2.2.2.1 u.2.2.2.2.1) t.heap ∧ va_D (va_A (y_W ad ar I T A O pl) sz) (y_W ad ar u.1 u.2.1 u.2.2.1 u.2.2.2.1 u.2.2.2.2.1) ∧ y_rc sz w0 aa u.2.2.2.2.2.2.2.2 u.2.2.2.2.2.2.2.1 t.heap) (va_A (y_W ad ar I T A O pl) sz)) (3 * (72 - aa) + 2) (100 * (72 - aa) + 80) (va_A (y_W ad ar I T A O pl) sz) := by
  refine Met.ofW (cc := prog_8_method_18_code) (maxL := 5) (ret := (some .boolean)) (by decide) rfl ?_
  intro p e s m args below meth c s₁ B hml hv
  obtain ⟨rfl, hsz, hN0, hP, hU, hZ, hD0, hw0⟩ := hv
  have hK := hU.2.1
  have hx := B.exec
  have hb := B.bytes
  have hr := B.returns
  have hts : ∀ w ∈ x_T, w.before ([.ref (ad 1), .ref P, .int (Int32.ofNat dp), .int (Int32.ofNat mo)] : List Value).toArray s = true := fun w h => atoms_spec (ws := (Jvm.Cond.code ({ cls := "ChannelMachine$Reader", name := "parts", desc := "(LChannelMachine$Process;II)Z" } : Jvm.MethodName) prog_8_method_18_code (5 : Nat) (Option.some Jvm.ClassFile.FieldType.boolean)) :: x_T) B.pre w (List.mem_cons_of_mem _ h)
  have hown : s.vm.findClass "ChannelMachine$Reader" = some m.cls := findClass_of_methodNamed B.named
  have hlocks := B.notSynchronized
  subst hsz
  subst hw0
  have hD := hD0.self (sz := s.heap.size)
  have hAN := x_AN hD0 hN0
  generalize hAe : va_A (y_W ad ar I T A O pl) s.heap.size = Bq at hD hAN ⊢
  have hA : ∀ q : Nat, s.heap.size ≤ q → Bq q := fun q h => by rw [← hAe]; exact Or.inr h
  have hS : va_S Bq s.heap s.heap [] := va_S.rf
  have hl := lv_entry ([.ref (ad 1), .ref P, .int (Int32.ofNat dp), .int (Int32.ofNat mo)]) (n := 5) (Nat.le_of_ble_eq_true rfl)
  rw [lg_entry_eq]
  generalize (lg_sl ([.ref (ad 1), .ref P, .int (Int32.ofNat dp), .int (Int32.ofNat mo)]) ++ List.replicate (5 - (lg_sl ([.ref (ad 1), .ref P, .int (Int32.ofNat dp), .int (Int32.ofNat mo)])).length) Slot.unset).toArray = ls at hl ⊢
  have hl : lv_has ls 5 [(0, .ref (ad 1)), (1, .ref P), (2, .int (Int32.ofNat dp)), (3, .int (Int32.ofNat mo))] := hl
  have hbn := hmi.2.1
  dsimp only at hbn
  have hPe : y_L pl P ≠ none := hdx.ex (by omega)
  refine lv_iconst (v := 0) hx hb d_Reader_parts_0 (by decide) ?_
  refine W.eq (g2 := F0 m 1 ls [.int (Int32.ofNat 0)]) rfl ?_
  refine lv_istore (lv' := [(4, .int (Int32.ofNat 0)), (0, .ref (ad 1)), (1, .ref P), (2, .int (Int32.ofNat dp)), (3, .int (Int32.ofNat mo))]) hx hb d_Reader_parts_1 hl (by decide) rfl (fun ls hl => ?_)
  refine W.widen (k := 3 * (aa - aa)) (n := 100 * (aa - aa)) (by omega) (by omega) ?_
  refine x_whileG (fun X => 3 * (X - aa)) (fun X => 100 * (X - aa)) (k := aa) (fun n X H locs ls => ∃ (I1 : Nat → Int32) (A1 : Nat → Nat → Int32) (O1 : Nat → Option Nat) (pl1 : va_W) (cl1 a1 i1 : Nat) (G1 J1 : Nat → Nat) (C1 Gs1 : Nat → List Nat) (S1 : Nat → Nat), X = a1 ∧ (n = mo - i1 ∧ i1 ≤ mo) ∧ y_RD I1 A1 (ln, cl1, ln, a1) ∧ aa ≤ a1 ∧ m_fr [2, 3, 4, 5, 6] I I1 ∧ (∀ k, O1 k = O k) ∧ y_DX z ar f0 G1 J1 C1 Gs1 S1 (y_L pl1) ∧ y_PH P (y_L pl) G J C Gs S (y_L pl1) G1 J1 C1 Gs1 S1 ∧ S1 P = S P ∧ ((C1 P).length = i1) ∧ va_P (dC, dI) y_cl (y_W ad ar I1 T A1 O1 pl1) H ∧ va_D Bq (y_W ad ar I1 T A1 O1 pl1) ∧ va_S Bq s.heap H locs ∧ lv_has ls 5 [(0, .ref (ad 1)), (1, .ref P), (2, .int (Int32.ofNat dp)), (3, .int (Int32.ofNat mo)), (4, .int (Int32.ofNat i1))]) (fun n ih X H locs ls h9 => ?_) ⟨I, A, O, pl, cl, aa, 0, G, J, C, Gs, S, rfl, ⟨rfl, Nat.zero_le _⟩, hmi, Nat.le_refl _, m_fr.rf, fun _ => rfl, hdx, y_PH.rf hPe (fun a h9 => (hdx.un h9).2), rfl, by rw [hC0]; rfl, hP, hD, hS, lv_sub hl [1, 2, 3, 4, 0] rfl⟩
  clear hP hD hS hl hmi hbn
  obtain ⟨I1, A1, O1, pl1, cl1, a1, i1, G1, J1, C1, Gs1, S1, hX, ⟨hn9, q9⟩, hmi, ha1, hfr, hO1, hdx1, hph, hSP, hlen, hP, hD, hS, hl⟩ := h9
  refine W.cs (cells' := 3 * (a1 - aa)) (slots' := 100 * (a1 - aa)) (by subst hX; rfl) (by subst hX; rfl) ?_
  have hbn := hmi.2.1
  dsimp only at hbn
  have hG1 : G1 P = 7 := hph.2.1.2.1.trans hPG
  have hJ1 : J1 P = J P := hph.2.1.2.2
  refine lv_iload hx hb d_Reader_parts_3 (lv_at hl 4 rfl) ?_
  refine lv_iload_n hx hb d_Reader_parts_5 rfl (lv_at hl 3 rfl) ?_
  refine lv_icmp_ge (tgt := 39) hx hb d_Reader_parts_6 (by decide) (fun c_1 => ?_) (fun c_1 => ?_)
  · have c_1 : mo ≤ i1 := (x_leN (a := mo) (b := i1) (by omega) (by omega)).mp c_1
    refine lv_iconst (v := 1) hx hb d_Reader_parts_39 (by decide) ?_
    refine y_know (fun hy91 hy92 hy93 hy94 => ?_)
    have hac9 : y_rc s.heap.size (y_hs s.heap) aa a1 0 H := ⟨by omega, by omega⟩
    refine W.widen (k := 3 * (72 - aa) + 2) (n := 100 * (72 - aa) + 80) (by omega) (by omega) ?_
    exact W.zret (v := 1) hx hb hr (rfl) (fun t ht hW => ⟨⟨1, (I1, T, A1, O1, pl1, (ln, cl1, 0, a1)), rfl, ⟨hmi, rfl, hO1, hfr, by dsimp only; omega, Or.inr ⟨rfl, rfl, G1, J1, C1, Gs1, S1, hdx1, hph, hSP⟩⟩, (by dsimp only; rw [ht]; exact ⟨hP, hD, hac9⟩)⟩, hS.F ht⟩) hS.2.2 d_Reader_parts_40
  · have c_1 : ¬ mo ≤ i1 := fun h9 => c_1 ((x_leN (a := mo) (b := i1) (by omega) (by omega)).mpr h9)
    refine lv_aload_n hx hb d_Reader_parts_9 rfl (lv_at hl 0 rfl) ?_
    have hFc := y_free hD hS hA
    refine va_calli (va_runV (As := []) (rest := []) ⟨hx, hb, hml, hown, hts⟩ (c_Rd_look l dC dI ar N0 z ad I1 T A1 O1 pl1 ln cl1 ln a1 H.size (y_hs H) hmi) (cwV 0 hts (x_goodV k_338 k_340 kp_3 k_2 k_341) rfl rfl rfl (by decide +kernel) ⟨Nat.le_trans (m := 41) (Nat.le_of_ble_eq_true rfl) (Nat.le_add_left 41 _), Nat.le_trans (m := 1440) (Nat.le_of_ble_eq_true rfl) (Nat.le_add_left 1440 _)⟩) ⟨y_blind, va_recv hK hP (ci := 3) (q0 := 1) rfl (y_W_ob (by decide) (by decide)), fun U9 hU9 hW9 => y_pre hU9 hW9 hP hD hU hZ hS hAN hN0⟩ rfl rfl hl.1 rfl (lv_room (Nat.le_of_ble_eq_true rfl)) d_Reader_parts_10 ⟨(by show 3 * (a1 - aa) + (0) ≤ 3 * (72 - aa) + 2; omega), (by show 100 * (a1 - aa) + (0) ≤ 100 * (72 - aa) + 80; omega)⟩) hS (fun q _ h => hFc q h) hFc (fun r_2 u t H1 locs ht hvm hw hB hz1 hk1 hS => ?_)
    obtain ⟨I3, T3, A3, O3, pl3, q3, s3, cq3, cs3⟩ := u
    dsimp only at hw hB
    rw [ht] at hB
    obtain ⟨hP, hD1, hac3⟩ := hB
    have hD : va_D Bq (y_W ad ar I3 T3 A3 O3 pl3) := hD1.weaken (fun _ q _ h => hFc q.1 h)
    generalize H1 = H at hP hS hac3 ⊢
    have hae3 := hac3
    try unfold y_ac at hae3
    try dsimp only at hae3
    refine W.widen (k := 3 * (a1 - aa)) (n := 100 * (a1 - aa)) (by omega) (by omega) ?_
    obtain ⟨h9, hw⟩ := hw
    cases h9
    obtain rfl := hw
    have hFc := y_free hD hS hA
    refine va_calli (va_runS (As := [.int (y_lk A1 ln a1)]) (rest := []) ⟨hx, hb, hml, hown, hts⟩ (c_Rd_isClosing l dC dI ar N0 z ad I1 T A1 O1 pl1 ((y_lk A1 ln a1)) H.size (y_hs H) ) (cwS 1 hts (x_goodS k_554 k_555 k_2 k_556) rfl rfl rfl (by decide +kernel) ⟨Nat.le_trans (m := 41) (Nat.le_of_ble_eq_true rfl) (Nat.le_add_left 41 _), Nat.le_trans (m := 1440) (Nat.le_of_ble_eq_true rfl) (Nat.le_add_left 1440 _)⟩) ⟨y_blind, fun U9 hU9 hW9 => y_pre hU9 hW9 hP hD hU hZ hS hAN hN0⟩ rfl rfl hl.1 rfl (lv_room (Nat.le_of_ble_eq_true rfl)) d_Reader_parts_13 ⟨(by show 3 * (a1 - aa) + (0) ≤ 3 * (72 - aa) + 2; omega), (by show 100 * (a1 - aa) + (0) ≤ 100 * (72 - aa) + 80; omega)⟩) hS (fun q _ h => hFc q h) hFc (fun r_4 u t H1 locs ht hvm hw hB hz1 hk1 hS => ?_)
    obtain ⟨I5, T5, A5, O5, pl5, q5, s5, cq5, cs5⟩ := u
    dsimp only at hw hB
    rw [ht] at hB
    obtain ⟨hP, hD1, hac5⟩ := hB
    have hD : va_D Bq (y_W ad ar I5 T5 A5 O5 pl5) := hD1.weaken (fun _ q _ h => hFc q.1 h)
    generalize H1 = H at hP hS hac5 ⊢
    have hae5 := hac5
    try unfold y_ac at hae5
    try dsimp only at hae5
    refine W.widen (k := 3 * (a1 - aa)) (n := 100 * (a1 - aa)) (by omega) (by omega) ?_
    obtain ⟨h9, hw⟩ := hw
    cases h9
    rcases hw with rfl | rfl
    · refine lv_if_ne (tgt := 39) hx hb d_Reader_parts_16 (by decide) (fun c6 => absurd rfl c6) (fun _ => ?_)
      refine lv_aload_n hx hb d_Reader_parts_19 rfl (lv_at hl 0 rfl) ?_
      refine lv_aload_n hx hb d_Reader_parts_20 rfl (lv_at hl 1 rfl) ?_
      refine lv_iload_n hx hb d_Reader_parts_21 rfl (lv_at hl 2 rfl) ?_
      refine lv_iconst (v := 1) hx hb d_Reader_parts_22 (by decide) ?_
      refine lv_iadd hx hb d_Reader_parts_23 ?_
      refine W.eq (g2 := F0 m 24 ls [.int (Int32.ofNat (dp + 1)), .ref P, .ref (ad 1)]) (by rw [← x_addN (a := dp) (b := 1)] <;> rfl) ?_
      refine lv_iconst (v := 0) hx hb d_Reader_parts_24 (by decide) ?_
      refine y_know (fun hya1 hya2 hya3 hya4 => ?_)
      have hFc := y_free hD hS hA
      refine va_calli (va_runV (As := [.ref P, .int (Int32.ofNat (dp + 1)), .int 0]) (rest := []) ⟨hx, hb, hml, hown, hts⟩ (ihP l dC dI ar N0 z ad I1 T A1 O1 pl1 ln cl1 a1 f0 G1 J1 C1 Gs1 S1 (some P) ((dp + 1)) (0) H.size (y_hs H) hmi hdx1 (fun P9 hP9 => by cases hP9; exact ⟨hG1, fun h9 => by omega⟩) (by omega) (by omega)) (cwV 3 hts (x_goodV k_557 k_332 kp_1 k_2 k_333) rfl rfl rfl (by decide +kernel) ⟨(by show 2 * nn + 40 + 1 ≤ 2 * nn + 41; omega), (by show 8 + (5 + 11) + (100 * nn + 1400) ≤ 100 * nn + 1440; omega)⟩) ⟨y_blind, va_recv hK hP (ci := 3) (q0 := 1) rfl (y_W_ob (by decide) (by decide)), fun U9 hU9 hW9 => y_pre hU9 hW9 hP hD hU hZ hS hAN hN0⟩ rfl rfl hl.1 rfl (lv_room (Nat.le_of_ble_eq_true rfl)) d_Reader_parts_25 ⟨(by show 3 * (a1 - aa) + (3 * (72 - a1) + 2) ≤ 3 * (72 - aa) + 2; omega), (by show 100 * (a1 - aa) + (100 * (72 - a1) + 80) ≤ 100 * (72 - aa) + 80; omega)⟩) hS (fun q _ h => hFc q h) hFc (fun r_7 u t H1 locs ht hvm hw hB hz1 hk1 hS => ?_)
      obtain ⟨I8, T8, A8, O8, pl8, q8, s8, cq8, cs8⟩ := u
      dsimp only at hw hB
      rw [ht] at hB
      obtain ⟨hP, hD1, hac8⟩ := hB
      have hD : va_D Bq (y_W ad ar I8 T8 A8 O8 pl8) := hD1.weaken (fun _ q _ h => hFc q.1 h)
      generalize H1 = H at hP hS hac8 ⊢
      have hae8 := hac8
      try unfold y_ac at hae8
      try dsimp only at hae8
      obtain ⟨hmi, e2, hO8, fr8, hge8, hbr⟩ := hw
      rw [e2] at hP hD
      have hP : va_P (dC, dI) y_cl (y_W ad ar I8 T A8 O8 pl8) H := hP
      have hD : va_D Bq (y_W ad ar I8 T A8 O8 pl8) := hD
      have hbn := hmi.2.1
      dsimp only at hbn
      rcases hbr with ⟨rfl, hsl, hfl8⟩ | ⟨rfl, hsl, c8_, hsu8, hpr8⟩
      · unfold y_rc at hac8
        try dsimp only at hac8
        refine y_tight (k := 3 * (cs8 - aa) + 2) (n := 100 * (cs8 - aa) + 80) (by omega) (by omega) ?_
        refine lv_if_ne (tgt := 33) hx hb d_Reader_parts_28 (by decide) (fun c9 => absurd rfl c9) (fun _ => ?_)
        refine lv_iconst (v := 0) hx hb d_Reader_parts_31 (by decide) ?_
        have hfl : ∀ a, f0 a ≠ none → y_L pl8 a = f0 a := hfl8
        refine y_know (fun hy91 hy92 hy93 hy94 => ?_)
        have hac9 : y_rc s.heap.size (y_hs s.heap) aa cs8 1 H := ⟨by omega, by omega⟩
        refine W.widen (k := 3 * (72 - aa) + 2) (n := 100 * (72 - aa) + 80) (by omega) (by omega) ?_
        exact W.zret (v := 0) hx hb hr (rfl) (fun t ht hW => ⟨⟨0, (I8, T, A8, O8, pl8, (ln, s8, 1, cs8)), rfl, ⟨hmi, rfl, fun k => (hO8 k (Or.inr nofun)).trans ((hO1) k), (hfr.tr fr8 (by decide)), by dsimp only; omega, Or.inl ⟨rfl, Nat.le_refl _, hfl⟩⟩, (by dsimp only; rw [ht]; exact ⟨hP, hD, hac9⟩)⟩, hS.F ht⟩) hS.2.2 d_Reader_parts_32
      · subst hsl
        unfold y_rc at hac8
        try dsimp only at hac8
        refine y_tight (k := 3 * (cs8 - aa)) (n := 100 * (cs8 - aa)) (by omega) (by omega) ?_
        obtain ⟨G8, J8, C8, Gs8, S8, hdx8, hph8, hSp8, hGp8, hCp8, hcg8⟩ := hsu8.ph hph.2.1.1
        have hph := hph.tr hph8 hPe
        have hSP := hSp8.trans hSP
        refine lv_if_ne (tgt := 33) hx hb d_Reader_parts_28 (by decide) (fun _ => ?_) (fun c10 => absurd c10 (by decide))
        refine lv_iinc (v := (Int32.ofNat (i1 + 1))) (lv' := [(4, .int (Int32.ofNat (i1 + 1))), (0, .ref (ad 1)), (1, .ref P), (2, .int (Int32.ofNat dp)), (3, .int (Int32.ofNat mo))]) hx hb d_Reader_parts_33 hl (k := 4) rfl (x_incN i1) (by decide) rfl (fun ls hl => ?_)
        refine lv_goto (tgt := 3) hx hb d_Reader_parts_36 (by decide) ?_
        have hlen2 : (C8 P).length = i1 + 1 := by rw [hCp8, List.length_append, hlen]; rfl
        refine W.widen (k := 3 * (cs8 - aa)) (n := 100 * (cs8 - aa)) (by omega) (by omega) ?_
        exact ih (mo - (i1 + 1)) (by omega) cs8 H locs ls ⟨I8, A8, O8, pl8, s8, cs8, i1 + 1, G8, J8, C8, Gs8, S8, rfl, ⟨rfl, by omega⟩, hmi, by omega, (hfr.tr fr8 (by decide)), fun k => (hO8 k (Or.inr nofun)).trans ((hO1) k), hdx8, hph, hSP, hlen2, hP, hD, hS, lv_sub hl [1, 2, 3, 4, 0] rfl⟩
    · refine lv_if_ne (tgt := 39) hx hb d_Reader_parts_16 (by decide) (fun _ => ?_) (fun c11 => absurd c11 (by decide))
      refine lv_iconst (v := 1) hx hb d_Reader_parts_39 (by decide) ?_
      refine y_know (fun hy91 hy92 hy93 hy94 => ?_)
      have hac9 : y_rc s.heap.size (y_hs s.heap) aa a1 0 H := ⟨by omega, by omega⟩
      refine W.widen (k := 3 * (72 - aa) + 2) (n := 100 * (72 - aa) + 80) (by omega) (by omega) ?_
      exact W.zret (v := 1) hx hb hr (rfl) (fun t ht hW => ⟨⟨1, (I1, T, A1, O1, pl1, (ln, cl1, 0, a1)), rfl, ⟨hmi, rfl, hO1, hfr, by dsimp only; omega, Or.inr ⟨rfl, rfl, G1, J1, C1, Gs1, S1, hdx1, hph, hSP⟩⟩, (by dsimp only; rw [ht]; exact ⟨hP, hD, hac9⟩)⟩, hS.F ht⟩) hS.2.2 d_Reader_parts_40
set_option maxHeartbeats 4000000 in
set_option maxRecDepth 100000 in
theorem st_G (nn : Nat) (ihP : ∀ (l : Launch) (dC : Nat → ClassId) (dI : Nat → Nat → Nat) (ar : Nat → ClassId) (N0 : Nat) (z : Nat → Nat) (ad : Nat → Nat) (I : Nat → Int32) (T : Int64) (A : Nat → Nat → Int32) (O : Nat → Option Nat) (pl : va_W) (ln cl aa : Nat) (f0 : Nat → Option va_E) (G J : Nat → Nat) (C Gs : Nat → List Nat) (S : Nat → Nat) (par : Option Nat) (dp : Nat) (gv : Int32) (sz w0 : Nat) (hmi : y_RD I A (ln, cl, ln, aa)) (hdx : y_DX z ar f0 G J C Gs S (y_L pl)) (hpar : ∀ P, par = some P → G P = 7 ∧ (J P = 6 → (C P).length < 4)) (hdp : 1 ≤ dp ∧ dp ≤ 8) (hrk : 8 - dp < nn) , Met l ({ cls := "ChannelMachine$Reader", name := "process", desc := "(LChannelMachine$Process;IZ)Z" } : Jvm.MethodName) ((Jvm.Cond.code ({ cls := "ChannelMachine$Reader", name := "process", desc := "(LChannelMachine$Process;IZ)Z" } : Jvm.MethodName) prog_8_method_13_code (5 : Nat) (Option.some Jvm.ClassFile.FieldType.boolean)) :: x_T) ({ frames := 2 * nn + 40, cells := 3 * (72 - aa) + 2, slots := 100 * (72 - aa) + 80, locals := 100 * nn + 1400 }) (y_Pc (dC, dI) ar N0 z (y_W ad ar I T A O pl) sz w0 [.ref (ad 1), va_rf par, .int (Int32.ofNat dp), .int gv]) (va_Qi (fun (r : Int32) (u : (Nat → Int32) × Int64 × (Nat → Nat → Int32) × (Nat → Option Nat) × va_W × (Nat × Nat × Nat × Nat)) => y_RD u.1 u.2.2.1 (ln, u.2.2.2.2.2.2.1, ln, u.2.2.2.2.2.2.2.2) ∧ u.2.1 = T ∧ (∀ k, (k ≠ 0 ∨ par ≠ none) → u.2.2.2.1 k = O k) ∧ m_fr [2, 3, 4, 5, 6] I u.1 ∧ aa ≤ u.2.2.2.2.2.2.2.2 ∧ ((r = 0 ∧ u.2.2.2.2.2.2.2.1 ≤ 1 ∧ ∀ a, f0 a ≠ none → y_L u.2.2.2.2.1 a = f0 a) ∨ (r = 1 ∧ u.2.2.2.2.2.2.2.1 = 0 ∧ ∃ p, y_SU z ar f0 (y_L pl) G J C Gs S par p (y_L u.2.2.2.2.1) ∧ (par = none → u.2.2.2.1 0 = some p)))) (fun u t => va_P (dC, dI) y_cl (y_W ad ar u.1 u.2.1 u.2.2.1 u.2.2.2.1 u.2.2.2.2.1) t.heap ∧ va_D (va_A (y_W ad ar I T A O pl) sz) (y_W ad ar u.1 u.2.1 u.2.2.1 u.2.2.2.1 u.2.2.2.2.1) ∧ y_rc sz w0 aa u.2.2.2.2.2.2.2.2 u.2.2.2.2.2.2.2.1 t.heap) (va_A (y_W ad ar I T A O pl) sz)) (3 * (72 - aa) + 2) (100 * (72 - aa) + 80) (va_A (y_W ad ar I T A O pl) sz)) (l : Launch) (dC : Nat → ClassId) (dI : Nat → Nat → Nat) (ar : Nat → ClassId) (N0 : Nat) (z : Nat → Nat) (ad : Nat → Nat) (I : Nat → Int32) (T : Int64) (A : Nat → Nat → Int32) (O : Nat → Option Nat) (pl : va_W) (ln cl aa : Nat) (f0 : Nat → Option va_E) (G J : Nat → Nat) (C Gs : Nat → List Nat) (S : Nat → Nat) (P dp : Nat) (sz w0 : Nat) (hmi : y_RD I A (ln, cl, ln, aa)) (hdx : y_DX z ar f0 G J C Gs S (y_L pl)) (hPG : G P = 7) (hdp : 1 ≤ dp ∧ dp ≤ 7) (hrk : 7 - dp < nn) (hG0 : Gs P = []) (hJP : J P = 10) : Met l ({ cls := "ChannelMachine$Reader", name := "guards", desc := "(LChannelMachine$Process;I)Z" } : Jvm.MethodName) ((Jvm.Cond.code ({ cls := "ChannelMachine$Reader", name := "guards", desc := "(LChannelMachine$Process;I)Z" } : Jvm.MethodName) prog_8_method_19_code (7 : Nat) (Option.some Jvm.ClassFile.FieldType.boolean)) :: x_T) ({ frames := 2 * nn + 41, cells := 3 * (72 - aa) + 2, slots := 100 * (72 - aa) + 80, locals := 100 * nn + 1440 }) (y_Pc (dC, dI) ar N0 z (y_W ad ar I T A O pl) sz w0 [.ref (ad 1), .ref P, .int (Int32.ofNat dp)]) (va_Qi (fun (r : Int32) (u : (Nat → Int32) × Int64 × (Nat → Nat → Int32) × (Nat → Option Nat) × va_W × (Nat × Nat × Nat × Nat)) => y_RD u.1 u.2.2.1 (ln, u.2.2.2.2.2.2.1, ln, u.2.2.2.2.2.2.2.2) ∧ u.2.1 = T ∧ (∀ k, u.2.2.2.1 k = O k) ∧ m_fr [2, 3, 4, 5, 6] I u.1 ∧ aa ≤ u.2.2.2.2.2.2.2.2 ∧ ((r = 0 ∧ u.2.2.2.2.2.2.2.1 ≤ 1 ∧ ∀ a, f0 a ≠ none → y_L u.2.2.2.2.1 a = f0 a) ∨ (r = 1 ∧ u.2.2.2.2.2.2.2.1 = 0 ∧ ∃ (G' J' : Nat → Nat) (C' Gs' : Nat → List Nat) (S' : Nat → Nat), y_DX z ar f0 G' J' C' Gs' S' (y_L u.2.2.2.2.1) ∧ y_PH P (y_L pl) G J C Gs S (y_L u.2.2.2.2.1) G' J' C' Gs' S' ∧ S' P = S P))) (fun u t => va_P (dC, dI) y_cl (y_W ad ar u.1 u.2.1 u.2.2.1 u.2.2.2.1 u.2.2.2.2.1) t.heap ∧ va_D (va_A (y_W ad ar I T A O pl) sz) (y_W ad ar u.1 u.2.1 u.2.2.1 u.2.2.2.1 u.2.2.2.2.1) ∧ y_rc sz w0 aa u.2.2.2.2.2.2.2.2 u.2.2.2.2.2.2.2.1 t.heap) (va_A (y_W ad ar I T A O pl) sz)) (3 * (72 - aa) + 2) (100 * (72 - aa) + 80) (va_A (y_W ad ar I T A O pl) sz) := by
  refine Met.ofW (cc := prog_8_method_19_code) (maxL := 7) (ret := (some .boolean)) (by decide) rfl ?_
  intro p e s m args below meth c s₁ B hml hv
  obtain ⟨rfl, hsz, hN0, hP, hU, hZ, hD0, hw0⟩ := hv
  have hK := hU.2.1
  have hx := B.exec
  have hb := B.bytes
  have hr := B.returns
  have hts : ∀ w ∈ x_T, w.before ([.ref (ad 1), .ref P, .int (Int32.ofNat dp)] : List Value).toArray s = true := fun w h => atoms_spec (ws := (Jvm.Cond.code ({ cls := "ChannelMachine$Reader", name := "guards", desc := "(LChannelMachine$Process;I)Z" } : Jvm.MethodName) prog_8_method_19_code (7 : Nat) (Option.some Jvm.ClassFile.FieldType.boolean)) :: x_T) B.pre w (List.mem_cons_of_mem _ h)
  have hown : s.vm.findClass "ChannelMachine$Reader" = some m.cls := findClass_of_methodNamed B.named
  have hlocks := B.notSynchronized
  subst hsz
  subst hw0
  have hD := hD0.self (sz := s.heap.size)
  have hAN := x_AN hD0 hN0
  generalize hAe : va_A (y_W ad ar I T A O pl) s.heap.size = Bq at hD hAN ⊢
  have hA : ∀ q : Nat, s.heap.size ≤ q → Bq q := fun q h => by rw [← hAe]; exact Or.inr h
  have hS : va_S Bq s.heap s.heap [] := va_S.rf
  have hl := lv_entry ([.ref (ad 1), .ref P, .int (Int32.ofNat dp)]) (n := 7) (Nat.le_of_ble_eq_true rfl)
  rw [lg_entry_eq]
  generalize (lg_sl ([.ref (ad 1), .ref P, .int (Int32.ofNat dp)]) ++ List.replicate (7 - (lg_sl ([.ref (ad 1), .ref P, .int (Int32.ofNat dp)])).length) Slot.unset).toArray = ls at hl ⊢
  have hl : lv_has ls 7 [(0, .ref (ad 1)), (1, .ref P), (2, .int (Int32.ofNat dp))] := hl
  have hbn := hmi.2.1
  dsimp only at hbn
  have hPe : y_L pl P ≠ none := hdx.ex (by omega)
  refine lv_iload_n hx hb d_Reader_guards_0 rfl (lv_at hl 2 rfl) ?_
  refine lv_bipush (v := 7) hx hb d_Reader_guards_1 (by decide) ?_
  refine lv_icmp_ge (tgt := 10) hx hb d_Reader_guards_3 (by decide) (fun c_1 => ?_) (fun c_1 => ?_)
  · have c_1 : 7 ≤ dp := (x_leN (a := 7) (b := dp) (by omega) (by omega)).mp c_1
    refine lv_iconst (v := 0) hx hb d_Reader_guards_10 (by decide) ?_
    refine W.eq (g2 := F0 m 11 ls [.int (Int32.ofNat 0)]) rfl ?_
    refine lv_istore_n (lv' := [(3, .int (Int32.ofNat 0)), (0, .ref (ad 1)), (1, .ref P), (2, .int (Int32.ofNat dp))]) hx hb d_Reader_guards_11 rfl hl (by decide) rfl (fun ls hl => ?_)
    refine lv_null hx hb d_Reader_guards_12 ?_
    refine lv_astoreN (lv' := [(4, .null), (3, .int (Int32.ofNat 0)), (0, .ref (ad 1)), (1, .ref P), (2, .int (Int32.ofNat dp))]) hx hb d_Reader_guards_13 hl (by decide) rfl (fun ls hl => ?_)
    refine lv_iconst (v := 1) hx hb d_Reader_guards_15 (by decide) ?_
    refine W.eq (g2 := F0 m 16 ls [.int (Int32.ofNat 1)]) rfl ?_
    refine lv_istore (lv' := [(5, .int (Int32.ofNat 1)), (4, .null), (3, .int (Int32.ofNat 0)), (0, .ref (ad 1)), (1, .ref P), (2, .int (Int32.ofNat dp))]) hx hb d_Reader_guards_16 hl (by decide) rfl (fun ls hl => ?_)
    refine W.widen (k := 3 * (aa - aa)) (n := 100 * (aa - aa)) (by omega) (by omega) ?_
    refine x_whileG (fun X => 3 * (X - aa)) (fun X => 100 * (X - aa)) (k := aa) (fun n X H locs ls => ∃ (I1 : Nat → Int32) (A1 : Nat → Nat → Int32) (O1 : Nat → Option Nat) (pl1 : va_W) (cl1 a1 i1 : Nat) (lo : Option Nat) (G1 J1 : Nat → Nat) (C1 Gs1 : Nat → List Nat) (S1 : Nat → Nat), X = a1 ∧ (n = 0 + 1 - i1 ∧ 1 ≤ i1 ∧ i1 ≤ 0 + 1) ∧ y_RD I1 A1 (ln, cl1, ln, a1) ∧ aa ≤ a1 ∧ m_fr [2, 3, 4, 5, 6] I I1 ∧ (∀ k, O1 k = O k) ∧ y_DX z ar f0 G1 J1 C1 Gs1 S1 (y_L pl1) ∧ y_PH P (y_L pl) G J C Gs S (y_L pl1) G1 J1 C1 Gs1 S1 ∧ S1 P = S P ∧ (lo = (Gs1 P).getLast? ∧ (∀ x, x ∈ Gs1 P → y_L pl x = none)) ∧ va_P (dC, dI) y_cl (y_W ad ar I1 T A1 O1 pl1) H ∧ va_D Bq (y_W ad ar I1 T A1 O1 pl1) ∧ va_S Bq s.heap H locs ∧ lv_has ls 7 [(0, .ref (ad 1)), (1, .ref P), (2, .int (Int32.ofNat dp)), (3, .int (Int32.ofNat 0)), (4, va_rf lo), (5, .int (Int32.ofNat i1))]) (fun n ih X H locs ls h9 => ?_) ⟨I, A, O, pl, cl, aa, 1, none, G, J, C, Gs, S, rfl, ⟨rfl, Nat.le_refl _, by omega⟩, hmi, Nat.le_refl _, m_fr.rf, fun _ => rfl, hdx, y_PH.rf hPe (fun a h9 => (hdx.un h9).2), rfl, ⟨by rw [hG0]; rfl, fun x hx9 => by rw [hG0] at hx9; cases hx9⟩, hP, hD, hS, lv_sub hl [3, 4, 5, 2, 1, 0] rfl⟩
    clear hP hD hS hl hmi hbn
    obtain ⟨I1, A1, O1, pl1, cl1, a1, i1, lo, G1, J1, C1, Gs1, S1, hX, ⟨hn9, q8, q9⟩, hmi, ha1, hfr, hO1, hdx1, hph, hSP, ⟨hlo, hgnew⟩, hP, hD, hS, hl⟩ := h9
    refine W.cs (cells' := 3 * (a1 - aa)) (slots' := 100 * (a1 - aa)) (by subst hX; rfl) (by subst hX; rfl) ?_
    have hbn := hmi.2.1
    dsimp only at hbn
    have hG1 : G1 P = 7 := hph.2.1.2.1.trans hPG
    have hJ1 : J1 P = 10 := hph.2.1.2.2.trans hJP
    rcases lo with _ | lc
    · have hl : lv_has ls 7 [(0, .ref (ad 1)), (1, .ref P), (2, .int (Int32.ofNat dp)), (3, .int (Int32.ofNat 0)), (4, .null), (5, .int (Int32.ofNat i1))] := hl
      refine lv_iload hx hb d_Reader_guards_18 (lv_at hl 5 rfl) ?_
      refine lv_iload_n hx hb d_Reader_guards_20 rfl (lv_at hl 3 rfl) ?_
      refine lv_icmp_gt (tgt := 152) hx hb d_Reader_guards_21 (by decide) (fun c_2 => ?_) (fun c_2 => ?_)
      · have c_2 : 0 < i1 := (x_ltN (a := 0) (b := i1) (by omega) (by omega)).mp c_2
        refine lv_iconst (v := 1) hx hb d_Reader_guards_152 (by decide) ?_
        refine y_know (fun hy91 hy92 hy93 hy94 => ?_)
        have hac9 : y_rc s.heap.size (y_hs s.heap) aa a1 0 H := ⟨by omega, by omega⟩
        refine W.widen (k := 3 * (72 - aa) + 2) (n := 100 * (72 - aa) + 80) (by omega) (by omega) ?_
        exact W.zret (v := 1) hx hb hr (rfl) (fun t ht hW => ⟨⟨1, (I1, T, A1, O1, pl1, (ln, cl1, 0, a1)), rfl, ⟨hmi, rfl, hO1, hfr, by dsimp only; omega, Or.inr ⟨rfl, rfl, G1, J1, C1, Gs1, S1, hdx1, hph, hSP⟩⟩, (by dsimp only; rw [ht]; exact ⟨hP, hD, hac9⟩)⟩, hS.F ht⟩) hS.2.2 d_Reader_guards_153
      · have c_2 : ¬ 0 < i1 := fun h9 => c_2 ((x_ltN (a := 0) (b := i1) (by omega) (by omega)).mpr h9)
        refine lv_aload_n hx hb d_Reader_guards_24 rfl (lv_at hl 0 rfl) ?_
        have hFc := y_free hD hS hA
        refine va_calli (va_runV (As := []) (rest := []) ⟨hx, hb, hml, hown, hts⟩ (c_Rd_look l dC dI ar N0 z ad I1 T A1 O1 pl1 ln cl1 ln a1 H.size (y_hs H) hmi) (cwV 0 hts (x_goodV k_338 k_340 kp_3 k_2 k_341) rfl rfl rfl (by decide +kernel) ⟨Nat.le_trans (m := 41) (Nat.le_of_ble_eq_true rfl) (Nat.le_add_left 41 _), Nat.le_trans (m := 1440) (Nat.le_of_ble_eq_true rfl) (Nat.le_add_left 1440 _)⟩) ⟨y_blind, va_recv hK hP (ci := 3) (q0 := 1) rfl (y_W_ob (by decide) (by decide)), fun U9 hU9 hW9 => y_pre hU9 hW9 hP hD hU hZ hS hAN hN0⟩ rfl rfl hl.1 rfl (lv_room (Nat.le_of_ble_eq_true rfl)) d_Reader_guards_25 ⟨(by show 3 * (a1 - aa) + (0) ≤ 3 * (72 - aa) + 2; omega), (by show 100 * (a1 - aa) + (0) ≤ 100 * (72 - aa) + 80; omega)⟩) hS (fun q _ h => hFc q h) hFc (fun r_3 u t H1 locs ht hvm hw hB hz1 hk1 hS => ?_)
        obtain ⟨I4, T4, A4, O4, pl4, q4, s4, cq4, cs4⟩ := u
        dsimp only at hw hB
        rw [ht] at hB
        obtain ⟨hP, hD1, hac4⟩ := hB
        have hD : va_D Bq (y_W ad ar I4 T4 A4 O4 pl4) := hD1.weaken (fun _ q _ h => hFc q.1 h)
        generalize H1 = H at hP hS hac4 ⊢
        have hae4 := hac4
        try unfold y_ac at hae4
        try dsimp only at hae4
        refine W.widen (k := 3 * (a1 - aa)) (n := 100 * (a1 - aa)) (by omega) (by omega) ?_
        obtain ⟨h9, hw⟩ := hw
        cases h9
        obtain rfl := hw
        have hFc := y_free hD hS hA
        refine va_calli (va_runS (As := [.int (y_lk A1 ln a1)]) (rest := []) ⟨hx, hb, hml, hown, hts⟩ (c_Rd_isClosing l dC dI ar N0 z ad I1 T A1 O1 pl1 ((y_lk A1 ln a1)) H.size (y_hs H) ) (cwS 1 hts (x_goodS k_554 k_555 k_2 k_556) rfl rfl rfl (by decide +kernel) ⟨Nat.le_trans (m := 41) (Nat.le_of_ble_eq_true rfl) (Nat.le_add_left 41 _), Nat.le_trans (m := 1440) (Nat.le_of_ble_eq_true rfl) (Nat.le_add_left 1440 _)⟩) ⟨y_blind, fun U9 hU9 hW9 => y_pre hU9 hW9 hP hD hU hZ hS hAN hN0⟩ rfl rfl hl.1 rfl (lv_room (Nat.le_of_ble_eq_true rfl)) d_Reader_guards_28 ⟨(by show 3 * (a1 - aa) + (0) ≤ 3 * (72 - aa) + 2; omega), (by show 100 * (a1 - aa) + (0) ≤ 100 * (72 - aa) + 80; omega)⟩) hS (fun q _ h => hFc q h) hFc (fun r_5 u t H1 locs ht hvm hw hB hz1 hk1 hS => ?_)
        obtain ⟨I6, T6, A6, O6, pl6, q6, s6, cq6, cs6⟩ := u
        dsimp only at hw hB
        rw [ht] at hB
        obtain ⟨hP, hD1, hac6⟩ := hB
        have hD : va_D Bq (y_W ad ar I6 T6 A6 O6 pl6) := hD1.weaken (fun _ q _ h => hFc q.1 h)
        generalize H1 = H at hP hS hac6 ⊢
        have hae6 := hac6
        try unfold y_ac at hae6
        try dsimp only at hae6
        refine W.widen (k := 3 * (a1 - aa)) (n := 100 * (a1 - aa)) (by omega) (by omega) ?_
        obtain ⟨h9, hw⟩ := hw
        cases h9
        rcases hw with rfl | rfl
        · refine lv_if_ne (tgt := 152) hx hb d_Reader_guards_31 (by decide) (fun c7 => absurd rfl c7) (fun _ => ?_)
          refine d_new (ci := 9) (fs := [.null, .int 0, .int 0, .null, .null, .int 0]) (C := "ChannelMachine$Guard") (F := F_Guard) (N := 6) hx hb hts i_Guard t_Guard t_Guard_ok hown (hts _ k_562) (hts _ k_563) (hts _ k_23) hK hP hD hS hA rfl (fun j hj => by rcases (show j = 0 ∨ j = 1 ∨ j = 2 ∨ j = 3 ∨ j = 4 ∨ j = 5 by omega) with rfl | rfl | rfl | rfl | rfl | rfl <;> rfl) (by show 3 * (a1 - aa) + 1 ≤ 3 * (72 - aa) + 2; omega) (by show 100 * (a1 - aa) + 6 ≤ 100 * (72 - aa) + 80; omega) d_Reader_guards_34 (fun g8 pl9 H hnog8 hL hP hD hS => ?_)
          have hzg8 : y_L pl1 g8 = none := by exact hnog8
          have hfg8 : y_L pl9 g8 = some (.inr (9, [.null, .int 0, .int 0, .null, .null, .int 0])) := by rw [hL]; exact y_Lu_s
          have hoth : ∀ b, b ≠ g8 → y_L pl9 b = y_L pl1 b := fun b n0 => by rw [hL, y_Lu_n n0]
          clear hL
          refine lv_dup hx hb d_Reader_guards_37 rfl ?_
          have hFc := y_free hD hS hA
          refine va_callv (va_runIN (As := []) (rest := [.ref g8]) ⟨hx, hb, hml, hown, hts⟩ (c_G_init l dC dI ar N0 z ad I1 T A1 O1 pl9 g8 H.size (y_hs H) hfg8) ⟨va_cnB 0 hts (x_good k_566) rfl rfl rfl (hU.1.2.1 _ kn_564) (hts _ k_23) (by decide +kernel) ⟨Nat.le_trans (m := 41) (Nat.le_of_ble_eq_true rfl) (Nat.le_add_left 41 _), Nat.le_trans (m := 1440) (Nat.le_of_ble_eq_true rfl) (Nat.le_add_left 1440 _)⟩, rfl, hts _ k_565⟩ ⟨y_blind, fun U9 hU9 hW9 => y_pre hU9 hW9 hP hD hU hZ hS hAN hN0⟩ rfl rfl hl.1 rfl (lv_room (Nat.le_of_ble_eq_true rfl)) d_Reader_guards_38 ⟨(by show 3 * (a1 - aa) + 1 + (0) ≤ 3 * (72 - aa) + 2; omega), (by show 100 * (a1 - aa) + 6 + (0) ≤ 100 * (72 - aa) + 80; omega)⟩) hS (fun q _ h => hFc q h) hFc (fun u t H1 locs ht hvm hw hB hz1 hk1 hS => ?_)
          obtain ⟨I10, T10, A10, O10, pl10, q10, s10, cq10, cs10⟩ := u
          dsimp only at hw hB
          rw [ht] at hB
          obtain ⟨hP, hD1, hac10⟩ := hB
          have hD : va_D Bq (y_W ad ar I10 T10 A10 O10 pl10) := hD1.weaken (fun _ q _ h => hFc q.1 h)
          generalize H1 = H at hP hS hac10 ⊢
          have hae10 := hac10
          try unfold y_ac at hae10
          try dsimp only at hae10
          refine W.widen (k := 3 * (a1 - aa) + 1) (n := 100 * (a1 - aa) + 6) (by omega) (by omega) ?_
          obtain ⟨e1, e2, e3, e4, hL⟩ := hw
          rw [e1, e2, e3, e4] at hP hD
          have hfg8 : y_L pl10 g8 = some (.inr (9, [.ref (z 21), .int (-1), .int (-1), .null, .null, .int 0])) := by rw [hL]; exact y_Lu_s
          have hoth : ∀ b, b ≠ g8 → y_L pl10 b = y_L pl1 b := fun b n0 => by rw [hL, y_Lu_n n0]; exact hoth b n0
          clear hL
          have hP : va_P (dC, dI) y_cl (y_W ad ar I1 T A1 O1 pl10) H := hP
          have hD : va_D Bq (y_W ad ar I1 T A1 O1 pl10) := hD
          refine lv_astore (lv' := [(6, .ref g8), (0, .ref (ad 1)), (1, .ref P), (2, .int (Int32.ofNat dp)), (3, .int (Int32.ofNat 0)), (4, .null), (5, .int (Int32.ofNat i1))]) hx hb d_Reader_guards_41 hl (by decide) rfl (fun ls hl => ?_)
          refine lv_aload_n hx hb d_Reader_guards_43 rfl (lv_at hl 1 rfl) ?_
          have hFc := y_free hD hS hA
          refine va_calli (va_runV (As := []) (rest := []) ⟨hx, hb, hml, hown, hts⟩ (c_Rd_expression l dC dI ar N0 z ad I1 T A1 O1 pl10 ln cl1 ln a1 H.size (y_hs H) hmi) (cwV 0 hts (x_goodV k_500 k_502 kp_9 k_2 k_503) rfl rfl rfl (by decide +kernel) ⟨Nat.le_trans (m := 41) (Nat.le_of_ble_eq_true rfl) (Nat.le_add_left 41 _), Nat.le_trans (m := 1440) (Nat.le_of_ble_eq_true rfl) (Nat.le_add_left 1440 _)⟩) ⟨y_blind, va_recv hK hP (ci := 3) (q0 := 1) rfl (y_W_ob (by decide) (by decide)), fun U9 hU9 hW9 => y_pre hU9 hW9 hP hD hU hZ hS hAN hN0⟩ rfl rfl hl.1 rfl (lv_room (Nat.le_of_ble_eq_true rfl)) d_Reader_guards_44 ⟨(by show 3 * (a1 - aa) + 1 + (0) ≤ 3 * (72 - aa) + 2; omega), (by show 100 * (a1 - aa) + 6 + (0) ≤ 100 * (72 - aa) + 80; omega)⟩) hS (fun q _ h => hFc q h) hFc (fun r_11 u t H1 locs ht hvm hw hB hz1 hk1 hS => ?_)
          obtain ⟨I12, T12, A12, O12, pl12, q12, s12, cq12, cs12⟩ := u
          dsimp only at hw hB
          rw [ht] at hB
          obtain ⟨hP, hD1, hac12⟩ := hB
          have hD : va_D Bq (y_W ad ar I12 T12 A12 O12 pl12) := hD1.weaken (fun _ q _ h => hFc q.1 h)
          generalize H1 = H at hP hS hac12 ⊢
          have hae12 := hac12
          try unfold y_ac at hae12
          try dsimp only at hae12
          refine W.widen (k := 3 * (a1 - aa) + 1) (n := 100 * (a1 - aa) + 6) (by omega) (by omega) ?_
          obtain ⟨hmi, e2, e4, e5, fr12, e6, e7, hge12, hcc12, hcz, hr9⟩ := hw
          rw [e2, e4, e5] at hP hD
          rw [e6, e7] at hmi
          have hP : va_P (dC, dI) y_cl (y_W ad ar I12 T A12 O1 pl10) H := hP
          have hD : va_D Bq (y_W ad ar I12 T A12 O1 pl10) := hD
          have hbn := hmi.2.1
          dsimp only at hbn
          rcases hr9 with rfl | rfl
          · refine lv_if_ne (tgt := 52) hx hb d_Reader_guards_47 (by decide) (fun c13 => absurd rfl c13) (fun _ => ?_)
            refine lv_iconst (v := 0) hx hb d_Reader_guards_50 (by decide) ?_
            have hfl : ∀ a, f0 a ≠ none → y_L pl10 a = f0 a := fun a ha => by
              obtain ⟨h1, h2⟩ := hdx1.1 a ha
              rw [hoth a (fun e => by rw [e, hzg8] at h1; exact ha (by rw [e]; exact h1.symm)), h1]
            refine y_know (fun hy91 hy92 hy93 hy94 => ?_)
            have hac9 : y_rc s.heap.size (y_hs s.heap) aa cs12 1 H := ⟨by omega, by omega⟩
            refine W.widen (k := 3 * (72 - aa) + 2) (n := 100 * (72 - aa) + 80) (by omega) (by omega) ?_
            exact W.zret (v := 0) hx hb hr (rfl) (fun t ht hW => ⟨⟨0, (I12, T, A12, O1, pl10, (ln, s12, 1, cs12)), rfl, ⟨hmi, rfl, hO1, (hfr.tr fr12 (by decide)), by dsimp only; omega, Or.inl ⟨rfl, Nat.le_refl _, hfl⟩⟩, (by dsimp only; rw [ht]; exact ⟨hP, hD, hac9⟩)⟩, hS.F ht⟩) hS.2.2 d_Reader_guards_51
          · refine lv_if_ne (tgt := 52) hx hb d_Reader_guards_47 (by decide) (fun _ => ?_) (fun c14 => absurd c14 (by decide))
            refine lv_aload hx hb d_Reader_guards_52 (lv_at hl 0 rfl) ?_
            refine lv_aload_n hx hb d_Reader_guards_54 rfl (lv_at hl 1 rfl) ?_
            refine y_know (fun hya1 hya2 hya3 hya4 => ?_)
            have hFc := y_free hD hS hA
            refine va_callq (va_runV (As := []) (rest := [.ref g8]) ⟨hx, hb, hml, hown, hts⟩ (c_Rd_codeRead l dC dI ar N0 z ad I12 T A12 O1 pl10 ln s12 ln cs12 H.size (y_hs H) hmi (by omega)) (cwV 0 hts (x_goodV k_526 k_528 kp_14 k_2 k_529) rfl rfl rfl (by decide +kernel) ⟨Nat.le_trans (m := 41) (Nat.le_of_ble_eq_true rfl) (Nat.le_add_left 41 _), Nat.le_trans (m := 1440) (Nat.le_of_ble_eq_true rfl) (Nat.le_add_left 1440 _)⟩) ⟨y_blind, va_recv hK hP (ci := 3) (q0 := 1) rfl (y_W_ob (by decide) (by decide)), fun U9 hU9 hW9 => y_pre hU9 hW9 hP hD hU hZ hS hAN hN0⟩ rfl rfl hl.1 rfl (lv_room (Nat.le_of_ble_eq_true rfl)) d_Reader_guards_55 ⟨(by show 3 * (a1 - aa) + 1 + (1) ≤ 3 * (72 - aa) + 2; omega), (by show 100 * (a1 - aa) + 6 + (s12) ≤ 100 * (72 - aa) + 80; omega)⟩) hS (fun q _ h => hFc q h) hFc (fun r_15 u t H1 locs ht hvm hw hB hz1 hk1 hS => ?_)
            obtain ⟨I16, T16, A16, O16, pl16, q16, s16, cq16, cs16⟩ := u
            dsimp only at hw hB
            rw [ht] at hB
            obtain ⟨hP, hD1, hac16⟩ := hB
            have hD : va_D Bq (y_W ad ar I16 T16 A16 O16 pl16) := hD1.weaken (fun _ q _ h => hFc q.1 h)
            generalize H1 = H at hP hS hac16 ⊢
            have hae16 := hac16
            try unfold y_ac at hae16
            try dsimp only at hae16
            obtain ⟨q16, h116, rfl, hno16, e1, e2, e3, e4, hL16, hcp16⟩ := hw
            rw [e1, e2, e3, e4] at hP hD
            refine W.eq (g2 := F0 m 58 ls [.ref q16, .ref g8]) rfl ?_
            have hP : va_P (dC, dI) y_cl (y_W ad ar I12 T A12 O1 pl16) H := hP
            have hD : va_D Bq (y_W ad ar I12 T A12 O1 pl16) := hD
            have hne17_q16 : g8 ≠ q16 := fun h9 => by rw [h9, hno16] at hfg8; cases hfg8
            have hzq16 : y_L pl1 q16 = none := by rw [← hoth q16 (Ne.symm hne17_q16)]; exact hno16
            have hfg8 : y_L pl16 g8 = some (.inr (9, [.ref (z 21), .int (-1), .int (-1), .null, .null, .int 0])) := by rw [hL16, y_Lu_n hne17_q16]; exact hfg8
            have hqq16 : y_L pl16 q16 = some (.inl (ar 0, s12, .inl h116)) := by rw [hL16]; exact y_Lu_s
            have hoth : ∀ b, b ≠ g8 → b ≠ q16 → y_L pl16 b = y_L pl1 b := fun b n0 n1 => by rw [hL16, y_Lu_n n1]; exact hoth b n0
            have hokq16 : y_cok s12 h116 := fun j hj => by rw [hcp16 j hj]; exact hmi.2.2 j hj (by dsimp only; omega)
            clear hL16
            refine d_pN (C := "ChannelMachine$Guard") (F := F_Guard) (N := 6) hx hb hts i_Guard hown t_Guard t_Guard_ok n_Guard hK hP hD hS hfg8 0 rfl (by decide) (hU.1.2.1 _ kn_570) (fun _ h9 => h9) rfl (ty := (.array .int)) (v := .ref q16) (by decide +kernel) rfl rfl (Nat.le_of_ble_eq_true rfl) d_Reader_guards_58 (fun pl18 H locs hL hP hD hS => ?_)
            have hqq16 : y_L pl18 q16 = some (.inl (ar 0, s12, .inl h116)) := by rw [hL, y_Lu_n (Ne.symm hne17_q16)]; exact hqq16
            have hfg8 : y_L pl18 g8 = some (.inr (9, [.ref q16, .int (-1), .int (-1), .null, .null, .int 0])) := by rw [hL]; exact y_Lu_s
            have hoth : ∀ b, b ≠ g8 → b ≠ q16 → y_L pl18 b = y_L pl1 b := fun b n0 n1 => by rw [hL, y_Lu_n n0]; exact hoth b n0 n1
            clear hL
            refine lv_aload_n hx hb d_Reader_guards_61 rfl (lv_at hl 1 rfl) ?_
            refine lv_bipush (v := 38) hx hb d_Reader_guards_62 (by decide) ?_
            have hFc := y_free hD hS hA
            refine va_calli (va_runV (As := [.int 38]) (rest := []) ⟨hx, hb, hml, hown, hts⟩ (c_Rd_expect l dC dI ar N0 z ad I12 T A12 O1 pl18 ln s12 ln cs12 (38) H.size (y_hs H) hmi (by decide)) (cwV 1 hts (x_goodV k_492 k_494 kp_7 k_2 k_495) rfl rfl rfl (by decide +kernel) ⟨Nat.le_trans (m := 41) (Nat.le_of_ble_eq_true rfl) (Nat.le_add_left 41 _), Nat.le_trans (m := 1440) (Nat.le_of_ble_eq_true rfl) (Nat.le_add_left 1440 _)⟩) ⟨y_blind, va_recv hK hP (ci := 3) (q0 := 1) rfl (y_W_ob (by decide) (by decide)), fun U9 hU9 hW9 => y_pre hU9 hW9 hP hD hU hZ hS hAN hN0⟩ rfl rfl hl.1 rfl (lv_room (Nat.le_of_ble_eq_true rfl)) d_Reader_guards_64 ⟨(by show 3 * (a1 - aa) + 1 + (1) + (0) ≤ 3 * (72 - aa) + 2; omega), (by show 100 * (a1 - aa) + 6 + (s12) + (0) ≤ 100 * (72 - aa) + 80; omega)⟩) hS (fun q _ h => hFc q h) hFc (fun r_19 u t H1 locs ht hvm hw hB hz1 hk1 hS => ?_)
            obtain ⟨I20, T20, A20, O20, pl20, q20, s20, cq20, cs20⟩ := u
            dsimp only at hw hB
            rw [ht] at hB
            obtain ⟨hP, hD1, hac20⟩ := hB
            have hD : va_D Bq (y_W ad ar I20 T20 A20 O20 pl20) := hD1.weaken (fun _ q _ h => hFc q.1 h)
            generalize H1 = H at hP hS hac20 ⊢
            have hae20 := hac20
            try unfold y_ac at hae20
            try dsimp only at hae20
            refine W.widen (k := 3 * (a1 - aa) + 1 + (1)) (n := 100 * (a1 - aa) + 6 + (s12)) (by omega) (by omega) ?_
            obtain ⟨hmi, e2, e4, e5, fr20, e6, e7, hge20, hcc20, hr9⟩ := hw
            rw [e2, e4, e5] at hP hD
            rw [e6, e7] at hmi
            have hP : va_P (dC, dI) y_cl (y_W ad ar I20 T A20 O1 pl18) H := hP
            have hD : va_D Bq (y_W ad ar I20 T A20 O1 pl18) := hD
            have hbn := hmi.2.1
            dsimp only at hbn
            rcases hr9 with rfl | ⟨rfl, hex21⟩
            · refine lv_if_eq (tgt := 110) hx hb d_Reader_guards_67 (by decide) (fun _ => ?_) (fun c22 => absurd (by decide) c22)
              refine lv_iconst (v := 0) hx hb d_Reader_guards_110 (by decide) ?_
              have hfl : ∀ a, f0 a ≠ none → y_L pl18 a = f0 a := fun a ha => by
                obtain ⟨h1, h2⟩ := hdx1.1 a ha
                rw [hoth a (fun e => by rw [e, hzg8] at h1; exact ha (by rw [e]; exact h1.symm)) (fun e => by rw [e, hzq16] at h1; exact ha (by rw [e]; exact h1.symm)), h1]
              refine y_know (fun hy91 hy92 hy93 hy94 => ?_)
              have hac9 : y_rc s.heap.size (y_hs s.heap) aa cs20 1 H := ⟨by omega, by omega⟩
              refine W.widen (k := 3 * (72 - aa) + 2) (n := 100 * (72 - aa) + 80) (by omega) (by omega) ?_
              exact W.zret (v := 0) hx hb hr (rfl) (fun t ht hW => ⟨⟨0, (I20, T, A20, O1, pl18, (ln, s20, 1, cs20)), rfl, ⟨hmi, rfl, hO1, ((hfr.tr fr12 (by decide)).tr fr20 (by decide)), by dsimp only; omega, Or.inl ⟨rfl, Nat.le_refl _, hfl⟩⟩, (by dsimp only; rw [ht]; exact ⟨hP, hD, hac9⟩)⟩, hS.F ht⟩) hS.2.2 d_Reader_guards_111
            · refine lv_if_eq (tgt := 110) hx hb d_Reader_guards_67 (by decide) (fun c23 => absurd c23 (by decide)) (fun _ => ?_)
              refine lv_aload_n hx hb d_Reader_guards_70 rfl (lv_at hl 1 rfl) ?_
              refine lv_aload hx hb d_Reader_guards_71 (lv_at hl 0 rfl) ?_
              have hFc := y_free hD hS hA
              have hfl0 : ∀ a, f0 a ≠ none → y_L pl18 a = f0 a := fun a ha => by
                obtain ⟨h1, h2⟩ := hdx1.1 a ha
                rw [hoth a (fun e => by rw [e, hzg8] at h1; exact ha (by rw [e]; exact h1.symm)) (fun e => by rw [e, hzq16] at h1; exact ha (by rw [e]; exact h1.symm)), h1]
              refine va_calli (va_runV (As := [.ref g8]) (rest := []) ⟨hx, hb, hml, hown, hts⟩ (c_Rd_guardInput l dC dI ar N0 z ad I20 T A20 O1 pl18 ln s20 ln cs20 g8 q16 H.size (y_hs H) hmi hfg8) (cwV 1 hts (x_goodV k_599 k_601 kp_18 k_2 k_602) rfl rfl rfl (by decide +kernel) ⟨Nat.le_trans (m := 41) (Nat.le_of_ble_eq_true rfl) (Nat.le_add_left 41 _), Nat.le_trans (m := 1440) (Nat.le_of_ble_eq_true rfl) (Nat.le_add_left 1440 _)⟩) ⟨y_blind, va_recv hK hP (ci := 3) (q0 := 1) rfl (y_W_ob (by decide) (by decide)), fun U9 hU9 hW9 => y_pre hU9 hW9 hP hD hU hZ hS hAN hN0⟩ rfl rfl hl.1 rfl (lv_room (Nat.le_of_ble_eq_true rfl)) d_Reader_guards_73 ⟨(by show 3 * (a1 - aa) + 1 + (1) + (0) ≤ 3 * (72 - aa) + 2; omega), (by show 100 * (a1 - aa) + 6 + (s12) + (0) ≤ 100 * (72 - aa) + 80; omega)⟩) hS (fun q _ h => hFc q h) hFc (fun r_24 u t H1 locs ht hvm hw hB hz1 hk1 hS => ?_)
              obtain ⟨I25, T25, A25, O25, pl25, q25, s25, cq25, cs25⟩ := u
              dsimp only at hw hB
              rw [ht] at hB
              obtain ⟨hP, hD1, hac25⟩ := hB
              have hD : va_D Bq (y_W ad ar I25 T25 A25 O25 pl25) := hD1.weaken (fun _ q _ h => hFc q.1 h)
              generalize H1 = H at hP hS hac25 ⊢
              have hae25 := hac25
              try unfold y_ac at hae25
              try dsimp only at hae25
              refine W.widen (k := 3 * (a1 - aa) + 1 + (1)) (n := 100 * (a1 - aa) + 6 + (s12)) (by omega) (by omega) ?_
              obtain ⟨hmi, e2, e4, fr25, e6, e7, hge25, hbr⟩ := hw
              rw [e2, e4] at hP hD
              rw [e6, e7] at hmi
              have hP : va_P (dC, dI) y_cl (y_W ad ar I25 T A25 O1 pl25) H := hP
              have hD : va_D Bq (y_W ad ar I25 T A25 O1 pl25) := hD
              have hbn := hmi.2.1
              dsimp only at hbn
              rcases hbr with ⟨rfl, hog⟩ | ⟨rfl, chg, vag, hchg, hfg8, hog⟩
              · refine lv_if_eq (tgt := 110) hx hb d_Reader_guards_76 (by decide) (fun _ => ?_) (fun c26 => absurd (by decide) c26)
                refine lv_iconst (v := 0) hx hb d_Reader_guards_110 (by decide) ?_
                have hfl : ∀ a, f0 a ≠ none → y_L pl25 a = f0 a := (fun a ha => by rw [hog a (by rw [hfl0 a ha]; exact ha) (fun e => by have h1 := (hdx1.1 a ha).1; rw [e, hzg8] at h1; exact ha (by rw [e]; exact h1.symm)), hfl0 a ha])
                refine y_know (fun hy91 hy92 hy93 hy94 => ?_)
                have hac9 : y_rc s.heap.size (y_hs s.heap) aa cs25 1 H := ⟨by omega, by omega⟩
                refine W.widen (k := 3 * (72 - aa) + 2) (n := 100 * (72 - aa) + 80) (by omega) (by omega) ?_
                exact W.zret (v := 0) hx hb hr (rfl) (fun t ht hW => ⟨⟨0, (I25, T, A25, O1, pl25, (ln, s25, 1, cs25)), rfl, ⟨hmi, rfl, hO1, (((hfr.tr fr12 (by decide)).tr fr20 (by decide)).tr fr25 (by decide)), by dsimp only; omega, Or.inl ⟨rfl, Nat.le_refl _, hfl⟩⟩, (by dsimp only; rw [ht]; exact ⟨hP, hD, hac9⟩)⟩, hS.F ht⟩) hS.2.2 d_Reader_guards_111
              · have hqq16 : y_L pl25 q16 = some (.inl (ar 0, s12, .inl h116)) := by rw [hog q16 (Ne.symm hne17_q16)]; exact hqq16
                have hoth : ∀ b, b ≠ g8 → b ≠ q16 → y_L pl25 b = y_L pl1 b := fun b n0 n1 => by rw [hog b n0]; exact hoth b n0 n1
                refine lv_if_eq (tgt := 110) hx hb d_Reader_guards_76 (by decide) (fun c27 => absurd c27 (by decide)) (fun _ => ?_)
                refine lv_aload_n hx hb d_Reader_guards_79 rfl (lv_at hl 1 rfl) ?_
                refine lv_bipush (v := 44) hx hb d_Reader_guards_80 (by decide) ?_
                have hFc := y_free hD hS hA
                refine va_calli (va_runV (As := [.int 44]) (rest := []) ⟨hx, hb, hml, hown, hts⟩ (c_Rd_expect l dC dI ar N0 z ad I25 T A25 O1 pl25 ln s25 ln cs25 (44) H.size (y_hs H) hmi (by decide)) (cwV 1 hts (x_goodV k_492 k_494 kp_7 k_2 k_495) rfl rfl rfl (by decide +kernel) ⟨Nat.le_trans (m := 41) (Nat.le_of_ble_eq_true rfl) (Nat.le_add_left 41 _), Nat.le_trans (m := 1440) (Nat.le_of_ble_eq_true rfl) (Nat.le_add_left 1440 _)⟩) ⟨y_blind, va_recv hK hP (ci := 3) (q0 := 1) rfl (y_W_ob (by decide) (by decide)), fun U9 hU9 hW9 => y_pre hU9 hW9 hP hD hU hZ hS hAN hN0⟩ rfl rfl hl.1 rfl (lv_room (Nat.le_of_ble_eq_true rfl)) d_Reader_guards_82 ⟨(by show 3 * (a1 - aa) + 1 + (1) + (0) ≤ 3 * (72 - aa) + 2; omega), (by show 100 * (a1 - aa) + 6 + (s12) + (0) ≤ 100 * (72 - aa) + 80; omega)⟩) hS (fun q _ h => hFc q h) hFc (fun r_28 u t H1 locs ht hvm hw hB hz1 hk1 hS => ?_)
                obtain ⟨I29, T29, A29, O29, pl29, q29, s29, cq29, cs29⟩ := u
                dsimp only at hw hB
                rw [ht] at hB
                obtain ⟨hP, hD1, hac29⟩ := hB
                have hD : va_D Bq (y_W ad ar I29 T29 A29 O29 pl29) := hD1.weaken (fun _ q _ h => hFc q.1 h)
                generalize H1 = H at hP hS hac29 ⊢
                have hae29 := hac29
                try unfold y_ac at hae29
                try dsimp only at hae29
                refine W.widen (k := 3 * (a1 - aa) + 1 + (1)) (n := 100 * (a1 - aa) + 6 + (s12)) (by omega) (by omega) ?_
                obtain ⟨hmi, e2, e4, e5, fr29, e6, e7, hge29, hcc29, hr9⟩ := hw
                rw [e2, e4, e5] at hP hD
                rw [e6, e7] at hmi
                have hP : va_P (dC, dI) y_cl (y_W ad ar I29 T A29 O1 pl25) H := hP
                have hD : va_D Bq (y_W ad ar I29 T A29 O1 pl25) := hD
                have hbn := hmi.2.1
                dsimp only at hbn
                rcases hr9 with rfl | ⟨rfl, hex30⟩
                · refine lv_if_eq (tgt := 110) hx hb d_Reader_guards_85 (by decide) (fun _ => ?_) (fun c31 => absurd (by decide) c31)
                  refine lv_iconst (v := 0) hx hb d_Reader_guards_110 (by decide) ?_
                  have hfl : ∀ a, f0 a ≠ none → y_L pl25 a = f0 a := fun a ha => by
                    obtain ⟨h1, h2⟩ := hdx1.1 a ha
                    rw [hoth a (fun e => by rw [e, hzg8] at h1; exact ha (by rw [e]; exact h1.symm)) (fun e => by rw [e, hzq16] at h1; exact ha (by rw [e]; exact h1.symm)), h1]
                  refine y_know (fun hy91 hy92 hy93 hy94 => ?_)
                  have hac9 : y_rc s.heap.size (y_hs s.heap) aa cs29 1 H := ⟨by omega, by omega⟩
                  refine W.widen (k := 3 * (72 - aa) + 2) (n := 100 * (72 - aa) + 80) (by omega) (by omega) ?_
                  exact W.zret (v := 0) hx hb hr (rfl) (fun t ht hW => ⟨⟨0, (I29, T, A29, O1, pl25, (ln, s29, 1, cs29)), rfl, ⟨hmi, rfl, hO1, ((((hfr.tr fr12 (by decide)).tr fr20 (by decide)).tr fr25 (by decide)).tr fr29 (by decide)), by dsimp only; omega, Or.inl ⟨rfl, Nat.le_refl _, hfl⟩⟩, (by dsimp only; rw [ht]; exact ⟨hP, hD, hac9⟩)⟩, hS.F ht⟩) hS.2.2 d_Reader_guards_111
                · refine lv_if_eq (tgt := 110) hx hb d_Reader_guards_85 (by decide) (fun c32 => absurd c32 (by decide)) (fun _ => ?_)
                  refine lv_aload_n hx hb d_Reader_guards_88 rfl (lv_at hl 1 rfl) ?_
                  refine lv_aload_n hx hb d_Reader_guards_89 rfl (lv_at hl 2 rfl) ?_
                  refine lv_iload_n hx hb d_Reader_guards_90 rfl (lv_at hl 3 rfl) ?_
                  refine lv_iconst (v := 1) hx hb d_Reader_guards_91 (by decide) ?_
                  refine lv_iadd hx hb d_Reader_guards_92 ?_
                  refine W.eq (g2 := F0 m 93 ls [.int (Int32.ofNat (dp + 1)), .ref P, .ref (ad 1)]) (by rw [← x_addN (a := dp) (b := 1)] <;> rfl) ?_
                  refine lv_iload hx hb d_Reader_guards_93 (lv_at hl 6 rfl) ?_
                  refine lv_iload_n hx hb d_Reader_guards_95 rfl (lv_at hl 4 rfl) ?_
                  refine lv_icmp_ge (tgt := 103) hx hb d_Reader_guards_96 (by decide) (fun c_33 => ?_) (fun c_33 => ?_)
                  · have c_33 : 0 ≤ i1 := (x_leN (a := 0) (b := i1) (by omega) (by omega)).mp c_33
                    refine lv_iconst (v := 0) hx hb d_Reader_guards_103 (by decide) ?_
                    have hG0g := (hdx1.un hzg8).2
                    have hG0q := (hdx1.un hzq16).2
                    have hgq := hne17_q16
                    have hfg80 := hfg8
                    have hcur : ∀ b, b ≠ g8 → b ≠ q16 → y_L pl25 b = y_L pl1 b := fun b h1 h2 => hoth b h1 h2
                    have hdxc := hdx1.two hzg8 hzq16 hgq hfg8 hqq16 hcur
                    refine y_know (fun hya1 hya2 hya3 hya4 => ?_)
                    have hFc := y_free hD hS hA
                    refine va_calli (va_runV (As := [.ref P, .int (Int32.ofNat (dp + 1)), .int 0]) (rest := []) ⟨hx, hb, hml, hown, hts⟩ (ihP l dC dI ar N0 z ad I29 T A29 O1 pl25 ln s29 cs29 f0 G1 J1 C1 Gs1 S1 (some P) ((dp + 1)) (0) H.size (y_hs H) hmi hdxc (fun P9 hP9 => by cases hP9; exact ⟨hG1, fun h9 => by omega⟩) (by omega) (by omega)) (cwV 3 hts (x_goodV k_557 k_332 kp_1 k_2 k_333) rfl rfl rfl (by decide +kernel) ⟨(by show 2 * nn + 40 + 1 ≤ 2 * nn + 41; omega), (by show 8 + (5 + 11) + (100 * nn + 1400) ≤ 100 * nn + 1440; omega)⟩) ⟨y_blind, va_recv hK hP (ci := 3) (q0 := 1) rfl (y_W_ob (by decide) (by decide)), fun U9 hU9 hW9 => y_pre hU9 hW9 hP hD hU hZ hS hAN hN0⟩ rfl rfl hl.1 rfl (lv_room (Nat.le_of_ble_eq_true rfl)) d_Reader_guards_104 ⟨(by show 3 * (a1 - aa) + 1 + (1) + (3 * (72 - cs29) + 2) ≤ 3 * (72 - aa) + 2; omega), (by show 100 * (a1 - aa) + 6 + (s12) + (100 * (72 - cs29) + 80) ≤ 100 * (72 - aa) + 80; omega)⟩) hS (fun q _ h => hFc q h) hFc (fun r_34 u t H1 locs ht hvm hw hB hz1 hk1 hS => ?_)
                    obtain ⟨I35, T35, A35, O35, pl35, q35, s35, cq35, cs35⟩ := u
                    dsimp only at hw hB
                    rw [ht] at hB
                    obtain ⟨hP, hD1, hac35⟩ := hB
                    have hD : va_D Bq (y_W ad ar I35 T35 A35 O35 pl35) := hD1.weaken (fun _ q _ h => hFc q.1 h)
                    generalize H1 = H at hP hS hac35 ⊢
                    have hae35 := hac35
                    try unfold y_ac at hae35
                    try dsimp only at hae35
                    obtain ⟨hmi, e2, hO35, fr35, hge35, hbr⟩ := hw
                    rw [e2] at hP hD
                    have hP : va_P (dC, dI) y_cl (y_W ad ar I35 T A35 O35 pl35) H := hP
                    have hD : va_D Bq (y_W ad ar I35 T A35 O35 pl35) := hD
                    have hbn := hmi.2.1
                    dsimp only at hbn
                    rcases hbr with ⟨rfl, hsl, hfl35⟩ | ⟨rfl, hsl, c35_, hsu35, hpr35⟩
                    · unfold y_rc at hac35
                      try dsimp only at hac35
                      refine y_tight (k := 3 * (cs35 - aa) + 2) (n := 100 * (cs35 - aa) + 80) (by omega) (by omega) ?_
                      refine lv_if_ne (tgt := 112) hx hb d_Reader_guards_107 (by decide) (fun c36 => absurd rfl c36) (fun _ => ?_)
                      refine lv_iconst (v := 0) hx hb d_Reader_guards_110 (by decide) ?_
                      have hfl : ∀ a, f0 a ≠ none → y_L pl35 a = f0 a := hfl35
                      refine y_know (fun hy91 hy92 hy93 hy94 => ?_)
                      have hac9 : y_rc s.heap.size (y_hs s.heap) aa cs35 1 H := ⟨by omega, by omega⟩
                      refine W.widen (k := 3 * (72 - aa) + 2) (n := 100 * (72 - aa) + 80) (by omega) (by omega) ?_
                      exact W.zret (v := 0) hx hb hr (rfl) (fun t ht hW => ⟨⟨0, (I35, T, A35, O35, pl35, (ln, s35, 1, cs35)), rfl, ⟨hmi, rfl, fun k => (hO35 k (Or.inr nofun)).trans ((hO1) k), (((((hfr.tr fr12 (by decide)).tr fr20 (by decide)).tr fr25 (by decide)).tr fr29 (by decide)).tr fr35 (by decide)), by dsimp only; omega, Or.inl ⟨rfl, Nat.le_refl _, hfl⟩⟩, (by dsimp only; rw [ht]; exact ⟨hP, hD, hac9⟩)⟩, hS.F ht⟩) hS.2.2 d_Reader_guards_111
                    · subst hsl
                      unfold y_rc at hac35
                      try dsimp only at hac35
                      refine y_tight (k := 3 * (cs35 - aa)) (n := 100 * (cs35 - aa)) (by omega) (by omega) ?_
                      obtain ⟨G35, J35, C35, Gs35, S35, hdx35, hph35, hSp35, hGp35, hCp35, hcg35⟩ := hsu35.ph (by rw [hcur P (fun e => by rw [← e] at hG0g; omega) (fun e => by rw [← e] at hG0q; omega)]; exact hph.2.1.1)
                      have hgP : g8 ≠ P := fun e => by rw [e] at hG0g; omega
                      have hqP : q16 ≠ P := fun e => by rw [e] at hG0q; omega
                      have hfg8 : y_L pl35 g8 = some (.inr (9, [.ref q16, .int chg, .int vag, .null, .null, .int 0])) := by rw [(hph35.1 g8 (by rw [hfg8]; exact nofun) hgP).2.2.2.2.2.2 (by rw [hG0g]; decide)]; exact hfg8
                      have hqq162 : y_L pl35 q16 = some (.inl (ar 0, s12, .inl h116)) := by rw [(hph35.1 q16 (by rw [hqq16]; exact nofun) hqP).2.2.2.2.2.2 (by rw [hG0q]; decide)]; exact hqq16
                      have hG2g : G35 g8 = 0 := by rw [(hph35.1 g8 (by rw [hfg80]; exact nofun) hgP).2.1]; exact hG0g
                      have hG2q : G35 q16 = 0 := by rw [(hph35.1 q16 (by rw [hqq16]; exact nofun) hqP).2.1]; exact hG0q
                      have hG2P : G35 P = 7 := hph35.2.1.2.1.trans hG1
                      obtain ⟨par3, nx3, tk3, co3, ch3, va3, hfP0, hpx3⟩ := hdx35.2.1 P hG2P
                      have hgl2 : (Gs35 P).getLast? = none := by rw [hGp35]; exact hlo.symm
                      have hGn2 : Gs35 P = [] := List.getLast?_eq_none_iff.mp hgl2
                      have hfP : y_L pl35 P = some (.inr (7, [.ref (z (3 + J35 P)), va_rf par3, va_rf (C35 P).head?, .ref c35_, va_rf nx3, va_rf tk3, .null, .ref co3, .int ch3, .int va3])) := by rw [hfP0]; unfold y_Pf; rw [hCp35, y_glast, hGn2]; rfl
                      refine lv_if_ne (tgt := 112) hx hb d_Reader_guards_107 (by decide) (fun _ => ?_) (fun c37 => absurd c37 (by decide))
                      refine lv_aload hx hb d_Reader_guards_112 (lv_at hl 0 rfl) ?_
                      refine lv_aload_n hx hb d_Reader_guards_114 rfl (lv_at hl 2 rfl) ?_
                      refine d_gN (C := "ChannelMachine$Process") (F := F_Process) (N := 10) hx hb hts i_Process hown hK hP hfP 3 rfl (by decide) (hU.1.2.1 _ kn_401) (fun _ h9 => h9) (v := .ref c35_) rfl d_Reader_guards_115 ?_
                      refine d_pN (C := "ChannelMachine$Guard") (F := F_Guard) (N := 6) hx hb hts i_Guard hown t_Guard t_Guard_ok n_Guard hK hP hD hS hfg8 3 rfl (by decide) (hU.1.2.1 _ kn_579) (fun _ h9 => h9) rfl (ty := (.object "ChannelMachine$Process")) (v := .ref c35_) (by decide +kernel) rfl rfl (Nat.le_of_ble_eq_true rfl) d_Reader_guards_118 (fun pl38 H locs hL hP hD hS => ?_)
                      have hfP : y_L pl38 P = some (.inr (7, [.ref (z (3 + J35 P)), va_rf par3, va_rf (C35 P).head?, .ref c35_, va_rf nx3, va_rf tk3, .null, .ref co3, .int ch3, .int va3])) := by rw [hL, y_Lu_n (Ne.symm hgP)]; exact hfP
                      have hfg8 : y_L pl38 g8 = some (.inr (9, [.ref q16, .int chg, .int vag, .ref c35_, .null, .int 0])) := by rw [hL]; exact y_Lu_s
                      have hoth : ∀ b, b ≠ g8 → y_L pl38 b = y_L pl35 b := fun b n0 => by rw [hL, y_Lu_n n0]
                      clear hL
                      refine lv_aloadN hx hb d_Reader_guards_121 (lv_at hl 5 rfl) ?_
                      refine lv_ifnonnullN hx hb d_Reader_guards_123 ?_
                      refine lv_aload_n hx hb d_Reader_guards_126 rfl (lv_at hl 2 rfl) ?_
                      refine lv_aload hx hb d_Reader_guards_127 (lv_at hl 0 rfl) ?_
                      refine d_pN (C := "ChannelMachine$Process") (F := F_Process) (N := 10) hx hb hts i_Process hown t_Process t_Process_ok n_Process hK hP hD hS hfP 6 rfl (by decide) (hU.1.2.1 _ kn_411) (fun _ h9 => h9) rfl (ty := (.object "ChannelMachine$Guard")) (v := .ref g8) (by decide +kernel) rfl rfl (Nat.le_of_ble_eq_true rfl) d_Reader_guards_129 (fun pl39 H locs hL hP hD hS => ?_)
                      have hfg8 : y_L pl39 g8 = some (.inr (9, [.ref q16, .int chg, .int vag, .ref c35_, .null, .int 0])) := by rw [hL, y_Lu_n hgP]; exact hfg8
                      have hfP : y_L pl39 P = some (.inr (7, [.ref (z (3 + J35 P)), va_rf par3, va_rf (C35 P).head?, .ref c35_, va_rf nx3, va_rf tk3, .ref g8, .ref co3, .int ch3, .int va3])) := by rw [hL]; exact y_Lu_s
                      have hoth : ∀ b, b ≠ g8 → b ≠ P → y_L pl39 b = y_L pl35 b := fun b n0 n1 => by rw [hL, y_Lu_n n1]; exact hoth b n0
                      clear hL
                      refine lv_goto (tgt := 142) hx hb d_Reader_guards_132 (by decide) ?_
                      refine lv_aload hx hb d_Reader_guards_142 (lv_at hl 0 rfl) ?_
                      refine lv_astore (lv' := [(4, .ref g8), (6, .ref g8), (0, .ref (ad 1)), (1, .ref P), (2, .int (Int32.ofNat dp)), (3, .int (Int32.ofNat 0)), (5, .int (Int32.ofNat i1))]) hx hb d_Reader_guards_144 hl (by decide) rfl (fun ls hl => ?_)
                      refine lv_iinc (v := (Int32.ofNat (i1 + 1))) (lv' := [(5, .int (Int32.ofNat (i1 + 1))), (4, .ref g8), (6, .ref g8), (0, .ref (ad 1)), (1, .ref P), (2, .int (Int32.ofNat dp)), (3, .int (Int32.ofNat 0))]) hx hb d_Reader_guards_146 hl (k := 6) rfl (x_incN i1) (by decide) rfl (fun ls hl => ?_)
                      refine lv_goto (tgt := 18) hx hb d_Reader_guards_149 (by decide) ?_
                      have hdN := hdx35.grd (f' := y_L pl39) (P := P) (g := g8) (q := q16) (p := c35_) (ch := chg) (va := vag) (op := 0) hG2P (hdx1.un hzg8).1 hG2g (hdx1.un hzq16).1 hG2q hgq hcg35 hchg hqq162 (by omega) hokq16 hfg8 ⟨par3, nx3, tk3, co3, ch3, va3, hfP0, by rw [hfP]; unfold y_Pf; rw [y_un_s, hCp35, y_glast, hGn2]; rfl⟩ (fun c hc => by rw [hgl2] at hc; cases hc) (fun b h1 h2 h3 => hoth b h2 h1)
                      have hpN := y_PH.grd (fc := y_L pl25) (g := g8) (q := q16) (lo := none) (L := (Gs35 P ++ [g8])) (f9 := y_L pl39) hph hPe (fun a h9 => (hdx1.un h9).2) hzg8 hzq16 hcur ⟨by rw [hfg80]; exact nofun, by rw [hqq16]; exact nofun⟩ hph35 (fun a h9 => (hdx35.un h9).2) (fun b h1 h2 h3 => hoth b h2 h1) (fun c hc => nomatch hc) ⟨by rw [hfg8]; exact nofun, by rw [hfP]; exact nofun⟩
                      have hSN := hSp35.trans hSP
                      have hlN : some g8 = (y_un Gs35 P (Gs35 P ++ [g8]) P).getLast? := by rw [y_un_s, y_glast]
                      have hyE : ∀ x, y_L pl1 x = none → y_L pl x = none := fun x hx9 => by
                        by_cases e : y_L pl x = none
                        · exact e
                        · exact absurd hx9 (by by_cases e2 : x = P; (rw [e2]; exact hph.2.1.1); exact (hph.1 x e e2).1)
                      have hgN : ∀ x, x ∈ y_un Gs35 P (Gs35 P ++ [g8]) P → y_L pl x = none := fun x hx9 => by
                        rw [y_un_s, List.mem_append, hGp35] at hx9
                        rcases hx9 with h8 | h8
                        · exact hgnew x h8
                        · rw [List.mem_singleton.mp h8]; exact hyE g8 hzg8
                      refine W.widen (k := 3 * (cs35 - aa)) (n := 100 * (cs35 - aa)) (by omega) (by omega) ?_
                      exact ih (0 + 1 - (i1 + 1)) (by omega) cs35 H locs ls ⟨I35, A35, O35, pl39, s35, cs35, i1 + 1, some g8, _, J35, C35, _, S35, rfl, ⟨rfl, by omega, by omega⟩, hmi, by omega, (((((hfr.tr fr12 (by decide)).tr fr20 (by decide)).tr fr25 (by decide)).tr fr29 (by decide)).tr fr35 (by decide)), fun k => (hO35 k (Or.inr nofun)).trans ((hO1) k), hdN, hpN, hSN, ⟨hlN, hgN⟩, hP, hD, hS, lv_sub hl [3, 4, 5, 6, 1, 0] rfl⟩
                  · have c_33 : ¬ 0 ≤ i1 := fun h9 => c_33 ((x_leN (a := 0) (b := i1) (by omega) (by omega)).mpr h9)
                    refine lv_iconst (v := 1) hx hb d_Reader_guards_99 (by decide) ?_
                    refine lv_goto (tgt := 104) hx hb d_Reader_guards_100 (by decide) ?_
                    have hG0g := (hdx1.un hzg8).2
                    have hG0q := (hdx1.un hzq16).2
                    have hgq := hne17_q16
                    have hfg80 := hfg8
                    have hcur : ∀ b, b ≠ g8 → b ≠ q16 → y_L pl25 b = y_L pl1 b := fun b h1 h2 => hoth b h1 h2
                    have hdxc := hdx1.two hzg8 hzq16 hgq hfg8 hqq16 hcur
                    refine y_know (fun hya1 hya2 hya3 hya4 => ?_)
                    have hFc := y_free hD hS hA
                    refine va_calli (va_runV (As := [.ref P, .int (Int32.ofNat (dp + 1)), .int 1]) (rest := []) ⟨hx, hb, hml, hown, hts⟩ (ihP l dC dI ar N0 z ad I29 T A29 O1 pl25 ln s29 cs29 f0 G1 J1 C1 Gs1 S1 (some P) ((dp + 1)) (1) H.size (y_hs H) hmi hdxc (fun P9 hP9 => by cases hP9; exact ⟨hG1, fun h9 => by omega⟩) (by omega) (by omega)) (cwV 3 hts (x_goodV k_557 k_332 kp_1 k_2 k_333) rfl rfl rfl (by decide +kernel) ⟨(by show 2 * nn + 40 + 1 ≤ 2 * nn + 41; omega), (by show 8 + (5 + 11) + (100 * nn + 1400) ≤ 100 * nn + 1440; omega)⟩) ⟨y_blind, va_recv hK hP (ci := 3) (q0 := 1) rfl (y_W_ob (by decide) (by decide)), fun U9 hU9 hW9 => y_pre hU9 hW9 hP hD hU hZ hS hAN hN0⟩ rfl rfl hl.1 rfl (lv_room (Nat.le_of_ble_eq_true rfl)) d_Reader_guards_104 ⟨(by show 3 * (a1 - aa) + 1 + (1) + (3 * (72 - cs29) + 2) ≤ 3 * (72 - aa) + 2; omega), (by show 100 * (a1 - aa) + 6 + (s12) + (100 * (72 - cs29) + 80) ≤ 100 * (72 - aa) + 80; omega)⟩) hS (fun q _ h => hFc q h) hFc (fun r_40 u t H1 locs ht hvm hw hB hz1 hk1 hS => ?_)
                    obtain ⟨I41, T41, A41, O41, pl41, q41, s41, cq41, cs41⟩ := u
                    dsimp only at hw hB
                    rw [ht] at hB
                    obtain ⟨hP, hD1, hac41⟩ := hB
                    have hD : va_D Bq (y_W ad ar I41 T41 A41 O41 pl41) := hD1.weaken (fun _ q _ h => hFc q.1 h)
                    generalize H1 = H at hP hS hac41 ⊢
                    have hae41 := hac41
                    try unfold y_ac at hae41
                    try dsimp only at hae41
                    obtain ⟨hmi, e2, hO41, fr41, hge41, hbr⟩ := hw
                    rw [e2] at hP hD
                    have hP : va_P (dC, dI) y_cl (y_W ad ar I41 T A41 O41 pl41) H := hP
                    have hD : va_D Bq (y_W ad ar I41 T A41 O41 pl41) := hD
                    have hbn := hmi.2.1
                    dsimp only at hbn
                    rcases hbr with ⟨rfl, hsl, hfl41⟩ | ⟨rfl, hsl, c41_, hsu41, hpr41⟩
                    · unfold y_rc at hac41
                      try dsimp only at hac41
                      refine y_tight (k := 3 * (cs41 - aa) + 2) (n := 100 * (cs41 - aa) + 80) (by omega) (by omega) ?_
                      refine lv_if_ne (tgt := 112) hx hb d_Reader_guards_107 (by decide) (fun c42 => absurd rfl c42) (fun _ => ?_)
                      refine lv_iconst (v := 0) hx hb d_Reader_guards_110 (by decide) ?_
                      have hfl : ∀ a, f0 a ≠ none → y_L pl41 a = f0 a := hfl41
                      refine y_know (fun hy91 hy92 hy93 hy94 => ?_)
                      have hac9 : y_rc s.heap.size (y_hs s.heap) aa cs41 1 H := ⟨by omega, by omega⟩
                      refine W.widen (k := 3 * (72 - aa) + 2) (n := 100 * (72 - aa) + 80) (by omega) (by omega) ?_
                      exact W.zret (v := 0) hx hb hr (rfl) (fun t ht hW => ⟨⟨0, (I41, T, A41, O41, pl41, (ln, s41, 1, cs41)), rfl, ⟨hmi, rfl, fun k => (hO41 k (Or.inr nofun)).trans ((hO1) k), (((((hfr.tr fr12 (by decide)).tr fr20 (by decide)).tr fr25 (by decide)).tr fr29 (by decide)).tr fr41 (by decide)), by dsimp only; omega, Or.inl ⟨rfl, Nat.le_refl _, hfl⟩⟩, (by dsimp only; rw [ht]; exact ⟨hP, hD, hac9⟩)⟩, hS.F ht⟩) hS.2.2 d_Reader_guards_111
                    · subst hsl
                      unfold y_rc at hac41
                      try dsimp only at hac41
                      refine y_tight (k := 3 * (cs41 - aa)) (n := 100 * (cs41 - aa)) (by omega) (by omega) ?_
                      obtain ⟨G41, J41, C41, Gs41, S41, hdx41, hph41, hSp41, hGp41, hCp41, hcg41⟩ := hsu41.ph (by rw [hcur P (fun e => by rw [← e] at hG0g; omega) (fun e => by rw [← e] at hG0q; omega)]; exact hph.2.1.1)
                      have hgP : g8 ≠ P := fun e => by rw [e] at hG0g; omega
                      have hqP : q16 ≠ P := fun e => by rw [e] at hG0q; omega
                      have hfg8 : y_L pl41 g8 = some (.inr (9, [.ref q16, .int chg, .int vag, .null, .null, .int 0])) := by rw [(hph41.1 g8 (by rw [hfg8]; exact nofun) hgP).2.2.2.2.2.2 (by rw [hG0g]; decide)]; exact hfg8
                      have hqq162 : y_L pl41 q16 = some (.inl (ar 0, s12, .inl h116)) := by rw [(hph41.1 q16 (by rw [hqq16]; exact nofun) hqP).2.2.2.2.2.2 (by rw [hG0q]; decide)]; exact hqq16
                      have hG2g : G41 g8 = 0 := by rw [(hph41.1 g8 (by rw [hfg80]; exact nofun) hgP).2.1]; exact hG0g
                      have hG2q : G41 q16 = 0 := by rw [(hph41.1 q16 (by rw [hqq16]; exact nofun) hqP).2.1]; exact hG0q
                      have hG2P : G41 P = 7 := hph41.2.1.2.1.trans hG1
                      obtain ⟨par3, nx3, tk3, co3, ch3, va3, hfP0, hpx3⟩ := hdx41.2.1 P hG2P
                      have hgl2 : (Gs41 P).getLast? = none := by rw [hGp41]; exact hlo.symm
                      have hGn2 : Gs41 P = [] := List.getLast?_eq_none_iff.mp hgl2
                      have hfP : y_L pl41 P = some (.inr (7, [.ref (z (3 + J41 P)), va_rf par3, va_rf (C41 P).head?, .ref c41_, va_rf nx3, va_rf tk3, .null, .ref co3, .int ch3, .int va3])) := by rw [hfP0]; unfold y_Pf; rw [hCp41, y_glast, hGn2]; rfl
                      refine lv_if_ne (tgt := 112) hx hb d_Reader_guards_107 (by decide) (fun _ => ?_) (fun c43 => absurd c43 (by decide))
                      refine lv_aload hx hb d_Reader_guards_112 (lv_at hl 0 rfl) ?_
                      refine lv_aload_n hx hb d_Reader_guards_114 rfl (lv_at hl 2 rfl) ?_
                      refine d_gN (C := "ChannelMachine$Process") (F := F_Process) (N := 10) hx hb hts i_Process hown hK hP hfP 3 rfl (by decide) (hU.1.2.1 _ kn_401) (fun _ h9 => h9) (v := .ref c41_) rfl d_Reader_guards_115 ?_
                      refine d_pN (C := "ChannelMachine$Guard") (F := F_Guard) (N := 6) hx hb hts i_Guard hown t_Guard t_Guard_ok n_Guard hK hP hD hS hfg8 3 rfl (by decide) (hU.1.2.1 _ kn_579) (fun _ h9 => h9) rfl (ty := (.object "ChannelMachine$Process")) (v := .ref c41_) (by decide +kernel) rfl rfl (Nat.le_of_ble_eq_true rfl) d_Reader_guards_118 (fun pl44 H locs hL hP hD hS => ?_)
                      have hfP : y_L pl44 P = some (.inr (7, [.ref (z (3 + J41 P)), va_rf par3, va_rf (C41 P).head?, .ref c41_, va_rf nx3, va_rf tk3, .null, .ref co3, .int ch3, .int va3])) := by rw [hL, y_Lu_n (Ne.symm hgP)]; exact hfP
                      have hfg8 : y_L pl44 g8 = some (.inr (9, [.ref q16, .int chg, .int vag, .ref c41_, .null, .int 0])) := by rw [hL]; exact y_Lu_s
                      have hoth : ∀ b, b ≠ g8 → y_L pl44 b = y_L pl41 b := fun b n0 => by rw [hL, y_Lu_n n0]
                      clear hL
                      refine lv_aloadN hx hb d_Reader_guards_121 (lv_at hl 5 rfl) ?_
                      refine lv_ifnonnullN hx hb d_Reader_guards_123 ?_
                      refine lv_aload_n hx hb d_Reader_guards_126 rfl (lv_at hl 2 rfl) ?_
                      refine lv_aload hx hb d_Reader_guards_127 (lv_at hl 0 rfl) ?_
                      refine d_pN (C := "ChannelMachine$Process") (F := F_Process) (N := 10) hx hb hts i_Process hown t_Process t_Process_ok n_Process hK hP hD hS hfP 6 rfl (by decide) (hU.1.2.1 _ kn_411) (fun _ h9 => h9) rfl (ty := (.object "ChannelMachine$Guard")) (v := .ref g8) (by decide +kernel) rfl rfl (Nat.le_of_ble_eq_true rfl) d_Reader_guards_129 (fun pl45 H locs hL hP hD hS => ?_)
                      have hfg8 : y_L pl45 g8 = some (.inr (9, [.ref q16, .int chg, .int vag, .ref c41_, .null, .int 0])) := by rw [hL, y_Lu_n hgP]; exact hfg8
                      have hfP : y_L pl45 P = some (.inr (7, [.ref (z (3 + J41 P)), va_rf par3, va_rf (C41 P).head?, .ref c41_, va_rf nx3, va_rf tk3, .ref g8, .ref co3, .int ch3, .int va3])) := by rw [hL]; exact y_Lu_s
                      have hoth : ∀ b, b ≠ g8 → b ≠ P → y_L pl45 b = y_L pl41 b := fun b n0 n1 => by rw [hL, y_Lu_n n1]; exact hoth b n0
                      clear hL
                      refine lv_goto (tgt := 142) hx hb d_Reader_guards_132 (by decide) ?_
                      refine lv_aload hx hb d_Reader_guards_142 (lv_at hl 0 rfl) ?_
                      refine lv_astore (lv' := [(4, .ref g8), (6, .ref g8), (0, .ref (ad 1)), (1, .ref P), (2, .int (Int32.ofNat dp)), (3, .int (Int32.ofNat 0)), (5, .int (Int32.ofNat i1))]) hx hb d_Reader_guards_144 hl (by decide) rfl (fun ls hl => ?_)
                      refine lv_iinc (v := (Int32.ofNat (i1 + 1))) (lv' := [(5, .int (Int32.ofNat (i1 + 1))), (4, .ref g8), (6, .ref g8), (0, .ref (ad 1)), (1, .ref P), (2, .int (Int32.ofNat dp)), (3, .int (Int32.ofNat 0))]) hx hb d_Reader_guards_146 hl (k := 6) rfl (x_incN i1) (by decide) rfl (fun ls hl => ?_)
                      refine lv_goto (tgt := 18) hx hb d_Reader_guards_149 (by decide) ?_
                      have hdN := hdx41.grd (f' := y_L pl45) (P := P) (g := g8) (q := q16) (p := c41_) (ch := chg) (va := vag) (op := 0) hG2P (hdx1.un hzg8).1 hG2g (hdx1.un hzq16).1 hG2q hgq hcg41 hchg hqq162 (by omega) hokq16 hfg8 ⟨par3, nx3, tk3, co3, ch3, va3, hfP0, by rw [hfP]; unfold y_Pf; rw [y_un_s, hCp41, y_glast, hGn2]; rfl⟩ (fun c hc => by rw [hgl2] at hc; cases hc) (fun b h1 h2 h3 => hoth b h2 h1)
                      have hpN := y_PH.grd (fc := y_L pl25) (g := g8) (q := q16) (lo := none) (L := (Gs41 P ++ [g8])) (f9 := y_L pl45) hph hPe (fun a h9 => (hdx1.un h9).2) hzg8 hzq16 hcur ⟨by rw [hfg80]; exact nofun, by rw [hqq16]; exact nofun⟩ hph41 (fun a h9 => (hdx41.un h9).2) (fun b h1 h2 h3 => hoth b h2 h1) (fun c hc => nomatch hc) ⟨by rw [hfg8]; exact nofun, by rw [hfP]; exact nofun⟩
                      have hSN := hSp41.trans hSP
                      have hlN : some g8 = (y_un Gs41 P (Gs41 P ++ [g8]) P).getLast? := by rw [y_un_s, y_glast]
                      have hyE : ∀ x, y_L pl1 x = none → y_L pl x = none := fun x hx9 => by
                        by_cases e : y_L pl x = none
                        · exact e
                        · exact absurd hx9 (by by_cases e2 : x = P; (rw [e2]; exact hph.2.1.1); exact (hph.1 x e e2).1)
                      have hgN : ∀ x, x ∈ y_un Gs41 P (Gs41 P ++ [g8]) P → y_L pl x = none := fun x hx9 => by
                        rw [y_un_s, List.mem_append, hGp41] at hx9
                        rcases hx9 with h8 | h8
                        · exact hgnew x h8
                        · rw [List.mem_singleton.mp h8]; exact hyE g8 hzg8
                      refine W.widen (k := 3 * (cs41 - aa)) (n := 100 * (cs41 - aa)) (by omega) (by omega) ?_
                      exact ih (0 + 1 - (i1 + 1)) (by omega) cs41 H locs ls ⟨I41, A41, O41, pl45, s41, cs41, i1 + 1, some g8, _, J41, C41, _, S41, rfl, ⟨rfl, by omega, by omega⟩, hmi, by omega, (((((hfr.tr fr12 (by decide)).tr fr20 (by decide)).tr fr25 (by decide)).tr fr29 (by decide)).tr fr41 (by decide)), fun k => (hO41 k (Or.inr nofun)).trans ((hO1) k), hdN, hpN, hSN, ⟨hlN, hgN⟩, hP, hD, hS, lv_sub hl [3, 4, 5, 6, 1, 0] rfl⟩
        · refine lv_if_ne (tgt := 152) hx hb d_Reader_guards_31 (by decide) (fun _ => ?_) (fun c46 => absurd c46 (by decide))
          refine lv_iconst (v := 1) hx hb d_Reader_guards_152 (by decide) ?_
          refine y_know (fun hy91 hy92 hy93 hy94 => ?_)
          have hac9 : y_rc s.heap.size (y_hs s.heap) aa a1 0 H := ⟨by omega, by omega⟩
          refine W.widen (k := 3 * (72 - aa) + 2) (n := 100 * (72 - aa) + 80) (by omega) (by omega) ?_
          exact W.zret (v := 1) hx hb hr (rfl) (fun t ht hW => ⟨⟨1, (I1, T, A1, O1, pl1, (ln, cl1, 0, a1)), rfl, ⟨hmi, rfl, hO1, hfr, by dsimp only; omega, Or.inr ⟨rfl, rfl, G1, J1, C1, Gs1, S1, hdx1, hph, hSP⟩⟩, (by dsimp only; rw [ht]; exact ⟨hP, hD, hac9⟩)⟩, hS.F ht⟩) hS.2.2 d_Reader_guards_153
    · have hl : lv_has ls 7 [(0, .ref (ad 1)), (1, .ref P), (2, .int (Int32.ofNat dp)), (3, .int (Int32.ofNat 0)), (4, .ref lc), (5, .int (Int32.ofNat i1))] := hl
      refine lv_iload hx hb d_Reader_guards_18 (lv_at hl 5 rfl) ?_
      refine lv_iload_n hx hb d_Reader_guards_20 rfl (lv_at hl 3 rfl) ?_
      refine lv_icmp_gt (tgt := 152) hx hb d_Reader_guards_21 (by decide) (fun c_47 => ?_) (fun c_47 => ?_)
      · have c_47 : 0 < i1 := (x_ltN (a := 0) (b := i1) (by omega) (by omega)).mp c_47
        refine lv_iconst (v := 1) hx hb d_Reader_guards_152 (by decide) ?_
        refine y_know (fun hy91 hy92 hy93 hy94 => ?_)
        have hac9 : y_rc s.heap.size (y_hs s.heap) aa a1 0 H := ⟨by omega, by omega⟩
        refine W.widen (k := 3 * (72 - aa) + 2) (n := 100 * (72 - aa) + 80) (by omega) (by omega) ?_
        exact W.zret (v := 1) hx hb hr (rfl) (fun t ht hW => ⟨⟨1, (I1, T, A1, O1, pl1, (ln, cl1, 0, a1)), rfl, ⟨hmi, rfl, hO1, hfr, by dsimp only; omega, Or.inr ⟨rfl, rfl, G1, J1, C1, Gs1, S1, hdx1, hph, hSP⟩⟩, (by dsimp only; rw [ht]; exact ⟨hP, hD, hac9⟩)⟩, hS.F ht⟩) hS.2.2 d_Reader_guards_153
      · have c_47 : ¬ 0 < i1 := fun h9 => c_47 ((x_ltN (a := 0) (b := i1) (by omega) (by omega)).mpr h9)
        refine lv_aload_n hx hb d_Reader_guards_24 rfl (lv_at hl 0 rfl) ?_
        have hFc := y_free hD hS hA
        refine va_calli (va_runV (As := []) (rest := []) ⟨hx, hb, hml, hown, hts⟩ (c_Rd_look l dC dI ar N0 z ad I1 T A1 O1 pl1 ln cl1 ln a1 H.size (y_hs H) hmi) (cwV 0 hts (x_goodV k_338 k_340 kp_3 k_2 k_341) rfl rfl rfl (by decide +kernel) ⟨Nat.le_trans (m := 41) (Nat.le_of_ble_eq_true rfl) (Nat.le_add_left 41 _), Nat.le_trans (m := 1440) (Nat.le_of_ble_eq_true rfl) (Nat.le_add_left 1440 _)⟩) ⟨y_blind, va_recv hK hP (ci := 3) (q0 := 1) rfl (y_W_ob (by decide) (by decide)), fun U9 hU9 hW9 => y_pre hU9 hW9 hP hD hU hZ hS hAN hN0⟩ rfl rfl hl.1 rfl (lv_room (Nat.le_of_ble_eq_true rfl)) d_Reader_guards_25 ⟨(by show 3 * (a1 - aa) + (0) ≤ 3 * (72 - aa) + 2; omega), (by show 100 * (a1 - aa) + (0) ≤ 100 * (72 - aa) + 80; omega)⟩) hS (fun q _ h => hFc q h) hFc (fun r_48 u t H1 locs ht hvm hw hB hz1 hk1 hS => ?_)
        obtain ⟨I49, T49, A49, O49, pl49, q49, s49, cq49, cs49⟩ := u
        dsimp only at hw hB
        rw [ht] at hB
        obtain ⟨hP, hD1, hac49⟩ := hB
        have hD : va_D Bq (y_W ad ar I49 T49 A49 O49 pl49) := hD1.weaken (fun _ q _ h => hFc q.1 h)
        generalize H1 = H at hP hS hac49 ⊢
        have hae49 := hac49
        try unfold y_ac at hae49
        try dsimp only at hae49
        refine W.widen (k := 3 * (a1 - aa)) (n := 100 * (a1 - aa)) (by omega) (by omega) ?_
        obtain ⟨h9, hw⟩ := hw
        cases h9
        obtain rfl := hw
        have hFc := y_free hD hS hA
        refine va_calli (va_runS (As := [.int (y_lk A1 ln a1)]) (rest := []) ⟨hx, hb, hml, hown, hts⟩ (c_Rd_isClosing l dC dI ar N0 z ad I1 T A1 O1 pl1 ((y_lk A1 ln a1)) H.size (y_hs H) ) (cwS 1 hts (x_goodS k_554 k_555 k_2 k_556) rfl rfl rfl (by decide +kernel) ⟨Nat.le_trans (m := 41) (Nat.le_of_ble_eq_true rfl) (Nat.le_add_left 41 _), Nat.le_trans (m := 1440) (Nat.le_of_ble_eq_true rfl) (Nat.le_add_left 1440 _)⟩) ⟨y_blind, fun U9 hU9 hW9 => y_pre hU9 hW9 hP hD hU hZ hS hAN hN0⟩ rfl rfl hl.1 rfl (lv_room (Nat.le_of_ble_eq_true rfl)) d_Reader_guards_28 ⟨(by show 3 * (a1 - aa) + (0) ≤ 3 * (72 - aa) + 2; omega), (by show 100 * (a1 - aa) + (0) ≤ 100 * (72 - aa) + 80; omega)⟩) hS (fun q _ h => hFc q h) hFc (fun r_50 u t H1 locs ht hvm hw hB hz1 hk1 hS => ?_)
        obtain ⟨I51, T51, A51, O51, pl51, q51, s51, cq51, cs51⟩ := u
        dsimp only at hw hB
        rw [ht] at hB
        obtain ⟨hP, hD1, hac51⟩ := hB
        have hD : va_D Bq (y_W ad ar I51 T51 A51 O51 pl51) := hD1.weaken (fun _ q _ h => hFc q.1 h)
        generalize H1 = H at hP hS hac51 ⊢
        have hae51 := hac51
        try unfold y_ac at hae51
        try dsimp only at hae51
        refine W.widen (k := 3 * (a1 - aa)) (n := 100 * (a1 - aa)) (by omega) (by omega) ?_
        obtain ⟨h9, hw⟩ := hw
        cases h9
        rcases hw with rfl | rfl
        · refine lv_if_ne (tgt := 152) hx hb d_Reader_guards_31 (by decide) (fun c52 => absurd rfl c52) (fun _ => ?_)
          refine d_new (ci := 9) (fs := [.null, .int 0, .int 0, .null, .null, .int 0]) (C := "ChannelMachine$Guard") (F := F_Guard) (N := 6) hx hb hts i_Guard t_Guard t_Guard_ok hown (hts _ k_562) (hts _ k_563) (hts _ k_23) hK hP hD hS hA rfl (fun j hj => by rcases (show j = 0 ∨ j = 1 ∨ j = 2 ∨ j = 3 ∨ j = 4 ∨ j = 5 by omega) with rfl | rfl | rfl | rfl | rfl | rfl <;> rfl) (by show 3 * (a1 - aa) + 1 ≤ 3 * (72 - aa) + 2; omega) (by show 100 * (a1 - aa) + 6 ≤ 100 * (72 - aa) + 80; omega) d_Reader_guards_34 (fun g53 pl54 H hnog53 hL hP hD hS => ?_)
          have hzg53 : y_L pl1 g53 = none := by exact hnog53
          have hfg53 : y_L pl54 g53 = some (.inr (9, [.null, .int 0, .int 0, .null, .null, .int 0])) := by rw [hL]; exact y_Lu_s
          have hoth : ∀ b, b ≠ g53 → y_L pl54 b = y_L pl1 b := fun b n0 => by rw [hL, y_Lu_n n0]
          clear hL
          refine lv_dup hx hb d_Reader_guards_37 rfl ?_
          have hFc := y_free hD hS hA
          refine va_callv (va_runIN (As := []) (rest := [.ref g53]) ⟨hx, hb, hml, hown, hts⟩ (c_G_init l dC dI ar N0 z ad I1 T A1 O1 pl54 g53 H.size (y_hs H) hfg53) ⟨va_cnB 0 hts (x_good k_566) rfl rfl rfl (hU.1.2.1 _ kn_564) (hts _ k_23) (by decide +kernel) ⟨Nat.le_trans (m := 41) (Nat.le_of_ble_eq_true rfl) (Nat.le_add_left 41 _), Nat.le_trans (m := 1440) (Nat.le_of_ble_eq_true rfl) (Nat.le_add_left 1440 _)⟩, rfl, hts _ k_565⟩ ⟨y_blind, fun U9 hU9 hW9 => y_pre hU9 hW9 hP hD hU hZ hS hAN hN0⟩ rfl rfl hl.1 rfl (lv_room (Nat.le_of_ble_eq_true rfl)) d_Reader_guards_38 ⟨(by show 3 * (a1 - aa) + 1 + (0) ≤ 3 * (72 - aa) + 2; omega), (by show 100 * (a1 - aa) + 6 + (0) ≤ 100 * (72 - aa) + 80; omega)⟩) hS (fun q _ h => hFc q h) hFc (fun u t H1 locs ht hvm hw hB hz1 hk1 hS => ?_)
          obtain ⟨I55, T55, A55, O55, pl55, q55, s55, cq55, cs55⟩ := u
          dsimp only at hw hB
          rw [ht] at hB
          obtain ⟨hP, hD1, hac55⟩ := hB
          have hD : va_D Bq (y_W ad ar I55 T55 A55 O55 pl55) := hD1.weaken (fun _ q _ h => hFc q.1 h)
          generalize H1 = H at hP hS hac55 ⊢
          have hae55 := hac55
          try unfold y_ac at hae55
          try dsimp only at hae55
          refine W.widen (k := 3 * (a1 - aa) + 1) (n := 100 * (a1 - aa) + 6) (by omega) (by omega) ?_
          obtain ⟨e1, e2, e3, e4, hL⟩ := hw
          rw [e1, e2, e3, e4] at hP hD
          have hfg53 : y_L pl55 g53 = some (.inr (9, [.ref (z 21), .int (-1), .int (-1), .null, .null, .int 0])) := by rw [hL]; exact y_Lu_s
          have hoth : ∀ b, b ≠ g53 → y_L pl55 b = y_L pl1 b := fun b n0 => by rw [hL, y_Lu_n n0]; exact hoth b n0
          clear hL
          have hP : va_P (dC, dI) y_cl (y_W ad ar I1 T A1 O1 pl55) H := hP
          have hD : va_D Bq (y_W ad ar I1 T A1 O1 pl55) := hD
          refine lv_astore (lv' := [(6, .ref g53), (0, .ref (ad 1)), (1, .ref P), (2, .int (Int32.ofNat dp)), (3, .int (Int32.ofNat 0)), (4, .ref lc), (5, .int (Int32.ofNat i1))]) hx hb d_Reader_guards_41 hl (by decide) rfl (fun ls hl => ?_)
          refine lv_aload_n hx hb d_Reader_guards_43 rfl (lv_at hl 1 rfl) ?_
          have hFc := y_free hD hS hA
          refine va_calli (va_runV (As := []) (rest := []) ⟨hx, hb, hml, hown, hts⟩ (c_Rd_expression l dC dI ar N0 z ad I1 T A1 O1 pl55 ln cl1 ln a1 H.size (y_hs H) hmi) (cwV 0 hts (x_goodV k_500 k_502 kp_9 k_2 k_503) rfl rfl rfl (by decide +kernel) ⟨Nat.le_trans (m := 41) (Nat.le_of_ble_eq_true rfl) (Nat.le_add_left 41 _), Nat.le_trans (m := 1440) (Nat.le_of_ble_eq_true rfl) (Nat.le_add_left 1440 _)⟩) ⟨y_blind, va_recv hK hP (ci := 3) (q0 := 1) rfl (y_W_ob (by decide) (by decide)), fun U9 hU9 hW9 => y_pre hU9 hW9 hP hD hU hZ hS hAN hN0⟩ rfl rfl hl.1 rfl (lv_room (Nat.le_of_ble_eq_true rfl)) d_Reader_guards_44 ⟨(by show 3 * (a1 - aa) + 1 + (0) ≤ 3 * (72 - aa) + 2; omega), (by show 100 * (a1 - aa) + 6 + (0) ≤ 100 * (72 - aa) + 80; omega)⟩) hS (fun q _ h => hFc q h) hFc (fun r_56 u t H1 locs ht hvm hw hB hz1 hk1 hS => ?_)
          obtain ⟨I57, T57, A57, O57, pl57, q57, s57, cq57, cs57⟩ := u
          dsimp only at hw hB
          rw [ht] at hB
          obtain ⟨hP, hD1, hac57⟩ := hB
          have hD : va_D Bq (y_W ad ar I57 T57 A57 O57 pl57) := hD1.weaken (fun _ q _ h => hFc q.1 h)
          generalize H1 = H at hP hS hac57 ⊢
          have hae57 := hac57
          try unfold y_ac at hae57
          try dsimp only at hae57
          refine W.widen (k := 3 * (a1 - aa) + 1) (n := 100 * (a1 - aa) + 6) (by omega) (by omega) ?_
          obtain ⟨hmi, e2, e4, e5, fr57, e6, e7, hge57, hcc57, hcz, hr9⟩ := hw
          rw [e2, e4, e5] at hP hD
          rw [e6, e7] at hmi
          have hP : va_P (dC, dI) y_cl (y_W ad ar I57 T A57 O1 pl55) H := hP
          have hD : va_D Bq (y_W ad ar I57 T A57 O1 pl55) := hD
          have hbn := hmi.2.1
          dsimp only at hbn
          rcases hr9 with rfl | rfl
          · refine lv_if_ne (tgt := 52) hx hb d_Reader_guards_47 (by decide) (fun c58 => absurd rfl c58) (fun _ => ?_)
            refine lv_iconst (v := 0) hx hb d_Reader_guards_50 (by decide) ?_
            have hfl : ∀ a, f0 a ≠ none → y_L pl55 a = f0 a := fun a ha => by
              obtain ⟨h1, h2⟩ := hdx1.1 a ha
              rw [hoth a (fun e => by rw [e, hzg53] at h1; exact ha (by rw [e]; exact h1.symm)), h1]
            refine y_know (fun hy91 hy92 hy93 hy94 => ?_)
            have hac9 : y_rc s.heap.size (y_hs s.heap) aa cs57 1 H := ⟨by omega, by omega⟩
            refine W.widen (k := 3 * (72 - aa) + 2) (n := 100 * (72 - aa) + 80) (by omega) (by omega) ?_
            exact W.zret (v := 0) hx hb hr (rfl) (fun t ht hW => ⟨⟨0, (I57, T, A57, O1, pl55, (ln, s57, 1, cs57)), rfl, ⟨hmi, rfl, hO1, (hfr.tr fr57 (by decide)), by dsimp only; omega, Or.inl ⟨rfl, Nat.le_refl _, hfl⟩⟩, (by dsimp only; rw [ht]; exact ⟨hP, hD, hac9⟩)⟩, hS.F ht⟩) hS.2.2 d_Reader_guards_51
          · refine lv_if_ne (tgt := 52) hx hb d_Reader_guards_47 (by decide) (fun _ => ?_) (fun c59 => absurd c59 (by decide))
            refine lv_aload hx hb d_Reader_guards_52 (lv_at hl 0 rfl) ?_
            refine lv_aload_n hx hb d_Reader_guards_54 rfl (lv_at hl 1 rfl) ?_
            refine y_know (fun hya1 hya2 hya3 hya4 => ?_)
            have hFc := y_free hD hS hA
            refine va_callq (va_runV (As := []) (rest := [.ref g53]) ⟨hx, hb, hml, hown, hts⟩ (c_Rd_codeRead l dC dI ar N0 z ad I57 T A57 O1 pl55 ln s57 ln cs57 H.size (y_hs H) hmi (by omega)) (cwV 0 hts (x_goodV k_526 k_528 kp_14 k_2 k_529) rfl rfl rfl (by decide +kernel) ⟨Nat.le_trans (m := 41) (Nat.le_of_ble_eq_true rfl) (Nat.le_add_left 41 _), Nat.le_trans (m := 1440) (Nat.le_of_ble_eq_true rfl) (Nat.le_add_left 1440 _)⟩) ⟨y_blind, va_recv hK hP (ci := 3) (q0 := 1) rfl (y_W_ob (by decide) (by decide)), fun U9 hU9 hW9 => y_pre hU9 hW9 hP hD hU hZ hS hAN hN0⟩ rfl rfl hl.1 rfl (lv_room (Nat.le_of_ble_eq_true rfl)) d_Reader_guards_55 ⟨(by show 3 * (a1 - aa) + 1 + (1) ≤ 3 * (72 - aa) + 2; omega), (by show 100 * (a1 - aa) + 6 + (s57) ≤ 100 * (72 - aa) + 80; omega)⟩) hS (fun q _ h => hFc q h) hFc (fun r_60 u t H1 locs ht hvm hw hB hz1 hk1 hS => ?_)
            obtain ⟨I61, T61, A61, O61, pl61, q61, s61, cq61, cs61⟩ := u
            dsimp only at hw hB
            rw [ht] at hB
            obtain ⟨hP, hD1, hac61⟩ := hB
            have hD : va_D Bq (y_W ad ar I61 T61 A61 O61 pl61) := hD1.weaken (fun _ q _ h => hFc q.1 h)
            generalize H1 = H at hP hS hac61 ⊢
            have hae61 := hac61
            try unfold y_ac at hae61
            try dsimp only at hae61
            obtain ⟨q61, h161, rfl, hno61, e1, e2, e3, e4, hL61, hcp61⟩ := hw
            rw [e1, e2, e3, e4] at hP hD
            refine W.eq (g2 := F0 m 58 ls [.ref q61, .ref g53]) rfl ?_
            have hP : va_P (dC, dI) y_cl (y_W ad ar I57 T A57 O1 pl61) H := hP
            have hD : va_D Bq (y_W ad ar I57 T A57 O1 pl61) := hD
            have hne62_q61 : g53 ≠ q61 := fun h9 => by rw [h9, hno61] at hfg53; cases hfg53
            have hzq61 : y_L pl1 q61 = none := by rw [← hoth q61 (Ne.symm hne62_q61)]; exact hno61
            have hfg53 : y_L pl61 g53 = some (.inr (9, [.ref (z 21), .int (-1), .int (-1), .null, .null, .int 0])) := by rw [hL61, y_Lu_n hne62_q61]; exact hfg53
            have hqq61 : y_L pl61 q61 = some (.inl (ar 0, s57, .inl h161)) := by rw [hL61]; exact y_Lu_s
            have hoth : ∀ b, b ≠ g53 → b ≠ q61 → y_L pl61 b = y_L pl1 b := fun b n0 n1 => by rw [hL61, y_Lu_n n1]; exact hoth b n0
            have hokq61 : y_cok s57 h161 := fun j hj => by rw [hcp61 j hj]; exact hmi.2.2 j hj (by dsimp only; omega)
            clear hL61
            refine d_pN (C := "ChannelMachine$Guard") (F := F_Guard) (N := 6) hx hb hts i_Guard hown t_Guard t_Guard_ok n_Guard hK hP hD hS hfg53 0 rfl (by decide) (hU.1.2.1 _ kn_570) (fun _ h9 => h9) rfl (ty := (.array .int)) (v := .ref q61) (by decide +kernel) rfl rfl (Nat.le_of_ble_eq_true rfl) d_Reader_guards_58 (fun pl63 H locs hL hP hD hS => ?_)
            have hqq61 : y_L pl63 q61 = some (.inl (ar 0, s57, .inl h161)) := by rw [hL, y_Lu_n (Ne.symm hne62_q61)]; exact hqq61
            have hfg53 : y_L pl63 g53 = some (.inr (9, [.ref q61, .int (-1), .int (-1), .null, .null, .int 0])) := by rw [hL]; exact y_Lu_s
            have hoth : ∀ b, b ≠ g53 → b ≠ q61 → y_L pl63 b = y_L pl1 b := fun b n0 n1 => by rw [hL, y_Lu_n n0]; exact hoth b n0 n1
            clear hL
            refine lv_aload_n hx hb d_Reader_guards_61 rfl (lv_at hl 1 rfl) ?_
            refine lv_bipush (v := 38) hx hb d_Reader_guards_62 (by decide) ?_
            have hFc := y_free hD hS hA
            refine va_calli (va_runV (As := [.int 38]) (rest := []) ⟨hx, hb, hml, hown, hts⟩ (c_Rd_expect l dC dI ar N0 z ad I57 T A57 O1 pl63 ln s57 ln cs57 (38) H.size (y_hs H) hmi (by decide)) (cwV 1 hts (x_goodV k_492 k_494 kp_7 k_2 k_495) rfl rfl rfl (by decide +kernel) ⟨Nat.le_trans (m := 41) (Nat.le_of_ble_eq_true rfl) (Nat.le_add_left 41 _), Nat.le_trans (m := 1440) (Nat.le_of_ble_eq_true rfl) (Nat.le_add_left 1440 _)⟩) ⟨y_blind, va_recv hK hP (ci := 3) (q0 := 1) rfl (y_W_ob (by decide) (by decide)), fun U9 hU9 hW9 => y_pre hU9 hW9 hP hD hU hZ hS hAN hN0⟩ rfl rfl hl.1 rfl (lv_room (Nat.le_of_ble_eq_true rfl)) d_Reader_guards_64 ⟨(by show 3 * (a1 - aa) + 1 + (1) + (0) ≤ 3 * (72 - aa) + 2; omega), (by show 100 * (a1 - aa) + 6 + (s57) + (0) ≤ 100 * (72 - aa) + 80; omega)⟩) hS (fun q _ h => hFc q h) hFc (fun r_64 u t H1 locs ht hvm hw hB hz1 hk1 hS => ?_)
            obtain ⟨I65, T65, A65, O65, pl65, q65, s65, cq65, cs65⟩ := u
            dsimp only at hw hB
            rw [ht] at hB
            obtain ⟨hP, hD1, hac65⟩ := hB
            have hD : va_D Bq (y_W ad ar I65 T65 A65 O65 pl65) := hD1.weaken (fun _ q _ h => hFc q.1 h)
            generalize H1 = H at hP hS hac65 ⊢
            have hae65 := hac65
            try unfold y_ac at hae65
            try dsimp only at hae65
            refine W.widen (k := 3 * (a1 - aa) + 1 + (1)) (n := 100 * (a1 - aa) + 6 + (s57)) (by omega) (by omega) ?_
            obtain ⟨hmi, e2, e4, e5, fr65, e6, e7, hge65, hcc65, hr9⟩ := hw
            rw [e2, e4, e5] at hP hD
            rw [e6, e7] at hmi
            have hP : va_P (dC, dI) y_cl (y_W ad ar I65 T A65 O1 pl63) H := hP
            have hD : va_D Bq (y_W ad ar I65 T A65 O1 pl63) := hD
            have hbn := hmi.2.1
            dsimp only at hbn
            rcases hr9 with rfl | ⟨rfl, hex66⟩
            · refine lv_if_eq (tgt := 110) hx hb d_Reader_guards_67 (by decide) (fun _ => ?_) (fun c67 => absurd (by decide) c67)
              refine lv_iconst (v := 0) hx hb d_Reader_guards_110 (by decide) ?_
              have hfl : ∀ a, f0 a ≠ none → y_L pl63 a = f0 a := fun a ha => by
                obtain ⟨h1, h2⟩ := hdx1.1 a ha
                rw [hoth a (fun e => by rw [e, hzg53] at h1; exact ha (by rw [e]; exact h1.symm)) (fun e => by rw [e, hzq61] at h1; exact ha (by rw [e]; exact h1.symm)), h1]
              refine y_know (fun hy91 hy92 hy93 hy94 => ?_)
              have hac9 : y_rc s.heap.size (y_hs s.heap) aa cs65 1 H := ⟨by omega, by omega⟩
              refine W.widen (k := 3 * (72 - aa) + 2) (n := 100 * (72 - aa) + 80) (by omega) (by omega) ?_
              exact W.zret (v := 0) hx hb hr (rfl) (fun t ht hW => ⟨⟨0, (I65, T, A65, O1, pl63, (ln, s65, 1, cs65)), rfl, ⟨hmi, rfl, hO1, ((hfr.tr fr57 (by decide)).tr fr65 (by decide)), by dsimp only; omega, Or.inl ⟨rfl, Nat.le_refl _, hfl⟩⟩, (by dsimp only; rw [ht]; exact ⟨hP, hD, hac9⟩)⟩, hS.F ht⟩) hS.2.2 d_Reader_guards_111
            · refine lv_if_eq (tgt := 110) hx hb d_Reader_guards_67 (by decide) (fun c68 => absurd c68 (by decide)) (fun _ => ?_)
              refine lv_aload_n hx hb d_Reader_guards_70 rfl (lv_at hl 1 rfl) ?_
              refine lv_aload hx hb d_Reader_guards_71 (lv_at hl 0 rfl) ?_
              have hFc := y_free hD hS hA
              have hfl0 : ∀ a, f0 a ≠ none → y_L pl63 a = f0 a := fun a ha => by
                obtain ⟨h1, h2⟩ := hdx1.1 a ha
                rw [hoth a (fun e => by rw [e, hzg53] at h1; exact ha (by rw [e]; exact h1.symm)) (fun e => by rw [e, hzq61] at h1; exact ha (by rw [e]; exact h1.symm)), h1]
              refine va_calli (va_runV (As := [.ref g53]) (rest := []) ⟨hx, hb, hml, hown, hts⟩ (c_Rd_guardInput l dC dI ar N0 z ad I65 T A65 O1 pl63 ln s65 ln cs65 g53 q61 H.size (y_hs H) hmi hfg53) (cwV 1 hts (x_goodV k_599 k_601 kp_18 k_2 k_602) rfl rfl rfl (by decide +kernel) ⟨Nat.le_trans (m := 41) (Nat.le_of_ble_eq_true rfl) (Nat.le_add_left 41 _), Nat.le_trans (m := 1440) (Nat.le_of_ble_eq_true rfl) (Nat.le_add_left 1440 _)⟩) ⟨y_blind, va_recv hK hP (ci := 3) (q0 := 1) rfl (y_W_ob (by decide) (by decide)), fun U9 hU9 hW9 => y_pre hU9 hW9 hP hD hU hZ hS hAN hN0⟩ rfl rfl hl.1 rfl (lv_room (Nat.le_of_ble_eq_true rfl)) d_Reader_guards_73 ⟨(by show 3 * (a1 - aa) + 1 + (1) + (0) ≤ 3 * (72 - aa) + 2; omega), (by show 100 * (a1 - aa) + 6 + (s57) + (0) ≤ 100 * (72 - aa) + 80; omega)⟩) hS (fun q _ h => hFc q h) hFc (fun r_69 u t H1 locs ht hvm hw hB hz1 hk1 hS => ?_)
              obtain ⟨I70, T70, A70, O70, pl70, q70, s70, cq70, cs70⟩ := u
              dsimp only at hw hB
              rw [ht] at hB
              obtain ⟨hP, hD1, hac70⟩ := hB
              have hD : va_D Bq (y_W ad ar I70 T70 A70 O70 pl70) := hD1.weaken (fun _ q _ h => hFc q.1 h)
              generalize H1 = H at hP hS hac70 ⊢
              have hae70 := hac70
              try unfold y_ac at hae70
              try dsimp only at hae70
              refine W.widen (k := 3 * (a1 - aa) + 1 + (1)) (n := 100 * (a1 - aa) + 6 + (s57)) (by omega) (by omega) ?_
              obtain ⟨hmi, e2, e4, fr70, e6, e7, hge70, hbr⟩ := hw
              rw [e2, e4] at hP hD
              rw [e6, e7] at hmi
              have hP : va_P (dC, dI) y_cl (y_W ad ar I70 T A70 O1 pl70) H := hP
              have hD : va_D Bq (y_W ad ar I70 T A70 O1 pl70) := hD
              have hbn := hmi.2.1
              dsimp only at hbn
              rcases hbr with ⟨rfl, hog⟩ | ⟨rfl, chg, vag, hchg, hfg53, hog⟩
              · refine lv_if_eq (tgt := 110) hx hb d_Reader_guards_76 (by decide) (fun _ => ?_) (fun c71 => absurd (by decide) c71)
                refine lv_iconst (v := 0) hx hb d_Reader_guards_110 (by decide) ?_
                have hfl : ∀ a, f0 a ≠ none → y_L pl70 a = f0 a := (fun a ha => by rw [hog a (by rw [hfl0 a ha]; exact ha) (fun e => by have h1 := (hdx1.1 a ha).1; rw [e, hzg53] at h1; exact ha (by rw [e]; exact h1.symm)), hfl0 a ha])
                refine y_know (fun hy91 hy92 hy93 hy94 => ?_)
                have hac9 : y_rc s.heap.size (y_hs s.heap) aa cs70 1 H := ⟨by omega, by omega⟩
                refine W.widen (k := 3 * (72 - aa) + 2) (n := 100 * (72 - aa) + 80) (by omega) (by omega) ?_
                exact W.zret (v := 0) hx hb hr (rfl) (fun t ht hW => ⟨⟨0, (I70, T, A70, O1, pl70, (ln, s70, 1, cs70)), rfl, ⟨hmi, rfl, hO1, (((hfr.tr fr57 (by decide)).tr fr65 (by decide)).tr fr70 (by decide)), by dsimp only; omega, Or.inl ⟨rfl, Nat.le_refl _, hfl⟩⟩, (by dsimp only; rw [ht]; exact ⟨hP, hD, hac9⟩)⟩, hS.F ht⟩) hS.2.2 d_Reader_guards_111
              · have hqq61 : y_L pl70 q61 = some (.inl (ar 0, s57, .inl h161)) := by rw [hog q61 (Ne.symm hne62_q61)]; exact hqq61
                have hoth : ∀ b, b ≠ g53 → b ≠ q61 → y_L pl70 b = y_L pl1 b := fun b n0 n1 => by rw [hog b n0]; exact hoth b n0 n1
                refine lv_if_eq (tgt := 110) hx hb d_Reader_guards_76 (by decide) (fun c72 => absurd c72 (by decide)) (fun _ => ?_)
                refine lv_aload_n hx hb d_Reader_guards_79 rfl (lv_at hl 1 rfl) ?_
                refine lv_bipush (v := 44) hx hb d_Reader_guards_80 (by decide) ?_
                have hFc := y_free hD hS hA
                refine va_calli (va_runV (As := [.int 44]) (rest := []) ⟨hx, hb, hml, hown, hts⟩ (c_Rd_expect l dC dI ar N0 z ad I70 T A70 O1 pl70 ln s70 ln cs70 (44) H.size (y_hs H) hmi (by decide)) (cwV 1 hts (x_goodV k_492 k_494 kp_7 k_2 k_495) rfl rfl rfl (by decide +kernel) ⟨Nat.le_trans (m := 41) (Nat.le_of_ble_eq_true rfl) (Nat.le_add_left 41 _), Nat.le_trans (m := 1440) (Nat.le_of_ble_eq_true rfl) (Nat.le_add_left 1440 _)⟩) ⟨y_blind, va_recv hK hP (ci := 3) (q0 := 1) rfl (y_W_ob (by decide) (by decide)), fun U9 hU9 hW9 => y_pre hU9 hW9 hP hD hU hZ hS hAN hN0⟩ rfl rfl hl.1 rfl (lv_room (Nat.le_of_ble_eq_true rfl)) d_Reader_guards_82 ⟨(by show 3 * (a1 - aa) + 1 + (1) + (0) ≤ 3 * (72 - aa) + 2; omega), (by show 100 * (a1 - aa) + 6 + (s57) + (0) ≤ 100 * (72 - aa) + 80; omega)⟩) hS (fun q _ h => hFc q h) hFc (fun r_73 u t H1 locs ht hvm hw hB hz1 hk1 hS => ?_)
                obtain ⟨I74, T74, A74, O74, pl74, q74, s74, cq74, cs74⟩ := u
                dsimp only at hw hB
                rw [ht] at hB
                obtain ⟨hP, hD1, hac74⟩ := hB
                have hD : va_D Bq (y_W ad ar I74 T74 A74 O74 pl74) := hD1.weaken (fun _ q _ h => hFc q.1 h)
                generalize H1 = H at hP hS hac74 ⊢
                have hae74 := hac74
                try unfold y_ac at hae74
                try dsimp only at hae74
                refine W.widen (k := 3 * (a1 - aa) + 1 + (1)) (n := 100 * (a1 - aa) + 6 + (s57)) (by omega) (by omega) ?_
                obtain ⟨hmi, e2, e4, e5, fr74, e6, e7, hge74, hcc74, hr9⟩ := hw
                rw [e2, e4, e5] at hP hD
                rw [e6, e7] at hmi
                have hP : va_P (dC, dI) y_cl (y_W ad ar I74 T A74 O1 pl70) H := hP
                have hD : va_D Bq (y_W ad ar I74 T A74 O1 pl70) := hD
                have hbn := hmi.2.1
                dsimp only at hbn
                rcases hr9 with rfl | ⟨rfl, hex75⟩
                · refine lv_if_eq (tgt := 110) hx hb d_Reader_guards_85 (by decide) (fun _ => ?_) (fun c76 => absurd (by decide) c76)
                  refine lv_iconst (v := 0) hx hb d_Reader_guards_110 (by decide) ?_
                  have hfl : ∀ a, f0 a ≠ none → y_L pl70 a = f0 a := fun a ha => by
                    obtain ⟨h1, h2⟩ := hdx1.1 a ha
                    rw [hoth a (fun e => by rw [e, hzg53] at h1; exact ha (by rw [e]; exact h1.symm)) (fun e => by rw [e, hzq61] at h1; exact ha (by rw [e]; exact h1.symm)), h1]
                  refine y_know (fun hy91 hy92 hy93 hy94 => ?_)
                  have hac9 : y_rc s.heap.size (y_hs s.heap) aa cs74 1 H := ⟨by omega, by omega⟩
                  refine W.widen (k := 3 * (72 - aa) + 2) (n := 100 * (72 - aa) + 80) (by omega) (by omega) ?_
                  exact W.zret (v := 0) hx hb hr (rfl) (fun t ht hW => ⟨⟨0, (I74, T, A74, O1, pl70, (ln, s74, 1, cs74)), rfl, ⟨hmi, rfl, hO1, ((((hfr.tr fr57 (by decide)).tr fr65 (by decide)).tr fr70 (by decide)).tr fr74 (by decide)), by dsimp only; omega, Or.inl ⟨rfl, Nat.le_refl _, hfl⟩⟩, (by dsimp only; rw [ht]; exact ⟨hP, hD, hac9⟩)⟩, hS.F ht⟩) hS.2.2 d_Reader_guards_111
                · refine lv_if_eq (tgt := 110) hx hb d_Reader_guards_85 (by decide) (fun c77 => absurd c77 (by decide)) (fun _ => ?_)
                  refine lv_aload_n hx hb d_Reader_guards_88 rfl (lv_at hl 1 rfl) ?_
                  refine lv_aload_n hx hb d_Reader_guards_89 rfl (lv_at hl 2 rfl) ?_
                  refine lv_iload_n hx hb d_Reader_guards_90 rfl (lv_at hl 3 rfl) ?_
                  refine lv_iconst (v := 1) hx hb d_Reader_guards_91 (by decide) ?_
                  refine lv_iadd hx hb d_Reader_guards_92 ?_
                  refine W.eq (g2 := F0 m 93 ls [.int (Int32.ofNat (dp + 1)), .ref P, .ref (ad 1)]) (by rw [← x_addN (a := dp) (b := 1)] <;> rfl) ?_
                  refine lv_iload hx hb d_Reader_guards_93 (lv_at hl 6 rfl) ?_
                  refine lv_iload_n hx hb d_Reader_guards_95 rfl (lv_at hl 4 rfl) ?_
                  refine lv_icmp_ge (tgt := 103) hx hb d_Reader_guards_96 (by decide) (fun c_78 => ?_) (fun c_78 => ?_)
                  · have c_78 : 0 ≤ i1 := (x_leN (a := 0) (b := i1) (by omega) (by omega)).mp c_78
                    refine lv_iconst (v := 0) hx hb d_Reader_guards_103 (by decide) ?_
                    have hG0g := (hdx1.un hzg53).2
                    have hG0q := (hdx1.un hzq61).2
                    have hgq := hne62_q61
                    have hfg530 := hfg53
                    have hcur : ∀ b, b ≠ g53 → b ≠ q61 → y_L pl70 b = y_L pl1 b := fun b h1 h2 => hoth b h1 h2
                    have hdxc := hdx1.two hzg53 hzq61 hgq hfg53 hqq61 hcur
                    refine y_know (fun hya1 hya2 hya3 hya4 => ?_)
                    have hFc := y_free hD hS hA
                    refine va_calli (va_runV (As := [.ref P, .int (Int32.ofNat (dp + 1)), .int 0]) (rest := []) ⟨hx, hb, hml, hown, hts⟩ (ihP l dC dI ar N0 z ad I74 T A74 O1 pl70 ln s74 cs74 f0 G1 J1 C1 Gs1 S1 (some P) ((dp + 1)) (0) H.size (y_hs H) hmi hdxc (fun P9 hP9 => by cases hP9; exact ⟨hG1, fun h9 => by omega⟩) (by omega) (by omega)) (cwV 3 hts (x_goodV k_557 k_332 kp_1 k_2 k_333) rfl rfl rfl (by decide +kernel) ⟨(by show 2 * nn + 40 + 1 ≤ 2 * nn + 41; omega), (by show 8 + (5 + 11) + (100 * nn + 1400) ≤ 100 * nn + 1440; omega)⟩) ⟨y_blind, va_recv hK hP (ci := 3) (q0 := 1) rfl (y_W_ob (by decide) (by decide)), fun U9 hU9 hW9 => y_pre hU9 hW9 hP hD hU hZ hS hAN hN0⟩ rfl rfl hl.1 rfl (lv_room (Nat.le_of_ble_eq_true rfl)) d_Reader_guards_104 ⟨(by show 3 * (a1 - aa) + 1 + (1) + (3 * (72 - cs74) + 2) ≤ 3 * (72 - aa) + 2; omega), (by show 100 * (a1 - aa) + 6 + (s57) + (100 * (72 - cs74) + 80) ≤ 100 * (72 - aa) + 80; omega)⟩) hS (fun q _ h => hFc q h) hFc (fun r_79 u t H1 locs ht hvm hw hB hz1 hk1 hS => ?_)
                    obtain ⟨I80, T80, A80, O80, pl80, q80, s80, cq80, cs80⟩ := u
                    dsimp only at hw hB
                    rw [ht] at hB
                    obtain ⟨hP, hD1, hac80⟩ := hB
                    have hD : va_D Bq (y_W ad ar I80 T80 A80 O80 pl80) := hD1.weaken (fun _ q _ h => hFc q.1 h)
                    generalize H1 = H at hP hS hac80 ⊢
                    have hae80 := hac80
                    try unfold y_ac at hae80
                    try dsimp only at hae80
                    obtain ⟨hmi, e2, hO80, fr80, hge80, hbr⟩ := hw
                    rw [e2] at hP hD
                    have hP : va_P (dC, dI) y_cl (y_W ad ar I80 T A80 O80 pl80) H := hP
                    have hD : va_D Bq (y_W ad ar I80 T A80 O80 pl80) := hD
                    have hbn := hmi.2.1
                    dsimp only at hbn
                    rcases hbr with ⟨rfl, hsl, hfl80⟩ | ⟨rfl, hsl, c80_, hsu80, hpr80⟩
                    · unfold y_rc at hac80
                      try dsimp only at hac80
                      refine y_tight (k := 3 * (cs80 - aa) + 2) (n := 100 * (cs80 - aa) + 80) (by omega) (by omega) ?_
                      refine lv_if_ne (tgt := 112) hx hb d_Reader_guards_107 (by decide) (fun c81 => absurd rfl c81) (fun _ => ?_)
                      refine lv_iconst (v := 0) hx hb d_Reader_guards_110 (by decide) ?_
                      have hfl : ∀ a, f0 a ≠ none → y_L pl80 a = f0 a := hfl80
                      refine y_know (fun hy91 hy92 hy93 hy94 => ?_)
                      have hac9 : y_rc s.heap.size (y_hs s.heap) aa cs80 1 H := ⟨by omega, by omega⟩
                      refine W.widen (k := 3 * (72 - aa) + 2) (n := 100 * (72 - aa) + 80) (by omega) (by omega) ?_
                      exact W.zret (v := 0) hx hb hr (rfl) (fun t ht hW => ⟨⟨0, (I80, T, A80, O80, pl80, (ln, s80, 1, cs80)), rfl, ⟨hmi, rfl, fun k => (hO80 k (Or.inr nofun)).trans ((hO1) k), (((((hfr.tr fr57 (by decide)).tr fr65 (by decide)).tr fr70 (by decide)).tr fr74 (by decide)).tr fr80 (by decide)), by dsimp only; omega, Or.inl ⟨rfl, Nat.le_refl _, hfl⟩⟩, (by dsimp only; rw [ht]; exact ⟨hP, hD, hac9⟩)⟩, hS.F ht⟩) hS.2.2 d_Reader_guards_111
                    · subst hsl
                      unfold y_rc at hac80
                      try dsimp only at hac80
                      refine y_tight (k := 3 * (cs80 - aa)) (n := 100 * (cs80 - aa)) (by omega) (by omega) ?_
                      obtain ⟨G80, J80, C80, Gs80, S80, hdx80, hph80, hSp80, hGp80, hCp80, hcg80⟩ := hsu80.ph (by rw [hcur P (fun e => by rw [← e] at hG0g; omega) (fun e => by rw [← e] at hG0q; omega)]; exact hph.2.1.1)
                      have hgP : g53 ≠ P := fun e => by rw [e] at hG0g; omega
                      have hqP : q61 ≠ P := fun e => by rw [e] at hG0q; omega
                      have hfg53 : y_L pl80 g53 = some (.inr (9, [.ref q61, .int chg, .int vag, .null, .null, .int 0])) := by rw [(hph80.1 g53 (by rw [hfg53]; exact nofun) hgP).2.2.2.2.2.2 (by rw [hG0g]; decide)]; exact hfg53
                      have hqq612 : y_L pl80 q61 = some (.inl (ar 0, s57, .inl h161)) := by rw [(hph80.1 q61 (by rw [hqq61]; exact nofun) hqP).2.2.2.2.2.2 (by rw [hG0q]; decide)]; exact hqq61
                      have hG2g : G80 g53 = 0 := by rw [(hph80.1 g53 (by rw [hfg530]; exact nofun) hgP).2.1]; exact hG0g
                      have hG2q : G80 q61 = 0 := by rw [(hph80.1 q61 (by rw [hqq61]; exact nofun) hqP).2.1]; exact hG0q
                      have hG2P : G80 P = 7 := hph80.2.1.2.1.trans hG1
                      obtain ⟨par3, nx3, tk3, co3, ch3, va3, hfP0, hpx3⟩ := hdx80.2.1 P hG2P
                      have hgl2 : (Gs80 P).getLast? = some lc := by rw [hGp80]; exact hlo.symm
                      have hfP : y_L pl80 P = some (.inr (7, [.ref (z (3 + J80 P)), va_rf par3, va_rf (C80 P).head?, .ref c80_, va_rf nx3, va_rf tk3, va_rf (Gs80 P).head?, .ref co3, .int ch3, .int va3])) := by rw [hfP0]; unfold y_Pf; rw [hCp80, y_glast]; rfl
                      obtain ⟨hlc9, co4, ch4, va4, fo4, op4, hfl40⟩ := hdx80.lastg hG2P hgl2
                      have hf4 : y_L pl80 lc = some (.inr (9, [.ref co4, .int ch4, .int va4, va_rf fo4, .null, .int op4])) := hfl40
                      have hlP : lc ≠ P := fun e => by rw [e] at hlc9; omega
                      have hlg : lc ≠ g53 := fun e => by rw [e] at hlc9; omega
                      refine lv_if_ne (tgt := 112) hx hb d_Reader_guards_107 (by decide) (fun _ => ?_) (fun c82 => absurd c82 (by decide))
                      refine lv_aload hx hb d_Reader_guards_112 (lv_at hl 0 rfl) ?_
                      refine lv_aload_n hx hb d_Reader_guards_114 rfl (lv_at hl 2 rfl) ?_
                      refine d_gN (C := "ChannelMachine$Process") (F := F_Process) (N := 10) hx hb hts i_Process hown hK hP hfP 3 rfl (by decide) (hU.1.2.1 _ kn_401) (fun _ h9 => h9) (v := .ref c80_) rfl d_Reader_guards_115 ?_
                      refine d_pN (C := "ChannelMachine$Guard") (F := F_Guard) (N := 6) hx hb hts i_Guard hown t_Guard t_Guard_ok n_Guard hK hP hD hS hfg53 3 rfl (by decide) (hU.1.2.1 _ kn_579) (fun _ h9 => h9) rfl (ty := (.object "ChannelMachine$Process")) (v := .ref c80_) (by decide +kernel) rfl rfl (Nat.le_of_ble_eq_true rfl) d_Reader_guards_118 (fun pl83 H locs hL hP hD hS => ?_)
                      have hfP : y_L pl83 P = some (.inr (7, [.ref (z (3 + J80 P)), va_rf par3, va_rf (C80 P).head?, .ref c80_, va_rf nx3, va_rf tk3, va_rf (Gs80 P).head?, .ref co3, .int ch3, .int va3])) := by rw [hL, y_Lu_n (Ne.symm hgP)]; exact hfP
                      have hf4 : y_L pl83 lc = some (.inr (9, [.ref co4, .int ch4, .int va4, va_rf fo4, .null, .int op4])) := by rw [hL, y_Lu_n hlg]; exact hf4
                      have hfg53 : y_L pl83 g53 = some (.inr (9, [.ref q61, .int chg, .int vag, .ref c80_, .null, .int 0])) := by rw [hL]; exact y_Lu_s
                      have hoth : ∀ b, b ≠ g53 → y_L pl83 b = y_L pl80 b := fun b n0 => by rw [hL, y_Lu_n n0]
                      clear hL
                      refine lv_aload hx hb d_Reader_guards_121 (lv_at hl 5 rfl) ?_
                      refine lv_ifnonnull (tgt := 135) hx hb d_Reader_guards_123 (by decide) ?_
                      refine lv_aload hx hb d_Reader_guards_135 (lv_at hl 5 rfl) ?_
                      refine lv_aload hx hb d_Reader_guards_137 (lv_at hl 0 rfl) ?_
                      refine d_pN (C := "ChannelMachine$Guard") (F := F_Guard) (N := 6) hx hb hts i_Guard hown t_Guard t_Guard_ok n_Guard hK hP hD hS hf4 4 rfl (by decide) (hU.1.2.1 _ kn_582) (fun _ h9 => h9) rfl (ty := (.object "ChannelMachine$Guard")) (v := .ref g53) (by decide +kernel) rfl rfl (Nat.le_of_ble_eq_true rfl) d_Reader_guards_139 (fun pl84 H locs hL hP hD hS => ?_)
                      have hfg53 : y_L pl84 g53 = some (.inr (9, [.ref q61, .int chg, .int vag, .ref c80_, .null, .int 0])) := by rw [hL, y_Lu_n (Ne.symm hlg)]; exact hfg53
                      have hfP : y_L pl84 P = some (.inr (7, [.ref (z (3 + J80 P)), va_rf par3, va_rf (C80 P).head?, .ref c80_, va_rf nx3, va_rf tk3, va_rf (Gs80 P).head?, .ref co3, .int ch3, .int va3])) := by rw [hL, y_Lu_n (Ne.symm hlP)]; exact hfP
                      have hf4 : y_L pl84 lc = some (.inr (9, [.ref co4, .int ch4, .int va4, va_rf fo4, .ref g53, .int op4])) := by rw [hL]; exact y_Lu_s
                      have hoth : ∀ b, b ≠ g53 → b ≠ lc → y_L pl84 b = y_L pl80 b := fun b n0 n1 => by rw [hL, y_Lu_n n1]; exact hoth b n0
                      clear hL
                      refine lv_aload hx hb d_Reader_guards_142 (lv_at hl 0 rfl) ?_
                      refine lv_astore (lv' := [(4, .ref g53), (6, .ref g53), (0, .ref (ad 1)), (1, .ref P), (2, .int (Int32.ofNat dp)), (3, .int (Int32.ofNat 0)), (5, .int (Int32.ofNat i1))]) hx hb d_Reader_guards_144 hl (by decide) rfl (fun ls hl => ?_)
                      refine lv_iinc (v := (Int32.ofNat (i1 + 1))) (lv' := [(5, .int (Int32.ofNat (i1 + 1))), (4, .ref g53), (6, .ref g53), (0, .ref (ad 1)), (1, .ref P), (2, .int (Int32.ofNat dp)), (3, .int (Int32.ofNat 0))]) hx hb d_Reader_guards_146 hl (k := 6) rfl (x_incN i1) (by decide) rfl (fun ls hl => ?_)
                      refine lv_goto (tgt := 18) hx hb d_Reader_guards_149 (by decide) ?_
                      have hdN := hdx80.grd (f' := y_L pl84) (P := P) (g := g53) (q := q61) (p := c80_) (ch := chg) (va := vag) (op := 0) hG2P (hdx1.un hzg53).1 hG2g (hdx1.un hzq61).1 hG2q hgq hcg80 hchg hqq612 (by omega) hokq61 hfg53 ⟨par3, nx3, tk3, co3, ch3, va3, hfP0, by rw [hfP]; unfold y_Pf; rw [y_un_s, hCp80, y_glast, y_headA hgl2]; rfl⟩ (fun c hc => by rw [hgl2] at hc; cases hc; exact ⟨co4, ch4, va4, fo4, none, op4, hfl40, hf4⟩) (fun b h1 h2 h3 => hoth b h2 (fun e => h3 (by rw [e]; exact hgl2)))
                      have hpN := y_PH.grd (fc := y_L pl70) (g := g53) (q := q61) (lo := some lc) (L := (Gs80 P ++ [g53])) (f9 := y_L pl84) hph hPe (fun a h9 => (hdx1.un h9).2) hzg53 hzq61 hcur ⟨by rw [hfg530]; exact nofun, by rw [hqq61]; exact nofun⟩ hph80 (fun a h9 => (hdx80.un h9).2) (fun b h1 h2 h3 => hoth b h2 (fun e => h3 (by rw [e]))) (fun c hc => by cases hc; exact ⟨hgnew lc (List.mem_of_getLast? hlo.symm), by rw [hf4]; exact nofun⟩) ⟨by rw [hfg53]; exact nofun, by rw [hfP]; exact nofun⟩
                      have hSN := hSp80.trans hSP
                      have hlN : some g53 = (y_un Gs80 P (Gs80 P ++ [g53]) P).getLast? := by rw [y_un_s, y_glast]
                      have hyE : ∀ x, y_L pl1 x = none → y_L pl x = none := fun x hx9 => by
                        by_cases e : y_L pl x = none
                        · exact e
                        · exact absurd hx9 (by by_cases e2 : x = P; (rw [e2]; exact hph.2.1.1); exact (hph.1 x e e2).1)
                      have hgN : ∀ x, x ∈ y_un Gs80 P (Gs80 P ++ [g53]) P → y_L pl x = none := fun x hx9 => by
                        rw [y_un_s, List.mem_append, hGp80] at hx9
                        rcases hx9 with h8 | h8
                        · exact hgnew x h8
                        · rw [List.mem_singleton.mp h8]; exact hyE g53 hzg53
                      refine W.widen (k := 3 * (cs80 - aa)) (n := 100 * (cs80 - aa)) (by omega) (by omega) ?_
                      exact ih (0 + 1 - (i1 + 1)) (by omega) cs80 H locs ls ⟨I80, A80, O80, pl84, s80, cs80, i1 + 1, some g53, _, J80, C80, _, S80, rfl, ⟨rfl, by omega, by omega⟩, hmi, by omega, (((((hfr.tr fr57 (by decide)).tr fr65 (by decide)).tr fr70 (by decide)).tr fr74 (by decide)).tr fr80 (by decide)), fun k => (hO80 k (Or.inr nofun)).trans ((hO1) k), hdN, hpN, hSN, ⟨hlN, hgN⟩, hP, hD, hS, lv_sub hl [3, 4, 5, 6, 1, 0] rfl⟩
                  · have c_78 : ¬ 0 ≤ i1 := fun h9 => c_78 ((x_leN (a := 0) (b := i1) (by omega) (by omega)).mpr h9)
                    refine lv_iconst (v := 1) hx hb d_Reader_guards_99 (by decide) ?_
                    refine lv_goto (tgt := 104) hx hb d_Reader_guards_100 (by decide) ?_
                    have hG0g := (hdx1.un hzg53).2
                    have hG0q := (hdx1.un hzq61).2
                    have hgq := hne62_q61
                    have hfg530 := hfg53
                    have hcur : ∀ b, b ≠ g53 → b ≠ q61 → y_L pl70 b = y_L pl1 b := fun b h1 h2 => hoth b h1 h2
                    have hdxc := hdx1.two hzg53 hzq61 hgq hfg53 hqq61 hcur
                    refine y_know (fun hya1 hya2 hya3 hya4 => ?_)
                    have hFc := y_free hD hS hA
                    refine va_calli (va_runV (As := [.ref P, .int (Int32.ofNat (dp + 1)), .int 1]) (rest := []) ⟨hx, hb, hml, hown, hts⟩ (ihP l dC dI ar N0 z ad I74 T A74 O1 pl70 ln s74 cs74 f0 G1 J1 C1 Gs1 S1 (some P) ((dp + 1)) (1) H.size (y_hs H) hmi hdxc (fun P9 hP9 => by cases hP9; exact ⟨hG1, fun h9 => by omega⟩) (by omega) (by omega)) (cwV 3 hts (x_goodV k_557 k_332 kp_1 k_2 k_333) rfl rfl rfl (by decide +kernel) ⟨(by show 2 * nn + 40 + 1 ≤ 2 * nn + 41; omega), (by show 8 + (5 + 11) + (100 * nn + 1400) ≤ 100 * nn + 1440; omega)⟩) ⟨y_blind, va_recv hK hP (ci := 3) (q0 := 1) rfl (y_W_ob (by decide) (by decide)), fun U9 hU9 hW9 => y_pre hU9 hW9 hP hD hU hZ hS hAN hN0⟩ rfl rfl hl.1 rfl (lv_room (Nat.le_of_ble_eq_true rfl)) d_Reader_guards_104 ⟨(by show 3 * (a1 - aa) + 1 + (1) + (3 * (72 - cs74) + 2) ≤ 3 * (72 - aa) + 2; omega), (by show 100 * (a1 - aa) + 6 + (s57) + (100 * (72 - cs74) + 80) ≤ 100 * (72 - aa) + 80; omega)⟩) hS (fun q _ h => hFc q h) hFc (fun r_85 u t H1 locs ht hvm hw hB hz1 hk1 hS => ?_)
                    obtain ⟨I86, T86, A86, O86, pl86, q86, s86, cq86, cs86⟩ := u
                    dsimp only at hw hB
                    rw [ht] at hB
                    obtain ⟨hP, hD1, hac86⟩ := hB
                    have hD : va_D Bq (y_W ad ar I86 T86 A86 O86 pl86) := hD1.weaken (fun _ q _ h => hFc q.1 h)
                    generalize H1 = H at hP hS hac86 ⊢
                    have hae86 := hac86
                    try unfold y_ac at hae86
                    try dsimp only at hae86
                    obtain ⟨hmi, e2, hO86, fr86, hge86, hbr⟩ := hw
                    rw [e2] at hP hD
                    have hP : va_P (dC, dI) y_cl (y_W ad ar I86 T A86 O86 pl86) H := hP
                    have hD : va_D Bq (y_W ad ar I86 T A86 O86 pl86) := hD
                    have hbn := hmi.2.1
                    dsimp only at hbn
                    rcases hbr with ⟨rfl, hsl, hfl86⟩ | ⟨rfl, hsl, c86_, hsu86, hpr86⟩
                    · unfold y_rc at hac86
                      try dsimp only at hac86
                      refine y_tight (k := 3 * (cs86 - aa) + 2) (n := 100 * (cs86 - aa) + 80) (by omega) (by omega) ?_
                      refine lv_if_ne (tgt := 112) hx hb d_Reader_guards_107 (by decide) (fun c87 => absurd rfl c87) (fun _ => ?_)
                      refine lv_iconst (v := 0) hx hb d_Reader_guards_110 (by decide) ?_
                      have hfl : ∀ a, f0 a ≠ none → y_L pl86 a = f0 a := hfl86
                      refine y_know (fun hy91 hy92 hy93 hy94 => ?_)
                      have hac9 : y_rc s.heap.size (y_hs s.heap) aa cs86 1 H := ⟨by omega, by omega⟩
                      refine W.widen (k := 3 * (72 - aa) + 2) (n := 100 * (72 - aa) + 80) (by omega) (by omega) ?_
                      exact W.zret (v := 0) hx hb hr (rfl) (fun t ht hW => ⟨⟨0, (I86, T, A86, O86, pl86, (ln, s86, 1, cs86)), rfl, ⟨hmi, rfl, fun k => (hO86 k (Or.inr nofun)).trans ((hO1) k), (((((hfr.tr fr57 (by decide)).tr fr65 (by decide)).tr fr70 (by decide)).tr fr74 (by decide)).tr fr86 (by decide)), by dsimp only; omega, Or.inl ⟨rfl, Nat.le_refl _, hfl⟩⟩, (by dsimp only; rw [ht]; exact ⟨hP, hD, hac9⟩)⟩, hS.F ht⟩) hS.2.2 d_Reader_guards_111
                    · subst hsl
                      unfold y_rc at hac86
                      try dsimp only at hac86
                      refine y_tight (k := 3 * (cs86 - aa)) (n := 100 * (cs86 - aa)) (by omega) (by omega) ?_
                      obtain ⟨G86, J86, C86, Gs86, S86, hdx86, hph86, hSp86, hGp86, hCp86, hcg86⟩ := hsu86.ph (by rw [hcur P (fun e => by rw [← e] at hG0g; omega) (fun e => by rw [← e] at hG0q; omega)]; exact hph.2.1.1)
                      have hgP : g53 ≠ P := fun e => by rw [e] at hG0g; omega
                      have hqP : q61 ≠ P := fun e => by rw [e] at hG0q; omega
                      have hfg53 : y_L pl86 g53 = some (.inr (9, [.ref q61, .int chg, .int vag, .null, .null, .int 0])) := by rw [(hph86.1 g53 (by rw [hfg53]; exact nofun) hgP).2.2.2.2.2.2 (by rw [hG0g]; decide)]; exact hfg53
                      have hqq612 : y_L pl86 q61 = some (.inl (ar 0, s57, .inl h161)) := by rw [(hph86.1 q61 (by rw [hqq61]; exact nofun) hqP).2.2.2.2.2.2 (by rw [hG0q]; decide)]; exact hqq61
                      have hG2g : G86 g53 = 0 := by rw [(hph86.1 g53 (by rw [hfg530]; exact nofun) hgP).2.1]; exact hG0g
                      have hG2q : G86 q61 = 0 := by rw [(hph86.1 q61 (by rw [hqq61]; exact nofun) hqP).2.1]; exact hG0q
                      have hG2P : G86 P = 7 := hph86.2.1.2.1.trans hG1
                      obtain ⟨par3, nx3, tk3, co3, ch3, va3, hfP0, hpx3⟩ := hdx86.2.1 P hG2P
                      have hgl2 : (Gs86 P).getLast? = some lc := by rw [hGp86]; exact hlo.symm
                      have hfP : y_L pl86 P = some (.inr (7, [.ref (z (3 + J86 P)), va_rf par3, va_rf (C86 P).head?, .ref c86_, va_rf nx3, va_rf tk3, va_rf (Gs86 P).head?, .ref co3, .int ch3, .int va3])) := by rw [hfP0]; unfold y_Pf; rw [hCp86, y_glast]; rfl
                      obtain ⟨hlc9, co4, ch4, va4, fo4, op4, hfl40⟩ := hdx86.lastg hG2P hgl2
                      have hf4 : y_L pl86 lc = some (.inr (9, [.ref co4, .int ch4, .int va4, va_rf fo4, .null, .int op4])) := hfl40
                      have hlP : lc ≠ P := fun e => by rw [e] at hlc9; omega
                      have hlg : lc ≠ g53 := fun e => by rw [e] at hlc9; omega
                      refine lv_if_ne (tgt := 112) hx hb d_Reader_guards_107 (by decide) (fun _ => ?_) (fun c88 => absurd c88 (by decide))
                      refine lv_aload hx hb d_Reader_guards_112 (lv_at hl 0 rfl) ?_
                      refine lv_aload_n hx hb d_Reader_guards_114 rfl (lv_at hl 2 rfl) ?_
                      refine d_gN (C := "ChannelMachine$Process") (F := F_Process) (N := 10) hx hb hts i_Process hown hK hP hfP 3 rfl (by decide) (hU.1.2.1 _ kn_401) (fun _ h9 => h9) (v := .ref c86_) rfl d_Reader_guards_115 ?_
                      refine d_pN (C := "ChannelMachine$Guard") (F := F_Guard) (N := 6) hx hb hts i_Guard hown t_Guard t_Guard_ok n_Guard hK hP hD hS hfg53 3 rfl (by decide) (hU.1.2.1 _ kn_579) (fun _ h9 => h9) rfl (ty := (.object "ChannelMachine$Process")) (v := .ref c86_) (by decide +kernel) rfl rfl (Nat.le_of_ble_eq_true rfl) d_Reader_guards_118 (fun pl89 H locs hL hP hD hS => ?_)
                      have hfP : y_L pl89 P = some (.inr (7, [.ref (z (3 + J86 P)), va_rf par3, va_rf (C86 P).head?, .ref c86_, va_rf nx3, va_rf tk3, va_rf (Gs86 P).head?, .ref co3, .int ch3, .int va3])) := by rw [hL, y_Lu_n (Ne.symm hgP)]; exact hfP
                      have hf4 : y_L pl89 lc = some (.inr (9, [.ref co4, .int ch4, .int va4, va_rf fo4, .null, .int op4])) := by rw [hL, y_Lu_n hlg]; exact hf4
                      have hfg53 : y_L pl89 g53 = some (.inr (9, [.ref q61, .int chg, .int vag, .ref c86_, .null, .int 0])) := by rw [hL]; exact y_Lu_s
                      have hoth : ∀ b, b ≠ g53 → y_L pl89 b = y_L pl86 b := fun b n0 => by rw [hL, y_Lu_n n0]
                      clear hL
                      refine lv_aload hx hb d_Reader_guards_121 (lv_at hl 5 rfl) ?_
                      refine lv_ifnonnull (tgt := 135) hx hb d_Reader_guards_123 (by decide) ?_
                      refine lv_aload hx hb d_Reader_guards_135 (lv_at hl 5 rfl) ?_
                      refine lv_aload hx hb d_Reader_guards_137 (lv_at hl 0 rfl) ?_
                      refine d_pN (C := "ChannelMachine$Guard") (F := F_Guard) (N := 6) hx hb hts i_Guard hown t_Guard t_Guard_ok n_Guard hK hP hD hS hf4 4 rfl (by decide) (hU.1.2.1 _ kn_582) (fun _ h9 => h9) rfl (ty := (.object "ChannelMachine$Guard")) (v := .ref g53) (by decide +kernel) rfl rfl (Nat.le_of_ble_eq_true rfl) d_Reader_guards_139 (fun pl90 H locs hL hP hD hS => ?_)
                      have hfg53 : y_L pl90 g53 = some (.inr (9, [.ref q61, .int chg, .int vag, .ref c86_, .null, .int 0])) := by rw [hL, y_Lu_n (Ne.symm hlg)]; exact hfg53
                      have hfP : y_L pl90 P = some (.inr (7, [.ref (z (3 + J86 P)), va_rf par3, va_rf (C86 P).head?, .ref c86_, va_rf nx3, va_rf tk3, va_rf (Gs86 P).head?, .ref co3, .int ch3, .int va3])) := by rw [hL, y_Lu_n (Ne.symm hlP)]; exact hfP
                      have hf4 : y_L pl90 lc = some (.inr (9, [.ref co4, .int ch4, .int va4, va_rf fo4, .ref g53, .int op4])) := by rw [hL]; exact y_Lu_s
                      have hoth : ∀ b, b ≠ g53 → b ≠ lc → y_L pl90 b = y_L pl86 b := fun b n0 n1 => by rw [hL, y_Lu_n n1]; exact hoth b n0
                      clear hL
                      refine lv_aload hx hb d_Reader_guards_142 (lv_at hl 0 rfl) ?_
                      refine lv_astore (lv' := [(4, .ref g53), (6, .ref g53), (0, .ref (ad 1)), (1, .ref P), (2, .int (Int32.ofNat dp)), (3, .int (Int32.ofNat 0)), (5, .int (Int32.ofNat i1))]) hx hb d_Reader_guards_144 hl (by decide) rfl (fun ls hl => ?_)
                      refine lv_iinc (v := (Int32.ofNat (i1 + 1))) (lv' := [(5, .int (Int32.ofNat (i1 + 1))), (4, .ref g53), (6, .ref g53), (0, .ref (ad 1)), (1, .ref P), (2, .int (Int32.ofNat dp)), (3, .int (Int32.ofNat 0))]) hx hb d_Reader_guards_146 hl (k := 6) rfl (x_incN i1) (by decide) rfl (fun ls hl => ?_)
                      refine lv_goto (tgt := 18) hx hb d_Reader_guards_149 (by decide) ?_
                      have hdN := hdx86.grd (f' := y_L pl90) (P := P) (g := g53) (q := q61) (p := c86_) (ch := chg) (va := vag) (op := 0) hG2P (hdx1.un hzg53).1 hG2g (hdx1.un hzq61).1 hG2q hgq hcg86 hchg hqq612 (by omega) hokq61 hfg53 ⟨par3, nx3, tk3, co3, ch3, va3, hfP0, by rw [hfP]; unfold y_Pf; rw [y_un_s, hCp86, y_glast, y_headA hgl2]; rfl⟩ (fun c hc => by rw [hgl2] at hc; cases hc; exact ⟨co4, ch4, va4, fo4, none, op4, hfl40, hf4⟩) (fun b h1 h2 h3 => hoth b h2 (fun e => h3 (by rw [e]; exact hgl2)))
                      have hpN := y_PH.grd (fc := y_L pl70) (g := g53) (q := q61) (lo := some lc) (L := (Gs86 P ++ [g53])) (f9 := y_L pl90) hph hPe (fun a h9 => (hdx1.un h9).2) hzg53 hzq61 hcur ⟨by rw [hfg530]; exact nofun, by rw [hqq61]; exact nofun⟩ hph86 (fun a h9 => (hdx86.un h9).2) (fun b h1 h2 h3 => hoth b h2 (fun e => h3 (by rw [e]))) (fun c hc => by cases hc; exact ⟨hgnew lc (List.mem_of_getLast? hlo.symm), by rw [hf4]; exact nofun⟩) ⟨by rw [hfg53]; exact nofun, by rw [hfP]; exact nofun⟩
                      have hSN := hSp86.trans hSP
                      have hlN : some g53 = (y_un Gs86 P (Gs86 P ++ [g53]) P).getLast? := by rw [y_un_s, y_glast]
                      have hyE : ∀ x, y_L pl1 x = none → y_L pl x = none := fun x hx9 => by
                        by_cases e : y_L pl x = none
                        · exact e
                        · exact absurd hx9 (by by_cases e2 : x = P; (rw [e2]; exact hph.2.1.1); exact (hph.1 x e e2).1)
                      have hgN : ∀ x, x ∈ y_un Gs86 P (Gs86 P ++ [g53]) P → y_L pl x = none := fun x hx9 => by
                        rw [y_un_s, List.mem_append, hGp86] at hx9
                        rcases hx9 with h8 | h8
                        · exact hgnew x h8
                        · rw [List.mem_singleton.mp h8]; exact hyE g53 hzg53
                      refine W.widen (k := 3 * (cs86 - aa)) (n := 100 * (cs86 - aa)) (by omega) (by omega) ?_
                      exact ih (0 + 1 - (i1 + 1)) (by omega) cs86 H locs ls ⟨I86, A86, O86, pl90, s86, cs86, i1 + 1, some g53, _, J86, C86, _, S86, rfl, ⟨rfl, by omega, by omega⟩, hmi, by omega, (((((hfr.tr fr57 (by decide)).tr fr65 (by decide)).tr fr70 (by decide)).tr fr74 (by decide)).tr fr86 (by decide)), fun k => (hO86 k (Or.inr nofun)).trans ((hO1) k), hdN, hpN, hSN, ⟨hlN, hgN⟩, hP, hD, hS, lv_sub hl [3, 4, 5, 6, 1, 0] rfl⟩
        · refine lv_if_ne (tgt := 152) hx hb d_Reader_guards_31 (by decide) (fun _ => ?_) (fun c91 => absurd c91 (by decide))
          refine lv_iconst (v := 1) hx hb d_Reader_guards_152 (by decide) ?_
          refine y_know (fun hy91 hy92 hy93 hy94 => ?_)
          have hac9 : y_rc s.heap.size (y_hs s.heap) aa a1 0 H := ⟨by omega, by omega⟩
          refine W.widen (k := 3 * (72 - aa) + 2) (n := 100 * (72 - aa) + 80) (by omega) (by omega) ?_
          exact W.zret (v := 1) hx hb hr (rfl) (fun t ht hW => ⟨⟨1, (I1, T, A1, O1, pl1, (ln, cl1, 0, a1)), rfl, ⟨hmi, rfl, hO1, hfr, by dsimp only; omega, Or.inr ⟨rfl, rfl, G1, J1, C1, Gs1, S1, hdx1, hph, hSP⟩⟩, (by dsimp only; rw [ht]; exact ⟨hP, hD, hac9⟩)⟩, hS.F ht⟩) hS.2.2 d_Reader_guards_153
  · have c_1 : ¬ 7 ≤ dp := fun h9 => c_1 ((x_leN (a := 7) (b := dp) (by omega) (by omega)).mpr h9)
    refine lv_iconst (v := 4) hx hb d_Reader_guards_6 (by decide) ?_
    refine lv_goto (tgt := 11) hx hb d_Reader_guards_7 (by decide) ?_
    refine W.eq (g2 := F0 m 11 ls [.int (Int32.ofNat 4)]) rfl ?_
    refine lv_istore_n (lv' := [(3, .int (Int32.ofNat 4)), (0, .ref (ad 1)), (1, .ref P), (2, .int (Int32.ofNat dp))]) hx hb d_Reader_guards_11 rfl hl (by decide) rfl (fun ls hl => ?_)
    refine lv_null hx hb d_Reader_guards_12 ?_
    refine lv_astoreN (lv' := [(4, .null), (3, .int (Int32.ofNat 4)), (0, .ref (ad 1)), (1, .ref P), (2, .int (Int32.ofNat dp))]) hx hb d_Reader_guards_13 hl (by decide) rfl (fun ls hl => ?_)
    refine lv_iconst (v := 1) hx hb d_Reader_guards_15 (by decide) ?_
    refine W.eq (g2 := F0 m 16 ls [.int (Int32.ofNat 1)]) rfl ?_
    refine lv_istore (lv' := [(5, .int (Int32.ofNat 1)), (4, .null), (3, .int (Int32.ofNat 4)), (0, .ref (ad 1)), (1, .ref P), (2, .int (Int32.ofNat dp))]) hx hb d_Reader_guards_16 hl (by decide) rfl (fun ls hl => ?_)
    refine W.widen (k := 3 * (aa - aa)) (n := 100 * (aa - aa)) (by omega) (by omega) ?_
    refine x_whileG (fun X => 3 * (X - aa)) (fun X => 100 * (X - aa)) (k := aa) (fun n X H locs ls => ∃ (I1 : Nat → Int32) (A1 : Nat → Nat → Int32) (O1 : Nat → Option Nat) (pl1 : va_W) (cl1 a1 i1 : Nat) (lo : Option Nat) (G1 J1 : Nat → Nat) (C1 Gs1 : Nat → List Nat) (S1 : Nat → Nat), X = a1 ∧ (n = 4 + 1 - i1 ∧ 1 ≤ i1 ∧ i1 ≤ 4 + 1) ∧ y_RD I1 A1 (ln, cl1, ln, a1) ∧ aa ≤ a1 ∧ m_fr [2, 3, 4, 5, 6] I I1 ∧ (∀ k, O1 k = O k) ∧ y_DX z ar f0 G1 J1 C1 Gs1 S1 (y_L pl1) ∧ y_PH P (y_L pl) G J C Gs S (y_L pl1) G1 J1 C1 Gs1 S1 ∧ S1 P = S P ∧ (lo = (Gs1 P).getLast? ∧ (∀ x, x ∈ Gs1 P → y_L pl x = none)) ∧ va_P (dC, dI) y_cl (y_W ad ar I1 T A1 O1 pl1) H ∧ va_D Bq (y_W ad ar I1 T A1 O1 pl1) ∧ va_S Bq s.heap H locs ∧ lv_has ls 7 [(0, .ref (ad 1)), (1, .ref P), (2, .int (Int32.ofNat dp)), (3, .int (Int32.ofNat 4)), (4, va_rf lo), (5, .int (Int32.ofNat i1))]) (fun n ih X H locs ls h9 => ?_) ⟨I, A, O, pl, cl, aa, 1, none, G, J, C, Gs, S, rfl, ⟨rfl, Nat.le_refl _, by omega⟩, hmi, Nat.le_refl _, m_fr.rf, fun _ => rfl, hdx, y_PH.rf hPe (fun a h9 => (hdx.un h9).2), rfl, ⟨by rw [hG0]; rfl, fun x hx9 => by rw [hG0] at hx9; cases hx9⟩, hP, hD, hS, lv_sub hl [3, 4, 5, 2, 1, 0] rfl⟩
    clear hP hD hS hl hmi hbn
    obtain ⟨I1, A1, O1, pl1, cl1, a1, i1, lo, G1, J1, C1, Gs1, S1, hX, ⟨hn9, q8, q9⟩, hmi, ha1, hfr, hO1, hdx1, hph, hSP, ⟨hlo, hgnew⟩, hP, hD, hS, hl⟩ := h9
    refine W.cs (cells' := 3 * (a1 - aa)) (slots' := 100 * (a1 - aa)) (by subst hX; rfl) (by subst hX; rfl) ?_
    have hbn := hmi.2.1
    dsimp only at hbn
    have hG1 : G1 P = 7 := hph.2.1.2.1.trans hPG
    have hJ1 : J1 P = 10 := hph.2.1.2.2.trans hJP
    rcases lo with _ | lc
    · have hl : lv_has ls 7 [(0, .ref (ad 1)), (1, .ref P), (2, .int (Int32.ofNat dp)), (3, .int (Int32.ofNat 4)), (4, .null), (5, .int (Int32.ofNat i1))] := hl
      refine lv_iload hx hb d_Reader_guards_18 (lv_at hl 5 rfl) ?_
      refine lv_iload_n hx hb d_Reader_guards_20 rfl (lv_at hl 3 rfl) ?_
      refine lv_icmp_gt (tgt := 152) hx hb d_Reader_guards_21 (by decide) (fun c_92 => ?_) (fun c_92 => ?_)
      · have c_92 : 4 < i1 := (x_ltN (a := 4) (b := i1) (by omega) (by omega)).mp c_92
        refine lv_iconst (v := 1) hx hb d_Reader_guards_152 (by decide) ?_
        refine y_know (fun hy91 hy92 hy93 hy94 => ?_)
        have hac9 : y_rc s.heap.size (y_hs s.heap) aa a1 0 H := ⟨by omega, by omega⟩
        refine W.widen (k := 3 * (72 - aa) + 2) (n := 100 * (72 - aa) + 80) (by omega) (by omega) ?_
        exact W.zret (v := 1) hx hb hr (rfl) (fun t ht hW => ⟨⟨1, (I1, T, A1, O1, pl1, (ln, cl1, 0, a1)), rfl, ⟨hmi, rfl, hO1, hfr, by dsimp only; omega, Or.inr ⟨rfl, rfl, G1, J1, C1, Gs1, S1, hdx1, hph, hSP⟩⟩, (by dsimp only; rw [ht]; exact ⟨hP, hD, hac9⟩)⟩, hS.F ht⟩) hS.2.2 d_Reader_guards_153
      · have c_92 : ¬ 4 < i1 := fun h9 => c_92 ((x_ltN (a := 4) (b := i1) (by omega) (by omega)).mpr h9)
        refine lv_aload_n hx hb d_Reader_guards_24 rfl (lv_at hl 0 rfl) ?_
        have hFc := y_free hD hS hA
        refine va_calli (va_runV (As := []) (rest := []) ⟨hx, hb, hml, hown, hts⟩ (c_Rd_look l dC dI ar N0 z ad I1 T A1 O1 pl1 ln cl1 ln a1 H.size (y_hs H) hmi) (cwV 0 hts (x_goodV k_338 k_340 kp_3 k_2 k_341) rfl rfl rfl (by decide +kernel) ⟨Nat.le_trans (m := 41) (Nat.le_of_ble_eq_true rfl) (Nat.le_add_left 41 _), Nat.le_trans (m := 1440) (Nat.le_of_ble_eq_true rfl) (Nat.le_add_left 1440 _)⟩) ⟨y_blind, va_recv hK hP (ci := 3) (q0 := 1) rfl (y_W_ob (by decide) (by decide)), fun U9 hU9 hW9 => y_pre hU9 hW9 hP hD hU hZ hS hAN hN0⟩ rfl rfl hl.1 rfl (lv_room (Nat.le_of_ble_eq_true rfl)) d_Reader_guards_25 ⟨(by show 3 * (a1 - aa) + (0) ≤ 3 * (72 - aa) + 2; omega), (by show 100 * (a1 - aa) + (0) ≤ 100 * (72 - aa) + 80; omega)⟩) hS (fun q _ h => hFc q h) hFc (fun r_93 u t H1 locs ht hvm hw hB hz1 hk1 hS => ?_)
        obtain ⟨I94, T94, A94, O94, pl94, q94, s94, cq94, cs94⟩ := u
        dsimp only at hw hB
        rw [ht] at hB
        obtain ⟨hP, hD1, hac94⟩ := hB
        have hD : va_D Bq (y_W ad ar I94 T94 A94 O94 pl94) := hD1.weaken (fun _ q _ h => hFc q.1 h)
        generalize H1 = H at hP hS hac94 ⊢
        have hae94 := hac94
        try unfold y_ac at hae94
        try dsimp only at hae94
        refine W.widen (k := 3 * (a1 - aa)) (n := 100 * (a1 - aa)) (by omega) (by omega) ?_
        obtain ⟨h9, hw⟩ := hw
        cases h9
        obtain rfl := hw
        have hFc := y_free hD hS hA
        refine va_calli (va_runS (As := [.int (y_lk A1 ln a1)]) (rest := []) ⟨hx, hb, hml, hown, hts⟩ (c_Rd_isClosing l dC dI ar N0 z ad I1 T A1 O1 pl1 ((y_lk A1 ln a1)) H.size (y_hs H) ) (cwS 1 hts (x_goodS k_554 k_555 k_2 k_556) rfl rfl rfl (by decide +kernel) ⟨Nat.le_trans (m := 41) (Nat.le_of_ble_eq_true rfl) (Nat.le_add_left 41 _), Nat.le_trans (m := 1440) (Nat.le_of_ble_eq_true rfl) (Nat.le_add_left 1440 _)⟩) ⟨y_blind, fun U9 hU9 hW9 => y_pre hU9 hW9 hP hD hU hZ hS hAN hN0⟩ rfl rfl hl.1 rfl (lv_room (Nat.le_of_ble_eq_true rfl)) d_Reader_guards_28 ⟨(by show 3 * (a1 - aa) + (0) ≤ 3 * (72 - aa) + 2; omega), (by show 100 * (a1 - aa) + (0) ≤ 100 * (72 - aa) + 80; omega)⟩) hS (fun q _ h => hFc q h) hFc (fun r_95 u t H1 locs ht hvm hw hB hz1 hk1 hS => ?_)
        obtain ⟨I96, T96, A96, O96, pl96, q96, s96, cq96, cs96⟩ := u
        dsimp only at hw hB
        rw [ht] at hB
        obtain ⟨hP, hD1, hac96⟩ := hB
        have hD : va_D Bq (y_W ad ar I96 T96 A96 O96 pl96) := hD1.weaken (fun _ q _ h => hFc q.1 h)
        generalize H1 = H at hP hS hac96 ⊢
        have hae96 := hac96
        try unfold y_ac at hae96
        try dsimp only at hae96
        refine W.widen (k := 3 * (a1 - aa)) (n := 100 * (a1 - aa)) (by omega) (by omega) ?_
        obtain ⟨h9, hw⟩ := hw
        cases h9
        rcases hw with rfl | rfl
        · refine lv_if_ne (tgt := 152) hx hb d_Reader_guards_31 (by decide) (fun c97 => absurd rfl c97) (fun _ => ?_)
          refine d_new (ci := 9) (fs := [.null, .int 0, .int 0, .null, .null, .int 0]) (C := "ChannelMachine$Guard") (F := F_Guard) (N := 6) hx hb hts i_Guard t_Guard t_Guard_ok hown (hts _ k_562) (hts _ k_563) (hts _ k_23) hK hP hD hS hA rfl (fun j hj => by rcases (show j = 0 ∨ j = 1 ∨ j = 2 ∨ j = 3 ∨ j = 4 ∨ j = 5 by omega) with rfl | rfl | rfl | rfl | rfl | rfl <;> rfl) (by show 3 * (a1 - aa) + 1 ≤ 3 * (72 - aa) + 2; omega) (by show 100 * (a1 - aa) + 6 ≤ 100 * (72 - aa) + 80; omega) d_Reader_guards_34 (fun g98 pl99 H hnog98 hL hP hD hS => ?_)
          have hzg98 : y_L pl1 g98 = none := by exact hnog98
          have hfg98 : y_L pl99 g98 = some (.inr (9, [.null, .int 0, .int 0, .null, .null, .int 0])) := by rw [hL]; exact y_Lu_s
          have hoth : ∀ b, b ≠ g98 → y_L pl99 b = y_L pl1 b := fun b n0 => by rw [hL, y_Lu_n n0]
          clear hL
          refine lv_dup hx hb d_Reader_guards_37 rfl ?_
          have hFc := y_free hD hS hA
          refine va_callv (va_runIN (As := []) (rest := [.ref g98]) ⟨hx, hb, hml, hown, hts⟩ (c_G_init l dC dI ar N0 z ad I1 T A1 O1 pl99 g98 H.size (y_hs H) hfg98) ⟨va_cnB 0 hts (x_good k_566) rfl rfl rfl (hU.1.2.1 _ kn_564) (hts _ k_23) (by decide +kernel) ⟨Nat.le_trans (m := 41) (Nat.le_of_ble_eq_true rfl) (Nat.le_add_left 41 _), Nat.le_trans (m := 1440) (Nat.le_of_ble_eq_true rfl) (Nat.le_add_left 1440 _)⟩, rfl, hts _ k_565⟩ ⟨y_blind, fun U9 hU9 hW9 => y_pre hU9 hW9 hP hD hU hZ hS hAN hN0⟩ rfl rfl hl.1 rfl (lv_room (Nat.le_of_ble_eq_true rfl)) d_Reader_guards_38 ⟨(by show 3 * (a1 - aa) + 1 + (0) ≤ 3 * (72 - aa) + 2; omega), (by show 100 * (a1 - aa) + 6 + (0) ≤ 100 * (72 - aa) + 80; omega)⟩) hS (fun q _ h => hFc q h) hFc (fun u t H1 locs ht hvm hw hB hz1 hk1 hS => ?_)
          obtain ⟨I100, T100, A100, O100, pl100, q100, s100, cq100, cs100⟩ := u
          dsimp only at hw hB
          rw [ht] at hB
          obtain ⟨hP, hD1, hac100⟩ := hB
          have hD : va_D Bq (y_W ad ar I100 T100 A100 O100 pl100) := hD1.weaken (fun _ q _ h => hFc q.1 h)
          generalize H1 = H at hP hS hac100 ⊢
          have hae100 := hac100
          try unfold y_ac at hae100
          try dsimp only at hae100
          refine W.widen (k := 3 * (a1 - aa) + 1) (n := 100 * (a1 - aa) + 6) (by omega) (by omega) ?_
          obtain ⟨e1, e2, e3, e4, hL⟩ := hw
          rw [e1, e2, e3, e4] at hP hD
          have hfg98 : y_L pl100 g98 = some (.inr (9, [.ref (z 21), .int (-1), .int (-1), .null, .null, .int 0])) := by rw [hL]; exact y_Lu_s
          have hoth : ∀ b, b ≠ g98 → y_L pl100 b = y_L pl1 b := fun b n0 => by rw [hL, y_Lu_n n0]; exact hoth b n0
          clear hL
          have hP : va_P (dC, dI) y_cl (y_W ad ar I1 T A1 O1 pl100) H := hP
          have hD : va_D Bq (y_W ad ar I1 T A1 O1 pl100) := hD
          refine lv_astore (lv' := [(6, .ref g98), (0, .ref (ad 1)), (1, .ref P), (2, .int (Int32.ofNat dp)), (3, .int (Int32.ofNat 4)), (4, .null), (5, .int (Int32.ofNat i1))]) hx hb d_Reader_guards_41 hl (by decide) rfl (fun ls hl => ?_)
          refine lv_aload_n hx hb d_Reader_guards_43 rfl (lv_at hl 1 rfl) ?_
          have hFc := y_free hD hS hA
          refine va_calli (va_runV (As := []) (rest := []) ⟨hx, hb, hml, hown, hts⟩ (c_Rd_expression l dC dI ar N0 z ad I1 T A1 O1 pl100 ln cl1 ln a1 H.size (y_hs H) hmi) (cwV 0 hts (x_goodV k_500 k_502 kp_9 k_2 k_503) rfl rfl rfl (by decide +kernel) ⟨Nat.le_trans (m := 41) (Nat.le_of_ble_eq_true rfl) (Nat.le_add_left 41 _), Nat.le_trans (m := 1440) (Nat.le_of_ble_eq_true rfl) (Nat.le_add_left 1440 _)⟩) ⟨y_blind, va_recv hK hP (ci := 3) (q0 := 1) rfl (y_W_ob (by decide) (by decide)), fun U9 hU9 hW9 => y_pre hU9 hW9 hP hD hU hZ hS hAN hN0⟩ rfl rfl hl.1 rfl (lv_room (Nat.le_of_ble_eq_true rfl)) d_Reader_guards_44 ⟨(by show 3 * (a1 - aa) + 1 + (0) ≤ 3 * (72 - aa) + 2; omega), (by show 100 * (a1 - aa) + 6 + (0) ≤ 100 * (72 - aa) + 80; omega)⟩) hS (fun q _ h => hFc q h) hFc (fun r_101 u t H1 locs ht hvm hw hB hz1 hk1 hS => ?_)
          obtain ⟨I102, T102, A102, O102, pl102, q102, s102, cq102, cs102⟩ := u
          dsimp only at hw hB
          rw [ht] at hB
          obtain ⟨hP, hD1, hac102⟩ := hB
          have hD : va_D Bq (y_W ad ar I102 T102 A102 O102 pl102) := hD1.weaken (fun _ q _ h => hFc q.1 h)
          generalize H1 = H at hP hS hac102 ⊢
          have hae102 := hac102
          try unfold y_ac at hae102
          try dsimp only at hae102
          refine W.widen (k := 3 * (a1 - aa) + 1) (n := 100 * (a1 - aa) + 6) (by omega) (by omega) ?_
          obtain ⟨hmi, e2, e4, e5, fr102, e6, e7, hge102, hcc102, hcz, hr9⟩ := hw
          rw [e2, e4, e5] at hP hD
          rw [e6, e7] at hmi
          have hP : va_P (dC, dI) y_cl (y_W ad ar I102 T A102 O1 pl100) H := hP
          have hD : va_D Bq (y_W ad ar I102 T A102 O1 pl100) := hD
          have hbn := hmi.2.1
          dsimp only at hbn
          rcases hr9 with rfl | rfl
          · refine lv_if_ne (tgt := 52) hx hb d_Reader_guards_47 (by decide) (fun c103 => absurd rfl c103) (fun _ => ?_)
            refine lv_iconst (v := 0) hx hb d_Reader_guards_50 (by decide) ?_
            have hfl : ∀ a, f0 a ≠ none → y_L pl100 a = f0 a := fun a ha => by
              obtain ⟨h1, h2⟩ := hdx1.1 a ha
              rw [hoth a (fun e => by rw [e, hzg98] at h1; exact ha (by rw [e]; exact h1.symm)), h1]
            refine y_know (fun hy91 hy92 hy93 hy94 => ?_)
            have hac9 : y_rc s.heap.size (y_hs s.heap) aa cs102 1 H := ⟨by omega, by omega⟩
            refine W.widen (k := 3 * (72 - aa) + 2) (n := 100 * (72 - aa) + 80) (by omega) (by omega) ?_
            exact W.zret (v := 0) hx hb hr (rfl) (fun t ht hW => ⟨⟨0, (I102, T, A102, O1, pl100, (ln, s102, 1, cs102)), rfl, ⟨hmi, rfl, hO1, (hfr.tr fr102 (by decide)), by dsimp only; omega, Or.inl ⟨rfl, Nat.le_refl _, hfl⟩⟩, (by dsimp only; rw [ht]; exact ⟨hP, hD, hac9⟩)⟩, hS.F ht⟩) hS.2.2 d_Reader_guards_51
          · refine lv_if_ne (tgt := 52) hx hb d_Reader_guards_47 (by decide) (fun _ => ?_) (fun c104 => absurd c104 (by decide))
            refine lv_aload hx hb d_Reader_guards_52 (lv_at hl 0 rfl) ?_
            refine lv_aload_n hx hb d_Reader_guards_54 rfl (lv_at hl 1 rfl) ?_
            refine y_know (fun hya1 hya2 hya3 hya4 => ?_)
            have hFc := y_free hD hS hA
            refine va_callq (va_runV (As := []) (rest := [.ref g98]) ⟨hx, hb, hml, hown, hts⟩ (c_Rd_codeRead l dC dI ar N0 z ad I102 T A102 O1 pl100 ln s102 ln cs102 H.size (y_hs H) hmi (by omega)) (cwV 0 hts (x_goodV k_526 k_528 kp_14 k_2 k_529) rfl rfl rfl (by decide +kernel) ⟨Nat.le_trans (m := 41) (Nat.le_of_ble_eq_true rfl) (Nat.le_add_left 41 _), Nat.le_trans (m := 1440) (Nat.le_of_ble_eq_true rfl) (Nat.le_add_left 1440 _)⟩) ⟨y_blind, va_recv hK hP (ci := 3) (q0 := 1) rfl (y_W_ob (by decide) (by decide)), fun U9 hU9 hW9 => y_pre hU9 hW9 hP hD hU hZ hS hAN hN0⟩ rfl rfl hl.1 rfl (lv_room (Nat.le_of_ble_eq_true rfl)) d_Reader_guards_55 ⟨(by show 3 * (a1 - aa) + 1 + (1) ≤ 3 * (72 - aa) + 2; omega), (by show 100 * (a1 - aa) + 6 + (s102) ≤ 100 * (72 - aa) + 80; omega)⟩) hS (fun q _ h => hFc q h) hFc (fun r_105 u t H1 locs ht hvm hw hB hz1 hk1 hS => ?_)
            obtain ⟨I106, T106, A106, O106, pl106, q106, s106, cq106, cs106⟩ := u
            dsimp only at hw hB
            rw [ht] at hB
            obtain ⟨hP, hD1, hac106⟩ := hB
            have hD : va_D Bq (y_W ad ar I106 T106 A106 O106 pl106) := hD1.weaken (fun _ q _ h => hFc q.1 h)
            generalize H1 = H at hP hS hac106 ⊢
            have hae106 := hac106
            try unfold y_ac at hae106
            try dsimp only at hae106
            obtain ⟨q106, h1106, rfl, hno106, e1, e2, e3, e4, hL106, hcp106⟩ := hw
            rw [e1, e2, e3, e4] at hP hD
            refine W.eq (g2 := F0 m 58 ls [.ref q106, .ref g98]) rfl ?_
            have hP : va_P (dC, dI) y_cl (y_W ad ar I102 T A102 O1 pl106) H := hP
            have hD : va_D Bq (y_W ad ar I102 T A102 O1 pl106) := hD
            have hne107_q106 : g98 ≠ q106 := fun h9 => by rw [h9, hno106] at hfg98; cases hfg98
            have hzq106 : y_L pl1 q106 = none := by rw [← hoth q106 (Ne.symm hne107_q106)]; exact hno106
            have hfg98 : y_L pl106 g98 = some (.inr (9, [.ref (z 21), .int (-1), .int (-1), .null, .null, .int 0])) := by rw [hL106, y_Lu_n hne107_q106]; exact hfg98
            have hqq106 : y_L pl106 q106 = some (.inl (ar 0, s102, .inl h1106)) := by rw [hL106]; exact y_Lu_s
            have hoth : ∀ b, b ≠ g98 → b ≠ q106 → y_L pl106 b = y_L pl1 b := fun b n0 n1 => by rw [hL106, y_Lu_n n1]; exact hoth b n0
            have hokq106 : y_cok s102 h1106 := fun j hj => by rw [hcp106 j hj]; exact hmi.2.2 j hj (by dsimp only; omega)
            clear hL106
            refine d_pN (C := "ChannelMachine$Guard") (F := F_Guard) (N := 6) hx hb hts i_Guard hown t_Guard t_Guard_ok n_Guard hK hP hD hS hfg98 0 rfl (by decide) (hU.1.2.1 _ kn_570) (fun _ h9 => h9) rfl (ty := (.array .int)) (v := .ref q106) (by decide +kernel) rfl rfl (Nat.le_of_ble_eq_true rfl) d_Reader_guards_58 (fun pl108 H locs hL hP hD hS => ?_)
            have hqq106 : y_L pl108 q106 = some (.inl (ar 0, s102, .inl h1106)) := by rw [hL, y_Lu_n (Ne.symm hne107_q106)]; exact hqq106
            have hfg98 : y_L pl108 g98 = some (.inr (9, [.ref q106, .int (-1), .int (-1), .null, .null, .int 0])) := by rw [hL]; exact y_Lu_s
            have hoth : ∀ b, b ≠ g98 → b ≠ q106 → y_L pl108 b = y_L pl1 b := fun b n0 n1 => by rw [hL, y_Lu_n n0]; exact hoth b n0 n1
            clear hL
            refine lv_aload_n hx hb d_Reader_guards_61 rfl (lv_at hl 1 rfl) ?_
            refine lv_bipush (v := 38) hx hb d_Reader_guards_62 (by decide) ?_
            have hFc := y_free hD hS hA
            refine va_calli (va_runV (As := [.int 38]) (rest := []) ⟨hx, hb, hml, hown, hts⟩ (c_Rd_expect l dC dI ar N0 z ad I102 T A102 O1 pl108 ln s102 ln cs102 (38) H.size (y_hs H) hmi (by decide)) (cwV 1 hts (x_goodV k_492 k_494 kp_7 k_2 k_495) rfl rfl rfl (by decide +kernel) ⟨Nat.le_trans (m := 41) (Nat.le_of_ble_eq_true rfl) (Nat.le_add_left 41 _), Nat.le_trans (m := 1440) (Nat.le_of_ble_eq_true rfl) (Nat.le_add_left 1440 _)⟩) ⟨y_blind, va_recv hK hP (ci := 3) (q0 := 1) rfl (y_W_ob (by decide) (by decide)), fun U9 hU9 hW9 => y_pre hU9 hW9 hP hD hU hZ hS hAN hN0⟩ rfl rfl hl.1 rfl (lv_room (Nat.le_of_ble_eq_true rfl)) d_Reader_guards_64 ⟨(by show 3 * (a1 - aa) + 1 + (1) + (0) ≤ 3 * (72 - aa) + 2; omega), (by show 100 * (a1 - aa) + 6 + (s102) + (0) ≤ 100 * (72 - aa) + 80; omega)⟩) hS (fun q _ h => hFc q h) hFc (fun r_109 u t H1 locs ht hvm hw hB hz1 hk1 hS => ?_)
            obtain ⟨I110, T110, A110, O110, pl110, q110, s110, cq110, cs110⟩ := u
            dsimp only at hw hB
            rw [ht] at hB
            obtain ⟨hP, hD1, hac110⟩ := hB
            have hD : va_D Bq (y_W ad ar I110 T110 A110 O110 pl110) := hD1.weaken (fun _ q _ h => hFc q.1 h)
            generalize H1 = H at hP hS hac110 ⊢
            have hae110 := hac110
            try unfold y_ac at hae110
            try dsimp only at hae110
            refine W.widen (k := 3 * (a1 - aa) + 1 + (1)) (n := 100 * (a1 - aa) + 6 + (s102)) (by omega) (by omega) ?_
            obtain ⟨hmi, e2, e4, e5, fr110, e6, e7, hge110, hcc110, hr9⟩ := hw
            rw [e2, e4, e5] at hP hD
            rw [e6, e7] at hmi
            have hP : va_P (dC, dI) y_cl (y_W ad ar I110 T A110 O1 pl108) H := hP
            have hD : va_D Bq (y_W ad ar I110 T A110 O1 pl108) := hD
            have hbn := hmi.2.1
            dsimp only at hbn
            rcases hr9 with rfl | ⟨rfl, hex111⟩
            · refine lv_if_eq (tgt := 110) hx hb d_Reader_guards_67 (by decide) (fun _ => ?_) (fun c112 => absurd (by decide) c112)
              refine lv_iconst (v := 0) hx hb d_Reader_guards_110 (by decide) ?_
              have hfl : ∀ a, f0 a ≠ none → y_L pl108 a = f0 a := fun a ha => by
                obtain ⟨h1, h2⟩ := hdx1.1 a ha
                rw [hoth a (fun e => by rw [e, hzg98] at h1; exact ha (by rw [e]; exact h1.symm)) (fun e => by rw [e, hzq106] at h1; exact ha (by rw [e]; exact h1.symm)), h1]
              refine y_know (fun hy91 hy92 hy93 hy94 => ?_)
              have hac9 : y_rc s.heap.size (y_hs s.heap) aa cs110 1 H := ⟨by omega, by omega⟩
              refine W.widen (k := 3 * (72 - aa) + 2) (n := 100 * (72 - aa) + 80) (by omega) (by omega) ?_
              exact W.zret (v := 0) hx hb hr (rfl) (fun t ht hW => ⟨⟨0, (I110, T, A110, O1, pl108, (ln, s110, 1, cs110)), rfl, ⟨hmi, rfl, hO1, ((hfr.tr fr102 (by decide)).tr fr110 (by decide)), by dsimp only; omega, Or.inl ⟨rfl, Nat.le_refl _, hfl⟩⟩, (by dsimp only; rw [ht]; exact ⟨hP, hD, hac9⟩)⟩, hS.F ht⟩) hS.2.2 d_Reader_guards_111
            · refine lv_if_eq (tgt := 110) hx hb d_Reader_guards_67 (by decide) (fun c113 => absurd c113 (by decide)) (fun _ => ?_)
              refine lv_aload_n hx hb d_Reader_guards_70 rfl (lv_at hl 1 rfl) ?_
              refine lv_aload hx hb d_Reader_guards_71 (lv_at hl 0 rfl) ?_
              have hFc := y_free hD hS hA
              have hfl0 : ∀ a, f0 a ≠ none → y_L pl108 a = f0 a := fun a ha => by
                obtain ⟨h1, h2⟩ := hdx1.1 a ha
                rw [hoth a (fun e => by rw [e, hzg98] at h1; exact ha (by rw [e]; exact h1.symm)) (fun e => by rw [e, hzq106] at h1; exact ha (by rw [e]; exact h1.symm)), h1]
              refine va_calli (va_runV (As := [.ref g98]) (rest := []) ⟨hx, hb, hml, hown, hts⟩ (c_Rd_guardInput l dC dI ar N0 z ad I110 T A110 O1 pl108 ln s110 ln cs110 g98 q106 H.size (y_hs H) hmi hfg98) (cwV 1 hts (x_goodV k_599 k_601 kp_18 k_2 k_602) rfl rfl rfl (by decide +kernel) ⟨Nat.le_trans (m := 41) (Nat.le_of_ble_eq_true rfl) (Nat.le_add_left 41 _), Nat.le_trans (m := 1440) (Nat.le_of_ble_eq_true rfl) (Nat.le_add_left 1440 _)⟩) ⟨y_blind, va_recv hK hP (ci := 3) (q0 := 1) rfl (y_W_ob (by decide) (by decide)), fun U9 hU9 hW9 => y_pre hU9 hW9 hP hD hU hZ hS hAN hN0⟩ rfl rfl hl.1 rfl (lv_room (Nat.le_of_ble_eq_true rfl)) d_Reader_guards_73 ⟨(by show 3 * (a1 - aa) + 1 + (1) + (0) ≤ 3 * (72 - aa) + 2; omega), (by show 100 * (a1 - aa) + 6 + (s102) + (0) ≤ 100 * (72 - aa) + 80; omega)⟩) hS (fun q _ h => hFc q h) hFc (fun r_114 u t H1 locs ht hvm hw hB hz1 hk1 hS => ?_)
              obtain ⟨I115, T115, A115, O115, pl115, q115, s115, cq115, cs115⟩ := u
              dsimp only at hw hB
              rw [ht] at hB
              obtain ⟨hP, hD1, hac115⟩ := hB
              have hD : va_D Bq (y_W ad ar I115 T115 A115 O115 pl115) := hD1.weaken (fun _ q _ h => hFc q.1 h)
              generalize H1 = H at hP hS hac115 ⊢
              have hae115 := hac115
              try unfold y_ac at hae115
              try dsimp only at hae115
              refine W.widen (k := 3 * (a1 - aa) + 1 + (1)) (n := 100 * (a1 - aa) + 6 + (s102)) (by omega) (by omega) ?_
              obtain ⟨hmi, e2, e4, fr115, e6, e7, hge115, hbr⟩ := hw
              rw [e2, e4] at hP hD
              rw [e6, e7] at hmi
              have hP : va_P (dC, dI) y_cl (y_W ad ar I115 T A115 O1 pl115) H := hP
              have hD : va_D Bq (y_W ad ar I115 T A115 O1 pl115) := hD
              have hbn := hmi.2.1
              dsimp only at hbn
              rcases hbr with ⟨rfl, hog⟩ | ⟨rfl, chg, vag, hchg, hfg98, hog⟩
              · refine lv_if_eq (tgt := 110) hx hb d_Reader_guards_76 (by decide) (fun _ => ?_) (fun c116 => absurd (by decide) c116)
                refine lv_iconst (v := 0) hx hb d_Reader_guards_110 (by decide) ?_
                have hfl : ∀ a, f0 a ≠ none → y_L pl115 a = f0 a := (fun a ha => by rw [hog a (by rw [hfl0 a ha]; exact ha) (fun e => by have h1 := (hdx1.1 a ha).1; rw [e, hzg98] at h1; exact ha (by rw [e]; exact h1.symm)), hfl0 a ha])
                refine y_know (fun hy91 hy92 hy93 hy94 => ?_)
                have hac9 : y_rc s.heap.size (y_hs s.heap) aa cs115 1 H := ⟨by omega, by omega⟩
                refine W.widen (k := 3 * (72 - aa) + 2) (n := 100 * (72 - aa) + 80) (by omega) (by omega) ?_
                exact W.zret (v := 0) hx hb hr (rfl) (fun t ht hW => ⟨⟨0, (I115, T, A115, O1, pl115, (ln, s115, 1, cs115)), rfl, ⟨hmi, rfl, hO1, (((hfr.tr fr102 (by decide)).tr fr110 (by decide)).tr fr115 (by decide)), by dsimp only; omega, Or.inl ⟨rfl, Nat.le_refl _, hfl⟩⟩, (by dsimp only; rw [ht]; exact ⟨hP, hD, hac9⟩)⟩, hS.F ht⟩) hS.2.2 d_Reader_guards_111
              · have hqq106 : y_L pl115 q106 = some (.inl (ar 0, s102, .inl h1106)) := by rw [hog q106 (Ne.symm hne107_q106)]; exact hqq106
                have hoth : ∀ b, b ≠ g98 → b ≠ q106 → y_L pl115 b = y_L pl1 b := fun b n0 n1 => by rw [hog b n0]; exact hoth b n0 n1
                refine lv_if_eq (tgt := 110) hx hb d_Reader_guards_76 (by decide) (fun c117 => absurd c117 (by decide)) (fun _ => ?_)
                refine lv_aload_n hx hb d_Reader_guards_79 rfl (lv_at hl 1 rfl) ?_
                refine lv_bipush (v := 44) hx hb d_Reader_guards_80 (by decide) ?_
                have hFc := y_free hD hS hA
                refine va_calli (va_runV (As := [.int 44]) (rest := []) ⟨hx, hb, hml, hown, hts⟩ (c_Rd_expect l dC dI ar N0 z ad I115 T A115 O1 pl115 ln s115 ln cs115 (44) H.size (y_hs H) hmi (by decide)) (cwV 1 hts (x_goodV k_492 k_494 kp_7 k_2 k_495) rfl rfl rfl (by decide +kernel) ⟨Nat.le_trans (m := 41) (Nat.le_of_ble_eq_true rfl) (Nat.le_add_left 41 _), Nat.le_trans (m := 1440) (Nat.le_of_ble_eq_true rfl) (Nat.le_add_left 1440 _)⟩) ⟨y_blind, va_recv hK hP (ci := 3) (q0 := 1) rfl (y_W_ob (by decide) (by decide)), fun U9 hU9 hW9 => y_pre hU9 hW9 hP hD hU hZ hS hAN hN0⟩ rfl rfl hl.1 rfl (lv_room (Nat.le_of_ble_eq_true rfl)) d_Reader_guards_82 ⟨(by show 3 * (a1 - aa) + 1 + (1) + (0) ≤ 3 * (72 - aa) + 2; omega), (by show 100 * (a1 - aa) + 6 + (s102) + (0) ≤ 100 * (72 - aa) + 80; omega)⟩) hS (fun q _ h => hFc q h) hFc (fun r_118 u t H1 locs ht hvm hw hB hz1 hk1 hS => ?_)
                obtain ⟨I119, T119, A119, O119, pl119, q119, s119, cq119, cs119⟩ := u
                dsimp only at hw hB
                rw [ht] at hB
                obtain ⟨hP, hD1, hac119⟩ := hB
                have hD : va_D Bq (y_W ad ar I119 T119 A119 O119 pl119) := hD1.weaken (fun _ q _ h => hFc q.1 h)
                generalize H1 = H at hP hS hac119 ⊢
                have hae119 := hac119
                try unfold y_ac at hae119
                try dsimp only at hae119
                refine W.widen (k := 3 * (a1 - aa) + 1 + (1)) (n := 100 * (a1 - aa) + 6 + (s102)) (by omega) (by omega) ?_
                obtain ⟨hmi, e2, e4, e5, fr119, e6, e7, hge119, hcc119, hr9⟩ := hw
                rw [e2, e4, e5] at hP hD
                rw [e6, e7] at hmi
                have hP : va_P (dC, dI) y_cl (y_W ad ar I119 T A119 O1 pl115) H := hP
                have hD : va_D Bq (y_W ad ar I119 T A119 O1 pl115) := hD
                have hbn := hmi.2.1
                dsimp only at hbn
                rcases hr9 with rfl | ⟨rfl, hex120⟩
                · refine lv_if_eq (tgt := 110) hx hb d_Reader_guards_85 (by decide) (fun _ => ?_) (fun c121 => absurd (by decide) c121)
                  refine lv_iconst (v := 0) hx hb d_Reader_guards_110 (by decide) ?_
                  have hfl : ∀ a, f0 a ≠ none → y_L pl115 a = f0 a := fun a ha => by
                    obtain ⟨h1, h2⟩ := hdx1.1 a ha
                    rw [hoth a (fun e => by rw [e, hzg98] at h1; exact ha (by rw [e]; exact h1.symm)) (fun e => by rw [e, hzq106] at h1; exact ha (by rw [e]; exact h1.symm)), h1]
                  refine y_know (fun hy91 hy92 hy93 hy94 => ?_)
                  have hac9 : y_rc s.heap.size (y_hs s.heap) aa cs119 1 H := ⟨by omega, by omega⟩
                  refine W.widen (k := 3 * (72 - aa) + 2) (n := 100 * (72 - aa) + 80) (by omega) (by omega) ?_
                  exact W.zret (v := 0) hx hb hr (rfl) (fun t ht hW => ⟨⟨0, (I119, T, A119, O1, pl115, (ln, s119, 1, cs119)), rfl, ⟨hmi, rfl, hO1, ((((hfr.tr fr102 (by decide)).tr fr110 (by decide)).tr fr115 (by decide)).tr fr119 (by decide)), by dsimp only; omega, Or.inl ⟨rfl, Nat.le_refl _, hfl⟩⟩, (by dsimp only; rw [ht]; exact ⟨hP, hD, hac9⟩)⟩, hS.F ht⟩) hS.2.2 d_Reader_guards_111
                · refine lv_if_eq (tgt := 110) hx hb d_Reader_guards_85 (by decide) (fun c122 => absurd c122 (by decide)) (fun _ => ?_)
                  refine lv_aload_n hx hb d_Reader_guards_88 rfl (lv_at hl 1 rfl) ?_
                  refine lv_aload_n hx hb d_Reader_guards_89 rfl (lv_at hl 2 rfl) ?_
                  refine lv_iload_n hx hb d_Reader_guards_90 rfl (lv_at hl 3 rfl) ?_
                  refine lv_iconst (v := 1) hx hb d_Reader_guards_91 (by decide) ?_
                  refine lv_iadd hx hb d_Reader_guards_92 ?_
                  refine W.eq (g2 := F0 m 93 ls [.int (Int32.ofNat (dp + 1)), .ref P, .ref (ad 1)]) (by rw [← x_addN (a := dp) (b := 1)] <;> rfl) ?_
                  refine lv_iload hx hb d_Reader_guards_93 (lv_at hl 6 rfl) ?_
                  refine lv_iload_n hx hb d_Reader_guards_95 rfl (lv_at hl 4 rfl) ?_
                  refine lv_icmp_ge (tgt := 103) hx hb d_Reader_guards_96 (by decide) (fun c_123 => ?_) (fun c_123 => ?_)
                  · have c_123 : 4 ≤ i1 := (x_leN (a := 4) (b := i1) (by omega) (by omega)).mp c_123
                    refine lv_iconst (v := 0) hx hb d_Reader_guards_103 (by decide) ?_
                    have hG0g := (hdx1.un hzg98).2
                    have hG0q := (hdx1.un hzq106).2
                    have hgq := hne107_q106
                    have hfg980 := hfg98
                    have hcur : ∀ b, b ≠ g98 → b ≠ q106 → y_L pl115 b = y_L pl1 b := fun b h1 h2 => hoth b h1 h2
                    have hdxc := hdx1.two hzg98 hzq106 hgq hfg98 hqq106 hcur
                    refine y_know (fun hya1 hya2 hya3 hya4 => ?_)
                    have hFc := y_free hD hS hA
                    refine va_calli (va_runV (As := [.ref P, .int (Int32.ofNat (dp + 1)), .int 0]) (rest := []) ⟨hx, hb, hml, hown, hts⟩ (ihP l dC dI ar N0 z ad I119 T A119 O1 pl115 ln s119 cs119 f0 G1 J1 C1 Gs1 S1 (some P) ((dp + 1)) (0) H.size (y_hs H) hmi hdxc (fun P9 hP9 => by cases hP9; exact ⟨hG1, fun h9 => by omega⟩) (by omega) (by omega)) (cwV 3 hts (x_goodV k_557 k_332 kp_1 k_2 k_333) rfl rfl rfl (by decide +kernel) ⟨(by show 2 * nn + 40 + 1 ≤ 2 * nn + 41; omega), (by show 8 + (5 + 11) + (100 * nn + 1400) ≤ 100 * nn + 1440; omega)⟩) ⟨y_blind, va_recv hK hP (ci := 3) (q0 := 1) rfl (y_W_ob (by decide) (by decide)), fun U9 hU9 hW9 => y_pre hU9 hW9 hP hD hU hZ hS hAN hN0⟩ rfl rfl hl.1 rfl (lv_room (Nat.le_of_ble_eq_true rfl)) d_Reader_guards_104 ⟨(by show 3 * (a1 - aa) + 1 + (1) + (3 * (72 - cs119) + 2) ≤ 3 * (72 - aa) + 2; omega), (by show 100 * (a1 - aa) + 6 + (s102) + (100 * (72 - cs119) + 80) ≤ 100 * (72 - aa) + 80; omega)⟩) hS (fun q _ h => hFc q h) hFc (fun r_124 u t H1 locs ht hvm hw hB hz1 hk1 hS => ?_)
                    obtain ⟨I125, T125, A125, O125, pl125, q125, s125, cq125, cs125⟩ := u
                    dsimp only at hw hB
                    rw [ht] at hB
                    obtain ⟨hP, hD1, hac125⟩ := hB
                    have hD : va_D Bq (y_W ad ar I125 T125 A125 O125 pl125) := hD1.weaken (fun _ q _ h => hFc q.1 h)
                    generalize H1 = H at hP hS hac125 ⊢
                    have hae125 := hac125
                    try unfold y_ac at hae125
                    try dsimp only at hae125
                    obtain ⟨hmi, e2, hO125, fr125, hge125, hbr⟩ := hw
                    rw [e2] at hP hD
                    have hP : va_P (dC, dI) y_cl (y_W ad ar I125 T A125 O125 pl125) H := hP
                    have hD : va_D Bq (y_W ad ar I125 T A125 O125 pl125) := hD
                    have hbn := hmi.2.1
                    dsimp only at hbn
                    rcases hbr with ⟨rfl, hsl, hfl125⟩ | ⟨rfl, hsl, c125_, hsu125, hpr125⟩
                    · unfold y_rc at hac125
                      try dsimp only at hac125
                      refine y_tight (k := 3 * (cs125 - aa) + 2) (n := 100 * (cs125 - aa) + 80) (by omega) (by omega) ?_
                      refine lv_if_ne (tgt := 112) hx hb d_Reader_guards_107 (by decide) (fun c126 => absurd rfl c126) (fun _ => ?_)
                      refine lv_iconst (v := 0) hx hb d_Reader_guards_110 (by decide) ?_
                      have hfl : ∀ a, f0 a ≠ none → y_L pl125 a = f0 a := hfl125
                      refine y_know (fun hy91 hy92 hy93 hy94 => ?_)
                      have hac9 : y_rc s.heap.size (y_hs s.heap) aa cs125 1 H := ⟨by omega, by omega⟩
                      refine W.widen (k := 3 * (72 - aa) + 2) (n := 100 * (72 - aa) + 80) (by omega) (by omega) ?_
                      exact W.zret (v := 0) hx hb hr (rfl) (fun t ht hW => ⟨⟨0, (I125, T, A125, O125, pl125, (ln, s125, 1, cs125)), rfl, ⟨hmi, rfl, fun k => (hO125 k (Or.inr nofun)).trans ((hO1) k), (((((hfr.tr fr102 (by decide)).tr fr110 (by decide)).tr fr115 (by decide)).tr fr119 (by decide)).tr fr125 (by decide)), by dsimp only; omega, Or.inl ⟨rfl, Nat.le_refl _, hfl⟩⟩, (by dsimp only; rw [ht]; exact ⟨hP, hD, hac9⟩)⟩, hS.F ht⟩) hS.2.2 d_Reader_guards_111
                    · subst hsl
                      unfold y_rc at hac125
                      try dsimp only at hac125
                      refine y_tight (k := 3 * (cs125 - aa)) (n := 100 * (cs125 - aa)) (by omega) (by omega) ?_
                      obtain ⟨G125, J125, C125, Gs125, S125, hdx125, hph125, hSp125, hGp125, hCp125, hcg125⟩ := hsu125.ph (by rw [hcur P (fun e => by rw [← e] at hG0g; omega) (fun e => by rw [← e] at hG0q; omega)]; exact hph.2.1.1)
                      have hgP : g98 ≠ P := fun e => by rw [e] at hG0g; omega
                      have hqP : q106 ≠ P := fun e => by rw [e] at hG0q; omega
                      have hfg98 : y_L pl125 g98 = some (.inr (9, [.ref q106, .int chg, .int vag, .null, .null, .int 0])) := by rw [(hph125.1 g98 (by rw [hfg98]; exact nofun) hgP).2.2.2.2.2.2 (by rw [hG0g]; decide)]; exact hfg98
                      have hqq1062 : y_L pl125 q106 = some (.inl (ar 0, s102, .inl h1106)) := by rw [(hph125.1 q106 (by rw [hqq106]; exact nofun) hqP).2.2.2.2.2.2 (by rw [hG0q]; decide)]; exact hqq106
                      have hG2g : G125 g98 = 0 := by rw [(hph125.1 g98 (by rw [hfg980]; exact nofun) hgP).2.1]; exact hG0g
                      have hG2q : G125 q106 = 0 := by rw [(hph125.1 q106 (by rw [hqq106]; exact nofun) hqP).2.1]; exact hG0q
                      have hG2P : G125 P = 7 := hph125.2.1.2.1.trans hG1
                      obtain ⟨par3, nx3, tk3, co3, ch3, va3, hfP0, hpx3⟩ := hdx125.2.1 P hG2P
                      have hgl2 : (Gs125 P).getLast? = none := by rw [hGp125]; exact hlo.symm
                      have hGn2 : Gs125 P = [] := List.getLast?_eq_none_iff.mp hgl2
                      have hfP : y_L pl125 P = some (.inr (7, [.ref (z (3 + J125 P)), va_rf par3, va_rf (C125 P).head?, .ref c125_, va_rf nx3, va_rf tk3, .null, .ref co3, .int ch3, .int va3])) := by rw [hfP0]; unfold y_Pf; rw [hCp125, y_glast, hGn2]; rfl
                      refine lv_if_ne (tgt := 112) hx hb d_Reader_guards_107 (by decide) (fun _ => ?_) (fun c127 => absurd c127 (by decide))
                      refine lv_aload hx hb d_Reader_guards_112 (lv_at hl 0 rfl) ?_
                      refine lv_aload_n hx hb d_Reader_guards_114 rfl (lv_at hl 2 rfl) ?_
                      refine d_gN (C := "ChannelMachine$Process") (F := F_Process) (N := 10) hx hb hts i_Process hown hK hP hfP 3 rfl (by decide) (hU.1.2.1 _ kn_401) (fun _ h9 => h9) (v := .ref c125_) rfl d_Reader_guards_115 ?_
                      refine d_pN (C := "ChannelMachine$Guard") (F := F_Guard) (N := 6) hx hb hts i_Guard hown t_Guard t_Guard_ok n_Guard hK hP hD hS hfg98 3 rfl (by decide) (hU.1.2.1 _ kn_579) (fun _ h9 => h9) rfl (ty := (.object "ChannelMachine$Process")) (v := .ref c125_) (by decide +kernel) rfl rfl (Nat.le_of_ble_eq_true rfl) d_Reader_guards_118 (fun pl128 H locs hL hP hD hS => ?_)
                      have hfP : y_L pl128 P = some (.inr (7, [.ref (z (3 + J125 P)), va_rf par3, va_rf (C125 P).head?, .ref c125_, va_rf nx3, va_rf tk3, .null, .ref co3, .int ch3, .int va3])) := by rw [hL, y_Lu_n (Ne.symm hgP)]; exact hfP
                      have hfg98 : y_L pl128 g98 = some (.inr (9, [.ref q106, .int chg, .int vag, .ref c125_, .null, .int 0])) := by rw [hL]; exact y_Lu_s
                      have hoth : ∀ b, b ≠ g98 → y_L pl128 b = y_L pl125 b := fun b n0 => by rw [hL, y_Lu_n n0]
                      clear hL
                      refine lv_aloadN hx hb d_Reader_guards_121 (lv_at hl 5 rfl) ?_
                      refine lv_ifnonnullN hx hb d_Reader_guards_123 ?_
                      refine lv_aload_n hx hb d_Reader_guards_126 rfl (lv_at hl 2 rfl) ?_
                      refine lv_aload hx hb d_Reader_guards_127 (lv_at hl 0 rfl) ?_
                      refine d_pN (C := "ChannelMachine$Process") (F := F_Process) (N := 10) hx hb hts i_Process hown t_Process t_Process_ok n_Process hK hP hD hS hfP 6 rfl (by decide) (hU.1.2.1 _ kn_411) (fun _ h9 => h9) rfl (ty := (.object "ChannelMachine$Guard")) (v := .ref g98) (by decide +kernel) rfl rfl (Nat.le_of_ble_eq_true rfl) d_Reader_guards_129 (fun pl129 H locs hL hP hD hS => ?_)
                      have hfg98 : y_L pl129 g98 = some (.inr (9, [.ref q106, .int chg, .int vag, .ref c125_, .null, .int 0])) := by rw [hL, y_Lu_n hgP]; exact hfg98
                      have hfP : y_L pl129 P = some (.inr (7, [.ref (z (3 + J125 P)), va_rf par3, va_rf (C125 P).head?, .ref c125_, va_rf nx3, va_rf tk3, .ref g98, .ref co3, .int ch3, .int va3])) := by rw [hL]; exact y_Lu_s
                      have hoth : ∀ b, b ≠ g98 → b ≠ P → y_L pl129 b = y_L pl125 b := fun b n0 n1 => by rw [hL, y_Lu_n n1]; exact hoth b n0
                      clear hL
                      refine lv_goto (tgt := 142) hx hb d_Reader_guards_132 (by decide) ?_
                      refine lv_aload hx hb d_Reader_guards_142 (lv_at hl 0 rfl) ?_
                      refine lv_astore (lv' := [(4, .ref g98), (6, .ref g98), (0, .ref (ad 1)), (1, .ref P), (2, .int (Int32.ofNat dp)), (3, .int (Int32.ofNat 4)), (5, .int (Int32.ofNat i1))]) hx hb d_Reader_guards_144 hl (by decide) rfl (fun ls hl => ?_)
                      refine lv_iinc (v := (Int32.ofNat (i1 + 1))) (lv' := [(5, .int (Int32.ofNat (i1 + 1))), (4, .ref g98), (6, .ref g98), (0, .ref (ad 1)), (1, .ref P), (2, .int (Int32.ofNat dp)), (3, .int (Int32.ofNat 4))]) hx hb d_Reader_guards_146 hl (k := 6) rfl (x_incN i1) (by decide) rfl (fun ls hl => ?_)
                      refine lv_goto (tgt := 18) hx hb d_Reader_guards_149 (by decide) ?_
                      have hdN := hdx125.grd (f' := y_L pl129) (P := P) (g := g98) (q := q106) (p := c125_) (ch := chg) (va := vag) (op := 0) hG2P (hdx1.un hzg98).1 hG2g (hdx1.un hzq106).1 hG2q hgq hcg125 hchg hqq1062 (by omega) hokq106 hfg98 ⟨par3, nx3, tk3, co3, ch3, va3, hfP0, by rw [hfP]; unfold y_Pf; rw [y_un_s, hCp125, y_glast, hGn2]; rfl⟩ (fun c hc => by rw [hgl2] at hc; cases hc) (fun b h1 h2 h3 => hoth b h2 h1)
                      have hpN := y_PH.grd (fc := y_L pl115) (g := g98) (q := q106) (lo := none) (L := (Gs125 P ++ [g98])) (f9 := y_L pl129) hph hPe (fun a h9 => (hdx1.un h9).2) hzg98 hzq106 hcur ⟨by rw [hfg980]; exact nofun, by rw [hqq106]; exact nofun⟩ hph125 (fun a h9 => (hdx125.un h9).2) (fun b h1 h2 h3 => hoth b h2 h1) (fun c hc => nomatch hc) ⟨by rw [hfg98]; exact nofun, by rw [hfP]; exact nofun⟩
                      have hSN := hSp125.trans hSP
                      have hlN : some g98 = (y_un Gs125 P (Gs125 P ++ [g98]) P).getLast? := by rw [y_un_s, y_glast]
                      have hyE : ∀ x, y_L pl1 x = none → y_L pl x = none := fun x hx9 => by
                        by_cases e : y_L pl x = none
                        · exact e
                        · exact absurd hx9 (by by_cases e2 : x = P; (rw [e2]; exact hph.2.1.1); exact (hph.1 x e e2).1)
                      have hgN : ∀ x, x ∈ y_un Gs125 P (Gs125 P ++ [g98]) P → y_L pl x = none := fun x hx9 => by
                        rw [y_un_s, List.mem_append, hGp125] at hx9
                        rcases hx9 with h8 | h8
                        · exact hgnew x h8
                        · rw [List.mem_singleton.mp h8]; exact hyE g98 hzg98
                      refine W.widen (k := 3 * (cs125 - aa)) (n := 100 * (cs125 - aa)) (by omega) (by omega) ?_
                      exact ih (4 + 1 - (i1 + 1)) (by omega) cs125 H locs ls ⟨I125, A125, O125, pl129, s125, cs125, i1 + 1, some g98, _, J125, C125, _, S125, rfl, ⟨rfl, by omega, by omega⟩, hmi, by omega, (((((hfr.tr fr102 (by decide)).tr fr110 (by decide)).tr fr115 (by decide)).tr fr119 (by decide)).tr fr125 (by decide)), fun k => (hO125 k (Or.inr nofun)).trans ((hO1) k), hdN, hpN, hSN, ⟨hlN, hgN⟩, hP, hD, hS, lv_sub hl [3, 4, 5, 6, 1, 0] rfl⟩
                  · have c_123 : ¬ 4 ≤ i1 := fun h9 => c_123 ((x_leN (a := 4) (b := i1) (by omega) (by omega)).mpr h9)
                    refine lv_iconst (v := 1) hx hb d_Reader_guards_99 (by decide) ?_
                    refine lv_goto (tgt := 104) hx hb d_Reader_guards_100 (by decide) ?_
                    have hG0g := (hdx1.un hzg98).2
                    have hG0q := (hdx1.un hzq106).2
                    have hgq := hne107_q106
                    have hfg980 := hfg98
                    have hcur : ∀ b, b ≠ g98 → b ≠ q106 → y_L pl115 b = y_L pl1 b := fun b h1 h2 => hoth b h1 h2
                    have hdxc := hdx1.two hzg98 hzq106 hgq hfg98 hqq106 hcur
                    refine y_know (fun hya1 hya2 hya3 hya4 => ?_)
                    have hFc := y_free hD hS hA
                    refine va_calli (va_runV (As := [.ref P, .int (Int32.ofNat (dp + 1)), .int 1]) (rest := []) ⟨hx, hb, hml, hown, hts⟩ (ihP l dC dI ar N0 z ad I119 T A119 O1 pl115 ln s119 cs119 f0 G1 J1 C1 Gs1 S1 (some P) ((dp + 1)) (1) H.size (y_hs H) hmi hdxc (fun P9 hP9 => by cases hP9; exact ⟨hG1, fun h9 => by omega⟩) (by omega) (by omega)) (cwV 3 hts (x_goodV k_557 k_332 kp_1 k_2 k_333) rfl rfl rfl (by decide +kernel) ⟨(by show 2 * nn + 40 + 1 ≤ 2 * nn + 41; omega), (by show 8 + (5 + 11) + (100 * nn + 1400) ≤ 100 * nn + 1440; omega)⟩) ⟨y_blind, va_recv hK hP (ci := 3) (q0 := 1) rfl (y_W_ob (by decide) (by decide)), fun U9 hU9 hW9 => y_pre hU9 hW9 hP hD hU hZ hS hAN hN0⟩ rfl rfl hl.1 rfl (lv_room (Nat.le_of_ble_eq_true rfl)) d_Reader_guards_104 ⟨(by show 3 * (a1 - aa) + 1 + (1) + (3 * (72 - cs119) + 2) ≤ 3 * (72 - aa) + 2; omega), (by show 100 * (a1 - aa) + 6 + (s102) + (100 * (72 - cs119) + 80) ≤ 100 * (72 - aa) + 80; omega)⟩) hS (fun q _ h => hFc q h) hFc (fun r_130 u t H1 locs ht hvm hw hB hz1 hk1 hS => ?_)
                    obtain ⟨I131, T131, A131, O131, pl131, q131, s131, cq131, cs131⟩ := u
                    dsimp only at hw hB
                    rw [ht] at hB
                    obtain ⟨hP, hD1, hac131⟩ := hB
                    have hD : va_D Bq (y_W ad ar I131 T131 A131 O131 pl131) := hD1.weaken (fun _ q _ h => hFc q.1 h)
                    generalize H1 = H at hP hS hac131 ⊢
                    have hae131 := hac131
                    try unfold y_ac at hae131
                    try dsimp only at hae131
                    obtain ⟨hmi, e2, hO131, fr131, hge131, hbr⟩ := hw
                    rw [e2] at hP hD
                    have hP : va_P (dC, dI) y_cl (y_W ad ar I131 T A131 O131 pl131) H := hP
                    have hD : va_D Bq (y_W ad ar I131 T A131 O131 pl131) := hD
                    have hbn := hmi.2.1
                    dsimp only at hbn
                    rcases hbr with ⟨rfl, hsl, hfl131⟩ | ⟨rfl, hsl, c131_, hsu131, hpr131⟩
                    · unfold y_rc at hac131
                      try dsimp only at hac131
                      refine y_tight (k := 3 * (cs131 - aa) + 2) (n := 100 * (cs131 - aa) + 80) (by omega) (by omega) ?_
                      refine lv_if_ne (tgt := 112) hx hb d_Reader_guards_107 (by decide) (fun c132 => absurd rfl c132) (fun _ => ?_)
                      refine lv_iconst (v := 0) hx hb d_Reader_guards_110 (by decide) ?_
                      have hfl : ∀ a, f0 a ≠ none → y_L pl131 a = f0 a := hfl131
                      refine y_know (fun hy91 hy92 hy93 hy94 => ?_)
                      have hac9 : y_rc s.heap.size (y_hs s.heap) aa cs131 1 H := ⟨by omega, by omega⟩
                      refine W.widen (k := 3 * (72 - aa) + 2) (n := 100 * (72 - aa) + 80) (by omega) (by omega) ?_
                      exact W.zret (v := 0) hx hb hr (rfl) (fun t ht hW => ⟨⟨0, (I131, T, A131, O131, pl131, (ln, s131, 1, cs131)), rfl, ⟨hmi, rfl, fun k => (hO131 k (Or.inr nofun)).trans ((hO1) k), (((((hfr.tr fr102 (by decide)).tr fr110 (by decide)).tr fr115 (by decide)).tr fr119 (by decide)).tr fr131 (by decide)), by dsimp only; omega, Or.inl ⟨rfl, Nat.le_refl _, hfl⟩⟩, (by dsimp only; rw [ht]; exact ⟨hP, hD, hac9⟩)⟩, hS.F ht⟩) hS.2.2 d_Reader_guards_111
                    · subst hsl
                      unfold y_rc at hac131
                      try dsimp only at hac131
                      refine y_tight (k := 3 * (cs131 - aa)) (n := 100 * (cs131 - aa)) (by omega) (by omega) ?_
                      obtain ⟨G131, J131, C131, Gs131, S131, hdx131, hph131, hSp131, hGp131, hCp131, hcg131⟩ := hsu131.ph (by rw [hcur P (fun e => by rw [← e] at hG0g; omega) (fun e => by rw [← e] at hG0q; omega)]; exact hph.2.1.1)
                      have hgP : g98 ≠ P := fun e => by rw [e] at hG0g; omega
                      have hqP : q106 ≠ P := fun e => by rw [e] at hG0q; omega
                      have hfg98 : y_L pl131 g98 = some (.inr (9, [.ref q106, .int chg, .int vag, .null, .null, .int 0])) := by rw [(hph131.1 g98 (by rw [hfg98]; exact nofun) hgP).2.2.2.2.2.2 (by rw [hG0g]; decide)]; exact hfg98
                      have hqq1062 : y_L pl131 q106 = some (.inl (ar 0, s102, .inl h1106)) := by rw [(hph131.1 q106 (by rw [hqq106]; exact nofun) hqP).2.2.2.2.2.2 (by rw [hG0q]; decide)]; exact hqq106
                      have hG2g : G131 g98 = 0 := by rw [(hph131.1 g98 (by rw [hfg980]; exact nofun) hgP).2.1]; exact hG0g
                      have hG2q : G131 q106 = 0 := by rw [(hph131.1 q106 (by rw [hqq106]; exact nofun) hqP).2.1]; exact hG0q
                      have hG2P : G131 P = 7 := hph131.2.1.2.1.trans hG1
                      obtain ⟨par3, nx3, tk3, co3, ch3, va3, hfP0, hpx3⟩ := hdx131.2.1 P hG2P
                      have hgl2 : (Gs131 P).getLast? = none := by rw [hGp131]; exact hlo.symm
                      have hGn2 : Gs131 P = [] := List.getLast?_eq_none_iff.mp hgl2
                      have hfP : y_L pl131 P = some (.inr (7, [.ref (z (3 + J131 P)), va_rf par3, va_rf (C131 P).head?, .ref c131_, va_rf nx3, va_rf tk3, .null, .ref co3, .int ch3, .int va3])) := by rw [hfP0]; unfold y_Pf; rw [hCp131, y_glast, hGn2]; rfl
                      refine lv_if_ne (tgt := 112) hx hb d_Reader_guards_107 (by decide) (fun _ => ?_) (fun c133 => absurd c133 (by decide))
                      refine lv_aload hx hb d_Reader_guards_112 (lv_at hl 0 rfl) ?_
                      refine lv_aload_n hx hb d_Reader_guards_114 rfl (lv_at hl 2 rfl) ?_
                      refine d_gN (C := "ChannelMachine$Process") (F := F_Process) (N := 10) hx hb hts i_Process hown hK hP hfP 3 rfl (by decide) (hU.1.2.1 _ kn_401) (fun _ h9 => h9) (v := .ref c131_) rfl d_Reader_guards_115 ?_
                      refine d_pN (C := "ChannelMachine$Guard") (F := F_Guard) (N := 6) hx hb hts i_Guard hown t_Guard t_Guard_ok n_Guard hK hP hD hS hfg98 3 rfl (by decide) (hU.1.2.1 _ kn_579) (fun _ h9 => h9) rfl (ty := (.object "ChannelMachine$Process")) (v := .ref c131_) (by decide +kernel) rfl rfl (Nat.le_of_ble_eq_true rfl) d_Reader_guards_118 (fun pl134 H locs hL hP hD hS => ?_)
                      have hfP : y_L pl134 P = some (.inr (7, [.ref (z (3 + J131 P)), va_rf par3, va_rf (C131 P).head?, .ref c131_, va_rf nx3, va_rf tk3, .null, .ref co3, .int ch3, .int va3])) := by rw [hL, y_Lu_n (Ne.symm hgP)]; exact hfP
                      have hfg98 : y_L pl134 g98 = some (.inr (9, [.ref q106, .int chg, .int vag, .ref c131_, .null, .int 0])) := by rw [hL]; exact y_Lu_s
                      have hoth : ∀ b, b ≠ g98 → y_L pl134 b = y_L pl131 b := fun b n0 => by rw [hL, y_Lu_n n0]
                      clear hL
                      refine lv_aloadN hx hb d_Reader_guards_121 (lv_at hl 5 rfl) ?_
                      refine lv_ifnonnullN hx hb d_Reader_guards_123 ?_
                      refine lv_aload_n hx hb d_Reader_guards_126 rfl (lv_at hl 2 rfl) ?_
                      refine lv_aload hx hb d_Reader_guards_127 (lv_at hl 0 rfl) ?_
                      refine d_pN (C := "ChannelMachine$Process") (F := F_Process) (N := 10) hx hb hts i_Process hown t_Process t_Process_ok n_Process hK hP hD hS hfP 6 rfl (by decide) (hU.1.2.1 _ kn_411) (fun _ h9 => h9) rfl (ty := (.object "ChannelMachine$Guard")) (v := .ref g98) (by decide +kernel) rfl rfl (Nat.le_of_ble_eq_true rfl) d_Reader_guards_129 (fun pl135 H locs hL hP hD hS => ?_)
                      have hfg98 : y_L pl135 g98 = some (.inr (9, [.ref q106, .int chg, .int vag, .ref c131_, .null, .int 0])) := by rw [hL, y_Lu_n hgP]; exact hfg98
                      have hfP : y_L pl135 P = some (.inr (7, [.ref (z (3 + J131 P)), va_rf par3, va_rf (C131 P).head?, .ref c131_, va_rf nx3, va_rf tk3, .ref g98, .ref co3, .int ch3, .int va3])) := by rw [hL]; exact y_Lu_s
                      have hoth : ∀ b, b ≠ g98 → b ≠ P → y_L pl135 b = y_L pl131 b := fun b n0 n1 => by rw [hL, y_Lu_n n1]; exact hoth b n0
                      clear hL
                      refine lv_goto (tgt := 142) hx hb d_Reader_guards_132 (by decide) ?_
                      refine lv_aload hx hb d_Reader_guards_142 (lv_at hl 0 rfl) ?_
                      refine lv_astore (lv' := [(4, .ref g98), (6, .ref g98), (0, .ref (ad 1)), (1, .ref P), (2, .int (Int32.ofNat dp)), (3, .int (Int32.ofNat 4)), (5, .int (Int32.ofNat i1))]) hx hb d_Reader_guards_144 hl (by decide) rfl (fun ls hl => ?_)
                      refine lv_iinc (v := (Int32.ofNat (i1 + 1))) (lv' := [(5, .int (Int32.ofNat (i1 + 1))), (4, .ref g98), (6, .ref g98), (0, .ref (ad 1)), (1, .ref P), (2, .int (Int32.ofNat dp)), (3, .int (Int32.ofNat 4))]) hx hb d_Reader_guards_146 hl (k := 6) rfl (x_incN i1) (by decide) rfl (fun ls hl => ?_)
                      refine lv_goto (tgt := 18) hx hb d_Reader_guards_149 (by decide) ?_
                      have hdN := hdx131.grd (f' := y_L pl135) (P := P) (g := g98) (q := q106) (p := c131_) (ch := chg) (va := vag) (op := 0) hG2P (hdx1.un hzg98).1 hG2g (hdx1.un hzq106).1 hG2q hgq hcg131 hchg hqq1062 (by omega) hokq106 hfg98 ⟨par3, nx3, tk3, co3, ch3, va3, hfP0, by rw [hfP]; unfold y_Pf; rw [y_un_s, hCp131, y_glast, hGn2]; rfl⟩ (fun c hc => by rw [hgl2] at hc; cases hc) (fun b h1 h2 h3 => hoth b h2 h1)
                      have hpN := y_PH.grd (fc := y_L pl115) (g := g98) (q := q106) (lo := none) (L := (Gs131 P ++ [g98])) (f9 := y_L pl135) hph hPe (fun a h9 => (hdx1.un h9).2) hzg98 hzq106 hcur ⟨by rw [hfg980]; exact nofun, by rw [hqq106]; exact nofun⟩ hph131 (fun a h9 => (hdx131.un h9).2) (fun b h1 h2 h3 => hoth b h2 h1) (fun c hc => nomatch hc) ⟨by rw [hfg98]; exact nofun, by rw [hfP]; exact nofun⟩
                      have hSN := hSp131.trans hSP
                      have hlN : some g98 = (y_un Gs131 P (Gs131 P ++ [g98]) P).getLast? := by rw [y_un_s, y_glast]
                      have hyE : ∀ x, y_L pl1 x = none → y_L pl x = none := fun x hx9 => by
                        by_cases e : y_L pl x = none
                        · exact e
                        · exact absurd hx9 (by by_cases e2 : x = P; (rw [e2]; exact hph.2.1.1); exact (hph.1 x e e2).1)
                      have hgN : ∀ x, x ∈ y_un Gs131 P (Gs131 P ++ [g98]) P → y_L pl x = none := fun x hx9 => by
                        rw [y_un_s, List.mem_append, hGp131] at hx9
                        rcases hx9 with h8 | h8
                        · exact hgnew x h8
                        · rw [List.mem_singleton.mp h8]; exact hyE g98 hzg98
                      refine W.widen (k := 3 * (cs131 - aa)) (n := 100 * (cs131 - aa)) (by omega) (by omega) ?_
                      exact ih (4 + 1 - (i1 + 1)) (by omega) cs131 H locs ls ⟨I131, A131, O131, pl135, s131, cs131, i1 + 1, some g98, _, J131, C131, _, S131, rfl, ⟨rfl, by omega, by omega⟩, hmi, by omega, (((((hfr.tr fr102 (by decide)).tr fr110 (by decide)).tr fr115 (by decide)).tr fr119 (by decide)).tr fr131 (by decide)), fun k => (hO131 k (Or.inr nofun)).trans ((hO1) k), hdN, hpN, hSN, ⟨hlN, hgN⟩, hP, hD, hS, lv_sub hl [3, 4, 5, 6, 1, 0] rfl⟩
        · refine lv_if_ne (tgt := 152) hx hb d_Reader_guards_31 (by decide) (fun _ => ?_) (fun c136 => absurd c136 (by decide))
          refine lv_iconst (v := 1) hx hb d_Reader_guards_152 (by decide) ?_
          refine y_know (fun hy91 hy92 hy93 hy94 => ?_)
          have hac9 : y_rc s.heap.size (y_hs s.heap) aa a1 0 H := ⟨by omega, by omega⟩
          refine W.widen (k := 3 * (72 - aa) + 2) (n := 100 * (72 - aa) + 80) (by omega) (by omega) ?_
          exact W.zret (v := 1) hx hb hr (rfl) (fun t ht hW => ⟨⟨1, (I1, T, A1, O1, pl1, (ln, cl1, 0, a1)), rfl, ⟨hmi, rfl, hO1, hfr, by dsimp only; omega, Or.inr ⟨rfl, rfl, G1, J1, C1, Gs1, S1, hdx1, hph, hSP⟩⟩, (by dsimp only; rw [ht]; exact ⟨hP, hD, hac9⟩)⟩, hS.F ht⟩) hS.2.2 d_Reader_guards_153
    · have hl : lv_has ls 7 [(0, .ref (ad 1)), (1, .ref P), (2, .int (Int32.ofNat dp)), (3, .int (Int32.ofNat 4)), (4, .ref lc), (5, .int (Int32.ofNat i1))] := hl
      refine lv_iload hx hb d_Reader_guards_18 (lv_at hl 5 rfl) ?_
      refine lv_iload_n hx hb d_Reader_guards_20 rfl (lv_at hl 3 rfl) ?_
      refine lv_icmp_gt (tgt := 152) hx hb d_Reader_guards_21 (by decide) (fun c_137 => ?_) (fun c_137 => ?_)
      · have c_137 : 4 < i1 := (x_ltN (a := 4) (b := i1) (by omega) (by omega)).mp c_137
        refine lv_iconst (v := 1) hx hb d_Reader_guards_152 (by decide) ?_
        refine y_know (fun hy91 hy92 hy93 hy94 => ?_)
        have hac9 : y_rc s.heap.size (y_hs s.heap) aa a1 0 H := ⟨by omega, by omega⟩
        refine W.widen (k := 3 * (72 - aa) + 2) (n := 100 * (72 - aa) + 80) (by omega) (by omega) ?_
        exact W.zret (v := 1) hx hb hr (rfl) (fun t ht hW => ⟨⟨1, (I1, T, A1, O1, pl1, (ln, cl1, 0, a1)), rfl, ⟨hmi, rfl, hO1, hfr, by dsimp only; omega, Or.inr ⟨rfl, rfl, G1, J1, C1, Gs1, S1, hdx1, hph, hSP⟩⟩, (by dsimp only; rw [ht]; exact ⟨hP, hD, hac9⟩)⟩, hS.F ht⟩) hS.2.2 d_Reader_guards_153
      · have c_137 : ¬ 4 < i1 := fun h9 => c_137 ((x_ltN (a := 4) (b := i1) (by omega) (by omega)).mpr h9)
        refine lv_aload_n hx hb d_Reader_guards_24 rfl (lv_at hl 0 rfl) ?_
        have hFc := y_free hD hS hA
        refine va_calli (va_runV (As := []) (rest := []) ⟨hx, hb, hml, hown, hts⟩ (c_Rd_look l dC dI ar N0 z ad I1 T A1 O1 pl1 ln cl1 ln a1 H.size (y_hs H) hmi) (cwV 0 hts (x_goodV k_338 k_340 kp_3 k_2 k_341) rfl rfl rfl (by decide +kernel) ⟨Nat.le_trans (m := 41) (Nat.le_of_ble_eq_true rfl) (Nat.le_add_left 41 _), Nat.le_trans (m := 1440) (Nat.le_of_ble_eq_true rfl) (Nat.le_add_left 1440 _)⟩) ⟨y_blind, va_recv hK hP (ci := 3) (q0 := 1) rfl (y_W_ob (by decide) (by decide)), fun U9 hU9 hW9 => y_pre hU9 hW9 hP hD hU hZ hS hAN hN0⟩ rfl rfl hl.1 rfl (lv_room (Nat.le_of_ble_eq_true rfl)) d_Reader_guards_25 ⟨(by show 3 * (a1 - aa) + (0) ≤ 3 * (72 - aa) + 2; omega), (by show 100 * (a1 - aa) + (0) ≤ 100 * (72 - aa) + 80; omega)⟩) hS (fun q _ h => hFc q h) hFc (fun r_138 u t H1 locs ht hvm hw hB hz1 hk1 hS => ?_)
        obtain ⟨I139, T139, A139, O139, pl139, q139, s139, cq139, cs139⟩ := u
        dsimp only at hw hB
        rw [ht] at hB
        obtain ⟨hP, hD1, hac139⟩ := hB
        have hD : va_D Bq (y_W ad ar I139 T139 A139 O139 pl139) := hD1.weaken (fun _ q _ h => hFc q.1 h)
        generalize H1 = H at hP hS hac139 ⊢
        have hae139 := hac139
        try unfold y_ac at hae139
        try dsimp only at hae139
        refine W.widen (k := 3 * (a1 - aa)) (n := 100 * (a1 - aa)) (by omega) (by omega) ?_
        obtain ⟨h9, hw⟩ := hw
        cases h9
        obtain rfl := hw
        have hFc := y_free hD hS hA
        refine va_calli (va_runS (As := [.int (y_lk A1 ln a1)]) (rest := []) ⟨hx, hb, hml, hown, hts⟩ (c_Rd_isClosing l dC dI ar N0 z ad I1 T A1 O1 pl1 ((y_lk A1 ln a1)) H.size (y_hs H) ) (cwS 1 hts (x_goodS k_554 k_555 k_2 k_556) rfl rfl rfl (by decide +kernel) ⟨Nat.le_trans (m := 41) (Nat.le_of_ble_eq_true rfl) (Nat.le_add_left 41 _), Nat.le_trans (m := 1440) (Nat.le_of_ble_eq_true rfl) (Nat.le_add_left 1440 _)⟩) ⟨y_blind, fun U9 hU9 hW9 => y_pre hU9 hW9 hP hD hU hZ hS hAN hN0⟩ rfl rfl hl.1 rfl (lv_room (Nat.le_of_ble_eq_true rfl)) d_Reader_guards_28 ⟨(by show 3 * (a1 - aa) + (0) ≤ 3 * (72 - aa) + 2; omega), (by show 100 * (a1 - aa) + (0) ≤ 100 * (72 - aa) + 80; omega)⟩) hS (fun q _ h => hFc q h) hFc (fun r_140 u t H1 locs ht hvm hw hB hz1 hk1 hS => ?_)
        obtain ⟨I141, T141, A141, O141, pl141, q141, s141, cq141, cs141⟩ := u
        dsimp only at hw hB
        rw [ht] at hB
        obtain ⟨hP, hD1, hac141⟩ := hB
        have hD : va_D Bq (y_W ad ar I141 T141 A141 O141 pl141) := hD1.weaken (fun _ q _ h => hFc q.1 h)
        generalize H1 = H at hP hS hac141 ⊢
        have hae141 := hac141
        try unfold y_ac at hae141
        try dsimp only at hae141
        refine W.widen (k := 3 * (a1 - aa)) (n := 100 * (a1 - aa)) (by omega) (by omega) ?_
        obtain ⟨h9, hw⟩ := hw
        cases h9
        rcases hw with rfl | rfl
        · refine lv_if_ne (tgt := 152) hx hb d_Reader_guards_31 (by decide) (fun c142 => absurd rfl c142) (fun _ => ?_)
          refine d_new (ci := 9) (fs := [.null, .int 0, .int 0, .null, .null, .int 0]) (C := "ChannelMachine$Guard") (F := F_Guard) (N := 6) hx hb hts i_Guard t_Guard t_Guard_ok hown (hts _ k_562) (hts _ k_563) (hts _ k_23) hK hP hD hS hA rfl (fun j hj => by rcases (show j = 0 ∨ j = 1 ∨ j = 2 ∨ j = 3 ∨ j = 4 ∨ j = 5 by omega) with rfl | rfl | rfl | rfl | rfl | rfl <;> rfl) (by show 3 * (a1 - aa) + 1 ≤ 3 * (72 - aa) + 2; omega) (by show 100 * (a1 - aa) + 6 ≤ 100 * (72 - aa) + 80; omega) d_Reader_guards_34 (fun g143 pl144 H hnog143 hL hP hD hS => ?_)
          have hzg143 : y_L pl1 g143 = none := by exact hnog143
          have hfg143 : y_L pl144 g143 = some (.inr (9, [.null, .int 0, .int 0, .null, .null, .int 0])) := by rw [hL]; exact y_Lu_s
          have hoth : ∀ b, b ≠ g143 → y_L pl144 b = y_L pl1 b := fun b n0 => by rw [hL, y_Lu_n n0]
          clear hL
          refine lv_dup hx hb d_Reader_guards_37 rfl ?_
          have hFc := y_free hD hS hA
          refine va_callv (va_runIN (As := []) (rest := [.ref g143]) ⟨hx, hb, hml, hown, hts⟩ (c_G_init l dC dI ar N0 z ad I1 T A1 O1 pl144 g143 H.size (y_hs H) hfg143) ⟨va_cnB 0 hts (x_good k_566) rfl rfl rfl (hU.1.2.1 _ kn_564) (hts _ k_23) (by decide +kernel) ⟨Nat.le_trans (m := 41) (Nat.le_of_ble_eq_true rfl) (Nat.le_add_left 41 _), Nat.le_trans (m := 1440) (Nat.le_of_ble_eq_true rfl) (Nat.le_add_left 1440 _)⟩, rfl, hts _ k_565⟩ ⟨y_blind, fun U9 hU9 hW9 => y_pre hU9 hW9 hP hD hU hZ hS hAN hN0⟩ rfl rfl hl.1 rfl (lv_room (Nat.le_of_ble_eq_true rfl)) d_Reader_guards_38 ⟨(by show 3 * (a1 - aa) + 1 + (0) ≤ 3 * (72 - aa) + 2; omega), (by show 100 * (a1 - aa) + 6 + (0) ≤ 100 * (72 - aa) + 80; omega)⟩) hS (fun q _ h => hFc q h) hFc (fun u t H1 locs ht hvm hw hB hz1 hk1 hS => ?_)
          obtain ⟨I145, T145, A145, O145, pl145, q145, s145, cq145, cs145⟩ := u
          dsimp only at hw hB
          rw [ht] at hB
          obtain ⟨hP, hD1, hac145⟩ := hB
          have hD : va_D Bq (y_W ad ar I145 T145 A145 O145 pl145) := hD1.weaken (fun _ q _ h => hFc q.1 h)
          generalize H1 = H at hP hS hac145 ⊢
          have hae145 := hac145
          try unfold y_ac at hae145
          try dsimp only at hae145
          refine W.widen (k := 3 * (a1 - aa) + 1) (n := 100 * (a1 - aa) + 6) (by omega) (by omega) ?_
          obtain ⟨e1, e2, e3, e4, hL⟩ := hw
          rw [e1, e2, e3, e4] at hP hD
          have hfg143 : y_L pl145 g143 = some (.inr (9, [.ref (z 21), .int (-1), .int (-1), .null, .null, .int 0])) := by rw [hL]; exact y_Lu_s
          have hoth : ∀ b, b ≠ g143 → y_L pl145 b = y_L pl1 b := fun b n0 => by rw [hL, y_Lu_n n0]; exact hoth b n0
          clear hL
          have hP : va_P (dC, dI) y_cl (y_W ad ar I1 T A1 O1 pl145) H := hP
          have hD : va_D Bq (y_W ad ar I1 T A1 O1 pl145) := hD
          refine lv_astore (lv' := [(6, .ref g143), (0, .ref (ad 1)), (1, .ref P), (2, .int (Int32.ofNat dp)), (3, .int (Int32.ofNat 4)), (4, .ref lc), (5, .int (Int32.ofNat i1))]) hx hb d_Reader_guards_41 hl (by decide) rfl (fun ls hl => ?_)
          refine lv_aload_n hx hb d_Reader_guards_43 rfl (lv_at hl 1 rfl) ?_
          have hFc := y_free hD hS hA
          refine va_calli (va_runV (As := []) (rest := []) ⟨hx, hb, hml, hown, hts⟩ (c_Rd_expression l dC dI ar N0 z ad I1 T A1 O1 pl145 ln cl1 ln a1 H.size (y_hs H) hmi) (cwV 0 hts (x_goodV k_500 k_502 kp_9 k_2 k_503) rfl rfl rfl (by decide +kernel) ⟨Nat.le_trans (m := 41) (Nat.le_of_ble_eq_true rfl) (Nat.le_add_left 41 _), Nat.le_trans (m := 1440) (Nat.le_of_ble_eq_true rfl) (Nat.le_add_left 1440 _)⟩) ⟨y_blind, va_recv hK hP (ci := 3) (q0 := 1) rfl (y_W_ob (by decide) (by decide)), fun U9 hU9 hW9 => y_pre hU9 hW9 hP hD hU hZ hS hAN hN0⟩ rfl rfl hl.1 rfl (lv_room (Nat.le_of_ble_eq_true rfl)) d_Reader_guards_44 ⟨(by show 3 * (a1 - aa) + 1 + (0) ≤ 3 * (72 - aa) + 2; omega), (by show 100 * (a1 - aa) + 6 + (0) ≤ 100 * (72 - aa) + 80; omega)⟩) hS (fun q _ h => hFc q h) hFc (fun r_146 u t H1 locs ht hvm hw hB hz1 hk1 hS => ?_)
          obtain ⟨I147, T147, A147, O147, pl147, q147, s147, cq147, cs147⟩ := u
          dsimp only at hw hB
          rw [ht] at hB
          obtain ⟨hP, hD1, hac147⟩ := hB
          have hD : va_D Bq (y_W ad ar I147 T147 A147 O147 pl147) := hD1.weaken (fun _ q _ h => hFc q.1 h)
          generalize H1 = H at hP hS hac147 ⊢
          have hae147 := hac147
          try unfold y_ac at hae147
          try dsimp only at hae147
          refine W.widen (k := 3 * (a1 - aa) + 1) (n := 100 * (a1 - aa) + 6) (by omega) (by omega) ?_
          obtain ⟨hmi, e2, e4, e5, fr147, e6, e7, hge147, hcc147, hcz, hr9⟩ := hw
          rw [e2, e4, e5] at hP hD
          rw [e6, e7] at hmi
          have hP : va_P (dC, dI) y_cl (y_W ad ar I147 T A147 O1 pl145) H := hP
          have hD : va_D Bq (y_W ad ar I147 T A147 O1 pl145) := hD
          have hbn := hmi.2.1
          dsimp only at hbn
          rcases hr9 with rfl | rfl
          · refine lv_if_ne (tgt := 52) hx hb d_Reader_guards_47 (by decide) (fun c148 => absurd rfl c148) (fun _ => ?_)
            refine lv_iconst (v := 0) hx hb d_Reader_guards_50 (by decide) ?_
            have hfl : ∀ a, f0 a ≠ none → y_L pl145 a = f0 a := fun a ha => by
              obtain ⟨h1, h2⟩ := hdx1.1 a ha
              rw [hoth a (fun e => by rw [e, hzg143] at h1; exact ha (by rw [e]; exact h1.symm)), h1]
            refine y_know (fun hy91 hy92 hy93 hy94 => ?_)
            have hac9 : y_rc s.heap.size (y_hs s.heap) aa cs147 1 H := ⟨by omega, by omega⟩
            refine W.widen (k := 3 * (72 - aa) + 2) (n := 100 * (72 - aa) + 80) (by omega) (by omega) ?_
            exact W.zret (v := 0) hx hb hr (rfl) (fun t ht hW => ⟨⟨0, (I147, T, A147, O1, pl145, (ln, s147, 1, cs147)), rfl, ⟨hmi, rfl, hO1, (hfr.tr fr147 (by decide)), by dsimp only; omega, Or.inl ⟨rfl, Nat.le_refl _, hfl⟩⟩, (by dsimp only; rw [ht]; exact ⟨hP, hD, hac9⟩)⟩, hS.F ht⟩) hS.2.2 d_Reader_guards_51
          · refine lv_if_ne (tgt := 52) hx hb d_Reader_guards_47 (by decide) (fun _ => ?_) (fun c149 => absurd c149 (by decide))
            refine lv_aload hx hb d_Reader_guards_52 (lv_at hl 0 rfl) ?_
            refine lv_aload_n hx hb d_Reader_guards_54 rfl (lv_at hl 1 rfl) ?_
            refine y_know (fun hya1 hya2 hya3 hya4 => ?_)
            have hFc := y_free hD hS hA
            refine va_callq (va_runV (As := []) (rest := [.ref g143]) ⟨hx, hb, hml, hown, hts⟩ (c_Rd_codeRead l dC dI ar N0 z ad I147 T A147 O1 pl145 ln s147 ln cs147 H.size (y_hs H) hmi (by omega)) (cwV 0 hts (x_goodV k_526 k_528 kp_14 k_2 k_529) rfl rfl rfl (by decide +kernel) ⟨Nat.le_trans (m := 41) (Nat.le_of_ble_eq_true rfl) (Nat.le_add_left 41 _), Nat.le_trans (m := 1440) (Nat.le_of_ble_eq_true rfl) (Nat.le_add_left 1440 _)⟩) ⟨y_blind, va_recv hK hP (ci := 3) (q0 := 1) rfl (y_W_ob (by decide) (by decide)), fun U9 hU9 hW9 => y_pre hU9 hW9 hP hD hU hZ hS hAN hN0⟩ rfl rfl hl.1 rfl (lv_room (Nat.le_of_ble_eq_true rfl)) d_Reader_guards_55 ⟨(by show 3 * (a1 - aa) + 1 + (1) ≤ 3 * (72 - aa) + 2; omega), (by show 100 * (a1 - aa) + 6 + (s147) ≤ 100 * (72 - aa) + 80; omega)⟩) hS (fun q _ h => hFc q h) hFc (fun r_150 u t H1 locs ht hvm hw hB hz1 hk1 hS => ?_)
            obtain ⟨I151, T151, A151, O151, pl151, q151, s151, cq151, cs151⟩ := u
            dsimp only at hw hB
            rw [ht] at hB
            obtain ⟨hP, hD1, hac151⟩ := hB
            have hD : va_D Bq (y_W ad ar I151 T151 A151 O151 pl151) := hD1.weaken (fun _ q _ h => hFc q.1 h)
            generalize H1 = H at hP hS hac151 ⊢
            have hae151 := hac151
            try unfold y_ac at hae151
            try dsimp only at hae151
            obtain ⟨q151, h1151, rfl, hno151, e1, e2, e3, e4, hL151, hcp151⟩ := hw
            rw [e1, e2, e3, e4] at hP hD
            refine W.eq (g2 := F0 m 58 ls [.ref q151, .ref g143]) rfl ?_
            have hP : va_P (dC, dI) y_cl (y_W ad ar I147 T A147 O1 pl151) H := hP
            have hD : va_D Bq (y_W ad ar I147 T A147 O1 pl151) := hD
            have hne152_q151 : g143 ≠ q151 := fun h9 => by rw [h9, hno151] at hfg143; cases hfg143
            have hzq151 : y_L pl1 q151 = none := by rw [← hoth q151 (Ne.symm hne152_q151)]; exact hno151
            have hfg143 : y_L pl151 g143 = some (.inr (9, [.ref (z 21), .int (-1), .int (-1), .null, .null, .int 0])) := by rw [hL151, y_Lu_n hne152_q151]; exact hfg143
            have hqq151 : y_L pl151 q151 = some (.inl (ar 0, s147, .inl h1151)) := by rw [hL151]; exact y_Lu_s
            have hoth : ∀ b, b ≠ g143 → b ≠ q151 → y_L pl151 b = y_L pl1 b := fun b n0 n1 => by rw [hL151, y_Lu_n n1]; exact hoth b n0
            have hokq151 : y_cok s147 h1151 := fun j hj => by rw [hcp151 j hj]; exact hmi.2.2 j hj (by dsimp only; omega)
            clear hL151
            refine d_pN (C := "ChannelMachine$Guard") (F := F_Guard) (N := 6) hx hb hts i_Guard hown t_Guard t_Guard_ok n_Guard hK hP hD hS hfg143 0 rfl (by decide) (hU.1.2.1 _ kn_570) (fun _ h9 => h9) rfl (ty := (.array .int)) (v := .ref q151) (by decide +kernel) rfl rfl (Nat.le_of_ble_eq_true rfl) d_Reader_guards_58 (fun pl153 H locs hL hP hD hS => ?_)
            have hqq151 : y_L pl153 q151 = some (.inl (ar 0, s147, .inl h1151)) := by rw [hL, y_Lu_n (Ne.symm hne152_q151)]; exact hqq151
            have hfg143 : y_L pl153 g143 = some (.inr (9, [.ref q151, .int (-1), .int (-1), .null, .null, .int 0])) := by rw [hL]; exact y_Lu_s
            have hoth : ∀ b, b ≠ g143 → b ≠ q151 → y_L pl153 b = y_L pl1 b := fun b n0 n1 => by rw [hL, y_Lu_n n0]; exact hoth b n0 n1
            clear hL
            refine lv_aload_n hx hb d_Reader_guards_61 rfl (lv_at hl 1 rfl) ?_
            refine lv_bipush (v := 38) hx hb d_Reader_guards_62 (by decide) ?_
            have hFc := y_free hD hS hA
            refine va_calli (va_runV (As := [.int 38]) (rest := []) ⟨hx, hb, hml, hown, hts⟩ (c_Rd_expect l dC dI ar N0 z ad I147 T A147 O1 pl153 ln s147 ln cs147 (38) H.size (y_hs H) hmi (by decide)) (cwV 1 hts (x_goodV k_492 k_494 kp_7 k_2 k_495) rfl rfl rfl (by decide +kernel) ⟨Nat.le_trans (m := 41) (Nat.le_of_ble_eq_true rfl) (Nat.le_add_left 41 _), Nat.le_trans (m := 1440) (Nat.le_of_ble_eq_true rfl) (Nat.le_add_left 1440 _)⟩) ⟨y_blind, va_recv hK hP (ci := 3) (q0 := 1) rfl (y_W_ob (by decide) (by decide)), fun U9 hU9 hW9 => y_pre hU9 hW9 hP hD hU hZ hS hAN hN0⟩ rfl rfl hl.1 rfl (lv_room (Nat.le_of_ble_eq_true rfl)) d_Reader_guards_64 ⟨(by show 3 * (a1 - aa) + 1 + (1) + (0) ≤ 3 * (72 - aa) + 2; omega), (by show 100 * (a1 - aa) + 6 + (s147) + (0) ≤ 100 * (72 - aa) + 80; omega)⟩) hS (fun q _ h => hFc q h) hFc (fun r_154 u t H1 locs ht hvm hw hB hz1 hk1 hS => ?_)
            obtain ⟨I155, T155, A155, O155, pl155, q155, s155, cq155, cs155⟩ := u
            dsimp only at hw hB
            rw [ht] at hB
            obtain ⟨hP, hD1, hac155⟩ := hB
            have hD : va_D Bq (y_W ad ar I155 T155 A155 O155 pl155) := hD1.weaken (fun _ q _ h => hFc q.1 h)
            generalize H1 = H at hP hS hac155 ⊢
            have hae155 := hac155
            try unfold y_ac at hae155
            try dsimp only at hae155
            refine W.widen (k := 3 * (a1 - aa) + 1 + (1)) (n := 100 * (a1 - aa) + 6 + (s147)) (by omega) (by omega) ?_
            obtain ⟨hmi, e2, e4, e5, fr155, e6, e7, hge155, hcc155, hr9⟩ := hw
            rw [e2, e4, e5] at hP hD
            rw [e6, e7] at hmi
            have hP : va_P (dC, dI) y_cl (y_W ad ar I155 T A155 O1 pl153) H := hP
            have hD : va_D Bq (y_W ad ar I155 T A155 O1 pl153) := hD
            have hbn := hmi.2.1
            dsimp only at hbn
            rcases hr9 with rfl | ⟨rfl, hex156⟩
            · refine lv_if_eq (tgt := 110) hx hb d_Reader_guards_67 (by decide) (fun _ => ?_) (fun c157 => absurd (by decide) c157)
              refine lv_iconst (v := 0) hx hb d_Reader_guards_110 (by decide) ?_
              have hfl : ∀ a, f0 a ≠ none → y_L pl153 a = f0 a := fun a ha => by
                obtain ⟨h1, h2⟩ := hdx1.1 a ha
                rw [hoth a (fun e => by rw [e, hzg143] at h1; exact ha (by rw [e]; exact h1.symm)) (fun e => by rw [e, hzq151] at h1; exact ha (by rw [e]; exact h1.symm)), h1]
              refine y_know (fun hy91 hy92 hy93 hy94 => ?_)
              have hac9 : y_rc s.heap.size (y_hs s.heap) aa cs155 1 H := ⟨by omega, by omega⟩
              refine W.widen (k := 3 * (72 - aa) + 2) (n := 100 * (72 - aa) + 80) (by omega) (by omega) ?_
              exact W.zret (v := 0) hx hb hr (rfl) (fun t ht hW => ⟨⟨0, (I155, T, A155, O1, pl153, (ln, s155, 1, cs155)), rfl, ⟨hmi, rfl, hO1, ((hfr.tr fr147 (by decide)).tr fr155 (by decide)), by dsimp only; omega, Or.inl ⟨rfl, Nat.le_refl _, hfl⟩⟩, (by dsimp only; rw [ht]; exact ⟨hP, hD, hac9⟩)⟩, hS.F ht⟩) hS.2.2 d_Reader_guards_111
            · refine lv_if_eq (tgt := 110) hx hb d_Reader_guards_67 (by decide) (fun c158 => absurd c158 (by decide)) (fun _ => ?_)
              refine lv_aload_n hx hb d_Reader_guards_70 rfl (lv_at hl 1 rfl) ?_
              refine lv_aload hx hb d_Reader_guards_71 (lv_at hl 0 rfl) ?_
              have hFc := y_free hD hS hA
              have hfl0 : ∀ a, f0 a ≠ none → y_L pl153 a = f0 a := fun a ha => by
                obtain ⟨h1, h2⟩ := hdx1.1 a ha
                rw [hoth a (fun e => by rw [e, hzg143] at h1; exact ha (by rw [e]; exact h1.symm)) (fun e => by rw [e, hzq151] at h1; exact ha (by rw [e]; exact h1.symm)), h1]
              refine va_calli (va_runV (As := [.ref g143]) (rest := []) ⟨hx, hb, hml, hown, hts⟩ (c_Rd_guardInput l dC dI ar N0 z ad I155 T A155 O1 pl153 ln s155 ln cs155 g143 q151 H.size (y_hs H) hmi hfg143) (cwV 1 hts (x_goodV k_599 k_601 kp_18 k_2 k_602) rfl rfl rfl (by decide +kernel) ⟨Nat.le_trans (m := 41) (Nat.le_of_ble_eq_true rfl) (Nat.le_add_left 41 _), Nat.le_trans (m := 1440) (Nat.le_of_ble_eq_true rfl) (Nat.le_add_left 1440 _)⟩) ⟨y_blind, va_recv hK hP (ci := 3) (q0 := 1) rfl (y_W_ob (by decide) (by decide)), fun U9 hU9 hW9 => y_pre hU9 hW9 hP hD hU hZ hS hAN hN0⟩ rfl rfl hl.1 rfl (lv_room (Nat.le_of_ble_eq_true rfl)) d_Reader_guards_73 ⟨(by show 3 * (a1 - aa) + 1 + (1) + (0) ≤ 3 * (72 - aa) + 2; omega), (by show 100 * (a1 - aa) + 6 + (s147) + (0) ≤ 100 * (72 - aa) + 80; omega)⟩) hS (fun q _ h => hFc q h) hFc (fun r_159 u t H1 locs ht hvm hw hB hz1 hk1 hS => ?_)
              obtain ⟨I160, T160, A160, O160, pl160, q160, s160, cq160, cs160⟩ := u
              dsimp only at hw hB
              rw [ht] at hB
              obtain ⟨hP, hD1, hac160⟩ := hB
              have hD : va_D Bq (y_W ad ar I160 T160 A160 O160 pl160) := hD1.weaken (fun _ q _ h => hFc q.1 h)
              generalize H1 = H at hP hS hac160 ⊢
              have hae160 := hac160
              try unfold y_ac at hae160
              try dsimp only at hae160
              refine W.widen (k := 3 * (a1 - aa) + 1 + (1)) (n := 100 * (a1 - aa) + 6 + (s147)) (by omega) (by omega) ?_
              obtain ⟨hmi, e2, e4, fr160, e6, e7, hge160, hbr⟩ := hw
              rw [e2, e4] at hP hD
              rw [e6, e7] at hmi
              have hP : va_P (dC, dI) y_cl (y_W ad ar I160 T A160 O1 pl160) H := hP
              have hD : va_D Bq (y_W ad ar I160 T A160 O1 pl160) := hD
              have hbn := hmi.2.1
              dsimp only at hbn
              rcases hbr with ⟨rfl, hog⟩ | ⟨rfl, chg, vag, hchg, hfg143, hog⟩
              · refine lv_if_eq (tgt := 110) hx hb d_Reader_guards_76 (by decide) (fun _ => ?_) (fun c161 => absurd (by decide) c161)
                refine lv_iconst (v := 0) hx hb d_Reader_guards_110 (by decide) ?_
                have hfl : ∀ a, f0 a ≠ none → y_L pl160 a = f0 a := (fun a ha => by rw [hog a (by rw [hfl0 a ha]; exact ha) (fun e => by have h1 := (hdx1.1 a ha).1; rw [e, hzg143] at h1; exact ha (by rw [e]; exact h1.symm)), hfl0 a ha])
                refine y_know (fun hy91 hy92 hy93 hy94 => ?_)
                have hac9 : y_rc s.heap.size (y_hs s.heap) aa cs160 1 H := ⟨by omega, by omega⟩
                refine W.widen (k := 3 * (72 - aa) + 2) (n := 100 * (72 - aa) + 80) (by omega) (by omega) ?_
                exact W.zret (v := 0) hx hb hr (rfl) (fun t ht hW => ⟨⟨0, (I160, T, A160, O1, pl160, (ln, s160, 1, cs160)), rfl, ⟨hmi, rfl, hO1, (((hfr.tr fr147 (by decide)).tr fr155 (by decide)).tr fr160 (by decide)), by dsimp only; omega, Or.inl ⟨rfl, Nat.le_refl _, hfl⟩⟩, (by dsimp only; rw [ht]; exact ⟨hP, hD, hac9⟩)⟩, hS.F ht⟩) hS.2.2 d_Reader_guards_111
              · have hqq151 : y_L pl160 q151 = some (.inl (ar 0, s147, .inl h1151)) := by rw [hog q151 (Ne.symm hne152_q151)]; exact hqq151
                have hoth : ∀ b, b ≠ g143 → b ≠ q151 → y_L pl160 b = y_L pl1 b := fun b n0 n1 => by rw [hog b n0]; exact hoth b n0 n1
                refine lv_if_eq (tgt := 110) hx hb d_Reader_guards_76 (by decide) (fun c162 => absurd c162 (by decide)) (fun _ => ?_)
                refine lv_aload_n hx hb d_Reader_guards_79 rfl (lv_at hl 1 rfl) ?_
                refine lv_bipush (v := 44) hx hb d_Reader_guards_80 (by decide) ?_
                have hFc := y_free hD hS hA
                refine va_calli (va_runV (As := [.int 44]) (rest := []) ⟨hx, hb, hml, hown, hts⟩ (c_Rd_expect l dC dI ar N0 z ad I160 T A160 O1 pl160 ln s160 ln cs160 (44) H.size (y_hs H) hmi (by decide)) (cwV 1 hts (x_goodV k_492 k_494 kp_7 k_2 k_495) rfl rfl rfl (by decide +kernel) ⟨Nat.le_trans (m := 41) (Nat.le_of_ble_eq_true rfl) (Nat.le_add_left 41 _), Nat.le_trans (m := 1440) (Nat.le_of_ble_eq_true rfl) (Nat.le_add_left 1440 _)⟩) ⟨y_blind, va_recv hK hP (ci := 3) (q0 := 1) rfl (y_W_ob (by decide) (by decide)), fun U9 hU9 hW9 => y_pre hU9 hW9 hP hD hU hZ hS hAN hN0⟩ rfl rfl hl.1 rfl (lv_room (Nat.le_of_ble_eq_true rfl)) d_Reader_guards_82 ⟨(by show 3 * (a1 - aa) + 1 + (1) + (0) ≤ 3 * (72 - aa) + 2; omega), (by show 100 * (a1 - aa) + 6 + (s147) + (0) ≤ 100 * (72 - aa) + 80; omega)⟩) hS (fun q _ h => hFc q h) hFc (fun r_163 u t H1 locs ht hvm hw hB hz1 hk1 hS => ?_)
                obtain ⟨I164, T164, A164, O164, pl164, q164, s164, cq164, cs164⟩ := u
                dsimp only at hw hB
                rw [ht] at hB
                obtain ⟨hP, hD1, hac164⟩ := hB
                have hD : va_D Bq (y_W ad ar I164 T164 A164 O164 pl164) := hD1.weaken (fun _ q _ h => hFc q.1 h)
                generalize H1 = H at hP hS hac164 ⊢
                have hae164 := hac164
                try unfold y_ac at hae164
                try dsimp only at hae164
                refine W.widen (k := 3 * (a1 - aa) + 1 + (1)) (n := 100 * (a1 - aa) + 6 + (s147)) (by omega) (by omega) ?_
                obtain ⟨hmi, e2, e4, e5, fr164, e6, e7, hge164, hcc164, hr9⟩ := hw
                rw [e2, e4, e5] at hP hD
                rw [e6, e7] at hmi
                have hP : va_P (dC, dI) y_cl (y_W ad ar I164 T A164 O1 pl160) H := hP
                have hD : va_D Bq (y_W ad ar I164 T A164 O1 pl160) := hD
                have hbn := hmi.2.1
                dsimp only at hbn
                rcases hr9 with rfl | ⟨rfl, hex165⟩
                · refine lv_if_eq (tgt := 110) hx hb d_Reader_guards_85 (by decide) (fun _ => ?_) (fun c166 => absurd (by decide) c166)
                  refine lv_iconst (v := 0) hx hb d_Reader_guards_110 (by decide) ?_
                  have hfl : ∀ a, f0 a ≠ none → y_L pl160 a = f0 a := fun a ha => by
                    obtain ⟨h1, h2⟩ := hdx1.1 a ha
                    rw [hoth a (fun e => by rw [e, hzg143] at h1; exact ha (by rw [e]; exact h1.symm)) (fun e => by rw [e, hzq151] at h1; exact ha (by rw [e]; exact h1.symm)), h1]
                  refine y_know (fun hy91 hy92 hy93 hy94 => ?_)
                  have hac9 : y_rc s.heap.size (y_hs s.heap) aa cs164 1 H := ⟨by omega, by omega⟩
                  refine W.widen (k := 3 * (72 - aa) + 2) (n := 100 * (72 - aa) + 80) (by omega) (by omega) ?_
                  exact W.zret (v := 0) hx hb hr (rfl) (fun t ht hW => ⟨⟨0, (I164, T, A164, O1, pl160, (ln, s164, 1, cs164)), rfl, ⟨hmi, rfl, hO1, ((((hfr.tr fr147 (by decide)).tr fr155 (by decide)).tr fr160 (by decide)).tr fr164 (by decide)), by dsimp only; omega, Or.inl ⟨rfl, Nat.le_refl _, hfl⟩⟩, (by dsimp only; rw [ht]; exact ⟨hP, hD, hac9⟩)⟩, hS.F ht⟩) hS.2.2 d_Reader_guards_111
                · refine lv_if_eq (tgt := 110) hx hb d_Reader_guards_85 (by decide) (fun c167 => absurd c167 (by decide)) (fun _ => ?_)
                  refine lv_aload_n hx hb d_Reader_guards_88 rfl (lv_at hl 1 rfl) ?_
                  refine lv_aload_n hx hb d_Reader_guards_89 rfl (lv_at hl 2 rfl) ?_
                  refine lv_iload_n hx hb d_Reader_guards_90 rfl (lv_at hl 3 rfl) ?_
                  refine lv_iconst (v := 1) hx hb d_Reader_guards_91 (by decide) ?_
                  refine lv_iadd hx hb d_Reader_guards_92 ?_
                  refine W.eq (g2 := F0 m 93 ls [.int (Int32.ofNat (dp + 1)), .ref P, .ref (ad 1)]) (by rw [← x_addN (a := dp) (b := 1)] <;> rfl) ?_
                  refine lv_iload hx hb d_Reader_guards_93 (lv_at hl 6 rfl) ?_
                  refine lv_iload_n hx hb d_Reader_guards_95 rfl (lv_at hl 4 rfl) ?_
                  refine lv_icmp_ge (tgt := 103) hx hb d_Reader_guards_96 (by decide) (fun c_168 => ?_) (fun c_168 => ?_)
                  · have c_168 : 4 ≤ i1 := (x_leN (a := 4) (b := i1) (by omega) (by omega)).mp c_168
                    refine lv_iconst (v := 0) hx hb d_Reader_guards_103 (by decide) ?_
                    have hG0g := (hdx1.un hzg143).2
                    have hG0q := (hdx1.un hzq151).2
                    have hgq := hne152_q151
                    have hfg1430 := hfg143
                    have hcur : ∀ b, b ≠ g143 → b ≠ q151 → y_L pl160 b = y_L pl1 b := fun b h1 h2 => hoth b h1 h2
                    have hdxc := hdx1.two hzg143 hzq151 hgq hfg143 hqq151 hcur
                    refine y_know (fun hya1 hya2 hya3 hya4 => ?_)
                    have hFc := y_free hD hS hA
                    refine va_calli (va_runV (As := [.ref P, .int (Int32.ofNat (dp + 1)), .int 0]) (rest := []) ⟨hx, hb, hml, hown, hts⟩ (ihP l dC dI ar N0 z ad I164 T A164 O1 pl160 ln s164 cs164 f0 G1 J1 C1 Gs1 S1 (some P) ((dp + 1)) (0) H.size (y_hs H) hmi hdxc (fun P9 hP9 => by cases hP9; exact ⟨hG1, fun h9 => by omega⟩) (by omega) (by omega)) (cwV 3 hts (x_goodV k_557 k_332 kp_1 k_2 k_333) rfl rfl rfl (by decide +kernel) ⟨(by show 2 * nn + 40 + 1 ≤ 2 * nn + 41; omega), (by show 8 + (5 + 11) + (100 * nn + 1400) ≤ 100 * nn + 1440; omega)⟩) ⟨y_blind, va_recv hK hP (ci := 3) (q0 := 1) rfl (y_W_ob (by decide) (by decide)), fun U9 hU9 hW9 => y_pre hU9 hW9 hP hD hU hZ hS hAN hN0⟩ rfl rfl hl.1 rfl (lv_room (Nat.le_of_ble_eq_true rfl)) d_Reader_guards_104 ⟨(by show 3 * (a1 - aa) + 1 + (1) + (3 * (72 - cs164) + 2) ≤ 3 * (72 - aa) + 2; omega), (by show 100 * (a1 - aa) + 6 + (s147) + (100 * (72 - cs164) + 80) ≤ 100 * (72 - aa) + 80; omega)⟩) hS (fun q _ h => hFc q h) hFc (fun r_169 u t H1 locs ht hvm hw hB hz1 hk1 hS => ?_)
                    obtain ⟨I170, T170, A170, O170, pl170, q170, s170, cq170, cs170⟩ := u
                    dsimp only at hw hB
                    rw [ht] at hB
                    obtain ⟨hP, hD1, hac170⟩ := hB
                    have hD : va_D Bq (y_W ad ar I170 T170 A170 O170 pl170) := hD1.weaken (fun _ q _ h => hFc q.1 h)
                    generalize H1 = H at hP hS hac170 ⊢
                    have hae170 := hac170
                    try unfold y_ac at hae170
                    try dsimp only at hae170
                    obtain ⟨hmi, e2, hO170, fr170, hge170, hbr⟩ := hw
                    rw [e2] at hP hD
                    have hP : va_P (dC, dI) y_cl (y_W ad ar I170 T A170 O170 pl170) H := hP
                    have hD : va_D Bq (y_W ad ar I170 T A170 O170 pl170) := hD
                    have hbn := hmi.2.1
                    dsimp only at hbn
                    rcases hbr with ⟨rfl, hsl, hfl170⟩ | ⟨rfl, hsl, c170_, hsu170, hpr170⟩
                    · unfold y_rc at hac170
                      try dsimp only at hac170
                      refine y_tight (k := 3 * (cs170 - aa) + 2) (n := 100 * (cs170 - aa) + 80) (by omega) (by omega) ?_
                      refine lv_if_ne (tgt := 112) hx hb d_Reader_guards_107 (by decide) (fun c171 => absurd rfl c171) (fun _ => ?_)
                      refine lv_iconst (v := 0) hx hb d_Reader_guards_110 (by decide) ?_
                      have hfl : ∀ a, f0 a ≠ none → y_L pl170 a = f0 a := hfl170
                      refine y_know (fun hy91 hy92 hy93 hy94 => ?_)
                      have hac9 : y_rc s.heap.size (y_hs s.heap) aa cs170 1 H := ⟨by omega, by omega⟩
                      refine W.widen (k := 3 * (72 - aa) + 2) (n := 100 * (72 - aa) + 80) (by omega) (by omega) ?_
                      exact W.zret (v := 0) hx hb hr (rfl) (fun t ht hW => ⟨⟨0, (I170, T, A170, O170, pl170, (ln, s170, 1, cs170)), rfl, ⟨hmi, rfl, fun k => (hO170 k (Or.inr nofun)).trans ((hO1) k), (((((hfr.tr fr147 (by decide)).tr fr155 (by decide)).tr fr160 (by decide)).tr fr164 (by decide)).tr fr170 (by decide)), by dsimp only; omega, Or.inl ⟨rfl, Nat.le_refl _, hfl⟩⟩, (by dsimp only; rw [ht]; exact ⟨hP, hD, hac9⟩)⟩, hS.F ht⟩) hS.2.2 d_Reader_guards_111
                    · subst hsl
                      unfold y_rc at hac170
                      try dsimp only at hac170
                      refine y_tight (k := 3 * (cs170 - aa)) (n := 100 * (cs170 - aa)) (by omega) (by omega) ?_
                      obtain ⟨G170, J170, C170, Gs170, S170, hdx170, hph170, hSp170, hGp170, hCp170, hcg170⟩ := hsu170.ph (by rw [hcur P (fun e => by rw [← e] at hG0g; omega) (fun e => by rw [← e] at hG0q; omega)]; exact hph.2.1.1)
                      have hgP : g143 ≠ P := fun e => by rw [e] at hG0g; omega
                      have hqP : q151 ≠ P := fun e => by rw [e] at hG0q; omega
                      have hfg143 : y_L pl170 g143 = some (.inr (9, [.ref q151, .int chg, .int vag, .null, .null, .int 0])) := by rw [(hph170.1 g143 (by rw [hfg143]; exact nofun) hgP).2.2.2.2.2.2 (by rw [hG0g]; decide)]; exact hfg143
                      have hqq1512 : y_L pl170 q151 = some (.inl (ar 0, s147, .inl h1151)) := by rw [(hph170.1 q151 (by rw [hqq151]; exact nofun) hqP).2.2.2.2.2.2 (by rw [hG0q]; decide)]; exact hqq151
                      have hG2g : G170 g143 = 0 := by rw [(hph170.1 g143 (by rw [hfg1430]; exact nofun) hgP).2.1]; exact hG0g
                      have hG2q : G170 q151 = 0 := by rw [(hph170.1 q151 (by rw [hqq151]; exact nofun) hqP).2.1]; exact hG0q
                      have hG2P : G170 P = 7 := hph170.2.1.2.1.trans hG1
                      obtain ⟨par3, nx3, tk3, co3, ch3, va3, hfP0, hpx3⟩ := hdx170.2.1 P hG2P
                      have hgl2 : (Gs170 P).getLast? = some lc := by rw [hGp170]; exact hlo.symm
                      have hfP : y_L pl170 P = some (.inr (7, [.ref (z (3 + J170 P)), va_rf par3, va_rf (C170 P).head?, .ref c170_, va_rf nx3, va_rf tk3, va_rf (Gs170 P).head?, .ref co3, .int ch3, .int va3])) := by rw [hfP0]; unfold y_Pf; rw [hCp170, y_glast]; rfl
                      obtain ⟨hlc9, co4, ch4, va4, fo4, op4, hfl40⟩ := hdx170.lastg hG2P hgl2
                      have hf4 : y_L pl170 lc = some (.inr (9, [.ref co4, .int ch4, .int va4, va_rf fo4, .null, .int op4])) := hfl40
                      have hlP : lc ≠ P := fun e => by rw [e] at hlc9; omega
                      have hlg : lc ≠ g143 := fun e => by rw [e] at hlc9; omega
                      refine lv_if_ne (tgt := 112) hx hb d_Reader_guards_107 (by decide) (fun _ => ?_) (fun c172 => absurd c172 (by decide))
                      refine lv_aload hx hb d_Reader_guards_112 (lv_at hl 0 rfl) ?_
                      refine lv_aload_n hx hb d_Reader_guards_114 rfl (lv_at hl 2 rfl) ?_
                      refine d_gN (C := "ChannelMachine$Process") (F := F_Process) (N := 10) hx hb hts i_Process hown hK hP hfP 3 rfl (by decide) (hU.1.2.1 _ kn_401) (fun _ h9 => h9) (v := .ref c170_) rfl d_Reader_guards_115 ?_
                      refine d_pN (C := "ChannelMachine$Guard") (F := F_Guard) (N := 6) hx hb hts i_Guard hown t_Guard t_Guard_ok n_Guard hK hP hD hS hfg143 3 rfl (by decide) (hU.1.2.1 _ kn_579) (fun _ h9 => h9) rfl (ty := (.object "ChannelMachine$Process")) (v := .ref c170_) (by decide +kernel) rfl rfl (Nat.le_of_ble_eq_true rfl) d_Reader_guards_118 (fun pl173 H locs hL hP hD hS => ?_)
                      have hfP : y_L pl173 P = some (.inr (7, [.ref (z (3 + J170 P)), va_rf par3, va_rf (C170 P).head?, .ref c170_, va_rf nx3, va_rf tk3, va_rf (Gs170 P).head?, .ref co3, .int ch3, .int va3])) := by rw [hL, y_Lu_n (Ne.symm hgP)]; exact hfP
                      have hf4 : y_L pl173 lc = some (.inr (9, [.ref co4, .int ch4, .int va4, va_rf fo4, .null, .int op4])) := by rw [hL, y_Lu_n hlg]; exact hf4
                      have hfg143 : y_L pl173 g143 = some (.inr (9, [.ref q151, .int chg, .int vag, .ref c170_, .null, .int 0])) := by rw [hL]; exact y_Lu_s
                      have hoth : ∀ b, b ≠ g143 → y_L pl173 b = y_L pl170 b := fun b n0 => by rw [hL, y_Lu_n n0]
                      clear hL
                      refine lv_aload hx hb d_Reader_guards_121 (lv_at hl 5 rfl) ?_
                      refine lv_ifnonnull (tgt := 135) hx hb d_Reader_guards_123 (by decide) ?_
                      refine lv_aload hx hb d_Reader_guards_135 (lv_at hl 5 rfl) ?_
                      refine lv_aload hx hb d_Reader_guards_137 (lv_at hl 0 rfl) ?_
                      refine d_pN (C := "ChannelMachine$Guard") (F := F_Guard) (N := 6) hx hb hts i_Guard hown t_Guard t_Guard_ok n_Guard hK hP hD hS hf4 4 rfl (by decide) (hU.1.2.1 _ kn_582) (fun _ h9 => h9) rfl (ty := (.object "ChannelMachine$Guard")) (v := .ref g143) (by decide +kernel) rfl rfl (Nat.le_of_ble_eq_true rfl) d_Reader_guards_139 (fun pl174 H locs hL hP hD hS => ?_)
                      have hfg143 : y_L pl174 g143 = some (.inr (9, [.ref q151, .int chg, .int vag, .ref c170_, .null, .int 0])) := by rw [hL, y_Lu_n (Ne.symm hlg)]; exact hfg143
                      have hfP : y_L pl174 P = some (.inr (7, [.ref (z (3 + J170 P)), va_rf par3, va_rf (C170 P).head?, .ref c170_, va_rf nx3, va_rf tk3, va_rf (Gs170 P).head?, .ref co3, .int ch3, .int va3])) := by rw [hL, y_Lu_n (Ne.symm hlP)]; exact hfP
                      have hf4 : y_L pl174 lc = some (.inr (9, [.ref co4, .int ch4, .int va4, va_rf fo4, .ref g143, .int op4])) := by rw [hL]; exact y_Lu_s
                      have hoth : ∀ b, b ≠ g143 → b ≠ lc → y_L pl174 b = y_L pl170 b := fun b n0 n1 => by rw [hL, y_Lu_n n1]; exact hoth b n0
                      clear hL
                      refine lv_aload hx hb d_Reader_guards_142 (lv_at hl 0 rfl) ?_
                      refine lv_astore (lv' := [(4, .ref g143), (6, .ref g143), (0, .ref (ad 1)), (1, .ref P), (2, .int (Int32.ofNat dp)), (3, .int (Int32.ofNat 4)), (5, .int (Int32.ofNat i1))]) hx hb d_Reader_guards_144 hl (by decide) rfl (fun ls hl => ?_)
                      refine lv_iinc (v := (Int32.ofNat (i1 + 1))) (lv' := [(5, .int (Int32.ofNat (i1 + 1))), (4, .ref g143), (6, .ref g143), (0, .ref (ad 1)), (1, .ref P), (2, .int (Int32.ofNat dp)), (3, .int (Int32.ofNat 4))]) hx hb d_Reader_guards_146 hl (k := 6) rfl (x_incN i1) (by decide) rfl (fun ls hl => ?_)
                      refine lv_goto (tgt := 18) hx hb d_Reader_guards_149 (by decide) ?_
                      have hdN := hdx170.grd (f' := y_L pl174) (P := P) (g := g143) (q := q151) (p := c170_) (ch := chg) (va := vag) (op := 0) hG2P (hdx1.un hzg143).1 hG2g (hdx1.un hzq151).1 hG2q hgq hcg170 hchg hqq1512 (by omega) hokq151 hfg143 ⟨par3, nx3, tk3, co3, ch3, va3, hfP0, by rw [hfP]; unfold y_Pf; rw [y_un_s, hCp170, y_glast, y_headA hgl2]; rfl⟩ (fun c hc => by rw [hgl2] at hc; cases hc; exact ⟨co4, ch4, va4, fo4, none, op4, hfl40, hf4⟩) (fun b h1 h2 h3 => hoth b h2 (fun e => h3 (by rw [e]; exact hgl2)))
                      have hpN := y_PH.grd (fc := y_L pl160) (g := g143) (q := q151) (lo := some lc) (L := (Gs170 P ++ [g143])) (f9 := y_L pl174) hph hPe (fun a h9 => (hdx1.un h9).2) hzg143 hzq151 hcur ⟨by rw [hfg1430]; exact nofun, by rw [hqq151]; exact nofun⟩ hph170 (fun a h9 => (hdx170.un h9).2) (fun b h1 h2 h3 => hoth b h2 (fun e => h3 (by rw [e]))) (fun c hc => by cases hc; exact ⟨hgnew lc (List.mem_of_getLast? hlo.symm), by rw [hf4]; exact nofun⟩) ⟨by rw [hfg143]; exact nofun, by rw [hfP]; exact nofun⟩
                      have hSN := hSp170.trans hSP
                      have hlN : some g143 = (y_un Gs170 P (Gs170 P ++ [g143]) P).getLast? := by rw [y_un_s, y_glast]
                      have hyE : ∀ x, y_L pl1 x = none → y_L pl x = none := fun x hx9 => by
                        by_cases e : y_L pl x = none
                        · exact e
                        · exact absurd hx9 (by by_cases e2 : x = P; (rw [e2]; exact hph.2.1.1); exact (hph.1 x e e2).1)
                      have hgN : ∀ x, x ∈ y_un Gs170 P (Gs170 P ++ [g143]) P → y_L pl x = none := fun x hx9 => by
                        rw [y_un_s, List.mem_append, hGp170] at hx9
                        rcases hx9 with h8 | h8
                        · exact hgnew x h8
                        · rw [List.mem_singleton.mp h8]; exact hyE g143 hzg143
                      refine W.widen (k := 3 * (cs170 - aa)) (n := 100 * (cs170 - aa)) (by omega) (by omega) ?_
                      exact ih (4 + 1 - (i1 + 1)) (by omega) cs170 H locs ls ⟨I170, A170, O170, pl174, s170, cs170, i1 + 1, some g143, _, J170, C170, _, S170, rfl, ⟨rfl, by omega, by omega⟩, hmi, by omega, (((((hfr.tr fr147 (by decide)).tr fr155 (by decide)).tr fr160 (by decide)).tr fr164 (by decide)).tr fr170 (by decide)), fun k => (hO170 k (Or.inr nofun)).trans ((hO1) k), hdN, hpN, hSN, ⟨hlN, hgN⟩, hP, hD, hS, lv_sub hl [3, 4, 5, 6, 1, 0] rfl⟩
                  · have c_168 : ¬ 4 ≤ i1 := fun h9 => c_168 ((x_leN (a := 4) (b := i1) (by omega) (by omega)).mpr h9)
                    refine lv_iconst (v := 1) hx hb d_Reader_guards_99 (by decide) ?_
                    refine lv_goto (tgt := 104) hx hb d_Reader_guards_100 (by decide) ?_
                    have hG0g := (hdx1.un hzg143).2
                    have hG0q := (hdx1.un hzq151).2
                    have hgq := hne152_q151
                    have hfg1430 := hfg143
                    have hcur : ∀ b, b ≠ g143 → b ≠ q151 → y_L pl160 b = y_L pl1 b := fun b h1 h2 => hoth b h1 h2
                    have hdxc := hdx1.two hzg143 hzq151 hgq hfg143 hqq151 hcur
                    refine y_know (fun hya1 hya2 hya3 hya4 => ?_)
                    have hFc := y_free hD hS hA
                    refine va_calli (va_runV (As := [.ref P, .int (Int32.ofNat (dp + 1)), .int 1]) (rest := []) ⟨hx, hb, hml, hown, hts⟩ (ihP l dC dI ar N0 z ad I164 T A164 O1 pl160 ln s164 cs164 f0 G1 J1 C1 Gs1 S1 (some P) ((dp + 1)) (1) H.size (y_hs H) hmi hdxc (fun P9 hP9 => by cases hP9; exact ⟨hG1, fun h9 => by omega⟩) (by omega) (by omega)) (cwV 3 hts (x_goodV k_557 k_332 kp_1 k_2 k_333) rfl rfl rfl (by decide +kernel) ⟨(by show 2 * nn + 40 + 1 ≤ 2 * nn + 41; omega), (by show 8 + (5 + 11) + (100 * nn + 1400) ≤ 100 * nn + 1440; omega)⟩) ⟨y_blind, va_recv hK hP (ci := 3) (q0 := 1) rfl (y_W_ob (by decide) (by decide)), fun U9 hU9 hW9 => y_pre hU9 hW9 hP hD hU hZ hS hAN hN0⟩ rfl rfl hl.1 rfl (lv_room (Nat.le_of_ble_eq_true rfl)) d_Reader_guards_104 ⟨(by show 3 * (a1 - aa) + 1 + (1) + (3 * (72 - cs164) + 2) ≤ 3 * (72 - aa) + 2; omega), (by show 100 * (a1 - aa) + 6 + (s147) + (100 * (72 - cs164) + 80) ≤ 100 * (72 - aa) + 80; omega)⟩) hS (fun q _ h => hFc q h) hFc (fun r_175 u t H1 locs ht hvm hw hB hz1 hk1 hS => ?_)
                    obtain ⟨I176, T176, A176, O176, pl176, q176, s176, cq176, cs176⟩ := u
                    dsimp only at hw hB
                    rw [ht] at hB
                    obtain ⟨hP, hD1, hac176⟩ := hB
                    have hD : va_D Bq (y_W ad ar I176 T176 A176 O176 pl176) := hD1.weaken (fun _ q _ h => hFc q.1 h)
                    generalize H1 = H at hP hS hac176 ⊢
                    have hae176 := hac176
                    try unfold y_ac at hae176
                    try dsimp only at hae176
                    obtain ⟨hmi, e2, hO176, fr176, hge176, hbr⟩ := hw
                    rw [e2] at hP hD
                    have hP : va_P (dC, dI) y_cl (y_W ad ar I176 T A176 O176 pl176) H := hP
                    have hD : va_D Bq (y_W ad ar I176 T A176 O176 pl176) := hD
                    have hbn := hmi.2.1
                    dsimp only at hbn
                    rcases hbr with ⟨rfl, hsl, hfl176⟩ | ⟨rfl, hsl, c176_, hsu176, hpr176⟩
                    · unfold y_rc at hac176
                      try dsimp only at hac176
                      refine y_tight (k := 3 * (cs176 - aa) + 2) (n := 100 * (cs176 - aa) + 80) (by omega) (by omega) ?_
                      refine lv_if_ne (tgt := 112) hx hb d_Reader_guards_107 (by decide) (fun c177 => absurd rfl c177) (fun _ => ?_)
                      refine lv_iconst (v := 0) hx hb d_Reader_guards_110 (by decide) ?_
                      have hfl : ∀ a, f0 a ≠ none → y_L pl176 a = f0 a := hfl176
                      refine y_know (fun hy91 hy92 hy93 hy94 => ?_)
                      have hac9 : y_rc s.heap.size (y_hs s.heap) aa cs176 1 H := ⟨by omega, by omega⟩
                      refine W.widen (k := 3 * (72 - aa) + 2) (n := 100 * (72 - aa) + 80) (by omega) (by omega) ?_
                      exact W.zret (v := 0) hx hb hr (rfl) (fun t ht hW => ⟨⟨0, (I176, T, A176, O176, pl176, (ln, s176, 1, cs176)), rfl, ⟨hmi, rfl, fun k => (hO176 k (Or.inr nofun)).trans ((hO1) k), (((((hfr.tr fr147 (by decide)).tr fr155 (by decide)).tr fr160 (by decide)).tr fr164 (by decide)).tr fr176 (by decide)), by dsimp only; omega, Or.inl ⟨rfl, Nat.le_refl _, hfl⟩⟩, (by dsimp only; rw [ht]; exact ⟨hP, hD, hac9⟩)⟩, hS.F ht⟩) hS.2.2 d_Reader_guards_111
                    · subst hsl
                      unfold y_rc at hac176
                      try dsimp only at hac176
                      refine y_tight (k := 3 * (cs176 - aa)) (n := 100 * (cs176 - aa)) (by omega) (by omega) ?_
                      obtain ⟨G176, J176, C176, Gs176, S176, hdx176, hph176, hSp176, hGp176, hCp176, hcg176⟩ := hsu176.ph (by rw [hcur P (fun e => by rw [← e] at hG0g; omega) (fun e => by rw [← e] at hG0q; omega)]; exact hph.2.1.1)
                      have hgP : g143 ≠ P := fun e => by rw [e] at hG0g; omega
                      have hqP : q151 ≠ P := fun e => by rw [e] at hG0q; omega
                      have hfg143 : y_L pl176 g143 = some (.inr (9, [.ref q151, .int chg, .int vag, .null, .null, .int 0])) := by rw [(hph176.1 g143 (by rw [hfg143]; exact nofun) hgP).2.2.2.2.2.2 (by rw [hG0g]; decide)]; exact hfg143
                      have hqq1512 : y_L pl176 q151 = some (.inl (ar 0, s147, .inl h1151)) := by rw [(hph176.1 q151 (by rw [hqq151]; exact nofun) hqP).2.2.2.2.2.2 (by rw [hG0q]; decide)]; exact hqq151
                      have hG2g : G176 g143 = 0 := by rw [(hph176.1 g143 (by rw [hfg1430]; exact nofun) hgP).2.1]; exact hG0g
                      have hG2q : G176 q151 = 0 := by rw [(hph176.1 q151 (by rw [hqq151]; exact nofun) hqP).2.1]; exact hG0q
                      have hG2P : G176 P = 7 := hph176.2.1.2.1.trans hG1
                      obtain ⟨par3, nx3, tk3, co3, ch3, va3, hfP0, hpx3⟩ := hdx176.2.1 P hG2P
                      have hgl2 : (Gs176 P).getLast? = some lc := by rw [hGp176]; exact hlo.symm
                      have hfP : y_L pl176 P = some (.inr (7, [.ref (z (3 + J176 P)), va_rf par3, va_rf (C176 P).head?, .ref c176_, va_rf nx3, va_rf tk3, va_rf (Gs176 P).head?, .ref co3, .int ch3, .int va3])) := by rw [hfP0]; unfold y_Pf; rw [hCp176, y_glast]; rfl
                      obtain ⟨hlc9, co4, ch4, va4, fo4, op4, hfl40⟩ := hdx176.lastg hG2P hgl2
                      have hf4 : y_L pl176 lc = some (.inr (9, [.ref co4, .int ch4, .int va4, va_rf fo4, .null, .int op4])) := hfl40
                      have hlP : lc ≠ P := fun e => by rw [e] at hlc9; omega
                      have hlg : lc ≠ g143 := fun e => by rw [e] at hlc9; omega
                      refine lv_if_ne (tgt := 112) hx hb d_Reader_guards_107 (by decide) (fun _ => ?_) (fun c178 => absurd c178 (by decide))
                      refine lv_aload hx hb d_Reader_guards_112 (lv_at hl 0 rfl) ?_
                      refine lv_aload_n hx hb d_Reader_guards_114 rfl (lv_at hl 2 rfl) ?_
                      refine d_gN (C := "ChannelMachine$Process") (F := F_Process) (N := 10) hx hb hts i_Process hown hK hP hfP 3 rfl (by decide) (hU.1.2.1 _ kn_401) (fun _ h9 => h9) (v := .ref c176_) rfl d_Reader_guards_115 ?_
                      refine d_pN (C := "ChannelMachine$Guard") (F := F_Guard) (N := 6) hx hb hts i_Guard hown t_Guard t_Guard_ok n_Guard hK hP hD hS hfg143 3 rfl (by decide) (hU.1.2.1 _ kn_579) (fun _ h9 => h9) rfl (ty := (.object "ChannelMachine$Process")) (v := .ref c176_) (by decide +kernel) rfl rfl (Nat.le_of_ble_eq_true rfl) d_Reader_guards_118 (fun pl179 H locs hL hP hD hS => ?_)
                      have hfP : y_L pl179 P = some (.inr (7, [.ref (z (3 + J176 P)), va_rf par3, va_rf (C176 P).head?, .ref c176_, va_rf nx3, va_rf tk3, va_rf (Gs176 P).head?, .ref co3, .int ch3, .int va3])) := by rw [hL, y_Lu_n (Ne.symm hgP)]; exact hfP
                      have hf4 : y_L pl179 lc = some (.inr (9, [.ref co4, .int ch4, .int va4, va_rf fo4, .null, .int op4])) := by rw [hL, y_Lu_n hlg]; exact hf4
                      have hfg143 : y_L pl179 g143 = some (.inr (9, [.ref q151, .int chg, .int vag, .ref c176_, .null, .int 0])) := by rw [hL]; exact y_Lu_s
                      have hoth : ∀ b, b ≠ g143 → y_L pl179 b = y_L pl176 b := fun b n0 => by rw [hL, y_Lu_n n0]
                      clear hL
                      refine lv_aload hx hb d_Reader_guards_121 (lv_at hl 5 rfl) ?_
                      refine lv_ifnonnull (tgt := 135) hx hb d_Reader_guards_123 (by decide) ?_
                      refine lv_aload hx hb d_Reader_guards_135 (lv_at hl 5 rfl) ?_
                      refine lv_aload hx hb d_Reader_guards_137 (lv_at hl 0 rfl) ?_
                      refine d_pN (C := "ChannelMachine$Guard") (F := F_Guard) (N := 6) hx hb hts i_Guard hown t_Guard t_Guard_ok n_Guard hK hP hD hS hf4 4 rfl (by decide) (hU.1.2.1 _ kn_582) (fun _ h9 => h9) rfl (ty := (.object "ChannelMachine$Guard")) (v := .ref g143) (by decide +kernel) rfl rfl (Nat.le_of_ble_eq_true rfl) d_Reader_guards_139 (fun pl180 H locs hL hP hD hS => ?_)
                      have hfg143 : y_L pl180 g143 = some (.inr (9, [.ref q151, .int chg, .int vag, .ref c176_, .null, .int 0])) := by rw [hL, y_Lu_n (Ne.symm hlg)]; exact hfg143
                      have hfP : y_L pl180 P = some (.inr (7, [.ref (z (3 + J176 P)), va_rf par3, va_rf (C176 P).head?, .ref c176_, va_rf nx3, va_rf tk3, va_rf (Gs176 P).head?, .ref co3, .int ch3, .int va3])) := by rw [hL, y_Lu_n (Ne.symm hlP)]; exact hfP
                      have hf4 : y_L pl180 lc = some (.inr (9, [.ref co4, .int ch4, .int va4, va_rf fo4, .ref g143, .int op4])) := by rw [hL]; exact y_Lu_s
                      have hoth : ∀ b, b ≠ g143 → b ≠ lc → y_L pl180 b = y_L pl176 b := fun b n0 n1 => by rw [hL, y_Lu_n n1]; exact hoth b n0
                      clear hL
                      refine lv_aload hx hb d_Reader_guards_142 (lv_at hl 0 rfl) ?_
                      refine lv_astore (lv' := [(4, .ref g143), (6, .ref g143), (0, .ref (ad 1)), (1, .ref P), (2, .int (Int32.ofNat dp)), (3, .int (Int32.ofNat 4)), (5, .int (Int32.ofNat i1))]) hx hb d_Reader_guards_144 hl (by decide) rfl (fun ls hl => ?_)
                      refine lv_iinc (v := (Int32.ofNat (i1 + 1))) (lv' := [(5, .int (Int32.ofNat (i1 + 1))), (4, .ref g143), (6, .ref g143), (0, .ref (ad 1)), (1, .ref P), (2, .int (Int32.ofNat dp)), (3, .int (Int32.ofNat 4))]) hx hb d_Reader_guards_146 hl (k := 6) rfl (x_incN i1) (by decide) rfl (fun ls hl => ?_)
                      refine lv_goto (tgt := 18) hx hb d_Reader_guards_149 (by decide) ?_
                      have hdN := hdx176.grd (f' := y_L pl180) (P := P) (g := g143) (q := q151) (p := c176_) (ch := chg) (va := vag) (op := 0) hG2P (hdx1.un hzg143).1 hG2g (hdx1.un hzq151).1 hG2q hgq hcg176 hchg hqq1512 (by omega) hokq151 hfg143 ⟨par3, nx3, tk3, co3, ch3, va3, hfP0, by rw [hfP]; unfold y_Pf; rw [y_un_s, hCp176, y_glast, y_headA hgl2]; rfl⟩ (fun c hc => by rw [hgl2] at hc; cases hc; exact ⟨co4, ch4, va4, fo4, none, op4, hfl40, hf4⟩) (fun b h1 h2 h3 => hoth b h2 (fun e => h3 (by rw [e]; exact hgl2)))
                      have hpN := y_PH.grd (fc := y_L pl160) (g := g143) (q := q151) (lo := some lc) (L := (Gs176 P ++ [g143])) (f9 := y_L pl180) hph hPe (fun a h9 => (hdx1.un h9).2) hzg143 hzq151 hcur ⟨by rw [hfg1430]; exact nofun, by rw [hqq151]; exact nofun⟩ hph176 (fun a h9 => (hdx176.un h9).2) (fun b h1 h2 h3 => hoth b h2 (fun e => h3 (by rw [e]))) (fun c hc => by cases hc; exact ⟨hgnew lc (List.mem_of_getLast? hlo.symm), by rw [hf4]; exact nofun⟩) ⟨by rw [hfg143]; exact nofun, by rw [hfP]; exact nofun⟩
                      have hSN := hSp176.trans hSP
                      have hlN : some g143 = (y_un Gs176 P (Gs176 P ++ [g143]) P).getLast? := by rw [y_un_s, y_glast]
                      have hyE : ∀ x, y_L pl1 x = none → y_L pl x = none := fun x hx9 => by
                        by_cases e : y_L pl x = none
                        · exact e
                        · exact absurd hx9 (by by_cases e2 : x = P; (rw [e2]; exact hph.2.1.1); exact (hph.1 x e e2).1)
                      have hgN : ∀ x, x ∈ y_un Gs176 P (Gs176 P ++ [g143]) P → y_L pl x = none := fun x hx9 => by
                        rw [y_un_s, List.mem_append, hGp176] at hx9
                        rcases hx9 with h8 | h8
                        · exact hgnew x h8
                        · rw [List.mem_singleton.mp h8]; exact hyE g143 hzg143
                      refine W.widen (k := 3 * (cs176 - aa)) (n := 100 * (cs176 - aa)) (by omega) (by omega) ?_
                      exact ih (4 + 1 - (i1 + 1)) (by omega) cs176 H locs ls ⟨I176, A176, O176, pl180, s176, cs176, i1 + 1, some g143, _, J176, C176, _, S176, rfl, ⟨rfl, by omega, by omega⟩, hmi, by omega, (((((hfr.tr fr147 (by decide)).tr fr155 (by decide)).tr fr160 (by decide)).tr fr164 (by decide)).tr fr176 (by decide)), fun k => (hO176 k (Or.inr nofun)).trans ((hO1) k), hdN, hpN, hSN, ⟨hlN, hgN⟩, hP, hD, hS, lv_sub hl [3, 4, 5, 6, 1, 0] rfl⟩
        · refine lv_if_ne (tgt := 152) hx hb d_Reader_guards_31 (by decide) (fun _ => ?_) (fun c181 => absurd c181 (by decide))
          refine lv_iconst (v := 1) hx hb d_Reader_guards_152 (by decide) ?_
          refine y_know (fun hy91 hy92 hy93 hy94 => ?_)
          have hac9 : y_rc s.heap.size (y_hs s.heap) aa a1 0 H := ⟨by omega, by omega⟩
          refine W.widen (k := 3 * (72 - aa) + 2) (n := 100 * (72 - aa) + 80) (by omega) (by omega) ?_
          exact W.zret (v := 1) hx hb hr (rfl) (fun t ht hW => ⟨⟨1, (I1, T, A1, O1, pl1, (ln, cl1, 0, a1)), rfl, ⟨hmi, rfl, hO1, hfr, by dsimp only; omega, Or.inr ⟨rfl, rfl, G1, J1, C1, Gs1, S1, hdx1, hph, hSP⟩⟩, (by dsimp only; rw [ht]; exact ⟨hP, hD, hac9⟩)⟩, hS.F ht⟩) hS.2.2 d_Reader_guards_153
