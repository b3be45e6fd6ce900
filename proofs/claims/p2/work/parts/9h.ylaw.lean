-- ===== 9h.ylaw: the law's loop, by program =====
theorem k_0 : (Jvm.Cond.initialized "ChannelMachineLaw") ∈ x_T := x_at 0 (by decide +kernel) (by decide +kernel)
theorem k_204 : (Jvm.Cond.methodLink "ChannelMachineLaw" (84 : Nat) ({ cls := "ChannelMachine", name := "count", desc := "(I)I" } : Jvm.MethodName)) ∈ x_T := x_at 204 (by decide +kernel) (by decide +kernel)
theorem k_205 : (Jvm.Cond.instanceMethod ({ cls := "ChannelMachine", name := "count", desc := "(I)I" } : Jvm.MethodName)) ∈ x_T := x_at 205 (by decide +kernel) (by decide +kernel)
theorem k_206 : (Jvm.Cond.selects "ChannelMachine" ({ cls := "ChannelMachine", name := "count", desc := "(I)I" } : Jvm.MethodName) ({ cls := "ChannelMachine", name := "count", desc := "(I)I" } : Jvm.MethodName)) ∈ x_T := x_at 206 (by decide +kernel) (by decide +kernel)
theorem k_207 : (Jvm.Cond.code ({ cls := "ChannelMachine", name := "count", desc := "(I)I" } : Jvm.MethodName) prog_1_method_11_code (2 : Nat) (Option.some Jvm.ClassFile.FieldType.int)) ∈ x_T := x_at 207 (by decide +kernel) (by decide +kernel)
theorem k_218 : (Jvm.Cond.methodLink "ChannelMachineLaw" (51 : Nat) ({ cls := "ChannelMachineLaw", name := "type", desc := "(LChannelMachine;J[J)I" } : Jvm.MethodName)) ∈ x_T := x_at 218 (by decide +kernel) (by decide +kernel)
theorem k_219 : (Jvm.Cond.static ({ cls := "ChannelMachineLaw", name := "type", desc := "(LChannelMachine;J[J)I" } : Jvm.MethodName)) ∈ x_T := x_at 219 (by decide +kernel) (by decide +kernel)
theorem k_319 : (Jvm.Cond.methodLink "ChannelMachineLaw" (60 : Nat) ({ cls := "ChannelMachineLaw", name := "load", desc := "(LChannelMachine;[J)I" } : Jvm.MethodName)) ∈ x_T := x_at 319 (by decide +kernel) (by decide +kernel)
theorem k_320 : (Jvm.Cond.static ({ cls := "ChannelMachineLaw", name := "load", desc := "(LChannelMachine;[J)I" } : Jvm.MethodName)) ∈ x_T := x_at 320 (by decide +kernel) (by decide +kernel)
theorem k_707 : (Jvm.Cond.methodLink "ChannelMachineLaw" (64 : Nat) ({ cls := "ChannelMachineLaw", name := "run", desc := "(LChannelMachine;I[J)I" } : Jvm.MethodName)) ∈ x_T := x_at 707 (by decide +kernel) (by decide +kernel)
theorem k_708 : (Jvm.Cond.static ({ cls := "ChannelMachineLaw", name := "run", desc := "(LChannelMachine;I[J)I" } : Jvm.MethodName)) ∈ x_T := x_at 708 (by decide +kernel) (by decide +kernel)
theorem k_897 : (Jvm.Cond.methodLink "ChannelMachineLaw" (68 : Nat) ({ cls := "ChannelMachineLaw", name := "give", desc := "(LChannelMachine;I[J)I" } : Jvm.MethodName)) ∈ x_T := x_at 897 (by decide +kernel) (by decide +kernel)
theorem k_898 : (Jvm.Cond.static ({ cls := "ChannelMachineLaw", name := "give", desc := "(LChannelMachine;I[J)I" } : Jvm.MethodName)) ∈ x_T := x_at 898 (by decide +kernel) (by decide +kernel)
theorem k_910 : (Jvm.Cond.methodLink "ChannelMachineLaw" (71 : Nat) ({ cls := "ChannelMachineLaw", name := "take", desc := "(LChannelMachine;[J)I" } : Jvm.MethodName)) ∈ x_T := x_at 910 (by decide +kernel) (by decide +kernel)
theorem k_911 : (Jvm.Cond.static ({ cls := "ChannelMachineLaw", name := "take", desc := "(LChannelMachine;[J)I" } : Jvm.MethodName)) ∈ x_T := x_at 911 (by decide +kernel) (by decide +kernel)
theorem k_938 : (Jvm.Cond.methodLink "ChannelMachineLaw" (74 : Nat) ({ cls := "ChannelMachineLaw", name := "variable", desc := "(LChannelMachine;I[J)I" } : Jvm.MethodName)) ∈ x_T := x_at 938 (by decide +kernel) (by decide +kernel)
theorem k_939 : (Jvm.Cond.static ({ cls := "ChannelMachineLaw", name := "variable", desc := "(LChannelMachine;I[J)I" } : Jvm.MethodName)) ∈ x_T := x_at 939 (by decide +kernel) (by decide +kernel)
theorem k_946 : (Jvm.Cond.methodLink "ChannelMachineLaw" (77 : Nat) ({ cls := "ChannelMachineLaw", name := "set", desc := "(LChannelMachine;II)I" } : Jvm.MethodName)) ∈ x_T := x_at 946 (by decide +kernel) (by decide +kernel)
theorem k_947 : (Jvm.Cond.static ({ cls := "ChannelMachineLaw", name := "set", desc := "(LChannelMachine;II)I" } : Jvm.MethodName)) ∈ x_T := x_at 947 (by decide +kernel) (by decide +kernel)
theorem k_953 : (Jvm.Cond.methodLink "ChannelMachineLaw" (81 : Nat) ({ cls := "ChannelMachineLaw", name := "channel", desc := "(LChannelMachine;I[J)I" } : Jvm.MethodName)) ∈ x_T := x_at 953 (by decide +kernel) (by decide +kernel)
theorem k_954 : (Jvm.Cond.static ({ cls := "ChannelMachineLaw", name := "channel", desc := "(LChannelMachine;I[J)I" } : Jvm.MethodName)) ∈ x_T := x_at 954 (by decide +kernel) (by decide +kernel)
theorem k_1105 : (Jvm.Cond.methodLink "ChannelMachineLaw" (57 : Nat) ({ cls := "ChannelMachineModel", name := "thrown", desc := "()I" } : Jvm.MethodName)) ∈ x_T := x_at 1105 (by decide +kernel) (by decide +kernel)
theorem k_1106 : (Jvm.Cond.instanceMethod ({ cls := "ChannelMachineModel", name := "thrown", desc := "()I" } : Jvm.MethodName)) ∈ x_T := x_at 1106 (by decide +kernel) (by decide +kernel)
theorem k_1107 : (Jvm.Cond.selects "ChannelMachineModel" ({ cls := "ChannelMachineModel", name := "thrown", desc := "()I" } : Jvm.MethodName) ({ cls := "ChannelMachineModel", name := "thrown", desc := "()I" } : Jvm.MethodName)) ∈ x_T := x_at 1107 (by decide +kernel) (by decide +kernel)
theorem k_1108 : (Jvm.Cond.code ({ cls := "ChannelMachineModel", name := "thrown", desc := "()I" } : Jvm.MethodName) prog_12_method_2_code (1 : Nat) (Option.some Jvm.ClassFile.FieldType.int)) ∈ x_T := x_at 1108 (by decide +kernel) (by decide +kernel)
theorem k_1109 : (Jvm.Cond.methodLink "ChannelMachineLaw" (56 : Nat) ({ cls := "ChannelMachineModel", name := "type", desc := "(J)I" } : Jvm.MethodName)) ∈ x_T := x_at 1109 (by decide +kernel) (by decide +kernel)
theorem k_1110 : (Jvm.Cond.instanceMethod ({ cls := "ChannelMachineModel", name := "type", desc := "(J)I" } : Jvm.MethodName)) ∈ x_T := x_at 1110 (by decide +kernel) (by decide +kernel)
theorem k_1111 : (Jvm.Cond.selects "ChannelMachineModel" ({ cls := "ChannelMachineModel", name := "type", desc := "(J)I" } : Jvm.MethodName) ({ cls := "ChannelMachineModel", name := "type", desc := "(J)I" } : Jvm.MethodName)) ∈ x_T := x_at 1111 (by decide +kernel) (by decide +kernel)
theorem k_1112 : (Jvm.Cond.code ({ cls := "ChannelMachineModel", name := "type", desc := "(J)I" } : Jvm.MethodName) prog_12_method_6_code (7 : Nat) (Option.some Jvm.ClassFile.FieldType.int)) ∈ x_T := x_at 1112 (by decide +kernel) (by decide +kernel)
theorem k_1124 : (Jvm.Cond.methodLink "ChannelMachineLaw" (63 : Nat) ({ cls := "ChannelMachineModel", name := "load", desc := "()I" } : Jvm.MethodName)) ∈ x_T := x_at 1124 (by decide +kernel) (by decide +kernel)
theorem k_1125 : (Jvm.Cond.instanceMethod ({ cls := "ChannelMachineModel", name := "load", desc := "()I" } : Jvm.MethodName)) ∈ x_T := x_at 1125 (by decide +kernel) (by decide +kernel)
theorem k_1126 : (Jvm.Cond.selects "ChannelMachineModel" ({ cls := "ChannelMachineModel", name := "load", desc := "()I" } : Jvm.MethodName) ({ cls := "ChannelMachineModel", name := "load", desc := "()I" } : Jvm.MethodName)) ∈ x_T := x_at 1126 (by decide +kernel) (by decide +kernel)
theorem k_1127 : (Jvm.Cond.code ({ cls := "ChannelMachineModel", name := "load", desc := "()I" } : Jvm.MethodName) prog_12_method_23_code (3 : Nat) (Option.some Jvm.ClassFile.FieldType.int)) ∈ x_T := x_at 1127 (by decide +kernel) (by decide +kernel)
theorem k_1198 : (Jvm.Cond.methodLink "ChannelMachineLaw" (67 : Nat) ({ cls := "ChannelMachineModel", name := "run", desc := "(I)I" } : Jvm.MethodName)) ∈ x_T := x_at 1198 (by decide +kernel) (by decide +kernel)
theorem k_1199 : (Jvm.Cond.instanceMethod ({ cls := "ChannelMachineModel", name := "run", desc := "(I)I" } : Jvm.MethodName)) ∈ x_T := x_at 1199 (by decide +kernel) (by decide +kernel)
theorem k_1200 : (Jvm.Cond.selects "ChannelMachineModel" ({ cls := "ChannelMachineModel", name := "run", desc := "(I)I" } : Jvm.MethodName) ({ cls := "ChannelMachineModel", name := "run", desc := "(I)I" } : Jvm.MethodName)) ∈ x_T := x_at 1200 (by decide +kernel) (by decide +kernel)
theorem k_1201 : (Jvm.Cond.code ({ cls := "ChannelMachineModel", name := "run", desc := "(I)I" } : Jvm.MethodName) prog_12_method_42_code (4 : Nat) (Option.some Jvm.ClassFile.FieldType.int)) ∈ x_T := x_at 1201 (by decide +kernel) (by decide +kernel)
theorem k_1266 : (Jvm.Cond.methodLink "ChannelMachineLaw" (70 : Nat) ({ cls := "ChannelMachineModel", name := "give", desc := "(I)I" } : Jvm.MethodName)) ∈ x_T := x_at 1266 (by decide +kernel) (by decide +kernel)
theorem k_1267 : (Jvm.Cond.instanceMethod ({ cls := "ChannelMachineModel", name := "give", desc := "(I)I" } : Jvm.MethodName)) ∈ x_T := x_at 1267 (by decide +kernel) (by decide +kernel)
theorem k_1268 : (Jvm.Cond.selects "ChannelMachineModel" ({ cls := "ChannelMachineModel", name := "give", desc := "(I)I" } : Jvm.MethodName) ({ cls := "ChannelMachineModel", name := "give", desc := "(I)I" } : Jvm.MethodName)) ∈ x_T := x_at 1268 (by decide +kernel) (by decide +kernel)
theorem k_1269 : (Jvm.Cond.code ({ cls := "ChannelMachineModel", name := "give", desc := "(I)I" } : Jvm.MethodName) prog_12_method_43_code (2 : Nat) (Option.some Jvm.ClassFile.FieldType.int)) ∈ x_T := x_at 1269 (by decide +kernel) (by decide +kernel)
theorem k_1270 : (Jvm.Cond.methodLink "ChannelMachineLaw" (73 : Nat) ({ cls := "ChannelMachineModel", name := "take", desc := "()I" } : Jvm.MethodName)) ∈ x_T := x_at 1270 (by decide +kernel) (by decide +kernel)
theorem k_1271 : (Jvm.Cond.instanceMethod ({ cls := "ChannelMachineModel", name := "take", desc := "()I" } : Jvm.MethodName)) ∈ x_T := x_at 1271 (by decide +kernel) (by decide +kernel)
theorem k_1272 : (Jvm.Cond.selects "ChannelMachineModel" ({ cls := "ChannelMachineModel", name := "take", desc := "()I" } : Jvm.MethodName) ({ cls := "ChannelMachineModel", name := "take", desc := "()I" } : Jvm.MethodName)) ∈ x_T := x_at 1272 (by decide +kernel) (by decide +kernel)
theorem k_1273 : (Jvm.Cond.code ({ cls := "ChannelMachineModel", name := "take", desc := "()I" } : Jvm.MethodName) prog_12_method_44_code (2 : Nat) (Option.some Jvm.ClassFile.FieldType.int)) ∈ x_T := x_at 1273 (by decide +kernel) (by decide +kernel)
theorem k_1274 : (Jvm.Cond.methodLink "ChannelMachineLaw" (76 : Nat) ({ cls := "ChannelMachineModel", name := "variable", desc := "(I)I" } : Jvm.MethodName)) ∈ x_T := x_at 1274 (by decide +kernel) (by decide +kernel)
theorem k_1275 : (Jvm.Cond.instanceMethod ({ cls := "ChannelMachineModel", name := "variable", desc := "(I)I" } : Jvm.MethodName)) ∈ x_T := x_at 1275 (by decide +kernel) (by decide +kernel)
theorem k_1276 : (Jvm.Cond.selects "ChannelMachineModel" ({ cls := "ChannelMachineModel", name := "variable", desc := "(I)I" } : Jvm.MethodName) ({ cls := "ChannelMachineModel", name := "variable", desc := "(I)I" } : Jvm.MethodName)) ∈ x_T := x_at 1276 (by decide +kernel) (by decide +kernel)
theorem k_1277 : (Jvm.Cond.code ({ cls := "ChannelMachineModel", name := "variable", desc := "(I)I" } : Jvm.MethodName) prog_12_method_45_code (2 : Nat) (Option.some Jvm.ClassFile.FieldType.int)) ∈ x_T := x_at 1277 (by decide +kernel) (by decide +kernel)
theorem k_1278 : (Jvm.Cond.methodLink "ChannelMachineLaw" (80 : Nat) ({ cls := "ChannelMachineModel", name := "set", desc := "(II)V" } : Jvm.MethodName)) ∈ x_T := x_at 1278 (by decide +kernel) (by decide +kernel)
theorem k_1279 : (Jvm.Cond.instanceMethod ({ cls := "ChannelMachineModel", name := "set", desc := "(II)V" } : Jvm.MethodName)) ∈ x_T := x_at 1279 (by decide +kernel) (by decide +kernel)
theorem k_1280 : (Jvm.Cond.selects "ChannelMachineModel" ({ cls := "ChannelMachineModel", name := "set", desc := "(II)V" } : Jvm.MethodName) ({ cls := "ChannelMachineModel", name := "set", desc := "(II)V" } : Jvm.MethodName)) ∈ x_T := x_at 1280 (by decide +kernel) (by decide +kernel)
theorem k_1281 : (Jvm.Cond.code ({ cls := "ChannelMachineModel", name := "set", desc := "(II)V" } : Jvm.MethodName) prog_12_method_46_code (3 : Nat) (Option.none : Option Jvm.ClassFile.FieldType)) ∈ x_T := x_at 1281 (by decide +kernel) (by decide +kernel)
theorem k_1282 : (Jvm.Cond.methodLink "ChannelMachineLaw" (83 : Nat) ({ cls := "ChannelMachineModel", name := "channel", desc := "(I)I" } : Jvm.MethodName)) ∈ x_T := x_at 1282 (by decide +kernel) (by decide +kernel)
theorem k_1283 : (Jvm.Cond.instanceMethod ({ cls := "ChannelMachineModel", name := "channel", desc := "(I)I" } : Jvm.MethodName)) ∈ x_T := x_at 1283 (by decide +kernel) (by decide +kernel)
theorem k_1284 : (Jvm.Cond.selects "ChannelMachineModel" ({ cls := "ChannelMachineModel", name := "channel", desc := "(I)I" } : Jvm.MethodName) ({ cls := "ChannelMachineModel", name := "channel", desc := "(I)I" } : Jvm.MethodName)) ∈ x_T := x_at 1284 (by decide +kernel) (by decide +kernel)
theorem k_1285 : (Jvm.Cond.code ({ cls := "ChannelMachineModel", name := "channel", desc := "(I)I" } : Jvm.MethodName) prog_12_method_47_code (2 : Nat) (Option.some Jvm.ClassFile.FieldType.int)) ∈ x_T := x_at 1285 (by decide +kernel) (by decide +kernel)
theorem k_1286 : (Jvm.Cond.methodLink "ChannelMachineLaw" (87 : Nat) ({ cls := "ChannelMachineModel", name := "count", desc := "(I)I" } : Jvm.MethodName)) ∈ x_T := x_at 1286 (by decide +kernel) (by decide +kernel)
theorem k_1287 : (Jvm.Cond.instanceMethod ({ cls := "ChannelMachineModel", name := "count", desc := "(I)I" } : Jvm.MethodName)) ∈ x_T := x_at 1287 (by decide +kernel) (by decide +kernel)
theorem k_1288 : (Jvm.Cond.selects "ChannelMachineModel" ({ cls := "ChannelMachineModel", name := "count", desc := "(I)I" } : Jvm.MethodName) ({ cls := "ChannelMachineModel", name := "count", desc := "(I)I" } : Jvm.MethodName)) ∈ x_T := x_at 1288 (by decide +kernel) (by decide +kernel)
theorem k_1289 : (Jvm.Cond.code ({ cls := "ChannelMachineModel", name := "count", desc := "(I)I" } : Jvm.MethodName) prog_12_method_48_code (5 : Nat) (Option.some Jvm.ClassFile.FieldType.int)) ∈ x_T := x_at 1289 (by decide +kernel) (by decide +kernel)
theorem k_1290 : (Jvm.Cond.constantLong "ChannelMachineLaw" (49 : Nat) (4294967295 : Int64)) ∈ x_T := x_at 1290 (by decide +kernel) (by decide +kernel)
theorem d_La_law_0 : decode code 0 = .ok (.new 8, 3) := by decide +kernel
theorem d_La_law_3 : decode code 3 = .ok (.dup, 1) := by decide +kernel
theorem d_La_law_4 : decode code 4 = .ok (.invokespecial 45, 3) := by decide +kernel
theorem d_La_law_7 : decode code 7 = .ok (.astore_n 1, 1) := by decide +kernel
theorem d_La_law_8 : decode code 8 = .ok (.new 46, 3) := by decide +kernel
theorem d_La_law_11 : decode code 11 = .ok (.dup, 1) := by decide +kernel
theorem d_La_law_12 : decode code 12 = .ok (.invokespecial 48, 3) := by decide +kernel
theorem d_La_law_15 : decode code 15 = .ok (.astore_n 2, 1) := by decide +kernel
theorem d_La_law_16 : decode code 16 = .ok (.iconst 1, 1) := by decide +kernel
theorem d_La_law_17 : decode code 17 = .ok (.newarray .long, 2) := by decide +kernel
theorem d_La_law_19 : decode code 19 = .ok (.astore_n 3, 1) := by decide +kernel
theorem d_La_law_20 : decode code 20 = .ok (.iconst 0, 1) := by decide +kernel
theorem d_La_law_21 : decode code 21 = .ok (.istore 4, 2) := by decide +kernel
theorem d_La_law_23 : decode code 23 = .ok (.iload 4, 2) := by decide +kernel
theorem d_La_law_25 : decode code 25 = .ok (.aload_n 0, 1) := by decide +kernel
theorem d_La_law_26 : decode code 26 = .ok (.arraylength, 1) := by decide +kernel
theorem d_La_law_27 : decode code 27 = .ok (.iconst 3, 1) := by decide +kernel
theorem d_La_law_28 : decode code 28 = .ok (.isub, 1) := by decide +kernel
theorem d_La_law_29 : decode code 29 = .ok (.if_icmp .gt 359, 3) := by decide +kernel
theorem d_La_law_32 : decode code 32 = .ok (.aload_n 0, 1) := by decide +kernel
theorem d_La_law_33 : decode code 33 = .ok (.iload 4, 2) := by decide +kernel
theorem d_La_law_35 : decode code 35 = .ok (.iaload, 1) := by decide +kernel
theorem d_La_law_36 : decode code 36 = .ok (.bipush 15, 2) := by decide +kernel
theorem d_La_law_38 : decode code 38 = .ok (.iand, 1) := by decide +kernel
theorem d_La_law_39 : decode code 39 = .ok (.tableswitch 343 0 8 #[49, 137, 153, 181, 209, 225, 253, 290, 318], 49) := by decide +kernel
theorem d_La_law_88 : decode code 88 = .ok (.aload_n 1, 1) := by decide +kernel
theorem d_La_law_89 : decode code 89 = .ok (.aload_n 0, 1) := by decide +kernel
theorem d_La_law_90 : decode code 90 = .ok (.iload 4, 2) := by decide +kernel
theorem d_La_law_92 : decode code 92 = .ok (.iconst 1, 1) := by decide +kernel
theorem d_La_law_93 : decode code 93 = .ok (.iadd, 1) := by decide +kernel
theorem d_La_law_94 : decode code 94 = .ok (.iaload, 1) := by decide +kernel
theorem d_La_law_95 : decode code 95 = .ok (.i2l, 1) := by decide +kernel
theorem d_La_law_96 : decode code 96 = .ok (.bipush 32, 2) := by decide +kernel
theorem d_La_law_98 : decode code 98 = .ok (.lshl, 1) := by decide +kernel
theorem d_La_law_99 : decode code 99 = .ok (.aload_n 0, 1) := by decide +kernel
theorem d_La_law_100 : decode code 100 = .ok (.iload 4, 2) := by decide +kernel
theorem d_La_law_102 : decode code 102 = .ok (.iconst 2, 1) := by decide +kernel
theorem d_La_law_103 : decode code 103 = .ok (.iadd, 1) := by decide +kernel
theorem d_La_law_104 : decode code 104 = .ok (.iaload, 1) := by decide +kernel
theorem d_La_law_105 : decode code 105 = .ok (.i2l, 1) := by decide +kernel
theorem d_La_law_106 : decode code 106 = .ok (.ldc2_w 49, 3) := by decide +kernel
theorem d_La_law_109 : decode code 109 = .ok (.land, 1) := by decide +kernel
theorem d_La_law_110 : decode code 110 = .ok (.lor, 1) := by decide +kernel
theorem d_La_law_111 : decode code 111 = .ok (.aload_n 3, 1) := by decide +kernel
theorem d_La_law_112 : decode code 112 = .ok (.invokestatic 51, 3) := by decide +kernel
theorem d_La_law_115 : decode code 115 = .ok (.istore 5, 2) := by decide +kernel
theorem d_La_law_117 : decode code 117 = .ok (.aload_n 2, 1) := by decide +kernel
theorem d_La_law_118 : decode code 118 = .ok (.aload_n 0, 1) := by decide +kernel
theorem d_La_law_119 : decode code 119 = .ok (.iload 4, 2) := by decide +kernel
theorem d_La_law_121 : decode code 121 = .ok (.iconst 1, 1) := by decide +kernel
theorem d_La_law_122 : decode code 122 = .ok (.iadd, 1) := by decide +kernel
theorem d_La_law_123 : decode code 123 = .ok (.iaload, 1) := by decide +kernel
theorem d_La_law_124 : decode code 124 = .ok (.i2l, 1) := by decide +kernel
theorem d_La_law_125 : decode code 125 = .ok (.bipush 32, 2) := by decide +kernel
theorem d_La_law_127 : decode code 127 = .ok (.lshl, 1) := by decide +kernel
theorem d_La_law_128 : decode code 128 = .ok (.aload_n 0, 1) := by decide +kernel
theorem d_La_law_129 : decode code 129 = .ok (.iload 4, 2) := by decide +kernel
theorem d_La_law_131 : decode code 131 = .ok (.iconst 2, 1) := by decide +kernel
theorem d_La_law_132 : decode code 132 = .ok (.iadd, 1) := by decide +kernel
theorem d_La_law_133 : decode code 133 = .ok (.iaload, 1) := by decide +kernel
theorem d_La_law_134 : decode code 134 = .ok (.i2l, 1) := by decide +kernel
theorem d_La_law_135 : decode code 135 = .ok (.ldc2_w 49, 3) := by decide +kernel
theorem d_La_law_138 : decode code 138 = .ok (.land, 1) := by decide +kernel
theorem d_La_law_139 : decode code 139 = .ok (.lor, 1) := by decide +kernel
theorem d_La_law_140 : decode code 140 = .ok (.invokevirtual 56, 3) := by decide +kernel
theorem d_La_law_143 : decode code 143 = .ok (.istore 6, 2) := by decide +kernel
theorem d_La_law_145 : decode code 145 = .ok (.aload_n 2, 1) := by decide +kernel
theorem d_La_law_146 : decode code 146 = .ok (.invokevirtual 57, 3) := by decide +kernel
theorem d_La_law_149 : decode code 149 = .ok (.iload 5, 2) := by decide +kernel
theorem d_La_law_151 : decode code 151 = .ok (.if_icmp .eq 5, 3) := by decide +kernel
theorem d_La_law_154 : decode code 154 = .ok (.iconst 0, 1) := by decide +kernel
theorem d_La_law_155 : decode code 155 = .ok (.ireturn, 1) := by decide +kernel
theorem d_La_law_156 : decode code 156 = .ok (.iload 5, 2) := by decide +kernel
theorem d_La_law_158 : decode code 158 = .ok (.ifCond .ne 15, 3) := by decide +kernel
theorem d_La_law_161 : decode code 161 = .ok (.aload_n 3, 1) := by decide +kernel
theorem d_La_law_162 : decode code 162 = .ok (.iconst 0, 1) := by decide +kernel
theorem d_La_law_163 : decode code 163 = .ok (.laload, 1) := by decide +kernel
theorem d_La_law_164 : decode code 164 = .ok (.iload 6, 2) := by decide +kernel
theorem d_La_law_166 : decode code 166 = .ok (.i2l, 1) := by decide +kernel
theorem d_La_law_167 : decode code 167 = .ok (.lcmp, 1) := by decide +kernel
theorem d_La_law_168 : decode code 168 = .ok (.ifCond .eq 5, 3) := by decide +kernel
theorem d_La_law_171 : decode code 171 = .ok (.iconst 0, 1) := by decide +kernel
theorem d_La_law_172 : decode code 172 = .ok (.ireturn, 1) := by decide +kernel
theorem d_La_law_173 : decode code 173 = .ok (.goto 209, 3) := by decide +kernel
theorem d_La_law_176 : decode code 176 = .ok (.aload_n 1, 1) := by decide +kernel
theorem d_La_law_177 : decode code 177 = .ok (.aload_n 3, 1) := by decide +kernel
theorem d_La_law_178 : decode code 178 = .ok (.invokestatic 60, 3) := by decide +kernel
theorem d_La_law_181 : decode code 181 = .ok (.istore 5, 2) := by decide +kernel
theorem d_La_law_183 : decode code 183 = .ok (.aload_n 2, 1) := by decide +kernel
theorem d_La_law_184 : decode code 184 = .ok (.invokevirtual 63, 3) := by decide +kernel
theorem d_La_law_187 : decode code 187 = .ok (.istore 6, 2) := by decide +kernel
theorem d_La_law_189 : decode code 189 = .ok (.goto 193, 3) := by decide +kernel
theorem d_La_law_192 : decode code 192 = .ok (.aload_n 1, 1) := by decide +kernel
theorem d_La_law_193 : decode code 193 = .ok (.aload_n 0, 1) := by decide +kernel
theorem d_La_law_194 : decode code 194 = .ok (.iload 4, 2) := by decide +kernel
theorem d_La_law_196 : decode code 196 = .ok (.iconst 1, 1) := by decide +kernel
theorem d_La_law_197 : decode code 197 = .ok (.iadd, 1) := by decide +kernel
theorem d_La_law_198 : decode code 198 = .ok (.iaload, 1) := by decide +kernel
theorem d_La_law_199 : decode code 199 = .ok (.aload_n 3, 1) := by decide +kernel
theorem d_La_law_200 : decode code 200 = .ok (.invokestatic 64, 3) := by decide +kernel
theorem d_La_law_203 : decode code 203 = .ok (.istore 5, 2) := by decide +kernel
theorem d_La_law_205 : decode code 205 = .ok (.aload_n 2, 1) := by decide +kernel
theorem d_La_law_206 : decode code 206 = .ok (.aload_n 0, 1) := by decide +kernel
theorem d_La_law_207 : decode code 207 = .ok (.iload 4, 2) := by decide +kernel
theorem d_La_law_209 : decode code 209 = .ok (.iconst 1, 1) := by decide +kernel
theorem d_La_law_210 : decode code 210 = .ok (.iadd, 1) := by decide +kernel
theorem d_La_law_211 : decode code 211 = .ok (.iaload, 1) := by decide +kernel
theorem d_La_law_212 : decode code 212 = .ok (.invokevirtual 67, 3) := by decide +kernel
theorem d_La_law_215 : decode code 215 = .ok (.istore 6, 2) := by decide +kernel
theorem d_La_law_217 : decode code 217 = .ok (.goto 165, 3) := by decide +kernel
theorem d_La_law_220 : decode code 220 = .ok (.aload_n 1, 1) := by decide +kernel
theorem d_La_law_221 : decode code 221 = .ok (.aload_n 0, 1) := by decide +kernel
theorem d_La_law_222 : decode code 222 = .ok (.iload 4, 2) := by decide +kernel
theorem d_La_law_224 : decode code 224 = .ok (.iconst 1, 1) := by decide +kernel
theorem d_La_law_225 : decode code 225 = .ok (.iadd, 1) := by decide +kernel
theorem d_La_law_226 : decode code 226 = .ok (.iaload, 1) := by decide +kernel
theorem d_La_law_227 : decode code 227 = .ok (.aload_n 3, 1) := by decide +kernel
theorem d_La_law_228 : decode code 228 = .ok (.invokestatic 68, 3) := by decide +kernel
theorem d_La_law_231 : decode code 231 = .ok (.istore 5, 2) := by decide +kernel
theorem d_La_law_233 : decode code 233 = .ok (.aload_n 2, 1) := by decide +kernel
theorem d_La_law_234 : decode code 234 = .ok (.aload_n 0, 1) := by decide +kernel
theorem d_La_law_235 : decode code 235 = .ok (.iload 4, 2) := by decide +kernel
theorem d_La_law_237 : decode code 237 = .ok (.iconst 1, 1) := by decide +kernel
theorem d_La_law_238 : decode code 238 = .ok (.iadd, 1) := by decide +kernel
theorem d_La_law_239 : decode code 239 = .ok (.iaload, 1) := by decide +kernel
theorem d_La_law_240 : decode code 240 = .ok (.invokevirtual 70, 3) := by decide +kernel
theorem d_La_law_243 : decode code 243 = .ok (.istore 6, 2) := by decide +kernel
theorem d_La_law_245 : decode code 245 = .ok (.goto 137, 3) := by decide +kernel
theorem d_La_law_248 : decode code 248 = .ok (.aload_n 1, 1) := by decide +kernel
theorem d_La_law_249 : decode code 249 = .ok (.aload_n 3, 1) := by decide +kernel
theorem d_La_law_250 : decode code 250 = .ok (.invokestatic 71, 3) := by decide +kernel
theorem d_La_law_253 : decode code 253 = .ok (.istore 5, 2) := by decide +kernel
theorem d_La_law_255 : decode code 255 = .ok (.aload_n 2, 1) := by decide +kernel
theorem d_La_law_256 : decode code 256 = .ok (.invokevirtual 73, 3) := by decide +kernel
theorem d_La_law_259 : decode code 259 = .ok (.istore 6, 2) := by decide +kernel
theorem d_La_law_261 : decode code 261 = .ok (.goto 121, 3) := by decide +kernel
theorem d_La_law_264 : decode code 264 = .ok (.aload_n 1, 1) := by decide +kernel
theorem d_La_law_265 : decode code 265 = .ok (.aload_n 0, 1) := by decide +kernel
theorem d_La_law_266 : decode code 266 = .ok (.iload 4, 2) := by decide +kernel
theorem d_La_law_268 : decode code 268 = .ok (.iconst 1, 1) := by decide +kernel
theorem d_La_law_269 : decode code 269 = .ok (.iadd, 1) := by decide +kernel
theorem d_La_law_270 : decode code 270 = .ok (.iaload, 1) := by decide +kernel
theorem d_La_law_271 : decode code 271 = .ok (.aload_n 3, 1) := by decide +kernel
theorem d_La_law_272 : decode code 272 = .ok (.invokestatic 74, 3) := by decide +kernel
theorem d_La_law_275 : decode code 275 = .ok (.istore 5, 2) := by decide +kernel
theorem d_La_law_277 : decode code 277 = .ok (.aload_n 2, 1) := by decide +kernel
theorem d_La_law_278 : decode code 278 = .ok (.aload_n 0, 1) := by decide +kernel
theorem d_La_law_279 : decode code 279 = .ok (.iload 4, 2) := by decide +kernel
theorem d_La_law_281 : decode code 281 = .ok (.iconst 1, 1) := by decide +kernel
theorem d_La_law_282 : decode code 282 = .ok (.iadd, 1) := by decide +kernel
theorem d_La_law_283 : decode code 283 = .ok (.iaload, 1) := by decide +kernel
theorem d_La_law_284 : decode code 284 = .ok (.invokevirtual 76, 3) := by decide +kernel
theorem d_La_law_287 : decode code 287 = .ok (.istore 6, 2) := by decide +kernel
theorem d_La_law_289 : decode code 289 = .ok (.goto 93, 3) := by decide +kernel
theorem d_La_law_292 : decode code 292 = .ok (.aload_n 1, 1) := by decide +kernel
theorem d_La_law_293 : decode code 293 = .ok (.aload_n 0, 1) := by decide +kernel
theorem d_La_law_294 : decode code 294 = .ok (.iload 4, 2) := by decide +kernel
theorem d_La_law_296 : decode code 296 = .ok (.iconst 1, 1) := by decide +kernel
theorem d_La_law_297 : decode code 297 = .ok (.iadd, 1) := by decide +kernel
theorem d_La_law_298 : decode code 298 = .ok (.iaload, 1) := by decide +kernel
theorem d_La_law_299 : decode code 299 = .ok (.aload_n 0, 1) := by decide +kernel
theorem d_La_law_300 : decode code 300 = .ok (.iload 4, 2) := by decide +kernel
theorem d_La_law_302 : decode code 302 = .ok (.iconst 2, 1) := by decide +kernel
theorem d_La_law_303 : decode code 303 = .ok (.iadd, 1) := by decide +kernel
theorem d_La_law_304 : decode code 304 = .ok (.iaload, 1) := by decide +kernel
theorem d_La_law_305 : decode code 305 = .ok (.invokestatic 77, 3) := by decide +kernel
theorem d_La_law_308 : decode code 308 = .ok (.istore 5, 2) := by decide +kernel
theorem d_La_law_310 : decode code 310 = .ok (.aload_n 2, 1) := by decide +kernel
theorem d_La_law_311 : decode code 311 = .ok (.aload_n 0, 1) := by decide +kernel
theorem d_La_law_312 : decode code 312 = .ok (.iload 4, 2) := by decide +kernel
theorem d_La_law_314 : decode code 314 = .ok (.iconst 1, 1) := by decide +kernel
theorem d_La_law_315 : decode code 315 = .ok (.iadd, 1) := by decide +kernel
theorem d_La_law_316 : decode code 316 = .ok (.iaload, 1) := by decide +kernel
theorem d_La_law_317 : decode code 317 = .ok (.aload_n 0, 1) := by decide +kernel
theorem d_La_law_318 : decode code 318 = .ok (.iload 4, 2) := by decide +kernel
theorem d_La_law_320 : decode code 320 = .ok (.iconst 2, 1) := by decide +kernel
theorem d_La_law_321 : decode code 321 = .ok (.iadd, 1) := by decide +kernel
theorem d_La_law_322 : decode code 322 = .ok (.iaload, 1) := by decide +kernel
theorem d_La_law_323 : decode code 323 = .ok (.invokevirtual 80, 3) := by decide +kernel
theorem d_La_law_326 : decode code 326 = .ok (.goto 56, 3) := by decide +kernel
theorem d_La_law_329 : decode code 329 = .ok (.aload_n 1, 1) := by decide +kernel
theorem d_La_law_330 : decode code 330 = .ok (.aload_n 0, 1) := by decide +kernel
theorem d_La_law_331 : decode code 331 = .ok (.iload 4, 2) := by decide +kernel
theorem d_La_law_333 : decode code 333 = .ok (.iconst 1, 1) := by decide +kernel
theorem d_La_law_334 : decode code 334 = .ok (.iadd, 1) := by decide +kernel
theorem d_La_law_335 : decode code 335 = .ok (.iaload, 1) := by decide +kernel
theorem d_La_law_336 : decode code 336 = .ok (.aload_n 3, 1) := by decide +kernel
theorem d_La_law_337 : decode code 337 = .ok (.invokestatic 81, 3) := by decide +kernel
theorem d_La_law_340 : decode code 340 = .ok (.istore 5, 2) := by decide +kernel
theorem d_La_law_342 : decode code 342 = .ok (.aload_n 2, 1) := by decide +kernel
theorem d_La_law_343 : decode code 343 = .ok (.aload_n 0, 1) := by decide +kernel
theorem d_La_law_344 : decode code 344 = .ok (.iload 4, 2) := by decide +kernel
theorem d_La_law_346 : decode code 346 = .ok (.iconst 1, 1) := by decide +kernel
theorem d_La_law_347 : decode code 347 = .ok (.iadd, 1) := by decide +kernel
theorem d_La_law_348 : decode code 348 = .ok (.iaload, 1) := by decide +kernel
theorem d_La_law_349 : decode code 349 = .ok (.invokevirtual 83, 3) := by decide +kernel
theorem d_La_law_352 : decode code 352 = .ok (.istore 6, 2) := by decide +kernel
theorem d_La_law_354 : decode code 354 = .ok (.goto 28, 3) := by decide +kernel
theorem d_La_law_357 : decode code 357 = .ok (.aload_n 1, 1) := by decide +kernel
theorem d_La_law_358 : decode code 358 = .ok (.aload_n 0, 1) := by decide +kernel
theorem d_La_law_359 : decode code 359 = .ok (.iload 4, 2) := by decide +kernel
theorem d_La_law_361 : decode code 361 = .ok (.iconst 1, 1) := by decide +kernel
theorem d_La_law_362 : decode code 362 = .ok (.iadd, 1) := by decide +kernel
theorem d_La_law_363 : decode code 363 = .ok (.iaload, 1) := by decide +kernel
theorem d_La_law_364 : decode code 364 = .ok (.invokevirtual 84, 3) := by decide +kernel
theorem d_La_law_367 : decode code 367 = .ok (.pop, 1) := by decide +kernel
theorem d_La_law_368 : decode code 368 = .ok (.aload_n 2, 1) := by decide +kernel
theorem d_La_law_369 : decode code 369 = .ok (.aload_n 0, 1) := by decide +kernel
theorem d_La_law_370 : decode code 370 = .ok (.iload 4, 2) := by decide +kernel
theorem d_La_law_372 : decode code 372 = .ok (.iconst 1, 1) := by decide +kernel
theorem d_La_law_373 : decode code 373 = .ok (.iadd, 1) := by decide +kernel
theorem d_La_law_374 : decode code 374 = .ok (.iaload, 1) := by decide +kernel
theorem d_La_law_375 : decode code 375 = .ok (.invokevirtual 87, 3) := by decide +kernel
theorem d_La_law_378 : decode code 378 = .ok (.pop, 1) := by decide +kernel
theorem d_La_law_379 : decode code 379 = .ok (.goto 3, 3) := by decide +kernel
theorem d_La_law_382 : decode code 382 = .ok (.iinc 4 3, 3) := by decide +kernel
theorem d_La_law_385 : decode code 385 = .ok (.goto (-362), 3) := by decide +kernel
theorem d_La_law_388 : decode code 388 = .ok (.iconst 1, 1) := by decide +kernel
theorem d_La_law_389 : decode code 389 = .ok (.ireturn, 1) := by decide +kernel
theorem y_freeW {B : Nat → Prop} {ws : va_W} {H0 H : Heap} {locs : List Loc} (hD : va_D B ws) (hS : va_S B H0 H locs) (hA : ∀ q, H0.size ≤ q → B q) : ∀ q, va_A ws H.size q → B q := fun q h9 => by
  rcases h9 with ⟨k, e, hk⟩ | h9
  · exact hD.2 k _ hk
  · exact hA q (Nat.le_trans hS.1 h9)
theorem y_cl7 : ∀ ci, ci < 7 → y_cl[ci]? = x_cl[ci]? := by
  intro ci h
  rcases (show ci = 0 ∨ ci = 1 ∨ ci = 2 ∨ ci = 3 ∨ ci = 4 ∨ ci = 5 ∨ ci = 6 by omega) with rfl | rfl | rfl | rfl | rfl | rfl | rfl <;> rfl
theorem y_trc {D : va_G} {ws : va_W} {H : Heap} (hc : ∀ q ∈ ws, ∀ o, q.2 = .inr o → o.1 < 7) : va_P D x_cl ws H ↔ va_P D y_cl ws H := by
  rw [y_P_iff, y_P_iff]
  have key : ∀ q ∈ ws, (va_at D x_cl q H ↔ va_at D y_cl q H) := fun q hq => by
    obtain ⟨a, e⟩ := q
    cases e with
    | inl x => exact Iff.rfl
    | inr o =>
      have := y_cl7 o.1 (hc _ hq o rfl)
      show (∃ r : vw_C, x_cl[o.1]? = some r ∧ _) ↔ (∃ r : vw_C, y_cl[o.1]? = some r ∧ _)
      rw [this]
  exact ⟨fun h q hq => (key q hq).mp (h q hq), fun h q hq => (key q hq).mpr (h q hq)⟩
theorem m_W7 {h : Nat} {ad : Nat → Nat} {ar : Nat → ClassId} {I : Nat → Int32} {T : Int64} {A : Nat → Nat → Int32} {U : Nat → Int64} : ∀ q ∈ m_W h ad ar I T A U, ∀ o, q.2 = .inr o → o.1 < 7 := fun q hq o ho => by
  unfold m_W at hq
  rcases List.mem_cons.mp hq with rfl | hq
  · cases ho; show (6 : Nat) < 7; decide
  · obtain ⟨x, _, rfl⟩ := List.mem_map.mp hq
    dsimp only at ho
    unfold m_c at ho
    split at ho <;> cases ho
theorem y_lc {L k : Nat} (hL : L ≤ 1536) (hk : k ≤ 600) : Int32.ofNat L - 3 < Int32.ofNat (3 * k) ↔ L < 3 * k + 3 := by
  rw [x_lt, Int32.toInt_sub, x_nI (by omega), x_nI (by omega)]
  have h3 : (3 : Int32).toInt = 3 := by decide
  rw [h3, Int.bmod_eq_of_le (by omega) (by omega)]
  omega
theorem x_d1 {v : Int32} (h : ¬ v < 0 ∧ v < 6) (h' : v < 0 ∨ 5 < v) : False := by
  rw [x_lt, x_lt] at h
  rw [x_lt, x_lt] at h'
  have h5 : (5 : Int32).toInt = 5 := by decide
  have h6 : (6 : Int32).toInt = 6 := by decide
  omega
theorem x_d2 {v : Int32} (h : v < 0 ∨ ¬ v < 6) (h' : ¬ v < 0 ∧ ¬ 5 < v) : False := by
  rw [x_lt, x_lt] at h
  rw [x_lt, x_lt] at h'
  have h5 : (5 : Int32).toInt = 5 := by decide
  have h6 : (6 : Int32).toInt = 6 := by decide
  omega
section XH
variable {p : Program} {l : Launch} {e : Env} {R : Room} {s : State} {m : MethodId} {args : Array Value} {below : List Frame} {meth : Method} {c : Code} {Q : State → Prop} {pc : Nat} {rest : List Value}
theorem x_whileH {α : Type} (cf sf : α → Nat) (Inv : Nat → α → Heap → List Loc → Array Slot → Prop)
    (step : ∀ n, (∀ n', n' < n → ∀ k H locs ls, Inv n' k H locs ls → W p l e R s m args below meth c H locs (cf k) (sf k) Q (F0 m pc ls rest)) → ∀ k H locs ls, Inv n k H locs ls → W p l e R s m args below meth c H locs (cf k) (sf k) Q (F0 m pc ls rest))
    {n : Nat} {k : α} {H : Heap} {locs : List Loc} {ls : Array Slot} (h0 : Inv n k H locs ls) : W p l e R s m args below meth c H locs (cf k) (sf k) Q (F0 m pc ls rest) := by
  have h : ∀ n, ∀ k H locs ls, Inv n k H locs ls → W p l e R s m args below meth c H locs (cf k) (sf k) Q (F0 m pc ls rest) := by
    intro n
    induction n using Nat.strongRecOn with
    | ind n ih => exact step n ih
  exact h n k H locs ls h0
end XH
theorem y_CO.up {z : Nat → Nat} {ar : Nat → ClassId} {I : Nat → Int32} {O : Nat → Option Nat} {f : Nat → Option va_E} {n : Nat × Nat × Nat × Nat} {K ln : Nat} (h : y_CO z ar I O f n K ln) : y_CO z ar I O f n (K + 1) ln := by
  obtain ⟨G, C, Gs, h1, h2⟩ := h
  exact ⟨G, C, Gs, h1, h2.nx rfl rfl (h2.k7 rfl rfl) ⟨by have := h2.2.2.2.1; omega, by have := h2.2.2.2.2.1; omega, by have := h2.2.2.2.2.2.1; omega, by have := h2.2.2.2.2.2.2; omega⟩⟩
theorem y_lcc (x : Int64) : lg_cmp x x = 0 := by
  unfold lg_cmp
  rw [if_neg (by rw [gt_iff_lt, Int64.lt_iff_toInt_lt]; omega), if_pos rfl]
theorem y_t1 {S H0 H1 c0 c1 X e : Nat} (h1 : H0 ≤ S + (60 + c0 / 5 + X)) (h2 : 5 * H1 + c0 ≤ 5 * H0 + c1 + 5 * e) : H1 ≤ S + (60 + c1 / 5 + X + (e + 1)) := by omega
theorem y_t2 {S H0 H1 c0 c1 X E : Nat} (h1 : H0 ≤ S + (6000 + 4 * c0 + X)) (h2 : H1 + 4 * c0 ≤ H0 + 4 * c1 + E) : H1 ≤ S + (6000 + 4 * c1 + X + E) := by omega
theorem y_r1 {K M cq cs : Nat} (h : K + M ≤ 511) (h1 : cq ≤ 2000 * K + 14) (h2 : cs ≤ 400 * K + 12) : 60 + (cq + cs) / 5 + (210 * K + 245 * M) + ((2000 * (K + 1) + 14 - cq + (400 * (K + 1) + 12 - cs)) / 5 + 8) ≤ 601024 ∧ 6000 + 4 * (cq + cs) + (920 * K + 7410 * M) + (4 * (2000 * (K + 1) + 14 - cq + (400 * (K + 1) + 12 - cs)) + 110) ≤ 7293033 := by
  constructor <;> omega
theorem y_r2 {K M cq cs : Nat} (h : K + M ≤ 511) (h1 : cq ≤ 2000 * K + 14) (h2 : cs ≤ 400 * K + 12) : 60 + (cq + cs) / 5 + (210 * K + 245 * M) + ((2000 * K + 14 - cq + (400 * K + 12 - cs)) / 5 + 240) ≤ 601024 ∧ 6000 + 4 * (cq + cs) + (920 * K + 7410 * M) + (4 * (2000 * K + 14 - cq + (400 * K + 12 - cs)) + 7500) ≤ 7293033 := by
  constructor <;> omega
theorem y_r3 {K M cq cs : Nat} (h : K + M ≤ 511) (h1 : cq ≤ 2000 * (K + 1) + 14) (h2 : cs ≤ 400 * (K + 1) + 12) : 60 + (cq + cs) / 5 + (210 * K + 245 * M) + (7 + 1) + 200 ≤ 601024 ∧ 6000 + 4 * (cq + cs) + (920 * K + 7410 * M) + 110 + 800 ≤ 7293033 := by
  constructor <;> omega
theorem y_r4 {K M cq cs : Nat} (h : K + M ≤ 511) (h1 : cq ≤ 2000 * K + 14) (h2 : cs ≤ 400 * K + 12) : 60 + (cq + cs) / 5 + (210 * K + 245 * M) + (240 + 1) + 200 ≤ 601024 ∧ 6000 + 4 * (cq + cs) + (920 * K + 7410 * M) + 7400 + 800 ≤ 7293033 := by
  constructor <;> omega
theorem y_r5 {K M c : Nat} : 60 + c / 5 + (210 * K + 245 * M) + (7 + 1) + 200 ≤ 60 + c / 5 + (210 * (K + 1) + 245 * M) ∧ 6000 + 4 * c + (920 * K + 7410 * M) + 110 + 800 ≤ 6000 + 4 * c + (920 * (K + 1) + 7410 * M) := by
  constructor <;> omega
theorem y_r6 {K M c : Nat} : 60 + c / 5 + (210 * K + 245 * M) + (240 + 1) ≤ 60 + c / 5 + (210 * K + 245 * (M + 1)) ∧ 6000 + 4 * c + (920 * K + 7410 * M) + 7400 ≤ 6000 + 4 * c + (920 * K + 7410 * (M + 1)) := by
  constructor <;> omega
def y_LI (D : va_G) (ar : Nat → ClassId) (z : Nat → Nat) (B : Nat → Prop) (b : Nat) (H0 : Heap) (n : Nat) (k : Nat × Nat × Nat) (H : Heap) (locs : List Loc) (ls : Array Slot) : Prop :=
  ∃ (mo : Nat) (adm : Nat → Nat) (Im : Nat → Int32) (Tm : Int64) (Am : Nat → Nat → Int32) (Um : Nat → Int64) (S ot : Nat) (fo : Nat → Int64) (ad : Nat → Nat) (I : Nat → Int32) (T : Int64) (A : Nat → Nat → Int32) (O : Nat → Option Nat) (pl : va_W) (qn sn cq cs : Nat),
    k.2.2 = cq + cs ∧ n = 512 - (k.1 + k.2.1) ∧ k.1 + k.2.1 ≤ 512 ∧ m_OK S Im Am ∧ y_CO z ar I O (y_L pl) (qn, sn, cq, cs) k.1 S ∧ va_P D y_cl (m_W mo adm ar Im Tm Am Um ++ ([(ot, .inl (ar 2, 1, .inr (.inl fo)))] ++ y_W ad ar I T A O pl)) H ∧ va_D B (m_W mo adm ar Im Tm Am Um ++ ([(ot, .inl (ar 2, 1, .inr (.inl fo)))] ++ y_W ad ar I T A O pl)) ∧ va_S B H0 H locs ∧ lv_has ls 7 [(0, .ref b), (1, .ref (ad 0)), (2, .ref mo), (3, .ref ot), (4, .int (Int32.ofNat (3 * (k.1 + k.2.1))))]
/-! THE CLAIM OUT OF ONE WALK OF THE LAW'S BODY. Your part is whole_start (and what it stands on); all else here is the same for every law, but numbers. -/
def R_law : String := "ChannelMachineLaw"
def lw_P (b : Addr) (xs : List Int32) (args : Array Value) (s : State) : Prop := args = #[.ref b] ∧ s.IntsAt b xs ∧ xs.length ≤ 1536 ∧ (Jvm.Cond.and given_1 narrow_1).before args s = true
def lw_Q (_ : Array Value) (s : State) (o : Outcome) (t : State) : Prop := o = .returned (some (.int 1)) ∧ Framed s o t [] 601024 7293033
def lw_Z (below : List Frame) (a : Array Value) (s : State) : State → Prop := fun t => ∃ o, t.status = .running ∧ Ended t below o ∧ lw_Q a s o t
/-- the law's own end, with 1 on the stack, nothing written that was there before, its room as the claim has it -/
theorem lw_ret {p : Program} {l : Launch} {e : Env} {s : State} {m : MethodId} {below : List Frame} {meth : Method} {c : Code} {b : Nat} (hx : p.tables.exec = Jvm.exec) (hb : c.code = code) (hr : meth.sig.returnType = ret) (hlocks : meth.locks = false) {pc : Nat} {H : Heap} {ls : Array Slot} (hdg : decode code pc = .ok (.ireturn, 1)) : W p l e room_1 s m #[Value.ref b] below meth c H [] 601024 7293033 (lw_Z below #[Value.ref b] s) (F0 m pc ls [.int 1]) := by
  intro T hT X
  obtain ⟨fs, hret, hrun, hended, hW, hframe⟩ := X.leave (v := some (.int 1)) (hlocks := hlocks) (fun h => by rw [hr] at h; cases h)
  have hmeth' : T.vm.method? m = some meth := X.method'
  refine ⟨T.setFrames fs, ?_, .returned (some (.int 1)), hrun, hended, rfl, ⟨_, rfl⟩, hW, hframe⟩
  jvm_step X.here [X.here.top, hx, hb, hdg, hmeth', hr, ret, narrow_b1]
  (try refine ⟨rfl, ?_⟩); (try refine ⟨rfl, ?_⟩)
  first | (intro acts; rw [hret _ acts rfl rfl rfl]) | rw [hret _ _ rfl rfl rfl]
  exact Steps.refl _
/-- what holds at the law's entry: the machine, the code, the tables' words (any of lw_tbl by 'hts w (by decide +kernel)'), the script of L ints xs at the cell b, what the Statement gives of the start (any of its parts by flat_of_before) -/
def lw_At (p : Program) (s : State) (m : MethodId) (meth : Method) (c : Code) (b L : Nat) (xs : Nat → Int32) : Prop :=
  p.tables.exec = Jvm.exec ∧ c.code = code ∧ meth.sig.returnType = ret ∧ c.maxLocals = 7 ∧ s.vm.findClass R_law = some m.cls ∧ (∀ w ∈ lw_tbl, w.before #[Value.ref b] s = true) ∧ va_X b L xs s s.heap ∧ b < s.heap.size ∧ meth.locks = false ∧ (Jvm.Cond.and given_1 narrow_1).before #[Value.ref b] s = true
set_option maxHeartbeats 40000000 in
set_option maxRecDepth 100000 in
theorem law_loop {p : Program} {e : Env} {s : State} {m : MethodId} {below : List Frame} {meth : Method} {c : Code} (l : Launch) (hst : l.stackTraces = false) {b L : Nat} {xs : Nat → Int32} (hL : L ≤ 1536) {dC : Nat → ClassId} {dI : Nat → Nat → Nat} {ar : Nat → ClassId} {z : Nat → Nat} {N0 : Nat} {Bq : Nat → Prop} (hx : p.tables.exec = Jvm.exec) (hb : c.code = code) (hr : meth.sig.returnType = ret) (hml : c.maxLocals = 7) (hown : s.vm.findClass "ChannelMachineLaw" = some m.cls) (hts : ∀ w ∈ x_T, w.before #[Value.ref b] s = true) (hX : va_X b L xs s s.heap) (hbl : b < s.heap.size) (hlocks : meth.locks = false) (hU : y_U (dC, dI) ar s) (hZ : y_Z N0 z s) (hNe : N0 = s.heap.size) (hN0 : N0 ≤ s.heap.size) (hA : ∀ q : Nat, s.heap.size ≤ q → Bq q) (hAN : ∀ q, Bq q → N0 ≤ q) (hbA : ¬ Bq b) {n : Nat} {k0 : Nat × Nat × Nat} {H : Heap} {locs : List Loc} {ls : Array Slot} (h0 : y_LI (dC, dI) ar z Bq b s.heap n k0 H locs ls) : W p l e room_1 s m #[Value.ref b] below meth c H locs (60 + k0.2.2 / 5 + (210 * k0.1 + 245 * k0.2.1)) (6000 + 4 * k0.2.2 + (920 * k0.1 + 7410 * k0.2.1)) (lw_Z below #[Value.ref b] s) (F0 m 23 ls []) := by
  refine x_whileH (k := k0) (fun k : Nat × Nat × Nat => 60 + k.2.2 / 5 + (210 * k.1 + 245 * k.2.1)) (fun k : Nat × Nat × Nat => 6000 + 4 * k.2.2 + (920 * k.1 + 7410 * k.2.1)) (y_LI (dC, dI) ar z Bq b s.heap) (fun n ih k H locs ls h9 => ?_) h0
  clear h0
  obtain ⟨K, M, cx⟩ := k
  obtain ⟨mo, adm, Im, Tm, Am, Um, S, ot, fo, ad, I, T, A, O, pl, qn, sn, cq, cs, hc9, hn9, hk9, hok, hco, hP, hD, hS, hl⟩ := h9
  dsimp only at hc9 hn9 hk9 hco hl
  refine W.cs (cells' := 60 + (cq + cs) / 5 + (210 * K + 245 * M)) (slots' := 6000 + 4 * (cq + cs) + (920 * K + 7410 * M)) (by subst hc9; rfl) (by subst hc9; rfl) ?_
  have hbc0 := y_CO.b hco
  refine lv_iload hx hb d_La_law_23 (lv_at hl 4 rfl) ?_
  refine lv_aload_n hx hb d_La_law_25 rfl (lv_at hl 0 rfl) ?_
  refine va_slen hx hb hX hbl hbA hS d_La_law_26 ?_
  refine lv_iconst (v := 3) hx hb d_La_law_27 (by decide) ?_
  refine lv_isub hx hb d_La_law_28 ?_
  refine lv_icmp_gt (tgt := 388) hx hb d_La_law_29 (by decide) (fun hgt => ?_) (fun hgt => ?_)
  · refine lv_iconst (v := 1) hx hb d_La_law_388 (by decide) ?_
    refine va_forget (fun q h => by rw [← hNe]; exact hAN _ (hS.2.2 q h)) ?_
    refine W.widen (k := 601024) (n := 7293033) (by omega) (by omega) ?_
    exact lw_ret hx hb hr hlocks d_La_law_389
  · have hk3 : 3 * (K + M) + 3 ≤ L := by rw [y_lc hL (by omega)] at hgt; omega
    refine lv_aload_n hx hb d_La_law_32 rfl (lv_at hl 0 rfl) ?_
    refine lv_iload hx hb d_La_law_33 (lv_at hl 4 rfl) ?_
    refine va_sld hx hb hX hbl hbA hS (i := (Int32.ofNat (3 * (K + M)))) (x_inN (show (3 * (K + M)) < L from by omega) (by omega)) d_La_law_35 ?_
    refine W.eq (g2 := F0 m 36 ls [.int (xs ((3 * (K + M))))]) (by rw [x_nat (a := (3 * (K + M))) (by omega)]) ?_
    refine lv_bipush (v := 15) hx hb d_La_law_36 (by decide) ?_
    refine lv_iand hx hb d_La_law_38 ?_
    refine lv_topi (fun sw _ => ?_)
    rcases x_9 sw with h9 | rfl | rfl | rfl | rfl | rfl | rfl | rfl | rfl | rfl
    · refine lv_tableOut (tgt := 382) hx hb d_La_law_39 h9 (by decide) ?_
      have hco := y_CO.up hco
      refine lv_iinc (v := (Int32.ofNat (3 * (K + M) + 3))) (lv' := [(4, .int (Int32.ofNat (3 * (K + M) + 3))), (0, .ref b), (1, .ref (ad 0)), (2, .ref mo), (3, .ref ot)]) hx hb d_La_law_382 hl (k := 4) rfl (x_addN (a := 3 * (K + M)) (b := 3)) (by decide) rfl (fun ls hl => ?_)
      refine lv_goto (tgt := 23) hx hb d_La_law_385 (by decide) ?_
      have e3 : 3 * (K + M) + 3 = 3 * (K + 1 + M) := by omega
      rw [e3] at hl
      refine W.widen (k := 60 + (cq + cs) / 5 + (210 * (K + 1) + 245 * M)) (n := 6000 + 4 * (cq + cs) + (920 * (K + 1) + 7410 * M)) (by omega) (by omega) ?_
      exact ih (512 - ((K + 1) + M)) (by omega) (K + 1, M, cq + cs) H locs ls ⟨mo, adm, Im, Tm, Am, Um, S, ot, fo, ad, I, T, A, O, pl, qn, sn, cq, cs, rfl, rfl, (by dsimp only; omega), hok, hco, hP, hD, hS, lv_sub hl [1, 2, 3, 4, 0] rfl⟩
    · refine lv_tableIn (tgt := 88) hx hb d_La_law_39 (by decide) (by decide) (off := 49) rfl (by decide) ?_
      refine lv_aload_n hx hb d_La_law_88 rfl (lv_at hl 1 rfl) ?_
      refine lv_aload_n hx hb d_La_law_89 rfl (lv_at hl 0 rfl) ?_
      refine lv_iload hx hb d_La_law_90 (lv_at hl 4 rfl) ?_
      refine lv_iconst (v := 1) hx hb d_La_law_92 (by decide) ?_
      refine lv_iadd hx hb d_La_law_93 ?_
      refine W.eq (g2 := F0 m 94 ls [.int (Int32.ofNat ((3 * (K + M)) + 1)), .ref b, .ref (ad 0)]) (by rw [← x_addN (a := (3 * (K + M))) (b := 1)] <;> rfl) ?_
      refine va_sld hx hb hX hbl hbA hS (i := (Int32.ofNat ((3 * (K + M)) + 1))) (x_inN (show ((3 * (K + M)) + 1) < L from by omega) (by omega)) d_La_law_94 ?_
      refine W.eq (g2 := F0 m 95 ls [.int (xs (((3 * (K + M)) + 1))), .ref (ad 0)]) (by rw [x_nat (a := ((3 * (K + M)) + 1)) (by omega)]) ?_
      refine lv_i2l (v := (Int32.toInt64 (xs (((3 * (K + M)) + 1))))) hx hb d_La_law_95 rfl ?_
      refine lv_bipush (v := 32) hx hb d_La_law_96 (by decide) ?_
      refine lv_lshl hx hb d_La_law_98 rfl ?_
      refine lv_aload_n hx hb d_La_law_99 rfl (lv_at hl 0 rfl) ?_
      refine lv_iload hx hb d_La_law_100 (lv_at hl 4 rfl) ?_
      refine lv_iconst (v := 2) hx hb d_La_law_102 (by decide) ?_
      refine lv_iadd hx hb d_La_law_103 ?_
      refine W.eq (g2 := F0 m 104 ls [.int (Int32.ofNat ((3 * (K + M)) + 2)), .ref b, .long ((Int32.toInt64 (xs (((3 * (K + M)) + 1)))) <<< (Int32.toInt64 32 &&& 63)), .ref (ad 0)]) (by rw [← x_addN (a := (3 * (K + M))) (b := 2)] <;> rfl) ?_
      refine va_sld hx hb hX hbl hbA hS (i := (Int32.ofNat ((3 * (K + M)) + 2))) (x_inN (show ((3 * (K + M)) + 2) < L from by omega) (by omega)) d_La_law_104 ?_
      refine W.eq (g2 := F0 m 105 ls [.int (xs (((3 * (K + M)) + 2))), .long ((Int32.toInt64 (xs (((3 * (K + M)) + 1)))) <<< (Int32.toInt64 32 &&& 63)), .ref (ad 0)]) (by rw [x_nat (a := ((3 * (K + M)) + 2)) (by omega)]) ?_
      refine lv_i2l (v := (Int32.toInt64 (xs (((3 * (K + M)) + 2))))) hx hb d_La_law_105 rfl ?_
      refine lv_ldc2 hx hb hown (hts _ k_1290) d_La_law_106 ?_
      refine lv_land hx hb d_La_law_109 ?_
      refine lv_lor hx hb d_La_law_110 ?_
      refine lv_aload_n hx hb d_La_law_111 rfl (lv_at hl 3 rfl) ?_
      obtain ⟨G, C, Gs, hmi, hci⟩ := hco
      have hbc := hci.2.2.2
      dsimp only at hbc
      have hPW := hP
      have hDW := hD
      have hPc : va_P (dC, dI) y_cl ([(ot, .inl (ar 2, 1, .inr (.inl fo)))] ++ y_W ad ar I T A O pl) H := (y_subP hPW).2
      have hDc : va_D Bq ([(ot, .inl (ar 2, 1, .inr (.inl fo)))] ++ y_W ad ar I T A O pl) := (y_subD hDW).2
      have hFc := y_freeW hDc hS hA
      refine y_know (fun hyk1 hyk2 hyk3 hyk4 => ?_)
      have hKM : K + M ≤ 511 := by omega
      have hrm := y_r1 hKM hbc.2.2.1 hbc.2.2.2
      refine va_calli (vx_runSW (As := [.ref (ad 0), .long (((Int32.toInt64 (xs (((3 * (K + M)) + 1)))) <<< (Int32.toInt64 32 &&& 63)) ||| ((Int32.toInt64 (xs (((3 * (K + M)) + 2)))) &&& 4294967295)), .ref ot]) (rest := []) ⟨hx, hb, hml, hown, hts⟩ (c_La_type l hst dC dI ar N0 z ad I T A O pl G C Gs qn sn cq cs K S ((((Int32.toInt64 (xs (((3 * (K + M)) + 1)))) <<< (Int32.toInt64 32 &&& 63)) ||| ((Int32.toInt64 (xs (((3 * (K + M)) + 2)))) &&& 4294967295))) ot fo H.size (y_hs H) hmi (by omega) hci) (vx_cwSW 3 hts (x_goodSW k_218 k_219 k_0 k_220) rfl rfl rfl (by decide +kernel) ⟨Nat.le_of_ble_eq_true rfl, Nat.le_of_ble_eq_true rfl⟩) ⟨y_blind, fun U9 hU9 hW9 => y_pre hU9 hW9 hPc hDc hU hZ hS hAN hN0⟩ rfl rfl hl.1 rfl (lv_room (Nat.le_of_ble_eq_true rfl)) d_La_law_112 ⟨hrm.1, hrm.2⟩) hS (fun q _ h => hFc q h) hFc (fun r1 u t H1 locs ht hvm hw hB hz1 hk1 hS => ?_)
      obtain ⟨⟨I1, T1, A1, O1, pl1, q1, s1, cq1, cs1⟩, fo1⟩ := u
      dsimp only at hw hB
      rw [ht] at hB
      obtain ⟨hP1, hD1, hac⟩ := hB
      obtain ⟨hP, hD⟩ := y_jnR hPW hDW hk1 hFc hP1 hD1
      unfold y_aE at hac
      try dsimp only at hac
      generalize H1 = H at hP hS hac ⊢
      have hP : va_P (dC, dI) y_cl (m_W mo adm ar Im Tm Am Um ++ ([(ot, .inl (ar 2, 1, .inr (.inl fo1)))] ++ y_W ad ar I1 T1 A1 O1 pl1)) H := hP
      have hD : va_D Bq (m_W mo adm ar Im Tm Am Um ++ ([(ot, .inl (ar 2, 1, .inr (.inl fo1)))] ++ y_W ad ar I1 T1 A1 O1 pl1)) := hD
      rcases hw with ⟨hok9, hfit, rfl, hf0, hco⟩ | ⟨hbad, rfl, hco⟩ | ⟨hok9, hfit, rfl, hco⟩
      · have hbc2 := y_CO.b hco
        refine y_know (fun hym1 hym2 hym3 hym4 => ?_)
        refine y_tight (k := 60 + (cq1 + cs1) / 5 + (210 * K + 245 * M) + (7 + 1)) (n := 6000 + 4 * (cq1 + cs1) + (920 * K + 7410 * M) + 110) (y_t1 (e := 7) hyk2 hac.2) (y_t2 hyk4 hac.1) ?_
        have hrm9 := y_r3 hKM hbc2.1 hbc2.2
        have hrm8 := y_r5 (K := K) (M := M) (c := cq1 + cs1)
        clear hyk1 hyk2 hyk3 hyk4 hac hrm hym1 hym2 hym3 hym4
        clear hPc hDc hFc hPW hDW hk1 hP1 hD1
        refine lv_istore (lv' := [(5, .int 0), (0, .ref b), (1, .ref (ad 0)), (2, .ref mo), (3, .ref ot), (4, .int (Int32.ofNat (3 * (K + M))))]) hx hb d_La_law_115 hl (by decide) rfl (fun ls hl => ?_)
        refine lv_aload_n hx hb d_La_law_117 rfl (lv_at hl 3 rfl) ?_
        refine lv_aload_n hx hb d_La_law_118 rfl (lv_at hl 1 rfl) ?_
        refine lv_iload hx hb d_La_law_119 (lv_at hl 5 rfl) ?_
        refine lv_iconst (v := 1) hx hb d_La_law_121 (by decide) ?_
        refine lv_iadd hx hb d_La_law_122 ?_
        refine W.eq (g2 := F0 m 123 ls [.int (Int32.ofNat ((3 * (K + M)) + 1)), .ref b, .ref mo]) (by rw [← x_addN (a := (3 * (K + M))) (b := 1)] <;> rfl) ?_
        refine va_sld hx hb hX hbl hbA hS (i := (Int32.ofNat ((3 * (K + M)) + 1))) (x_inN (show ((3 * (K + M)) + 1) < L from by omega) (by omega)) d_La_law_123 ?_
        refine W.eq (g2 := F0 m 124 ls [.int (xs (((3 * (K + M)) + 1))), .ref mo]) (by rw [x_nat (a := ((3 * (K + M)) + 1)) (by omega)]) ?_
        refine lv_i2l (v := (Int32.toInt64 (xs (((3 * (K + M)) + 1))))) hx hb d_La_law_124 rfl ?_
        refine lv_bipush (v := 32) hx hb d_La_law_125 (by decide) ?_
        refine lv_lshl hx hb d_La_law_127 rfl ?_
        refine lv_aload_n hx hb d_La_law_128 rfl (lv_at hl 1 rfl) ?_
        refine lv_iload hx hb d_La_law_129 (lv_at hl 5 rfl) ?_
        refine lv_iconst (v := 2) hx hb d_La_law_131 (by decide) ?_
        refine lv_iadd hx hb d_La_law_132 ?_
        refine W.eq (g2 := F0 m 133 ls [.int (Int32.ofNat ((3 * (K + M)) + 2)), .ref b, .long ((Int32.toInt64 (xs (((3 * (K + M)) + 1)))) <<< (Int32.toInt64 32 &&& 63)), .ref mo]) (by rw [← x_addN (a := (3 * (K + M))) (b := 2)] <;> rfl) ?_
        refine va_sld hx hb hX hbl hbA hS (i := (Int32.ofNat ((3 * (K + M)) + 2))) (x_inN (show ((3 * (K + M)) + 2) < L from by omega) (by omega)) d_La_law_133 ?_
        refine W.eq (g2 := F0 m 134 ls [.int (xs (((3 * (K + M)) + 2))), .long ((Int32.toInt64 (xs (((3 * (K + M)) + 1)))) <<< (Int32.toInt64 32 &&& 63)), .ref mo]) (by rw [x_nat (a := ((3 * (K + M)) + 2)) (by omega)]) ?_
        refine lv_i2l (v := (Int32.toInt64 (xs (((3 * (K + M)) + 2))))) hx hb d_La_law_134 rfl ?_
        refine lv_ldc2 hx hb hown (hts _ k_1290) d_La_law_135 ?_
        refine lv_land hx hb d_La_law_138 ?_
        refine lv_lor hx hb d_La_law_139 ?_
        have hPW := hP
        have hDW := hD
        have hPm : va_P (dC, dI) x_cl (m_W mo adm ar Im Tm Am Um) H := (y_trc m_W7).mpr (y_subP hPW).1
        have hDm : va_D Bq (m_W mo adm ar Im Tm Am Um) := (y_subD hDW).1
        have hFm := m_free hDm hS hA
        refine va_calli (va_runV (As := [.long (((Int32.toInt64 (xs (((3 * (K + M)) + 1)))) <<< (Int32.toInt64 32 &&& 63)) ||| ((Int32.toInt64 (xs (((3 * (K + M)) + 2)))) &&& 4294967295))]) (rest := []) ⟨hx, hb, hml, hown, hts⟩ (m_type l dC dI ar N0 z mo adm Im Tm Am Um S ((((Int32.toInt64 (xs (((3 * (K + M)) + 1)))) <<< (Int32.toInt64 32 &&& 63)) ||| ((Int32.toInt64 (xs (((3 * (K + M)) + 2)))) &&& 4294967295))) H.size hok) (cwV 1 hts (x_goodV k_1109 k_1110 k_1111 k_9 k_1112) rfl rfl rfl (by decide +kernel) ⟨Nat.le_of_ble_eq_true rfl, Nat.le_of_ble_eq_true rfl⟩) ⟨x_blind, va_recv hU.1.1 hPm (ci := 6) (q0 := 0) rfl rfl, fun U9 hU9 hW9 => x_pre hU9 hW9 hPm hDm hU.1 hZ.1 hS hAN hN0⟩ rfl rfl hl.1 rfl (lv_room (Nat.le_of_ble_eq_true rfl)) d_La_law_140 ⟨Nat.le_trans (Nat.le_add_right _ _) hrm9.1, Nat.le_trans (Nat.le_add_right _ _) hrm9.2⟩) hS (fun q _ h => hFm q h) hFm (fun r2 u t H1 locs ht hvm hw hB hz1 hk1 hS => ?_)
        obtain ⟨Im2, Tm2, Am2, Um2⟩ := u
        dsimp only at hw hB
        rw [ht] at hB
        obtain ⟨hP, hD⟩ := y_jnL hPW hDW hk1 hFm ((y_trc m_W7).mp hB) (m_D (hDm.self (sz := H.size)))
        generalize H1 = H at hP hS ⊢
        have hP : va_P (dC, dI) y_cl (m_W mo adm ar Im2 Tm2 Am2 Um2 ++ ([(ot, .inl (ar 2, 1, .inr (.inl fo1)))] ++ y_W ad ar I1 T1 A1 O1 pl1)) H := hP
        have hD : va_D Bq (m_W mo adm ar Im2 Tm2 Am2 Um2 ++ ([(ot, .inl (ar 2, 1, .inr (.inl fo1)))] ++ y_W ad ar I1 T1 A1 O1 pl1)) := hD
        clear hPm hDm hFm hPW hDW hk1 hB
        refine W.cs (cells' := 60 + (cq1 + cs1) / 5 + (210 * K + 245 * M) + (7 + 1)) (slots' := 6000 + 4 * (cq1 + cs1) + (920 * K + 7410 * M) + 110) rfl rfl ?_
        rcases hw with ⟨h1m, h2m, rfl, h33, hok⟩ | ⟨h1m, h33, hok⟩ | ⟨h1m, h2m, h33, hok⟩
        · refine lv_istore (lv' := [(6, .int (Int32.ofNat (S + x_cN ((((Int32.toInt64 (xs (((3 * (K + M)) + 1)))) <<< (Int32.toInt64 32 &&& 63)) ||| ((Int32.toInt64 (xs (((3 * (K + M)) + 2)))) &&& 4294967295))) 8))), (5, .int 0), (0, .ref b), (1, .ref (ad 0)), (2, .ref mo), (3, .ref ot), (4, .int (Int32.ofNat (3 * (K + M))))]) hx hb d_La_law_143 hl (by decide) rfl (fun ls hl => ?_)
          refine lv_aload_n hx hb d_La_law_145 rfl (lv_at hl 4 rfl) ?_
          have hPW := hP
          have hDW := hD
          have hPm : va_P (dC, dI) x_cl (m_W mo adm ar Im2 Tm2 Am2 Um2) H := (y_trc m_W7).mpr (y_subP hPW).1
          have hDm : va_D Bq (m_W mo adm ar Im2 Tm2 Am2 Um2) := (y_subD hDW).1
          have hFm := m_free hDm hS hA
          refine va_calli (va_runV (As := []) (rest := []) ⟨hx, hb, hml, hown, hts⟩ (m_thrown l dC dI ar N0 z mo adm Im2 Tm2 Am2 Um2  H.size) (cwV 0 hts (x_goodV k_1105 k_1106 k_1107 k_9 k_1108) rfl rfl rfl (by decide +kernel) ⟨Nat.le_of_ble_eq_true rfl, Nat.le_of_ble_eq_true rfl⟩) ⟨x_blind, va_recv hU.1.1 hPm (ci := 6) (q0 := 0) rfl rfl, fun U9 hU9 hW9 => x_pre hU9 hW9 hPm hDm hU.1 hZ.1 hS hAN hN0⟩ rfl rfl hl.1 rfl (lv_room (Nat.le_of_ble_eq_true rfl)) d_La_law_146 ⟨Nat.le_trans (Nat.le_add_right _ _) hrm9.1, Nat.le_trans (Nat.le_add_right _ _) hrm9.2⟩) hS (fun q _ h => hFm q h) hFm (fun r3 u t H1 locs ht hvm hw hB hz1 hk1 hS => ?_)
          obtain ⟨Im3, Tm3, Am3, Um3⟩ := u
          dsimp only at hw hB
          rw [ht] at hB
          obtain ⟨hP, hD⟩ := y_jnL hPW hDW hk1 hFm ((y_trc m_W7).mp hB) (m_D (hDm.self (sz := H.size)))
          generalize H1 = H at hP hS ⊢
          have hP : va_P (dC, dI) y_cl (m_W mo adm ar Im3 Tm3 Am3 Um3 ++ ([(ot, .inl (ar 2, 1, .inr (.inl fo1)))] ++ y_W ad ar I1 T1 A1 O1 pl1)) H := hP
          have hD : va_D Bq (m_W mo adm ar Im3 Tm3 Am3 Um3 ++ ([(ot, .inl (ar 2, 1, .inr (.inl fo1)))] ++ y_W ad ar I1 T1 A1 O1 pl1)) := hD
          clear hPm hDm hFm hPW hDW hk1 hB
          refine W.cs (cells' := 60 + (cq1 + cs1) / 5 + (210 * K + 245 * M) + (7 + 1)) (slots' := 6000 + 4 * (cq1 + cs1) + (920 * K + 7410 * M) + 110) rfl rfl ?_
          obtain ⟨rfl, hu9⟩ := hw
          cases hu9
          refine W.eq (g2 := F0 m 149 ls [.int 0]) (by rw [h33]) ?_
          have hP : va_P (dC, dI) y_cl (m_W mo adm ar Im2 Tm2 Am2 Um2 ++ ([(ot, .inl (ar 2, 1, .inr (.inl fo1)))] ++ y_W ad ar I1 T1 A1 O1 pl1)) H := hP
          have hD : va_D Bq (m_W mo adm ar Im2 Tm2 Am2 Um2 ++ ([(ot, .inl (ar 2, 1, .inr (.inl fo1)))] ++ y_W ad ar I1 T1 A1 O1 pl1)) := hD
          refine lv_iload hx hb d_La_law_149 (lv_at hl 1 rfl) ?_
          refine lv_icmp_eq (tgt := 156) hx hb d_La_law_151 (by decide) (fun _ => ?_) (fun c4 => absurd (by decide) c4)
          refine lv_iload hx hb d_La_law_156 (lv_at hl 1 rfl) ?_
          refine lv_if_ne (tgt := 173) hx hb d_La_law_158 (by decide) (fun c5 => absurd rfl c5) (fun _ => ?_)
          refine lv_aload_n hx hb d_La_law_161 rfl (lv_at hl 5 rfl) ?_
          refine lv_iconst (v := 0) hx hb d_La_law_162 (by decide) ?_
          refine va_lald hx hb hU.2.1 hP 29 2 (a := ot) (cA := ar 2) (n := 1) (f := fo1) rfl rfl (i := 0) (by unfold vp_in; decide) d_La_law_163 ?_
          refine W.eq (g2 := F0 m 164 ls [.long (Int32.toInt64 (Int32.ofNat (S + x_cN ((((Int32.toInt64 (xs (((3 * (K + M)) + 1)))) <<< (Int32.toInt64 32 &&& 63)) ||| ((Int32.toInt64 (xs (((3 * (K + M)) + 2)))) &&& 4294967295))) 8)))]) (by rw [show Int32.toNatClampNeg (0 : Int32) = 0 from by decide, hf0]) ?_
          refine lv_iload hx hb d_La_law_164 (lv_at hl 0 rfl) ?_
          refine lv_i2l (v := (Int32.toInt64 (Int32.ofNat (S + x_cN ((((Int32.toInt64 (xs (((3 * (K + M)) + 1)))) <<< (Int32.toInt64 32 &&& 63)) ||| ((Int32.toInt64 (xs (((3 * (K + M)) + 2)))) &&& 4294967295))) 8)))) hx hb d_La_law_166 rfl ?_
          refine W.lcmp hx hb d_La_law_167 ?_
          refine W.eq (g2 := F0 m 168 ls [.int 0]) (by rw [y_lcc]) ?_
          refine lv_if_eq (tgt := 173) hx hb d_La_law_168 (by decide) (fun _ => ?_) (fun c6 => absurd (by decide) c6)
          refine lv_goto (tgt := 382) hx hb d_La_law_173 (by decide) ?_
          refine lv_iinc (v := (Int32.ofNat (3 * (K + M) + 3))) (lv' := [(4, .int (Int32.ofNat (3 * (K + M) + 3))), (6, .int (Int32.ofNat (S + x_cN ((((Int32.toInt64 (xs (((3 * (K + M)) + 1)))) <<< (Int32.toInt64 32 &&& 63)) ||| ((Int32.toInt64 (xs (((3 * (K + M)) + 2)))) &&& 4294967295))) 8))), (5, .int 0), (0, .ref b), (1, .ref (ad 0)), (2, .ref mo), (3, .ref ot)]) hx hb d_La_law_382 hl (k := 6) rfl (x_addN (a := 3 * (K + M)) (b := 3)) (by decide) rfl (fun ls hl => ?_)
          refine lv_goto (tgt := 23) hx hb d_La_law_385 (by decide) ?_
          have e3 : 3 * (K + M) + 3 = 3 * (K + 1 + M) := by omega
          rw [e3] at hl
          refine W.widen (k := 60 + (cq1 + cs1) / 5 + (210 * (K + 1) + 245 * M)) (n := 6000 + 4 * (cq1 + cs1) + (920 * (K + 1) + 7410 * M)) (Nat.le_trans (Nat.le_add_right _ 200) hrm8.1) (Nat.le_trans (Nat.le_add_right _ 800) hrm8.2) ?_
          exact ih (512 - ((K + 1) + M)) (by omega) (K + 1, M, cq1 + cs1) H locs ls ⟨mo, adm, Im2, Tm2, Am2, Um2, (S + x_cN ((((Int32.toInt64 (xs (((3 * (K + M)) + 1)))) <<< (Int32.toInt64 32 &&& 63)) ||| ((Int32.toInt64 (xs (((3 * (K + M)) + 2)))) &&& 4294967295))) 8), ot, fo1, ad, I1, T1, A1, O1, pl1, q1, s1, cq1, cs1, rfl, rfl, (by dsimp only; omega), hok, hco, hP, hD, hS, lv_sub hl [3, 4, 5, 6, 0] rfl⟩
        · exact absurd hok9 h1m
        · exact absurd hfit (Nat.not_le.mpr h2m)
      · have hbc2 := y_CO.b hco
        refine y_know (fun hym1 hym2 hym3 hym4 => ?_)
        refine y_tight (k := 60 + (cq1 + cs1) / 5 + (210 * K + 245 * M) + (7 + 1)) (n := 6000 + 4 * (cq1 + cs1) + (920 * K + 7410 * M) + 110) (y_t1 (e := 7) hyk2 hac.2) (y_t2 hyk4 hac.1) ?_
        have hrm9 := y_r3 hKM hbc2.1 hbc2.2
        have hrm8 := y_r5 (K := K) (M := M) (c := cq1 + cs1)
        clear hyk1 hyk2 hyk3 hyk4 hac hrm hym1 hym2 hym3 hym4
        clear hPc hDc hFc hPW hDW hk1 hP1 hD1
        refine lv_istore (lv' := [(5, .int 1), (0, .ref b), (1, .ref (ad 0)), (2, .ref mo), (3, .ref ot), (4, .int (Int32.ofNat (3 * (K + M))))]) hx hb d_La_law_115 hl (by decide) rfl (fun ls hl => ?_)
        refine lv_aload_n hx hb d_La_law_117 rfl (lv_at hl 3 rfl) ?_
        refine lv_aload_n hx hb d_La_law_118 rfl (lv_at hl 1 rfl) ?_
        refine lv_iload hx hb d_La_law_119 (lv_at hl 5 rfl) ?_
        refine lv_iconst (v := 1) hx hb d_La_law_121 (by decide) ?_
        refine lv_iadd hx hb d_La_law_122 ?_
        refine W.eq (g2 := F0 m 123 ls [.int (Int32.ofNat ((3 * (K + M)) + 1)), .ref b, .ref mo]) (by rw [← x_addN (a := (3 * (K + M))) (b := 1)] <;> rfl) ?_
        refine va_sld hx hb hX hbl hbA hS (i := (Int32.ofNat ((3 * (K + M)) + 1))) (x_inN (show ((3 * (K + M)) + 1) < L from by omega) (by omega)) d_La_law_123 ?_
        refine W.eq (g2 := F0 m 124 ls [.int (xs (((3 * (K + M)) + 1))), .ref mo]) (by rw [x_nat (a := ((3 * (K + M)) + 1)) (by omega)]) ?_
        refine lv_i2l (v := (Int32.toInt64 (xs (((3 * (K + M)) + 1))))) hx hb d_La_law_124 rfl ?_
        refine lv_bipush (v := 32) hx hb d_La_law_125 (by decide) ?_
        refine lv_lshl hx hb d_La_law_127 rfl ?_
        refine lv_aload_n hx hb d_La_law_128 rfl (lv_at hl 1 rfl) ?_
        refine lv_iload hx hb d_La_law_129 (lv_at hl 5 rfl) ?_
        refine lv_iconst (v := 2) hx hb d_La_law_131 (by decide) ?_
        refine lv_iadd hx hb d_La_law_132 ?_
        refine W.eq (g2 := F0 m 133 ls [.int (Int32.ofNat ((3 * (K + M)) + 2)), .ref b, .long ((Int32.toInt64 (xs (((3 * (K + M)) + 1)))) <<< (Int32.toInt64 32 &&& 63)), .ref mo]) (by rw [← x_addN (a := (3 * (K + M))) (b := 2)] <;> rfl) ?_
        refine va_sld hx hb hX hbl hbA hS (i := (Int32.ofNat ((3 * (K + M)) + 2))) (x_inN (show ((3 * (K + M)) + 2) < L from by omega) (by omega)) d_La_law_133 ?_
        refine W.eq (g2 := F0 m 134 ls [.int (xs (((3 * (K + M)) + 2))), .long ((Int32.toInt64 (xs (((3 * (K + M)) + 1)))) <<< (Int32.toInt64 32 &&& 63)), .ref mo]) (by rw [x_nat (a := ((3 * (K + M)) + 2)) (by omega)]) ?_
        refine lv_i2l (v := (Int32.toInt64 (xs (((3 * (K + M)) + 2))))) hx hb d_La_law_134 rfl ?_
        refine lv_ldc2 hx hb hown (hts _ k_1290) d_La_law_135 ?_
        refine lv_land hx hb d_La_law_138 ?_
        refine lv_lor hx hb d_La_law_139 ?_
        have hPW := hP
        have hDW := hD
        have hPm : va_P (dC, dI) x_cl (m_W mo adm ar Im Tm Am Um) H := (y_trc m_W7).mpr (y_subP hPW).1
        have hDm : va_D Bq (m_W mo adm ar Im Tm Am Um) := (y_subD hDW).1
        have hFm := m_free hDm hS hA
        refine va_calli (va_runV (As := [.long (((Int32.toInt64 (xs (((3 * (K + M)) + 1)))) <<< (Int32.toInt64 32 &&& 63)) ||| ((Int32.toInt64 (xs (((3 * (K + M)) + 2)))) &&& 4294967295))]) (rest := []) ⟨hx, hb, hml, hown, hts⟩ (m_type l dC dI ar N0 z mo adm Im Tm Am Um S ((((Int32.toInt64 (xs (((3 * (K + M)) + 1)))) <<< (Int32.toInt64 32 &&& 63)) ||| ((Int32.toInt64 (xs (((3 * (K + M)) + 2)))) &&& 4294967295))) H.size hok) (cwV 1 hts (x_goodV k_1109 k_1110 k_1111 k_9 k_1112) rfl rfl rfl (by decide +kernel) ⟨Nat.le_of_ble_eq_true rfl, Nat.le_of_ble_eq_true rfl⟩) ⟨x_blind, va_recv hU.1.1 hPm (ci := 6) (q0 := 0) rfl rfl, fun U9 hU9 hW9 => x_pre hU9 hW9 hPm hDm hU.1 hZ.1 hS hAN hN0⟩ rfl rfl hl.1 rfl (lv_room (Nat.le_of_ble_eq_true rfl)) d_La_law_140 ⟨Nat.le_trans (Nat.le_add_right _ _) hrm9.1, Nat.le_trans (Nat.le_add_right _ _) hrm9.2⟩) hS (fun q _ h => hFm q h) hFm (fun r7 u t H1 locs ht hvm hw hB hz1 hk1 hS => ?_)
        obtain ⟨Im7, Tm7, Am7, Um7⟩ := u
        dsimp only at hw hB
        rw [ht] at hB
        obtain ⟨hP, hD⟩ := y_jnL hPW hDW hk1 hFm ((y_trc m_W7).mp hB) (m_D (hDm.self (sz := H.size)))
        generalize H1 = H at hP hS ⊢
        have hP : va_P (dC, dI) y_cl (m_W mo adm ar Im7 Tm7 Am7 Um7 ++ ([(ot, .inl (ar 2, 1, .inr (.inl fo1)))] ++ y_W ad ar I1 T1 A1 O1 pl1)) H := hP
        have hD : va_D Bq (m_W mo adm ar Im7 Tm7 Am7 Um7 ++ ([(ot, .inl (ar 2, 1, .inr (.inl fo1)))] ++ y_W ad ar I1 T1 A1 O1 pl1)) := hD
        clear hPm hDm hFm hPW hDW hk1 hB
        refine W.cs (cells' := 60 + (cq1 + cs1) / 5 + (210 * K + 245 * M) + (7 + 1)) (slots' := 6000 + 4 * (cq1 + cs1) + (920 * K + 7410 * M) + 110) rfl rfl ?_
        rcases hw with ⟨h1m, h2m, rfl, h33, hok⟩ | ⟨h1m, h33, hok⟩ | ⟨h1m, h2m, h33, hok⟩
        · exact absurd h1m hbad
        · refine lv_istore (lv' := [(6, .int r7), (5, .int 1), (0, .ref b), (1, .ref (ad 0)), (2, .ref mo), (3, .ref ot), (4, .int (Int32.ofNat (3 * (K + M))))]) hx hb d_La_law_143 hl (by decide) rfl (fun ls hl => ?_)
          refine lv_aload_n hx hb d_La_law_145 rfl (lv_at hl 4 rfl) ?_
          have hPW := hP
          have hDW := hD
          have hPm : va_P (dC, dI) x_cl (m_W mo adm ar Im7 Tm7 Am7 Um7) H := (y_trc m_W7).mpr (y_subP hPW).1
          have hDm : va_D Bq (m_W mo adm ar Im7 Tm7 Am7 Um7) := (y_subD hDW).1
          have hFm := m_free hDm hS hA
          refine va_calli (va_runV (As := []) (rest := []) ⟨hx, hb, hml, hown, hts⟩ (m_thrown l dC dI ar N0 z mo adm Im7 Tm7 Am7 Um7  H.size) (cwV 0 hts (x_goodV k_1105 k_1106 k_1107 k_9 k_1108) rfl rfl rfl (by decide +kernel) ⟨Nat.le_of_ble_eq_true rfl, Nat.le_of_ble_eq_true rfl⟩) ⟨x_blind, va_recv hU.1.1 hPm (ci := 6) (q0 := 0) rfl rfl, fun U9 hU9 hW9 => x_pre hU9 hW9 hPm hDm hU.1 hZ.1 hS hAN hN0⟩ rfl rfl hl.1 rfl (lv_room (Nat.le_of_ble_eq_true rfl)) d_La_law_146 ⟨Nat.le_trans (Nat.le_add_right _ _) hrm9.1, Nat.le_trans (Nat.le_add_right _ _) hrm9.2⟩) hS (fun q _ h => hFm q h) hFm (fun r8 u t H1 locs ht hvm hw hB hz1 hk1 hS => ?_)
          obtain ⟨Im8, Tm8, Am8, Um8⟩ := u
          dsimp only at hw hB
          rw [ht] at hB
          obtain ⟨hP, hD⟩ := y_jnL hPW hDW hk1 hFm ((y_trc m_W7).mp hB) (m_D (hDm.self (sz := H.size)))
          generalize H1 = H at hP hS ⊢
          have hP : va_P (dC, dI) y_cl (m_W mo adm ar Im8 Tm8 Am8 Um8 ++ ([(ot, .inl (ar 2, 1, .inr (.inl fo1)))] ++ y_W ad ar I1 T1 A1 O1 pl1)) H := hP
          have hD : va_D Bq (m_W mo adm ar Im8 Tm8 Am8 Um8 ++ ([(ot, .inl (ar 2, 1, .inr (.inl fo1)))] ++ y_W ad ar I1 T1 A1 O1 pl1)) := hD
          clear hPm hDm hFm hPW hDW hk1 hB
          refine W.cs (cells' := 60 + (cq1 + cs1) / 5 + (210 * K + 245 * M) + (7 + 1)) (slots' := 6000 + 4 * (cq1 + cs1) + (920 * K + 7410 * M) + 110) rfl rfl ?_
          obtain ⟨rfl, hu9⟩ := hw
          cases hu9
          refine W.eq (g2 := F0 m 149 ls [.int 1]) (by rw [h33]) ?_
          have hP : va_P (dC, dI) y_cl (m_W mo adm ar Im7 Tm7 Am7 Um7 ++ ([(ot, .inl (ar 2, 1, .inr (.inl fo1)))] ++ y_W ad ar I1 T1 A1 O1 pl1)) H := hP
          have hD : va_D Bq (m_W mo adm ar Im7 Tm7 Am7 Um7 ++ ([(ot, .inl (ar 2, 1, .inr (.inl fo1)))] ++ y_W ad ar I1 T1 A1 O1 pl1)) := hD
          refine lv_iload hx hb d_La_law_149 (lv_at hl 1 rfl) ?_
          refine lv_icmp_eq (tgt := 156) hx hb d_La_law_151 (by decide) (fun _ => ?_) (fun c9 => absurd (by decide) c9)
          refine lv_iload hx hb d_La_law_156 (lv_at hl 1 rfl) ?_
          refine lv_if_ne (tgt := 173) hx hb d_La_law_158 (by decide) (fun _ => ?_) (fun c10 => absurd c10 (by decide))
          refine lv_goto (tgt := 382) hx hb d_La_law_173 (by decide) ?_
          refine lv_iinc (v := (Int32.ofNat (3 * (K + M) + 3))) (lv' := [(4, .int (Int32.ofNat (3 * (K + M) + 3))), (6, .int r7), (5, .int 1), (0, .ref b), (1, .ref (ad 0)), (2, .ref mo), (3, .ref ot)]) hx hb d_La_law_382 hl (k := 6) rfl (x_addN (a := 3 * (K + M)) (b := 3)) (by decide) rfl (fun ls hl => ?_)
          refine lv_goto (tgt := 23) hx hb d_La_law_385 (by decide) ?_
          have e3 : 3 * (K + M) + 3 = 3 * (K + 1 + M) := by omega
          rw [e3] at hl
          refine W.widen (k := 60 + (cq1 + cs1) / 5 + (210 * (K + 1) + 245 * M)) (n := 6000 + 4 * (cq1 + cs1) + (920 * (K + 1) + 7410 * M)) (Nat.le_trans (Nat.le_add_right _ 200) hrm8.1) (Nat.le_trans (Nat.le_add_right _ 800) hrm8.2) ?_
          exact ih (512 - ((K + 1) + M)) (by omega) (K + 1, M, cq1 + cs1) H locs ls ⟨mo, adm, Im7, Tm7, Am7, Um7, S, ot, fo1, ad, I1, T1, A1, O1, pl1, q1, s1, cq1, cs1, rfl, rfl, (by dsimp only; omega), hok, hco, hP, hD, hS, lv_sub hl [3, 4, 5, 6, 0] rfl⟩
        · exact absurd h1m hbad
      · have hbc2 := y_CO.b hco
        refine y_know (fun hym1 hym2 hym3 hym4 => ?_)
        refine y_tight (k := 60 + (cq1 + cs1) / 5 + (210 * K + 245 * M) + (7 + 1)) (n := 6000 + 4 * (cq1 + cs1) + (920 * K + 7410 * M) + 110) (y_t1 (e := 7) hyk2 hac.2) (y_t2 hyk4 hac.1) ?_
        have hrm9 := y_r3 hKM hbc2.1 hbc2.2
        have hrm8 := y_r5 (K := K) (M := M) (c := cq1 + cs1)
        clear hyk1 hyk2 hyk3 hyk4 hac hrm hym1 hym2 hym3 hym4
        clear hPc hDc hFc hPW hDW hk1 hP1 hD1
        refine lv_istore (lv' := [(5, .int 2), (0, .ref b), (1, .ref (ad 0)), (2, .ref mo), (3, .ref ot), (4, .int (Int32.ofNat (3 * (K + M))))]) hx hb d_La_law_115 hl (by decide) rfl (fun ls hl => ?_)
        refine lv_aload_n hx hb d_La_law_117 rfl (lv_at hl 3 rfl) ?_
        refine lv_aload_n hx hb d_La_law_118 rfl (lv_at hl 1 rfl) ?_
        refine lv_iload hx hb d_La_law_119 (lv_at hl 5 rfl) ?_
        refine lv_iconst (v := 1) hx hb d_La_law_121 (by decide) ?_
        refine lv_iadd hx hb d_La_law_122 ?_
        refine W.eq (g2 := F0 m 123 ls [.int (Int32.ofNat ((3 * (K + M)) + 1)), .ref b, .ref mo]) (by rw [← x_addN (a := (3 * (K + M))) (b := 1)] <;> rfl) ?_
        refine va_sld hx hb hX hbl hbA hS (i := (Int32.ofNat ((3 * (K + M)) + 1))) (x_inN (show ((3 * (K + M)) + 1) < L from by omega) (by omega)) d_La_law_123 ?_
        refine W.eq (g2 := F0 m 124 ls [.int (xs (((3 * (K + M)) + 1))), .ref mo]) (by rw [x_nat (a := ((3 * (K + M)) + 1)) (by omega)]) ?_
        refine lv_i2l (v := (Int32.toInt64 (xs (((3 * (K + M)) + 1))))) hx hb d_La_law_124 rfl ?_
        refine lv_bipush (v := 32) hx hb d_La_law_125 (by decide) ?_
        refine lv_lshl hx hb d_La_law_127 rfl ?_
        refine lv_aload_n hx hb d_La_law_128 rfl (lv_at hl 1 rfl) ?_
        refine lv_iload hx hb d_La_law_129 (lv_at hl 5 rfl) ?_
        refine lv_iconst (v := 2) hx hb d_La_law_131 (by decide) ?_
        refine lv_iadd hx hb d_La_law_132 ?_
        refine W.eq (g2 := F0 m 133 ls [.int (Int32.ofNat ((3 * (K + M)) + 2)), .ref b, .long ((Int32.toInt64 (xs (((3 * (K + M)) + 1)))) <<< (Int32.toInt64 32 &&& 63)), .ref mo]) (by rw [← x_addN (a := (3 * (K + M))) (b := 2)] <;> rfl) ?_
        refine va_sld hx hb hX hbl hbA hS (i := (Int32.ofNat ((3 * (K + M)) + 2))) (x_inN (show ((3 * (K + M)) + 2) < L from by omega) (by omega)) d_La_law_133 ?_
        refine W.eq (g2 := F0 m 134 ls [.int (xs (((3 * (K + M)) + 2))), .long ((Int32.toInt64 (xs (((3 * (K + M)) + 1)))) <<< (Int32.toInt64 32 &&& 63)), .ref mo]) (by rw [x_nat (a := ((3 * (K + M)) + 2)) (by omega)]) ?_
        refine lv_i2l (v := (Int32.toInt64 (xs (((3 * (K + M)) + 2))))) hx hb d_La_law_134 rfl ?_
        refine lv_ldc2 hx hb hown (hts _ k_1290) d_La_law_135 ?_
        refine lv_land hx hb d_La_law_138 ?_
        refine lv_lor hx hb d_La_law_139 ?_
        have hPW := hP
        have hDW := hD
        have hPm : va_P (dC, dI) x_cl (m_W mo adm ar Im Tm Am Um) H := (y_trc m_W7).mpr (y_subP hPW).1
        have hDm : va_D Bq (m_W mo adm ar Im Tm Am Um) := (y_subD hDW).1
        have hFm := m_free hDm hS hA
        refine va_calli (va_runV (As := [.long (((Int32.toInt64 (xs (((3 * (K + M)) + 1)))) <<< (Int32.toInt64 32 &&& 63)) ||| ((Int32.toInt64 (xs (((3 * (K + M)) + 2)))) &&& 4294967295))]) (rest := []) ⟨hx, hb, hml, hown, hts⟩ (m_type l dC dI ar N0 z mo adm Im Tm Am Um S ((((Int32.toInt64 (xs (((3 * (K + M)) + 1)))) <<< (Int32.toInt64 32 &&& 63)) ||| ((Int32.toInt64 (xs (((3 * (K + M)) + 2)))) &&& 4294967295))) H.size hok) (cwV 1 hts (x_goodV k_1109 k_1110 k_1111 k_9 k_1112) rfl rfl rfl (by decide +kernel) ⟨Nat.le_of_ble_eq_true rfl, Nat.le_of_ble_eq_true rfl⟩) ⟨x_blind, va_recv hU.1.1 hPm (ci := 6) (q0 := 0) rfl rfl, fun U9 hU9 hW9 => x_pre hU9 hW9 hPm hDm hU.1 hZ.1 hS hAN hN0⟩ rfl rfl hl.1 rfl (lv_room (Nat.le_of_ble_eq_true rfl)) d_La_law_140 ⟨Nat.le_trans (Nat.le_add_right _ _) hrm9.1, Nat.le_trans (Nat.le_add_right _ _) hrm9.2⟩) hS (fun q _ h => hFm q h) hFm (fun r11 u t H1 locs ht hvm hw hB hz1 hk1 hS => ?_)
        obtain ⟨Im11, Tm11, Am11, Um11⟩ := u
        dsimp only at hw hB
        rw [ht] at hB
        obtain ⟨hP, hD⟩ := y_jnL hPW hDW hk1 hFm ((y_trc m_W7).mp hB) (m_D (hDm.self (sz := H.size)))
        generalize H1 = H at hP hS ⊢
        have hP : va_P (dC, dI) y_cl (m_W mo adm ar Im11 Tm11 Am11 Um11 ++ ([(ot, .inl (ar 2, 1, .inr (.inl fo1)))] ++ y_W ad ar I1 T1 A1 O1 pl1)) H := hP
        have hD : va_D Bq (m_W mo adm ar Im11 Tm11 Am11 Um11 ++ ([(ot, .inl (ar 2, 1, .inr (.inl fo1)))] ++ y_W ad ar I1 T1 A1 O1 pl1)) := hD
        clear hPm hDm hFm hPW hDW hk1 hB
        refine W.cs (cells' := 60 + (cq1 + cs1) / 5 + (210 * K + 245 * M) + (7 + 1)) (slots' := 6000 + 4 * (cq1 + cs1) + (920 * K + 7410 * M) + 110) rfl rfl ?_
        rcases hw with ⟨h1m, h2m, rfl, h33, hok⟩ | ⟨h1m, h33, hok⟩ | ⟨h1m, h2m, h33, hok⟩
        · exact absurd hfit (Nat.not_lt.mpr h2m)
        · exact absurd hok9 h1m
        · refine lv_istore (lv' := [(6, .int r11), (5, .int 2), (0, .ref b), (1, .ref (ad 0)), (2, .ref mo), (3, .ref ot), (4, .int (Int32.ofNat (3 * (K + M))))]) hx hb d_La_law_143 hl (by decide) rfl (fun ls hl => ?_)
          refine lv_aload_n hx hb d_La_law_145 rfl (lv_at hl 4 rfl) ?_
          have hPW := hP
          have hDW := hD
          have hPm : va_P (dC, dI) x_cl (m_W mo adm ar Im11 Tm11 Am11 Um11) H := (y_trc m_W7).mpr (y_subP hPW).1
          have hDm : va_D Bq (m_W mo adm ar Im11 Tm11 Am11 Um11) := (y_subD hDW).1
          have hFm := m_free hDm hS hA
          refine va_calli (va_runV (As := []) (rest := []) ⟨hx, hb, hml, hown, hts⟩ (m_thrown l dC dI ar N0 z mo adm Im11 Tm11 Am11 Um11  H.size) (cwV 0 hts (x_goodV k_1105 k_1106 k_1107 k_9 k_1108) rfl rfl rfl (by decide +kernel) ⟨Nat.le_of_ble_eq_true rfl, Nat.le_of_ble_eq_true rfl⟩) ⟨x_blind, va_recv hU.1.1 hPm (ci := 6) (q0 := 0) rfl rfl, fun U9 hU9 hW9 => x_pre hU9 hW9 hPm hDm hU.1 hZ.1 hS hAN hN0⟩ rfl rfl hl.1 rfl (lv_room (Nat.le_of_ble_eq_true rfl)) d_La_law_146 ⟨Nat.le_trans (Nat.le_add_right _ _) hrm9.1, Nat.le_trans (Nat.le_add_right _ _) hrm9.2⟩) hS (fun q _ h => hFm q h) hFm (fun r12 u t H1 locs ht hvm hw hB hz1 hk1 hS => ?_)
          obtain ⟨Im12, Tm12, Am12, Um12⟩ := u
          dsimp only at hw hB
          rw [ht] at hB
          obtain ⟨hP, hD⟩ := y_jnL hPW hDW hk1 hFm ((y_trc m_W7).mp hB) (m_D (hDm.self (sz := H.size)))
          generalize H1 = H at hP hS ⊢
          have hP : va_P (dC, dI) y_cl (m_W mo adm ar Im12 Tm12 Am12 Um12 ++ ([(ot, .inl (ar 2, 1, .inr (.inl fo1)))] ++ y_W ad ar I1 T1 A1 O1 pl1)) H := hP
          have hD : va_D Bq (m_W mo adm ar Im12 Tm12 Am12 Um12 ++ ([(ot, .inl (ar 2, 1, .inr (.inl fo1)))] ++ y_W ad ar I1 T1 A1 O1 pl1)) := hD
          clear hPm hDm hFm hPW hDW hk1 hB
          refine W.cs (cells' := 60 + (cq1 + cs1) / 5 + (210 * K + 245 * M) + (7 + 1)) (slots' := 6000 + 4 * (cq1 + cs1) + (920 * K + 7410 * M) + 110) rfl rfl ?_
          obtain ⟨rfl, hu9⟩ := hw
          cases hu9
          refine W.eq (g2 := F0 m 149 ls [.int 2]) (by rw [h33]) ?_
          have hP : va_P (dC, dI) y_cl (m_W mo adm ar Im11 Tm11 Am11 Um11 ++ ([(ot, .inl (ar 2, 1, .inr (.inl fo1)))] ++ y_W ad ar I1 T1 A1 O1 pl1)) H := hP
          have hD : va_D Bq (m_W mo adm ar Im11 Tm11 Am11 Um11 ++ ([(ot, .inl (ar 2, 1, .inr (.inl fo1)))] ++ y_W ad ar I1 T1 A1 O1 pl1)) := hD
          refine lv_iload hx hb d_La_law_149 (lv_at hl 1 rfl) ?_
          refine lv_icmp_eq (tgt := 156) hx hb d_La_law_151 (by decide) (fun _ => ?_) (fun c13 => absurd (by decide) c13)
          refine lv_iload hx hb d_La_law_156 (lv_at hl 1 rfl) ?_
          refine lv_if_ne (tgt := 173) hx hb d_La_law_158 (by decide) (fun _ => ?_) (fun c14 => absurd c14 (by decide))
          refine lv_goto (tgt := 382) hx hb d_La_law_173 (by decide) ?_
          refine lv_iinc (v := (Int32.ofNat (3 * (K + M) + 3))) (lv' := [(4, .int (Int32.ofNat (3 * (K + M) + 3))), (6, .int r11), (5, .int 2), (0, .ref b), (1, .ref (ad 0)), (2, .ref mo), (3, .ref ot)]) hx hb d_La_law_382 hl (k := 6) rfl (x_addN (a := 3 * (K + M)) (b := 3)) (by decide) rfl (fun ls hl => ?_)
          refine lv_goto (tgt := 23) hx hb d_La_law_385 (by decide) ?_
          have e3 : 3 * (K + M) + 3 = 3 * (K + 1 + M) := by omega
          rw [e3] at hl
          refine W.widen (k := 60 + (cq1 + cs1) / 5 + (210 * (K + 1) + 245 * M)) (n := 6000 + 4 * (cq1 + cs1) + (920 * (K + 1) + 7410 * M)) (Nat.le_trans (Nat.le_add_right _ 200) hrm8.1) (Nat.le_trans (Nat.le_add_right _ 800) hrm8.2) ?_
          exact ih (512 - ((K + 1) + M)) (by omega) (K + 1, M, cq1 + cs1) H locs ls ⟨mo, adm, Im11, Tm11, Am11, Um11, S, ot, fo1, ad, I1, T1, A1, O1, pl1, q1, s1, cq1, cs1, rfl, rfl, (by dsimp only; omega), hok, hco, hP, hD, hS, lv_sub hl [3, 4, 5, 6, 0] rfl⟩
    · refine lv_tableIn (tgt := 176) hx hb d_La_law_39 (by decide) (by decide) (off := 137) rfl (by decide) ?_
      refine lv_aload_n hx hb d_La_law_176 rfl (lv_at hl 1 rfl) ?_
      refine lv_aload_n hx hb d_La_law_177 rfl (lv_at hl 3 rfl) ?_
      obtain ⟨G, C, Gs, hmi, hci⟩ := hco
      have hbc := hci.2.2.2
      dsimp only at hbc
      have hPW := hP
      have hDW := hD
      have hPc : va_P (dC, dI) y_cl ([(ot, .inl (ar 2, 1, .inr (.inl fo)))] ++ y_W ad ar I T A O pl) H := (y_subP hPW).2
      have hDc : va_D Bq ([(ot, .inl (ar 2, 1, .inr (.inl fo)))] ++ y_W ad ar I T A O pl) := (y_subD hDW).2
      have hFc := y_freeW hDc hS hA
      refine y_know (fun hyk1 hyk2 hyk3 hyk4 => ?_)
      have hKM : K + M ≤ 511 := by omega
      have hrm := y_r2 hKM hbc.2.2.1 hbc.2.2.2
      refine va_calli (vx_runSW (As := [.ref (ad 0), .ref ot]) (rest := []) ⟨hx, hb, hml, hown, hts⟩ (c_La_load l hst dC dI ar N0 z ad I T A O pl G C Gs qn sn cq cs K S  ot fo H.size (y_hs H) hmi (by omega) hci) (vx_cwSW 2 hts (x_goodSW k_319 k_320 k_0 k_321) rfl rfl rfl (by decide +kernel) ⟨Nat.le_of_ble_eq_true rfl, Nat.le_of_ble_eq_true rfl⟩) ⟨y_blind, fun U9 hU9 hW9 => y_pre hU9 hW9 hPc hDc hU hZ hS hAN hN0⟩ rfl rfl hl.1 rfl (lv_room (Nat.le_of_ble_eq_true rfl)) d_La_law_178 ⟨hrm.1, hrm.2⟩) hS (fun q _ h => hFc q h) hFc (fun r15 u t H1 locs ht hvm hw hB hz1 hk1 hS => ?_)
      obtain ⟨⟨I15, T15, A15, O15, pl15, q15, s15, cq15, cs15⟩, fo15⟩ := u
      dsimp only at hw hB
      rw [ht] at hB
      obtain ⟨hP1, hD1, hac⟩ := hB
      obtain ⟨hP, hD⟩ := y_jnR hPW hDW hk1 hFc hP1 hD1
      unfold y_aE at hac
      try dsimp only at hac
      generalize H1 = H at hP hS hac ⊢
      have hP : va_P (dC, dI) y_cl (m_W mo adm ar Im Tm Am Um ++ ([(ot, .inl (ar 2, 1, .inr (.inl fo15)))] ++ y_W ad ar I15 T15 A15 O15 pl15)) H := hP
      have hD : va_D Bq (m_W mo adm ar Im Tm Am Um ++ ([(ot, .inl (ar 2, 1, .inr (.inl fo15)))] ++ y_W ad ar I15 T15 A15 O15 pl15)) := hD
      have hco := hw
      have hbc2 := y_CO.b hco
      refine y_know (fun hym1 hym2 hym3 hym4 => ?_)
      refine y_tight (k := 60 + (cq15 + cs15) / 5 + (210 * K + 245 * M) + (240 + 1)) (n := 6000 + 4 * (cq15 + cs15) + (920 * K + 7410 * M) + 7400) (y_t1 (e := 240) hyk2 hac.2) (y_t2 hyk4 hac.1) ?_
      have hrm9 := y_r4 hKM hbc2.1 hbc2.2
      have hrm8 := y_r6 (K := K) (M := M) (c := cq15 + cs15)
      clear hyk1 hyk2 hyk3 hyk4 hac hrm hym1 hym2 hym3 hym4
      clear hPc hDc hFc hPW hDW hk1 hP1 hD1
      refine lv_istore (lv' := [(5, .int r15), (0, .ref b), (1, .ref (ad 0)), (2, .ref mo), (3, .ref ot), (4, .int (Int32.ofNat (3 * (K + M))))]) hx hb d_La_law_181 hl (by decide) rfl (fun ls hl => ?_)
      refine lv_aload_n hx hb d_La_law_183 rfl (lv_at hl 3 rfl) ?_
      have hPW := hP
      have hDW := hD
      have hPm : va_P (dC, dI) x_cl (m_W mo adm ar Im Tm Am Um) H := (y_trc m_W7).mpr (y_subP hPW).1
      have hDm : va_D Bq (m_W mo adm ar Im Tm Am Um) := (y_subD hDW).1
      have hFm := m_free hDm hS hA
      refine va_calli (va_runV (As := []) (rest := []) ⟨hx, hb, hml, hown, hts⟩ (m_load l dC dI ar N0 z mo adm Im Tm Am Um S H.size hok) (cwV 0 hts (x_goodV k_1124 k_1125 k_1126 k_9 k_1127) rfl rfl rfl (by decide +kernel) ⟨Nat.le_of_ble_eq_true rfl, Nat.le_of_ble_eq_true rfl⟩) ⟨x_blind, va_recv hU.1.1 hPm (ci := 6) (q0 := 0) rfl rfl, fun U9 hU9 hW9 => x_pre hU9 hW9 hPm hDm hU.1 hZ.1 hS hAN hN0⟩ rfl rfl hl.1 rfl (lv_room (Nat.le_of_ble_eq_true rfl)) d_La_law_184 ⟨Nat.le_trans (Nat.le_add_right _ _) hrm9.1, Nat.le_trans (Nat.le_add_right _ _) hrm9.2⟩) hS (fun q _ h => hFm q h) hFm (fun r16 u t H1 locs ht hvm hw hB hz1 hk1 hS => ?_)
      obtain ⟨Im16, Tm16, Am16, Um16⟩ := u
      dsimp only at hw hB
      rw [ht] at hB
      obtain ⟨hP, hD⟩ := y_jnL hPW hDW hk1 hFm ((y_trc m_W7).mp hB) (m_D (hDm.self (sz := H.size)))
      generalize H1 = H at hP hS ⊢
      have hP : va_P (dC, dI) y_cl (m_W mo adm ar Im16 Tm16 Am16 Um16 ++ ([(ot, .inl (ar 2, 1, .inr (.inl fo15)))] ++ y_W ad ar I15 T15 A15 O15 pl15)) H := hP
      have hD : va_D Bq (m_W mo adm ar Im16 Tm16 Am16 Um16 ++ ([(ot, .inl (ar 2, 1, .inr (.inl fo15)))] ++ y_W ad ar I15 T15 A15 O15 pl15)) := hD
      clear hPm hDm hFm hPW hDW hk1 hB
      refine W.cs (cells' := 60 + (cq15 + cs15) / 5 + (210 * K + 245 * M) + (240 + 1)) (slots' := 6000 + 4 * (cq15 + cs15) + (920 * K + 7410 * M) + 7400) rfl rfl ?_
      have hok := hw
      refine lv_istore (lv' := [(6, .int r16), (5, .int r15), (0, .ref b), (1, .ref (ad 0)), (2, .ref mo), (3, .ref ot), (4, .int (Int32.ofNat (3 * (K + M))))]) hx hb d_La_law_187 hl (by decide) rfl (fun ls hl => ?_)
      refine lv_goto (tgt := 382) hx hb d_La_law_189 (by decide) ?_
      refine lv_iinc (v := (Int32.ofNat (3 * (K + M) + 3))) (lv' := [(4, .int (Int32.ofNat (3 * (K + M) + 3))), (6, .int r16), (5, .int r15), (0, .ref b), (1, .ref (ad 0)), (2, .ref mo), (3, .ref ot)]) hx hb d_La_law_382 hl (k := 6) rfl (x_addN (a := 3 * (K + M)) (b := 3)) (by decide) rfl (fun ls hl => ?_)
      refine lv_goto (tgt := 23) hx hb d_La_law_385 (by decide) ?_
      have e3 : 3 * (K + M) + 3 = 3 * (K + (M + 1)) := by omega
      rw [e3] at hl
      refine W.widen (k := 60 + (cq15 + cs15) / 5 + (210 * K + 245 * (M + 1))) (n := 6000 + 4 * (cq15 + cs15) + (920 * K + 7410 * (M + 1))) hrm8.1 hrm8.2 ?_
      exact ih (512 - (K + (M + 1))) (by omega) (K, M + 1, cq15 + cs15) H locs ls ⟨mo, adm, Im16, Tm16, Am16, Um16, 0, ot, fo15, ad, I15, T15, A15, O15, pl15, q15, s15, cq15, cs15, rfl, rfl, (by dsimp only; omega), hok, hco, hP, hD, hS, lv_sub hl [3, 4, 5, 6, 0] rfl⟩
    · refine lv_tableIn (tgt := 192) hx hb d_La_law_39 (by decide) (by decide) (off := 153) rfl (by decide) ?_
      refine lv_aload_n hx hb d_La_law_192 rfl (lv_at hl 1 rfl) ?_
      refine lv_aload_n hx hb d_La_law_193 rfl (lv_at hl 0 rfl) ?_
      refine lv_iload hx hb d_La_law_194 (lv_at hl 4 rfl) ?_
      refine lv_iconst (v := 1) hx hb d_La_law_196 (by decide) ?_
      refine lv_iadd hx hb d_La_law_197 ?_
      refine W.eq (g2 := F0 m 198 ls [.int (Int32.ofNat ((3 * (K + M)) + 1)), .ref b, .ref (ad 0)]) (by rw [← x_addN (a := (3 * (K + M))) (b := 1)] <;> rfl) ?_
      refine va_sld hx hb hX hbl hbA hS (i := (Int32.ofNat ((3 * (K + M)) + 1))) (x_inN (show ((3 * (K + M)) + 1) < L from by omega) (by omega)) d_La_law_198 ?_
      refine W.eq (g2 := F0 m 199 ls [.int (xs (((3 * (K + M)) + 1))), .ref (ad 0)]) (by rw [x_nat (a := ((3 * (K + M)) + 1)) (by omega)]) ?_
      refine lv_aload_n hx hb d_La_law_199 rfl (lv_at hl 3 rfl) ?_
      obtain ⟨G, C, Gs, hmi, hci⟩ := hco
      have hbc := hci.2.2.2
      dsimp only at hbc
      have hPW := hP
      have hDW := hD
      have hPc : va_P (dC, dI) y_cl ([(ot, .inl (ar 2, 1, .inr (.inl fo)))] ++ y_W ad ar I T A O pl) H := (y_subP hPW).2
      have hDc : va_D Bq ([(ot, .inl (ar 2, 1, .inr (.inl fo)))] ++ y_W ad ar I T A O pl) := (y_subD hDW).2
      have hFc := y_freeW hDc hS hA
      refine y_know (fun hyk1 hyk2 hyk3 hyk4 => ?_)
      have hKM : K + M ≤ 511 := by omega
      have hrm := y_r1 hKM hbc.2.2.1 hbc.2.2.2
      refine va_calli (vx_runSW (As := [.ref (ad 0), .int (xs (((3 * (K + M)) + 1))), .ref ot]) (rest := []) ⟨hx, hb, hml, hown, hts⟩ (c_La_run l hst dC dI ar N0 z ad I T A O pl G C Gs qn sn cq cs K S ((xs (((3 * (K + M)) + 1)))) ot fo H.size (y_hs H) hmi (by omega) hci) (vx_cwSW 3 hts (x_goodSW k_707 k_708 k_0 k_709) rfl rfl rfl (by decide +kernel) ⟨Nat.le_of_ble_eq_true rfl, Nat.le_of_ble_eq_true rfl⟩) ⟨y_blind, fun U9 hU9 hW9 => y_pre hU9 hW9 hPc hDc hU hZ hS hAN hN0⟩ rfl rfl hl.1 rfl (lv_room (Nat.le_of_ble_eq_true rfl)) d_La_law_200 ⟨hrm.1, hrm.2⟩) hS (fun q _ h => hFc q h) hFc (fun r17 u t H1 locs ht hvm hw hB hz1 hk1 hS => ?_)
      obtain ⟨⟨I17, T17, A17, O17, pl17, q17, s17, cq17, cs17⟩, fo17⟩ := u
      dsimp only at hw hB
      rw [ht] at hB
      obtain ⟨hP1, hD1, hac⟩ := hB
      obtain ⟨hP, hD⟩ := y_jnR hPW hDW hk1 hFc hP1 hD1
      unfold y_aE at hac
      try dsimp only at hac
      generalize H1 = H at hP hS hac ⊢
      have hP : va_P (dC, dI) y_cl (m_W mo adm ar Im Tm Am Um ++ ([(ot, .inl (ar 2, 1, .inr (.inl fo17)))] ++ y_W ad ar I17 T17 A17 O17 pl17)) H := hP
      have hD : va_D Bq (m_W mo adm ar Im Tm Am Um ++ ([(ot, .inl (ar 2, 1, .inr (.inl fo17)))] ++ y_W ad ar I17 T17 A17 O17 pl17)) := hD
      have hco := hw
      have hbc2 := y_CO.b hco
      refine y_know (fun hym1 hym2 hym3 hym4 => ?_)
      refine y_tight (k := 60 + (cq17 + cs17) / 5 + (210 * K + 245 * M) + (7 + 1)) (n := 6000 + 4 * (cq17 + cs17) + (920 * K + 7410 * M) + 110) (y_t1 (e := 7) hyk2 hac.2) (y_t2 hyk4 hac.1) ?_
      have hrm9 := y_r3 hKM hbc2.1 hbc2.2
      have hrm8 := y_r5 (K := K) (M := M) (c := cq17 + cs17)
      clear hyk1 hyk2 hyk3 hyk4 hac hrm hym1 hym2 hym3 hym4
      clear hPc hDc hFc hPW hDW hk1 hP1 hD1
      refine lv_istore (lv' := [(5, .int r17), (0, .ref b), (1, .ref (ad 0)), (2, .ref mo), (3, .ref ot), (4, .int (Int32.ofNat (3 * (K + M))))]) hx hb d_La_law_203 hl (by decide) rfl (fun ls hl => ?_)
      refine lv_aload_n hx hb d_La_law_205 rfl (lv_at hl 3 rfl) ?_
      refine lv_aload_n hx hb d_La_law_206 rfl (lv_at hl 1 rfl) ?_
      refine lv_iload hx hb d_La_law_207 (lv_at hl 5 rfl) ?_
      refine lv_iconst (v := 1) hx hb d_La_law_209 (by decide) ?_
      refine lv_iadd hx hb d_La_law_210 ?_
      refine W.eq (g2 := F0 m 211 ls [.int (Int32.ofNat ((3 * (K + M)) + 1)), .ref b, .ref mo]) (by rw [← x_addN (a := (3 * (K + M))) (b := 1)] <;> rfl) ?_
      refine va_sld hx hb hX hbl hbA hS (i := (Int32.ofNat ((3 * (K + M)) + 1))) (x_inN (show ((3 * (K + M)) + 1) < L from by omega) (by omega)) d_La_law_211 ?_
      refine W.eq (g2 := F0 m 212 ls [.int (xs (((3 * (K + M)) + 1))), .ref mo]) (by rw [x_nat (a := ((3 * (K + M)) + 1)) (by omega)]) ?_
      have hPW := hP
      have hDW := hD
      have hPm : va_P (dC, dI) x_cl (m_W mo adm ar Im Tm Am Um) H := (y_trc m_W7).mpr (y_subP hPW).1
      have hDm : va_D Bq (m_W mo adm ar Im Tm Am Um) := (y_subD hDW).1
      have hFm := m_free hDm hS hA
      refine va_calli (va_runV (As := [.int (xs (((3 * (K + M)) + 1)))]) (rest := []) ⟨hx, hb, hml, hown, hts⟩ (m_run l dC dI ar N0 z mo adm Im Tm Am Um S ((xs (((3 * (K + M)) + 1)))) H.size hok) (cwV 1 hts (x_goodV k_1198 k_1199 k_1200 k_9 k_1201) rfl rfl rfl (by decide +kernel) ⟨Nat.le_of_ble_eq_true rfl, Nat.le_of_ble_eq_true rfl⟩) ⟨x_blind, va_recv hU.1.1 hPm (ci := 6) (q0 := 0) rfl rfl, fun U9 hU9 hW9 => x_pre hU9 hW9 hPm hDm hU.1 hZ.1 hS hAN hN0⟩ rfl rfl hl.1 rfl (lv_room (Nat.le_of_ble_eq_true rfl)) d_La_law_212 ⟨hrm9.1, hrm9.2⟩) hS (fun q _ h => hFm q h) hFm (fun r18 u t H1 locs ht hvm hw hB hz1 hk1 hS => ?_)
      obtain ⟨Im18, Tm18, Am18, Um18⟩ := u
      dsimp only at hw hB
      rw [ht] at hB
      obtain ⟨hP, hD⟩ := y_jnL hPW hDW hk1 hFm ((y_trc m_W7).mp hB) (m_D (hDm.self (sz := H.size)))
      generalize H1 = H at hP hS ⊢
      have hP : va_P (dC, dI) y_cl (m_W mo adm ar Im18 Tm18 Am18 Um18 ++ ([(ot, .inl (ar 2, 1, .inr (.inl fo17)))] ++ y_W ad ar I17 T17 A17 O17 pl17)) H := hP
      have hD : va_D Bq (m_W mo adm ar Im18 Tm18 Am18 Um18 ++ ([(ot, .inl (ar 2, 1, .inr (.inl fo17)))] ++ y_W ad ar I17 T17 A17 O17 pl17)) := hD
      clear hPm hDm hFm hPW hDW hk1 hB
      have hok := hw
      refine lv_istore (lv' := [(6, .int r18), (5, .int r17), (0, .ref b), (1, .ref (ad 0)), (2, .ref mo), (3, .ref ot), (4, .int (Int32.ofNat (3 * (K + M))))]) hx hb d_La_law_215 hl (by decide) rfl (fun ls hl => ?_)
      refine lv_goto (tgt := 382) hx hb d_La_law_217 (by decide) ?_
      refine lv_iinc (v := (Int32.ofNat (3 * (K + M) + 3))) (lv' := [(4, .int (Int32.ofNat (3 * (K + M) + 3))), (6, .int r18), (5, .int r17), (0, .ref b), (1, .ref (ad 0)), (2, .ref mo), (3, .ref ot)]) hx hb d_La_law_382 hl (k := 6) rfl (x_addN (a := 3 * (K + M)) (b := 3)) (by decide) rfl (fun ls hl => ?_)
      refine lv_goto (tgt := 23) hx hb d_La_law_385 (by decide) ?_
      have e3 : 3 * (K + M) + 3 = 3 * (K + 1 + M) := by omega
      rw [e3] at hl
      refine W.widen (k := 60 + (cq17 + cs17) / 5 + (210 * (K + 1) + 245 * M)) (n := 6000 + 4 * (cq17 + cs17) + (920 * (K + 1) + 7410 * M)) hrm8.1 hrm8.2 ?_
      exact ih (512 - ((K + 1) + M)) (by omega) (K + 1, M, cq17 + cs17) H locs ls ⟨mo, adm, Im18, Tm18, Am18, Um18, S, ot, fo17, ad, I17, T17, A17, O17, pl17, q17, s17, cq17, cs17, rfl, rfl, (by dsimp only; omega), hok, hco, hP, hD, hS, lv_sub hl [3, 4, 5, 6, 0] rfl⟩
    · refine lv_tableIn (tgt := 220) hx hb d_La_law_39 (by decide) (by decide) (off := 181) rfl (by decide) ?_
      refine lv_aload_n hx hb d_La_law_220 rfl (lv_at hl 1 rfl) ?_
      refine lv_aload_n hx hb d_La_law_221 rfl (lv_at hl 0 rfl) ?_
      refine lv_iload hx hb d_La_law_222 (lv_at hl 4 rfl) ?_
      refine lv_iconst (v := 1) hx hb d_La_law_224 (by decide) ?_
      refine lv_iadd hx hb d_La_law_225 ?_
      refine W.eq (g2 := F0 m 226 ls [.int (Int32.ofNat ((3 * (K + M)) + 1)), .ref b, .ref (ad 0)]) (by rw [← x_addN (a := (3 * (K + M))) (b := 1)] <;> rfl) ?_
      refine va_sld hx hb hX hbl hbA hS (i := (Int32.ofNat ((3 * (K + M)) + 1))) (x_inN (show ((3 * (K + M)) + 1) < L from by omega) (by omega)) d_La_law_226 ?_
      refine W.eq (g2 := F0 m 227 ls [.int (xs (((3 * (K + M)) + 1))), .ref (ad 0)]) (by rw [x_nat (a := ((3 * (K + M)) + 1)) (by omega)]) ?_
      refine lv_aload_n hx hb d_La_law_227 rfl (lv_at hl 3 rfl) ?_
      obtain ⟨G, C, Gs, hmi, hci⟩ := hco
      have hbc := hci.2.2.2
      dsimp only at hbc
      have hPW := hP
      have hDW := hD
      have hPc : va_P (dC, dI) y_cl ([(ot, .inl (ar 2, 1, .inr (.inl fo)))] ++ y_W ad ar I T A O pl) H := (y_subP hPW).2
      have hDc : va_D Bq ([(ot, .inl (ar 2, 1, .inr (.inl fo)))] ++ y_W ad ar I T A O pl) := (y_subD hDW).2
      have hFc := y_freeW hDc hS hA
      refine y_know (fun hyk1 hyk2 hyk3 hyk4 => ?_)
      have hKM : K + M ≤ 511 := by omega
      have hrm := y_r1 hKM hbc.2.2.1 hbc.2.2.2
      refine va_calli (vx_runSW (As := [.ref (ad 0), .int (xs (((3 * (K + M)) + 1))), .ref ot]) (rest := []) ⟨hx, hb, hml, hown, hts⟩ (c_La_give l hst dC dI ar N0 z ad I T A O pl G C Gs qn sn cq cs K S ((xs (((3 * (K + M)) + 1)))) ot fo H.size (y_hs H) hmi (by omega) hci) (vx_cwSW 3 hts (x_goodSW k_897 k_898 k_0 k_899) rfl rfl rfl (by decide +kernel) ⟨Nat.le_of_ble_eq_true rfl, Nat.le_of_ble_eq_true rfl⟩) ⟨y_blind, fun U9 hU9 hW9 => y_pre hU9 hW9 hPc hDc hU hZ hS hAN hN0⟩ rfl rfl hl.1 rfl (lv_room (Nat.le_of_ble_eq_true rfl)) d_La_law_228 ⟨hrm.1, hrm.2⟩) hS (fun q _ h => hFc q h) hFc (fun r19 u t H1 locs ht hvm hw hB hz1 hk1 hS => ?_)
      obtain ⟨⟨I19, T19, A19, O19, pl19, q19, s19, cq19, cs19⟩, fo19⟩ := u
      dsimp only at hw hB
      rw [ht] at hB
      obtain ⟨hP1, hD1, hac⟩ := hB
      obtain ⟨hP, hD⟩ := y_jnR hPW hDW hk1 hFc hP1 hD1
      unfold y_aE at hac
      try dsimp only at hac
      generalize H1 = H at hP hS hac ⊢
      have hP : va_P (dC, dI) y_cl (m_W mo adm ar Im Tm Am Um ++ ([(ot, .inl (ar 2, 1, .inr (.inl fo19)))] ++ y_W ad ar I19 T19 A19 O19 pl19)) H := hP
      have hD : va_D Bq (m_W mo adm ar Im Tm Am Um ++ ([(ot, .inl (ar 2, 1, .inr (.inl fo19)))] ++ y_W ad ar I19 T19 A19 O19 pl19)) := hD
      have hco := hw
      have hbc2 := y_CO.b hco
      refine y_know (fun hym1 hym2 hym3 hym4 => ?_)
      refine y_tight (k := 60 + (cq19 + cs19) / 5 + (210 * K + 245 * M) + (7 + 1)) (n := 6000 + 4 * (cq19 + cs19) + (920 * K + 7410 * M) + 110) (y_t1 (e := 7) hyk2 hac.2) (y_t2 hyk4 hac.1) ?_
      have hrm9 := y_r3 hKM hbc2.1 hbc2.2
      have hrm8 := y_r5 (K := K) (M := M) (c := cq19 + cs19)
      clear hyk1 hyk2 hyk3 hyk4 hac hrm hym1 hym2 hym3 hym4
      clear hPc hDc hFc hPW hDW hk1 hP1 hD1
      refine lv_istore (lv' := [(5, .int r19), (0, .ref b), (1, .ref (ad 0)), (2, .ref mo), (3, .ref ot), (4, .int (Int32.ofNat (3 * (K + M))))]) hx hb d_La_law_231 hl (by decide) rfl (fun ls hl => ?_)
      refine lv_aload_n hx hb d_La_law_233 rfl (lv_at hl 3 rfl) ?_
      refine lv_aload_n hx hb d_La_law_234 rfl (lv_at hl 1 rfl) ?_
      refine lv_iload hx hb d_La_law_235 (lv_at hl 5 rfl) ?_
      refine lv_iconst (v := 1) hx hb d_La_law_237 (by decide) ?_
      refine lv_iadd hx hb d_La_law_238 ?_
      refine W.eq (g2 := F0 m 239 ls [.int (Int32.ofNat ((3 * (K + M)) + 1)), .ref b, .ref mo]) (by rw [← x_addN (a := (3 * (K + M))) (b := 1)] <;> rfl) ?_
      refine va_sld hx hb hX hbl hbA hS (i := (Int32.ofNat ((3 * (K + M)) + 1))) (x_inN (show ((3 * (K + M)) + 1) < L from by omega) (by omega)) d_La_law_239 ?_
      refine W.eq (g2 := F0 m 240 ls [.int (xs (((3 * (K + M)) + 1))), .ref mo]) (by rw [x_nat (a := ((3 * (K + M)) + 1)) (by omega)]) ?_
      have hPW := hP
      have hDW := hD
      have hPm : va_P (dC, dI) x_cl (m_W mo adm ar Im Tm Am Um) H := (y_trc m_W7).mpr (y_subP hPW).1
      have hDm : va_D Bq (m_W mo adm ar Im Tm Am Um) := (y_subD hDW).1
      have hFm := m_free hDm hS hA
      refine va_calli (va_runV (As := [.int (xs (((3 * (K + M)) + 1)))]) (rest := []) ⟨hx, hb, hml, hown, hts⟩ (m_give l dC dI ar N0 z mo adm Im Tm Am Um S ((xs (((3 * (K + M)) + 1)))) H.size hok) (cwV 1 hts (x_goodV k_1266 k_1267 k_1268 k_9 k_1269) rfl rfl rfl (by decide +kernel) ⟨Nat.le_of_ble_eq_true rfl, Nat.le_of_ble_eq_true rfl⟩) ⟨x_blind, va_recv hU.1.1 hPm (ci := 6) (q0 := 0) rfl rfl, fun U9 hU9 hW9 => x_pre hU9 hW9 hPm hDm hU.1 hZ.1 hS hAN hN0⟩ rfl rfl hl.1 rfl (lv_room (Nat.le_of_ble_eq_true rfl)) d_La_law_240 ⟨Nat.le_trans (Nat.le_add_right _ _) hrm9.1, Nat.le_trans (Nat.le_add_right _ _) hrm9.2⟩) hS (fun q _ h => hFm q h) hFm (fun r20 u t H1 locs ht hvm hw hB hz1 hk1 hS => ?_)
      obtain ⟨Im20, Tm20, Am20, Um20⟩ := u
      dsimp only at hw hB
      rw [ht] at hB
      obtain ⟨hP, hD⟩ := y_jnL hPW hDW hk1 hFm ((y_trc m_W7).mp hB) (m_D (hDm.self (sz := H.size)))
      generalize H1 = H at hP hS ⊢
      have hP : va_P (dC, dI) y_cl (m_W mo adm ar Im20 Tm20 Am20 Um20 ++ ([(ot, .inl (ar 2, 1, .inr (.inl fo19)))] ++ y_W ad ar I19 T19 A19 O19 pl19)) H := hP
      have hD : va_D Bq (m_W mo adm ar Im20 Tm20 Am20 Um20 ++ ([(ot, .inl (ar 2, 1, .inr (.inl fo19)))] ++ y_W ad ar I19 T19 A19 O19 pl19)) := hD
      clear hPm hDm hFm hPW hDW hk1 hB
      refine W.cs (cells' := 60 + (cq19 + cs19) / 5 + (210 * K + 245 * M) + (7 + 1)) (slots' := 6000 + 4 * (cq19 + cs19) + (920 * K + 7410 * M) + 110) rfl rfl ?_
      have hok := hw
      refine lv_istore (lv' := [(6, .int r20), (5, .int r19), (0, .ref b), (1, .ref (ad 0)), (2, .ref mo), (3, .ref ot), (4, .int (Int32.ofNat (3 * (K + M))))]) hx hb d_La_law_243 hl (by decide) rfl (fun ls hl => ?_)
      refine lv_goto (tgt := 382) hx hb d_La_law_245 (by decide) ?_
      refine lv_iinc (v := (Int32.ofNat (3 * (K + M) + 3))) (lv' := [(4, .int (Int32.ofNat (3 * (K + M) + 3))), (6, .int r20), (5, .int r19), (0, .ref b), (1, .ref (ad 0)), (2, .ref mo), (3, .ref ot)]) hx hb d_La_law_382 hl (k := 6) rfl (x_addN (a := 3 * (K + M)) (b := 3)) (by decide) rfl (fun ls hl => ?_)
      refine lv_goto (tgt := 23) hx hb d_La_law_385 (by decide) ?_
      have e3 : 3 * (K + M) + 3 = 3 * (K + 1 + M) := by omega
      rw [e3] at hl
      refine W.widen (k := 60 + (cq19 + cs19) / 5 + (210 * (K + 1) + 245 * M)) (n := 6000 + 4 * (cq19 + cs19) + (920 * (K + 1) + 7410 * M)) (Nat.le_trans (Nat.le_add_right _ 200) hrm8.1) (Nat.le_trans (Nat.le_add_right _ 800) hrm8.2) ?_
      exact ih (512 - ((K + 1) + M)) (by omega) (K + 1, M, cq19 + cs19) H locs ls ⟨mo, adm, Im20, Tm20, Am20, Um20, S, ot, fo19, ad, I19, T19, A19, O19, pl19, q19, s19, cq19, cs19, rfl, rfl, (by dsimp only; omega), hok, hco, hP, hD, hS, lv_sub hl [3, 4, 5, 6, 0] rfl⟩
    · refine lv_tableIn (tgt := 248) hx hb d_La_law_39 (by decide) (by decide) (off := 209) rfl (by decide) ?_
      refine lv_aload_n hx hb d_La_law_248 rfl (lv_at hl 1 rfl) ?_
      refine lv_aload_n hx hb d_La_law_249 rfl (lv_at hl 3 rfl) ?_
      obtain ⟨G, C, Gs, hmi, hci⟩ := hco
      have hbc := hci.2.2.2
      dsimp only at hbc
      have hPW := hP
      have hDW := hD
      have hPc : va_P (dC, dI) y_cl ([(ot, .inl (ar 2, 1, .inr (.inl fo)))] ++ y_W ad ar I T A O pl) H := (y_subP hPW).2
      have hDc : va_D Bq ([(ot, .inl (ar 2, 1, .inr (.inl fo)))] ++ y_W ad ar I T A O pl) := (y_subD hDW).2
      have hFc := y_freeW hDc hS hA
      refine y_know (fun hyk1 hyk2 hyk3 hyk4 => ?_)
      have hKM : K + M ≤ 511 := by omega
      have hrm := y_r1 hKM hbc.2.2.1 hbc.2.2.2
      refine va_calli (vx_runSW (As := [.ref (ad 0), .ref ot]) (rest := []) ⟨hx, hb, hml, hown, hts⟩ (c_La_take l hst dC dI ar N0 z ad I T A O pl G C Gs qn sn cq cs K S  ot fo H.size (y_hs H) hmi (by omega) hci) (vx_cwSW 2 hts (x_goodSW k_910 k_911 k_0 k_912) rfl rfl rfl (by decide +kernel) ⟨Nat.le_of_ble_eq_true rfl, Nat.le_of_ble_eq_true rfl⟩) ⟨y_blind, fun U9 hU9 hW9 => y_pre hU9 hW9 hPc hDc hU hZ hS hAN hN0⟩ rfl rfl hl.1 rfl (lv_room (Nat.le_of_ble_eq_true rfl)) d_La_law_250 ⟨hrm.1, hrm.2⟩) hS (fun q _ h => hFc q h) hFc (fun r21 u t H1 locs ht hvm hw hB hz1 hk1 hS => ?_)
      obtain ⟨⟨I21, T21, A21, O21, pl21, q21, s21, cq21, cs21⟩, fo21⟩ := u
      dsimp only at hw hB
      rw [ht] at hB
      obtain ⟨hP1, hD1, hac⟩ := hB
      obtain ⟨hP, hD⟩ := y_jnR hPW hDW hk1 hFc hP1 hD1
      unfold y_aE at hac
      try dsimp only at hac
      generalize H1 = H at hP hS hac ⊢
      have hP : va_P (dC, dI) y_cl (m_W mo adm ar Im Tm Am Um ++ ([(ot, .inl (ar 2, 1, .inr (.inl fo21)))] ++ y_W ad ar I21 T21 A21 O21 pl21)) H := hP
      have hD : va_D Bq (m_W mo adm ar Im Tm Am Um ++ ([(ot, .inl (ar 2, 1, .inr (.inl fo21)))] ++ y_W ad ar I21 T21 A21 O21 pl21)) := hD
      have hco := hw
      have hbc2 := y_CO.b hco
      refine y_know (fun hym1 hym2 hym3 hym4 => ?_)
      refine y_tight (k := 60 + (cq21 + cs21) / 5 + (210 * K + 245 * M) + (7 + 1)) (n := 6000 + 4 * (cq21 + cs21) + (920 * K + 7410 * M) + 110) (y_t1 (e := 7) hyk2 hac.2) (y_t2 hyk4 hac.1) ?_
      have hrm9 := y_r3 hKM hbc2.1 hbc2.2
      have hrm8 := y_r5 (K := K) (M := M) (c := cq21 + cs21)
      clear hyk1 hyk2 hyk3 hyk4 hac hrm hym1 hym2 hym3 hym4
      clear hPc hDc hFc hPW hDW hk1 hP1 hD1
      refine lv_istore (lv' := [(5, .int r21), (0, .ref b), (1, .ref (ad 0)), (2, .ref mo), (3, .ref ot), (4, .int (Int32.ofNat (3 * (K + M))))]) hx hb d_La_law_253 hl (by decide) rfl (fun ls hl => ?_)
      refine lv_aload_n hx hb d_La_law_255 rfl (lv_at hl 3 rfl) ?_
      have hPW := hP
      have hDW := hD
      have hPm : va_P (dC, dI) x_cl (m_W mo adm ar Im Tm Am Um) H := (y_trc m_W7).mpr (y_subP hPW).1
      have hDm : va_D Bq (m_W mo adm ar Im Tm Am Um) := (y_subD hDW).1
      have hFm := m_free hDm hS hA
      refine va_calli (va_runV (As := []) (rest := []) ⟨hx, hb, hml, hown, hts⟩ (m_take l dC dI ar N0 z mo adm Im Tm Am Um S H.size hok) (cwV 0 hts (x_goodV k_1270 k_1271 k_1272 k_9 k_1273) rfl rfl rfl (by decide +kernel) ⟨Nat.le_of_ble_eq_true rfl, Nat.le_of_ble_eq_true rfl⟩) ⟨x_blind, va_recv hU.1.1 hPm (ci := 6) (q0 := 0) rfl rfl, fun U9 hU9 hW9 => x_pre hU9 hW9 hPm hDm hU.1 hZ.1 hS hAN hN0⟩ rfl rfl hl.1 rfl (lv_room (Nat.le_of_ble_eq_true rfl)) d_La_law_256 ⟨Nat.le_trans (Nat.le_add_right _ _) hrm9.1, Nat.le_trans (Nat.le_add_right _ _) hrm9.2⟩) hS (fun q _ h => hFm q h) hFm (fun r22 u t H1 locs ht hvm hw hB hz1 hk1 hS => ?_)
      obtain ⟨Im22, Tm22, Am22, Um22⟩ := u
      dsimp only at hw hB
      rw [ht] at hB
      obtain ⟨hP, hD⟩ := y_jnL hPW hDW hk1 hFm ((y_trc m_W7).mp hB) (m_D (hDm.self (sz := H.size)))
      generalize H1 = H at hP hS ⊢
      have hP : va_P (dC, dI) y_cl (m_W mo adm ar Im22 Tm22 Am22 Um22 ++ ([(ot, .inl (ar 2, 1, .inr (.inl fo21)))] ++ y_W ad ar I21 T21 A21 O21 pl21)) H := hP
      have hD : va_D Bq (m_W mo adm ar Im22 Tm22 Am22 Um22 ++ ([(ot, .inl (ar 2, 1, .inr (.inl fo21)))] ++ y_W ad ar I21 T21 A21 O21 pl21)) := hD
      clear hPm hDm hFm hPW hDW hk1 hB
      refine W.cs (cells' := 60 + (cq21 + cs21) / 5 + (210 * K + 245 * M) + (7 + 1)) (slots' := 6000 + 4 * (cq21 + cs21) + (920 * K + 7410 * M) + 110) rfl rfl ?_
      have hok := hw
      refine lv_istore (lv' := [(6, .int r22), (5, .int r21), (0, .ref b), (1, .ref (ad 0)), (2, .ref mo), (3, .ref ot), (4, .int (Int32.ofNat (3 * (K + M))))]) hx hb d_La_law_259 hl (by decide) rfl (fun ls hl => ?_)
      refine lv_goto (tgt := 382) hx hb d_La_law_261 (by decide) ?_
      refine lv_iinc (v := (Int32.ofNat (3 * (K + M) + 3))) (lv' := [(4, .int (Int32.ofNat (3 * (K + M) + 3))), (6, .int r22), (5, .int r21), (0, .ref b), (1, .ref (ad 0)), (2, .ref mo), (3, .ref ot)]) hx hb d_La_law_382 hl (k := 6) rfl (x_addN (a := 3 * (K + M)) (b := 3)) (by decide) rfl (fun ls hl => ?_)
      refine lv_goto (tgt := 23) hx hb d_La_law_385 (by decide) ?_
      have e3 : 3 * (K + M) + 3 = 3 * (K + 1 + M) := by omega
      rw [e3] at hl
      refine W.widen (k := 60 + (cq21 + cs21) / 5 + (210 * (K + 1) + 245 * M)) (n := 6000 + 4 * (cq21 + cs21) + (920 * (K + 1) + 7410 * M)) (Nat.le_trans (Nat.le_add_right _ 200) hrm8.1) (Nat.le_trans (Nat.le_add_right _ 800) hrm8.2) ?_
      exact ih (512 - ((K + 1) + M)) (by omega) (K + 1, M, cq21 + cs21) H locs ls ⟨mo, adm, Im22, Tm22, Am22, Um22, S, ot, fo21, ad, I21, T21, A21, O21, pl21, q21, s21, cq21, cs21, rfl, rfl, (by dsimp only; omega), hok, hco, hP, hD, hS, lv_sub hl [3, 4, 5, 6, 0] rfl⟩
    · refine lv_tableIn (tgt := 264) hx hb d_La_law_39 (by decide) (by decide) (off := 225) rfl (by decide) ?_
      refine lv_aload_n hx hb d_La_law_264 rfl (lv_at hl 1 rfl) ?_
      refine lv_aload_n hx hb d_La_law_265 rfl (lv_at hl 0 rfl) ?_
      refine lv_iload hx hb d_La_law_266 (lv_at hl 4 rfl) ?_
      refine lv_iconst (v := 1) hx hb d_La_law_268 (by decide) ?_
      refine lv_iadd hx hb d_La_law_269 ?_
      refine W.eq (g2 := F0 m 270 ls [.int (Int32.ofNat ((3 * (K + M)) + 1)), .ref b, .ref (ad 0)]) (by rw [← x_addN (a := (3 * (K + M))) (b := 1)] <;> rfl) ?_
      refine va_sld hx hb hX hbl hbA hS (i := (Int32.ofNat ((3 * (K + M)) + 1))) (x_inN (show ((3 * (K + M)) + 1) < L from by omega) (by omega)) d_La_law_270 ?_
      refine W.eq (g2 := F0 m 271 ls [.int (xs (((3 * (K + M)) + 1))), .ref (ad 0)]) (by rw [x_nat (a := ((3 * (K + M)) + 1)) (by omega)]) ?_
      refine lv_aload_n hx hb d_La_law_271 rfl (lv_at hl 3 rfl) ?_
      obtain ⟨G, C, Gs, hmi, hci⟩ := hco
      have hbc := hci.2.2.2
      dsimp only at hbc
      have hPW := hP
      have hDW := hD
      have hPc : va_P (dC, dI) y_cl ([(ot, .inl (ar 2, 1, .inr (.inl fo)))] ++ y_W ad ar I T A O pl) H := (y_subP hPW).2
      have hDc : va_D Bq ([(ot, .inl (ar 2, 1, .inr (.inl fo)))] ++ y_W ad ar I T A O pl) := (y_subD hDW).2
      have hFc := y_freeW hDc hS hA
      refine y_know (fun hyk1 hyk2 hyk3 hyk4 => ?_)
      have hKM : K + M ≤ 511 := by omega
      have hrm := y_r1 hKM hbc.2.2.1 hbc.2.2.2
      refine va_calli (vx_runSW (As := [.ref (ad 0), .int (xs (((3 * (K + M)) + 1))), .ref ot]) (rest := []) ⟨hx, hb, hml, hown, hts⟩ (c_La_variable l hst dC dI ar N0 z ad I T A O pl G C Gs qn sn cq cs K S ((xs (((3 * (K + M)) + 1)))) ot fo H.size (y_hs H) hmi (by omega) hci) (vx_cwSW 3 hts (x_goodSW k_938 k_939 k_0 k_940) rfl rfl rfl (by decide +kernel) ⟨Nat.le_of_ble_eq_true rfl, Nat.le_of_ble_eq_true rfl⟩) ⟨y_blind, fun U9 hU9 hW9 => y_pre hU9 hW9 hPc hDc hU hZ hS hAN hN0⟩ rfl rfl hl.1 rfl (lv_room (Nat.le_of_ble_eq_true rfl)) d_La_law_272 ⟨hrm.1, hrm.2⟩) hS (fun q _ h => hFc q h) hFc (fun r23 u t H1 locs ht hvm hw hB hz1 hk1 hS => ?_)
      obtain ⟨⟨I23, T23, A23, O23, pl23, q23, s23, cq23, cs23⟩, fo23⟩ := u
      dsimp only at hw hB
      rw [ht] at hB
      obtain ⟨hP1, hD1, hac⟩ := hB
      obtain ⟨hP, hD⟩ := y_jnR hPW hDW hk1 hFc hP1 hD1
      unfold y_aE at hac
      try dsimp only at hac
      generalize H1 = H at hP hS hac ⊢
      have hP : va_P (dC, dI) y_cl (m_W mo adm ar Im Tm Am Um ++ ([(ot, .inl (ar 2, 1, .inr (.inl fo23)))] ++ y_W ad ar I23 T23 A23 O23 pl23)) H := hP
      have hD : va_D Bq (m_W mo adm ar Im Tm Am Um ++ ([(ot, .inl (ar 2, 1, .inr (.inl fo23)))] ++ y_W ad ar I23 T23 A23 O23 pl23)) := hD
      have hco := hw
      have hbc2 := y_CO.b hco
      refine y_know (fun hym1 hym2 hym3 hym4 => ?_)
      refine y_tight (k := 60 + (cq23 + cs23) / 5 + (210 * K + 245 * M) + (7 + 1)) (n := 6000 + 4 * (cq23 + cs23) + (920 * K + 7410 * M) + 110) (y_t1 (e := 7) hyk2 hac.2) (y_t2 hyk4 hac.1) ?_
      have hrm9 := y_r3 hKM hbc2.1 hbc2.2
      have hrm8 := y_r5 (K := K) (M := M) (c := cq23 + cs23)
      clear hyk1 hyk2 hyk3 hyk4 hac hrm hym1 hym2 hym3 hym4
      clear hPc hDc hFc hPW hDW hk1 hP1 hD1
      refine lv_istore (lv' := [(5, .int r23), (0, .ref b), (1, .ref (ad 0)), (2, .ref mo), (3, .ref ot), (4, .int (Int32.ofNat (3 * (K + M))))]) hx hb d_La_law_275 hl (by decide) rfl (fun ls hl => ?_)
      refine lv_aload_n hx hb d_La_law_277 rfl (lv_at hl 3 rfl) ?_
      refine lv_aload_n hx hb d_La_law_278 rfl (lv_at hl 1 rfl) ?_
      refine lv_iload hx hb d_La_law_279 (lv_at hl 5 rfl) ?_
      refine lv_iconst (v := 1) hx hb d_La_law_281 (by decide) ?_
      refine lv_iadd hx hb d_La_law_282 ?_
      refine W.eq (g2 := F0 m 283 ls [.int (Int32.ofNat ((3 * (K + M)) + 1)), .ref b, .ref mo]) (by rw [← x_addN (a := (3 * (K + M))) (b := 1)] <;> rfl) ?_
      refine va_sld hx hb hX hbl hbA hS (i := (Int32.ofNat ((3 * (K + M)) + 1))) (x_inN (show ((3 * (K + M)) + 1) < L from by omega) (by omega)) d_La_law_283 ?_
      refine W.eq (g2 := F0 m 284 ls [.int (xs (((3 * (K + M)) + 1))), .ref mo]) (by rw [x_nat (a := ((3 * (K + M)) + 1)) (by omega)]) ?_
      have hPW := hP
      have hDW := hD
      have hPm : va_P (dC, dI) x_cl (m_W mo adm ar Im Tm Am Um) H := (y_trc m_W7).mpr (y_subP hPW).1
      have hDm : va_D Bq (m_W mo adm ar Im Tm Am Um) := (y_subD hDW).1
      have hFm := m_free hDm hS hA
      refine va_calli (va_runV (As := [.int (xs (((3 * (K + M)) + 1)))]) (rest := []) ⟨hx, hb, hml, hown, hts⟩ (m_variable l dC dI ar N0 z mo adm Im Tm Am Um S ((xs (((3 * (K + M)) + 1)))) H.size hok) (cwV 1 hts (x_goodV k_1274 k_1275 k_1276 k_9 k_1277) rfl rfl rfl (by decide +kernel) ⟨Nat.le_of_ble_eq_true rfl, Nat.le_of_ble_eq_true rfl⟩) ⟨x_blind, va_recv hU.1.1 hPm (ci := 6) (q0 := 0) rfl rfl, fun U9 hU9 hW9 => x_pre hU9 hW9 hPm hDm hU.1 hZ.1 hS hAN hN0⟩ rfl rfl hl.1 rfl (lv_room (Nat.le_of_ble_eq_true rfl)) d_La_law_284 ⟨Nat.le_trans (Nat.le_add_right _ _) hrm9.1, Nat.le_trans (Nat.le_add_right _ _) hrm9.2⟩) hS (fun q _ h => hFm q h) hFm (fun r24 u t H1 locs ht hvm hw hB hz1 hk1 hS => ?_)
      obtain ⟨Im24, Tm24, Am24, Um24⟩ := u
      dsimp only at hw hB
      rw [ht] at hB
      obtain ⟨hP, hD⟩ := y_jnL hPW hDW hk1 hFm ((y_trc m_W7).mp hB) (m_D (hDm.self (sz := H.size)))
      generalize H1 = H at hP hS ⊢
      have hP : va_P (dC, dI) y_cl (m_W mo adm ar Im24 Tm24 Am24 Um24 ++ ([(ot, .inl (ar 2, 1, .inr (.inl fo23)))] ++ y_W ad ar I23 T23 A23 O23 pl23)) H := hP
      have hD : va_D Bq (m_W mo adm ar Im24 Tm24 Am24 Um24 ++ ([(ot, .inl (ar 2, 1, .inr (.inl fo23)))] ++ y_W ad ar I23 T23 A23 O23 pl23)) := hD
      clear hPm hDm hFm hPW hDW hk1 hB
      refine W.cs (cells' := 60 + (cq23 + cs23) / 5 + (210 * K + 245 * M) + (7 + 1)) (slots' := 6000 + 4 * (cq23 + cs23) + (920 * K + 7410 * M) + 110) rfl rfl ?_
      have hok := hw
      refine lv_istore (lv' := [(6, .int r24), (5, .int r23), (0, .ref b), (1, .ref (ad 0)), (2, .ref mo), (3, .ref ot), (4, .int (Int32.ofNat (3 * (K + M))))]) hx hb d_La_law_287 hl (by decide) rfl (fun ls hl => ?_)
      refine lv_goto (tgt := 382) hx hb d_La_law_289 (by decide) ?_
      refine lv_iinc (v := (Int32.ofNat (3 * (K + M) + 3))) (lv' := [(4, .int (Int32.ofNat (3 * (K + M) + 3))), (6, .int r24), (5, .int r23), (0, .ref b), (1, .ref (ad 0)), (2, .ref mo), (3, .ref ot)]) hx hb d_La_law_382 hl (k := 6) rfl (x_addN (a := 3 * (K + M)) (b := 3)) (by decide) rfl (fun ls hl => ?_)
      refine lv_goto (tgt := 23) hx hb d_La_law_385 (by decide) ?_
      have e3 : 3 * (K + M) + 3 = 3 * (K + 1 + M) := by omega
      rw [e3] at hl
      refine W.widen (k := 60 + (cq23 + cs23) / 5 + (210 * (K + 1) + 245 * M)) (n := 6000 + 4 * (cq23 + cs23) + (920 * (K + 1) + 7410 * M)) (Nat.le_trans (Nat.le_add_right _ 200) hrm8.1) (Nat.le_trans (Nat.le_add_right _ 800) hrm8.2) ?_
      exact ih (512 - ((K + 1) + M)) (by omega) (K + 1, M, cq23 + cs23) H locs ls ⟨mo, adm, Im24, Tm24, Am24, Um24, S, ot, fo23, ad, I23, T23, A23, O23, pl23, q23, s23, cq23, cs23, rfl, rfl, (by dsimp only; omega), hok, hco, hP, hD, hS, lv_sub hl [3, 4, 5, 6, 0] rfl⟩
    · refine lv_tableIn (tgt := 292) hx hb d_La_law_39 (by decide) (by decide) (off := 253) rfl (by decide) ?_
      refine lv_aload_n hx hb d_La_law_292 rfl (lv_at hl 1 rfl) ?_
      refine lv_aload_n hx hb d_La_law_293 rfl (lv_at hl 0 rfl) ?_
      refine lv_iload hx hb d_La_law_294 (lv_at hl 4 rfl) ?_
      refine lv_iconst (v := 1) hx hb d_La_law_296 (by decide) ?_
      refine lv_iadd hx hb d_La_law_297 ?_
      refine W.eq (g2 := F0 m 298 ls [.int (Int32.ofNat ((3 * (K + M)) + 1)), .ref b, .ref (ad 0)]) (by rw [← x_addN (a := (3 * (K + M))) (b := 1)] <;> rfl) ?_
      refine va_sld hx hb hX hbl hbA hS (i := (Int32.ofNat ((3 * (K + M)) + 1))) (x_inN (show ((3 * (K + M)) + 1) < L from by omega) (by omega)) d_La_law_298 ?_
      refine W.eq (g2 := F0 m 299 ls [.int (xs (((3 * (K + M)) + 1))), .ref (ad 0)]) (by rw [x_nat (a := ((3 * (K + M)) + 1)) (by omega)]) ?_
      refine lv_aload_n hx hb d_La_law_299 rfl (lv_at hl 0 rfl) ?_
      refine lv_iload hx hb d_La_law_300 (lv_at hl 4 rfl) ?_
      refine lv_iconst (v := 2) hx hb d_La_law_302 (by decide) ?_
      refine lv_iadd hx hb d_La_law_303 ?_
      refine W.eq (g2 := F0 m 304 ls [.int (Int32.ofNat ((3 * (K + M)) + 2)), .ref b, .int (xs (((3 * (K + M)) + 1))), .ref (ad 0)]) (by rw [← x_addN (a := (3 * (K + M))) (b := 2)] <;> rfl) ?_
      refine va_sld hx hb hX hbl hbA hS (i := (Int32.ofNat ((3 * (K + M)) + 2))) (x_inN (show ((3 * (K + M)) + 2) < L from by omega) (by omega)) d_La_law_304 ?_
      refine W.eq (g2 := F0 m 305 ls [.int (xs (((3 * (K + M)) + 2))), .int (xs (((3 * (K + M)) + 1))), .ref (ad 0)]) (by rw [x_nat (a := ((3 * (K + M)) + 2)) (by omega)]) ?_
      obtain ⟨G, C, Gs, hmi, hci⟩ := hco
      have hbc := hci.2.2.2
      dsimp only at hbc
      have hPW : va_P (dC, dI) y_cl ((m_W mo adm ar Im Tm Am Um ++ [(ot, .inl (ar 2, 1, .inr (.inl fo)))]) ++ y_W ad ar I T A O pl) H := by rw [List.append_assoc]; exact hP
      have hDW : va_D Bq ((m_W mo adm ar Im Tm Am Um ++ [(ot, .inl (ar 2, 1, .inr (.inl fo)))]) ++ y_W ad ar I T A O pl) := by rw [List.append_assoc]; exact hD
      have hPc : va_P (dC, dI) y_cl (y_W ad ar I T A O pl) H := (y_subP hPW).2
      have hDc : va_D Bq (y_W ad ar I T A O pl) := (y_subD hDW).2
      have hFc := y_freeW hDc hS hA
      refine y_know (fun hyk1 hyk2 hyk3 hyk4 => ?_)
      have hKM : K + M ≤ 511 := by omega
      have hrm := y_r1 hKM hbc.2.2.1 hbc.2.2.2
      refine va_calli (vx_runSW (As := [.ref (ad 0), .int (xs (((3 * (K + M)) + 1))), .int (xs (((3 * (K + M)) + 2)))]) (rest := []) ⟨hx, hb, hml, hown, hts⟩ (c_La_set l hst dC dI ar N0 z ad I T A O pl G C Gs qn sn cq cs K S ((xs (((3 * (K + M)) + 1)))) ((xs (((3 * (K + M)) + 2)))) H.size (y_hs H) hmi (by omega) hci) (vx_cwSW 3 hts (x_goodSW k_946 k_947 k_0 k_948) rfl rfl rfl (by decide +kernel) ⟨Nat.le_of_ble_eq_true rfl, Nat.le_of_ble_eq_true rfl⟩) ⟨y_blind, fun U9 hU9 hW9 => y_pre hU9 hW9 hPc hDc hU hZ hS hAN hN0⟩ rfl rfl hl.1 rfl (lv_room (Nat.le_of_ble_eq_true rfl)) d_La_law_305 ⟨hrm.1, hrm.2⟩) hS (fun q _ h => hFc q h) hFc (fun r25 u t H1 locs ht hvm hw hB hz1 hk1 hS => ?_)
      obtain ⟨I25, T25, A25, O25, pl25, q25, s25, cq25, cs25⟩ := u
      dsimp only at hw hB
      rw [ht] at hB
      obtain ⟨hP1, hD1, hac⟩ := hB
      obtain ⟨hP, hD⟩ := y_jnR hPW hDW hk1 hFc hP1 hD1
      rw [List.append_assoc] at hP hD
      unfold y_aE at hac
      try dsimp only at hac
      generalize H1 = H at hP hS hac ⊢
      have hP : va_P (dC, dI) y_cl (m_W mo adm ar Im Tm Am Um ++ ([(ot, .inl (ar 2, 1, .inr (.inl fo)))] ++ y_W ad ar I25 T25 A25 O25 pl25)) H := hP
      have hD : va_D Bq (m_W mo adm ar Im Tm Am Um ++ ([(ot, .inl (ar 2, 1, .inr (.inl fo)))] ++ y_W ad ar I25 T25 A25 O25 pl25)) := hD
      obtain ⟨hco, _⟩ := hw
      have hbc2 := y_CO.b hco
      refine y_know (fun hym1 hym2 hym3 hym4 => ?_)
      refine y_tight (k := 60 + (cq25 + cs25) / 5 + (210 * K + 245 * M) + (7 + 1)) (n := 6000 + 4 * (cq25 + cs25) + (920 * K + 7410 * M) + 110) (y_t1 (e := 7) hyk2 hac.2) (y_t2 hyk4 hac.1) ?_
      have hrm9 := y_r3 hKM hbc2.1 hbc2.2
      have hrm8 := y_r5 (K := K) (M := M) (c := cq25 + cs25)
      clear hyk1 hyk2 hyk3 hyk4 hac hrm hym1 hym2 hym3 hym4
      clear hPc hDc hFc hPW hDW hk1 hP1 hD1
      refine lv_istore (lv' := [(5, .int r25), (0, .ref b), (1, .ref (ad 0)), (2, .ref mo), (3, .ref ot), (4, .int (Int32.ofNat (3 * (K + M))))]) hx hb d_La_law_308 hl (by decide) rfl (fun ls hl => ?_)
      refine lv_aload_n hx hb d_La_law_310 rfl (lv_at hl 3 rfl) ?_
      refine lv_aload_n hx hb d_La_law_311 rfl (lv_at hl 1 rfl) ?_
      refine lv_iload hx hb d_La_law_312 (lv_at hl 5 rfl) ?_
      refine lv_iconst (v := 1) hx hb d_La_law_314 (by decide) ?_
      refine lv_iadd hx hb d_La_law_315 ?_
      refine W.eq (g2 := F0 m 316 ls [.int (Int32.ofNat ((3 * (K + M)) + 1)), .ref b, .ref mo]) (by rw [← x_addN (a := (3 * (K + M))) (b := 1)] <;> rfl) ?_
      refine va_sld hx hb hX hbl hbA hS (i := (Int32.ofNat ((3 * (K + M)) + 1))) (x_inN (show ((3 * (K + M)) + 1) < L from by omega) (by omega)) d_La_law_316 ?_
      refine W.eq (g2 := F0 m 317 ls [.int (xs (((3 * (K + M)) + 1))), .ref mo]) (by rw [x_nat (a := ((3 * (K + M)) + 1)) (by omega)]) ?_
      refine lv_aload_n hx hb d_La_law_317 rfl (lv_at hl 1 rfl) ?_
      refine lv_iload hx hb d_La_law_318 (lv_at hl 5 rfl) ?_
      refine lv_iconst (v := 2) hx hb d_La_law_320 (by decide) ?_
      refine lv_iadd hx hb d_La_law_321 ?_
      refine W.eq (g2 := F0 m 322 ls [.int (Int32.ofNat ((3 * (K + M)) + 2)), .ref b, .int (xs (((3 * (K + M)) + 1))), .ref mo]) (by rw [← x_addN (a := (3 * (K + M))) (b := 2)] <;> rfl) ?_
      refine va_sld hx hb hX hbl hbA hS (i := (Int32.ofNat ((3 * (K + M)) + 2))) (x_inN (show ((3 * (K + M)) + 2) < L from by omega) (by omega)) d_La_law_322 ?_
      refine W.eq (g2 := F0 m 323 ls [.int (xs (((3 * (K + M)) + 2))), .int (xs (((3 * (K + M)) + 1))), .ref mo]) (by rw [x_nat (a := ((3 * (K + M)) + 2)) (by omega)]) ?_
      have hPW := hP
      have hDW := hD
      have hPm : va_P (dC, dI) x_cl (m_W mo adm ar Im Tm Am Um) H := (y_trc m_W7).mpr (y_subP hPW).1
      have hDm : va_D Bq (m_W mo adm ar Im Tm Am Um) := (y_subD hDW).1
      have hFm := m_free hDm hS hA
      refine va_callv (va_runV (As := [.int (xs (((3 * (K + M)) + 1))), .int (xs (((3 * (K + M)) + 2)))]) (rest := []) ⟨hx, hb, hml, hown, hts⟩ (m_set l dC dI ar N0 z mo adm Im Tm Am Um S ((xs (((3 * (K + M)) + 1)))) ((xs (((3 * (K + M)) + 2)))) H.size hok) (cwV 2 hts (x_goodV k_1278 k_1279 k_1280 k_9 k_1281) rfl rfl rfl (by decide +kernel) ⟨Nat.le_of_ble_eq_true rfl, Nat.le_of_ble_eq_true rfl⟩) ⟨x_blind, va_recv hU.1.1 hPm (ci := 6) (q0 := 0) rfl rfl, fun U9 hU9 hW9 => x_pre hU9 hW9 hPm hDm hU.1 hZ.1 hS hAN hN0⟩ rfl rfl hl.1 rfl (lv_room (Nat.le_of_ble_eq_true rfl)) d_La_law_323 ⟨Nat.le_trans (Nat.le_add_right _ _) hrm9.1, Nat.le_trans (Nat.le_add_right _ _) hrm9.2⟩) hS (fun q _ h => hFm q h) hFm (fun u t H1 locs ht hvm hw hB hz1 hk1 hS => ?_)
      obtain ⟨Im26, Tm26, Am26, Um26⟩ := u
      dsimp only at hw hB
      rw [ht] at hB
      obtain ⟨hP, hD⟩ := y_jnL hPW hDW hk1 hFm ((y_trc m_W7).mp hB) (m_D (hDm.self (sz := H.size)))
      generalize H1 = H at hP hS ⊢
      have hP : va_P (dC, dI) y_cl (m_W mo adm ar Im26 Tm26 Am26 Um26 ++ ([(ot, .inl (ar 2, 1, .inr (.inl fo)))] ++ y_W ad ar I25 T25 A25 O25 pl25)) H := hP
      have hD : va_D Bq (m_W mo adm ar Im26 Tm26 Am26 Um26 ++ ([(ot, .inl (ar 2, 1, .inr (.inl fo)))] ++ y_W ad ar I25 T25 A25 O25 pl25)) := hD
      clear hPm hDm hFm hPW hDW hk1 hB
      refine W.cs (cells' := 60 + (cq25 + cs25) / 5 + (210 * K + 245 * M) + (7 + 1)) (slots' := 6000 + 4 * (cq25 + cs25) + (920 * K + 7410 * M) + 110) rfl rfl ?_
      obtain ⟨hok, _⟩ := hw
      refine lv_goto (tgt := 382) hx hb d_La_law_326 (by decide) ?_
      refine lv_iinc (v := (Int32.ofNat (3 * (K + M) + 3))) (lv' := [(4, .int (Int32.ofNat (3 * (K + M) + 3))), (5, .int r25), (0, .ref b), (1, .ref (ad 0)), (2, .ref mo), (3, .ref ot)]) hx hb d_La_law_382 hl (k := 5) rfl (x_addN (a := 3 * (K + M)) (b := 3)) (by decide) rfl (fun ls hl => ?_)
      refine lv_goto (tgt := 23) hx hb d_La_law_385 (by decide) ?_
      have e3 : 3 * (K + M) + 3 = 3 * (K + 1 + M) := by omega
      rw [e3] at hl
      refine W.widen (k := 60 + (cq25 + cs25) / 5 + (210 * (K + 1) + 245 * M)) (n := 6000 + 4 * (cq25 + cs25) + (920 * (K + 1) + 7410 * M)) (Nat.le_trans (Nat.le_add_right _ 200) hrm8.1) (Nat.le_trans (Nat.le_add_right _ 800) hrm8.2) ?_
      exact ih (512 - ((K + 1) + M)) (by omega) (K + 1, M, cq25 + cs25) H locs ls ⟨mo, adm, Im26, Tm26, Am26, Um26, S, ot, fo, ad, I25, T25, A25, O25, pl25, q25, s25, cq25, cs25, rfl, rfl, (by dsimp only; omega), hok, hco, hP, hD, hS, lv_sub hl [2, 3, 4, 5, 0] rfl⟩
    · refine lv_tableIn (tgt := 329) hx hb d_La_law_39 (by decide) (by decide) (off := 290) rfl (by decide) ?_
      refine lv_aload_n hx hb d_La_law_329 rfl (lv_at hl 1 rfl) ?_
      refine lv_aload_n hx hb d_La_law_330 rfl (lv_at hl 0 rfl) ?_
      refine lv_iload hx hb d_La_law_331 (lv_at hl 4 rfl) ?_
      refine lv_iconst (v := 1) hx hb d_La_law_333 (by decide) ?_
      refine lv_iadd hx hb d_La_law_334 ?_
      refine W.eq (g2 := F0 m 335 ls [.int (Int32.ofNat ((3 * (K + M)) + 1)), .ref b, .ref (ad 0)]) (by rw [← x_addN (a := (3 * (K + M))) (b := 1)] <;> rfl) ?_
      refine va_sld hx hb hX hbl hbA hS (i := (Int32.ofNat ((3 * (K + M)) + 1))) (x_inN (show ((3 * (K + M)) + 1) < L from by omega) (by omega)) d_La_law_335 ?_
      refine W.eq (g2 := F0 m 336 ls [.int (xs (((3 * (K + M)) + 1))), .ref (ad 0)]) (by rw [x_nat (a := ((3 * (K + M)) + 1)) (by omega)]) ?_
      refine lv_aload_n hx hb d_La_law_336 rfl (lv_at hl 3 rfl) ?_
      obtain ⟨G, C, Gs, hmi, hci⟩ := hco
      have hbc := hci.2.2.2
      dsimp only at hbc
      have hPW := hP
      have hDW := hD
      have hPc : va_P (dC, dI) y_cl ([(ot, .inl (ar 2, 1, .inr (.inl fo)))] ++ y_W ad ar I T A O pl) H := (y_subP hPW).2
      have hDc : va_D Bq ([(ot, .inl (ar 2, 1, .inr (.inl fo)))] ++ y_W ad ar I T A O pl) := (y_subD hDW).2
      have hFc := y_freeW hDc hS hA
      refine y_know (fun hyk1 hyk2 hyk3 hyk4 => ?_)
      have hKM : K + M ≤ 511 := by omega
      have hrm := y_r1 hKM hbc.2.2.1 hbc.2.2.2
      refine va_calli (vx_runSW (As := [.ref (ad 0), .int (xs (((3 * (K + M)) + 1))), .ref ot]) (rest := []) ⟨hx, hb, hml, hown, hts⟩ (c_La_channel l hst dC dI ar N0 z ad I T A O pl G C Gs qn sn cq cs K S ((xs (((3 * (K + M)) + 1)))) ot fo H.size (y_hs H) hmi (by omega) hci) (vx_cwSW 3 hts (x_goodSW k_953 k_954 k_0 k_955) rfl rfl rfl (by decide +kernel) ⟨Nat.le_of_ble_eq_true rfl, Nat.le_of_ble_eq_true rfl⟩) ⟨y_blind, fun U9 hU9 hW9 => y_pre hU9 hW9 hPc hDc hU hZ hS hAN hN0⟩ rfl rfl hl.1 rfl (lv_room (Nat.le_of_ble_eq_true rfl)) d_La_law_337 ⟨hrm.1, hrm.2⟩) hS (fun q _ h => hFc q h) hFc (fun r27 u t H1 locs ht hvm hw hB hz1 hk1 hS => ?_)
      obtain ⟨⟨I27, T27, A27, O27, pl27, q27, s27, cq27, cs27⟩, fo27⟩ := u
      dsimp only at hw hB
      rw [ht] at hB
      obtain ⟨hP1, hD1, hac⟩ := hB
      obtain ⟨hP, hD⟩ := y_jnR hPW hDW hk1 hFc hP1 hD1
      unfold y_aE at hac
      try dsimp only at hac
      generalize H1 = H at hP hS hac ⊢
      have hP : va_P (dC, dI) y_cl (m_W mo adm ar Im Tm Am Um ++ ([(ot, .inl (ar 2, 1, .inr (.inl fo27)))] ++ y_W ad ar I27 T27 A27 O27 pl27)) H := hP
      have hD : va_D Bq (m_W mo adm ar Im Tm Am Um ++ ([(ot, .inl (ar 2, 1, .inr (.inl fo27)))] ++ y_W ad ar I27 T27 A27 O27 pl27)) := hD
      have hco := hw
      have hbc2 := y_CO.b hco
      refine y_know (fun hym1 hym2 hym3 hym4 => ?_)
      refine y_tight (k := 60 + (cq27 + cs27) / 5 + (210 * K + 245 * M) + (7 + 1)) (n := 6000 + 4 * (cq27 + cs27) + (920 * K + 7410 * M) + 110) (y_t1 (e := 7) hyk2 hac.2) (y_t2 hyk4 hac.1) ?_
      have hrm9 := y_r3 hKM hbc2.1 hbc2.2
      have hrm8 := y_r5 (K := K) (M := M) (c := cq27 + cs27)
      clear hyk1 hyk2 hyk3 hyk4 hac hrm hym1 hym2 hym3 hym4
      clear hPc hDc hFc hPW hDW hk1 hP1 hD1
      refine lv_istore (lv' := [(5, .int r27), (0, .ref b), (1, .ref (ad 0)), (2, .ref mo), (3, .ref ot), (4, .int (Int32.ofNat (3 * (K + M))))]) hx hb d_La_law_340 hl (by decide) rfl (fun ls hl => ?_)
      refine lv_aload_n hx hb d_La_law_342 rfl (lv_at hl 3 rfl) ?_
      refine lv_aload_n hx hb d_La_law_343 rfl (lv_at hl 1 rfl) ?_
      refine lv_iload hx hb d_La_law_344 (lv_at hl 5 rfl) ?_
      refine lv_iconst (v := 1) hx hb d_La_law_346 (by decide) ?_
      refine lv_iadd hx hb d_La_law_347 ?_
      refine W.eq (g2 := F0 m 348 ls [.int (Int32.ofNat ((3 * (K + M)) + 1)), .ref b, .ref mo]) (by rw [← x_addN (a := (3 * (K + M))) (b := 1)] <;> rfl) ?_
      refine va_sld hx hb hX hbl hbA hS (i := (Int32.ofNat ((3 * (K + M)) + 1))) (x_inN (show ((3 * (K + M)) + 1) < L from by omega) (by omega)) d_La_law_348 ?_
      refine W.eq (g2 := F0 m 349 ls [.int (xs (((3 * (K + M)) + 1))), .ref mo]) (by rw [x_nat (a := ((3 * (K + M)) + 1)) (by omega)]) ?_
      have hPW := hP
      have hDW := hD
      have hPm : va_P (dC, dI) x_cl (m_W mo adm ar Im Tm Am Um) H := (y_trc m_W7).mpr (y_subP hPW).1
      have hDm : va_D Bq (m_W mo adm ar Im Tm Am Um) := (y_subD hDW).1
      have hFm := m_free hDm hS hA
      refine va_calli (va_runV (As := [.int (xs (((3 * (K + M)) + 1)))]) (rest := []) ⟨hx, hb, hml, hown, hts⟩ (m_channel l dC dI ar N0 z mo adm Im Tm Am Um S ((xs (((3 * (K + M)) + 1)))) H.size hok) (cwV 1 hts (x_goodV k_1282 k_1283 k_1284 k_9 k_1285) rfl rfl rfl (by decide +kernel) ⟨Nat.le_of_ble_eq_true rfl, Nat.le_of_ble_eq_true rfl⟩) ⟨x_blind, va_recv hU.1.1 hPm (ci := 6) (q0 := 0) rfl rfl, fun U9 hU9 hW9 => x_pre hU9 hW9 hPm hDm hU.1 hZ.1 hS hAN hN0⟩ rfl rfl hl.1 rfl (lv_room (Nat.le_of_ble_eq_true rfl)) d_La_law_349 ⟨Nat.le_trans (Nat.le_add_right _ _) hrm9.1, Nat.le_trans (Nat.le_add_right _ _) hrm9.2⟩) hS (fun q _ h => hFm q h) hFm (fun r28 u t H1 locs ht hvm hw hB hz1 hk1 hS => ?_)
      obtain ⟨Im28, Tm28, Am28, Um28⟩ := u
      dsimp only at hw hB
      rw [ht] at hB
      obtain ⟨hP, hD⟩ := y_jnL hPW hDW hk1 hFm ((y_trc m_W7).mp hB) (m_D (hDm.self (sz := H.size)))
      generalize H1 = H at hP hS ⊢
      have hP : va_P (dC, dI) y_cl (m_W mo adm ar Im28 Tm28 Am28 Um28 ++ ([(ot, .inl (ar 2, 1, .inr (.inl fo27)))] ++ y_W ad ar I27 T27 A27 O27 pl27)) H := hP
      have hD : va_D Bq (m_W mo adm ar Im28 Tm28 Am28 Um28 ++ ([(ot, .inl (ar 2, 1, .inr (.inl fo27)))] ++ y_W ad ar I27 T27 A27 O27 pl27)) := hD
      clear hPm hDm hFm hPW hDW hk1 hB
      refine W.cs (cells' := 60 + (cq27 + cs27) / 5 + (210 * K + 245 * M) + (7 + 1)) (slots' := 6000 + 4 * (cq27 + cs27) + (920 * K + 7410 * M) + 110) rfl rfl ?_
      have hok := hw
      refine lv_istore (lv' := [(6, .int r28), (5, .int r27), (0, .ref b), (1, .ref (ad 0)), (2, .ref mo), (3, .ref ot), (4, .int (Int32.ofNat (3 * (K + M))))]) hx hb d_La_law_352 hl (by decide) rfl (fun ls hl => ?_)
      refine lv_goto (tgt := 382) hx hb d_La_law_354 (by decide) ?_
      refine lv_iinc (v := (Int32.ofNat (3 * (K + M) + 3))) (lv' := [(4, .int (Int32.ofNat (3 * (K + M) + 3))), (6, .int r28), (5, .int r27), (0, .ref b), (1, .ref (ad 0)), (2, .ref mo), (3, .ref ot)]) hx hb d_La_law_382 hl (k := 6) rfl (x_addN (a := 3 * (K + M)) (b := 3)) (by decide) rfl (fun ls hl => ?_)
      refine lv_goto (tgt := 23) hx hb d_La_law_385 (by decide) ?_
      have e3 : 3 * (K + M) + 3 = 3 * (K + 1 + M) := by omega
      rw [e3] at hl
      refine W.widen (k := 60 + (cq27 + cs27) / 5 + (210 * (K + 1) + 245 * M)) (n := 6000 + 4 * (cq27 + cs27) + (920 * (K + 1) + 7410 * M)) (Nat.le_trans (Nat.le_add_right _ 200) hrm8.1) (Nat.le_trans (Nat.le_add_right _ 800) hrm8.2) ?_
      exact ih (512 - ((K + 1) + M)) (by omega) (K + 1, M, cq27 + cs27) H locs ls ⟨mo, adm, Im28, Tm28, Am28, Um28, S, ot, fo27, ad, I27, T27, A27, O27, pl27, q27, s27, cq27, cs27, rfl, rfl, (by dsimp only; omega), hok, hco, hP, hD, hS, lv_sub hl [3, 4, 5, 6, 0] rfl⟩
    · refine lv_tableIn (tgt := 357) hx hb d_La_law_39 (by decide) (by decide) (off := 318) rfl (by decide) ?_
      refine lv_aload_n hx hb d_La_law_357 rfl (lv_at hl 1 rfl) ?_
      refine lv_aload_n hx hb d_La_law_358 rfl (lv_at hl 0 rfl) ?_
      refine lv_iload hx hb d_La_law_359 (lv_at hl 4 rfl) ?_
      refine lv_iconst (v := 1) hx hb d_La_law_361 (by decide) ?_
      refine lv_iadd hx hb d_La_law_362 ?_
      refine W.eq (g2 := F0 m 363 ls [.int (Int32.ofNat ((3 * (K + M)) + 1)), .ref b, .ref (ad 0)]) (by rw [← x_addN (a := (3 * (K + M))) (b := 1)] <;> rfl) ?_
      refine va_sld hx hb hX hbl hbA hS (i := (Int32.ofNat ((3 * (K + M)) + 1))) (x_inN (show ((3 * (K + M)) + 1) < L from by omega) (by omega)) d_La_law_363 ?_
      refine W.eq (g2 := F0 m 364 ls [.int (xs (((3 * (K + M)) + 1))), .ref (ad 0)]) (by rw [x_nat (a := ((3 * (K + M)) + 1)) (by omega)]) ?_
      obtain ⟨G, C, Gs, hmi, hci⟩ := hco
      have hbc := hci.2.2.2
      dsimp only at hbc
      have hPW : va_P (dC, dI) y_cl ((m_W mo adm ar Im Tm Am Um ++ [(ot, .inl (ar 2, 1, .inr (.inl fo)))]) ++ y_W ad ar I T A O pl) H := by rw [List.append_assoc]; exact hP
      have hDW : va_D Bq ((m_W mo adm ar Im Tm Am Um ++ [(ot, .inl (ar 2, 1, .inr (.inl fo)))]) ++ y_W ad ar I T A O pl) := by rw [List.append_assoc]; exact hD
      have hPc : va_P (dC, dI) y_cl (y_W ad ar I T A O pl) H := (y_subP hPW).2
      have hDc : va_D Bq (y_W ad ar I T A O pl) := (y_subD hDW).2
      have hFc := y_freeW hDc hS hA
      refine y_know (fun hyk1 hyk2 hyk3 hyk4 => ?_)
      have hKM : K + M ≤ 511 := by omega
      have hrm := y_r1 hKM hbc.2.2.1 hbc.2.2.2
      refine va_calli (va_runV (As := [.int (xs (((3 * (K + M)) + 1)))]) (rest := []) ⟨hx, hb, hml, hown, hts⟩ (c_C_count l dC dI ar N0 z ad I T A O pl G C Gs qn sn cq cs K S ((xs (((3 * (K + M)) + 1)))) H.size (y_hs H) hmi (by omega) hci) (cwV 1 hts (x_goodV k_204 k_205 k_206 k_1 k_207) rfl rfl rfl (by decide +kernel) ⟨Nat.le_of_ble_eq_true rfl, Nat.le_of_ble_eq_true rfl⟩) ⟨y_blind, va_recv hU.2.1 hPc (ci := 5) (q0 := 0) rfl (y_W_ob (by decide) (by decide)), fun U9 hU9 hW9 => y_pre hU9 hW9 hPc hDc hU hZ hS hAN hN0⟩ rfl rfl hl.1 rfl (lv_room (Nat.le_of_ble_eq_true rfl)) d_La_law_364 ⟨hrm.1, hrm.2⟩) hS (fun q _ h => hFc q h) hFc (fun r29 u t H1 locs ht hvm hw hB hz1 hk1 hS => ?_)
      obtain ⟨I29, T29, A29, O29, pl29, q29, s29, cq29, cs29⟩ := u
      dsimp only at hw hB
      rw [ht] at hB
      obtain ⟨hP1, hD1, hac⟩ := hB
      obtain ⟨hP, hD⟩ := y_jnR hPW hDW hk1 hFc hP1 hD1
      rw [List.append_assoc] at hP hD
      unfold y_aE at hac
      try dsimp only at hac
      generalize H1 = H at hP hS hac ⊢
      have hP : va_P (dC, dI) y_cl (m_W mo adm ar Im Tm Am Um ++ ([(ot, .inl (ar 2, 1, .inr (.inl fo)))] ++ y_W ad ar I29 T29 A29 O29 pl29)) H := hP
      have hD : va_D Bq (m_W mo adm ar Im Tm Am Um ++ ([(ot, .inl (ar 2, 1, .inr (.inl fo)))] ++ y_W ad ar I29 T29 A29 O29 pl29)) := hD
      have hco := hw
      have hbc2 := y_CO.b hco
      refine y_know (fun hym1 hym2 hym3 hym4 => ?_)
      refine y_tight (k := 60 + (cq29 + cs29) / 5 + (210 * K + 245 * M) + (7 + 1)) (n := 6000 + 4 * (cq29 + cs29) + (920 * K + 7410 * M) + 110) (y_t1 (e := 7) hyk2 hac.2) (y_t2 hyk4 hac.1) ?_
      have hrm9 := y_r3 hKM hbc2.1 hbc2.2
      have hrm8 := y_r5 (K := K) (M := M) (c := cq29 + cs29)
      clear hyk1 hyk2 hyk3 hyk4 hac hrm hym1 hym2 hym3 hym4
      clear hPc hDc hFc hPW hDW hk1 hP1 hD1
      refine lv_pop hx hb d_La_law_367 rfl ?_
      refine lv_aload_n hx hb d_La_law_368 rfl (lv_at hl 2 rfl) ?_
      refine lv_aload_n hx hb d_La_law_369 rfl (lv_at hl 0 rfl) ?_
      refine lv_iload hx hb d_La_law_370 (lv_at hl 4 rfl) ?_
      refine lv_iconst (v := 1) hx hb d_La_law_372 (by decide) ?_
      refine lv_iadd hx hb d_La_law_373 ?_
      refine W.eq (g2 := F0 m 374 ls [.int (Int32.ofNat ((3 * (K + M)) + 1)), .ref b, .ref mo]) (by rw [← x_addN (a := (3 * (K + M))) (b := 1)] <;> rfl) ?_
      refine va_sld hx hb hX hbl hbA hS (i := (Int32.ofNat ((3 * (K + M)) + 1))) (x_inN (show ((3 * (K + M)) + 1) < L from by omega) (by omega)) d_La_law_374 ?_
      refine W.eq (g2 := F0 m 375 ls [.int (xs (((3 * (K + M)) + 1))), .ref mo]) (by rw [x_nat (a := ((3 * (K + M)) + 1)) (by omega)]) ?_
      have hPW := hP
      have hDW := hD
      have hPm : va_P (dC, dI) x_cl (m_W mo adm ar Im Tm Am Um) H := (y_trc m_W7).mpr (y_subP hPW).1
      have hDm : va_D Bq (m_W mo adm ar Im Tm Am Um) := (y_subD hDW).1
      have hFm := m_free hDm hS hA
      refine va_calli (va_runV (As := [.int (xs (((3 * (K + M)) + 1)))]) (rest := []) ⟨hx, hb, hml, hown, hts⟩ (m_count l dC dI ar N0 z mo adm Im Tm Am Um S ((xs (((3 * (K + M)) + 1)))) H.size hok) (cwV 1 hts (x_goodV k_1286 k_1287 k_1288 k_9 k_1289) rfl rfl rfl (by decide +kernel) ⟨Nat.le_of_ble_eq_true rfl, Nat.le_of_ble_eq_true rfl⟩) ⟨x_blind, va_recv hU.1.1 hPm (ci := 6) (q0 := 0) rfl rfl, fun U9 hU9 hW9 => x_pre hU9 hW9 hPm hDm hU.1 hZ.1 hS hAN hN0⟩ rfl rfl hl.1 rfl (lv_room (Nat.le_of_ble_eq_true rfl)) d_La_law_375 ⟨Nat.le_trans (Nat.le_add_right _ _) hrm9.1, Nat.le_trans (Nat.le_add_right _ _) hrm9.2⟩) hS (fun q _ h => hFm q h) hFm (fun r30 u t H1 locs ht hvm hw hB hz1 hk1 hS => ?_)
      obtain ⟨Im30, Tm30, Am30, Um30⟩ := u
      dsimp only at hw hB
      rw [ht] at hB
      obtain ⟨hP, hD⟩ := y_jnL hPW hDW hk1 hFm ((y_trc m_W7).mp hB) (m_D (hDm.self (sz := H.size)))
      generalize H1 = H at hP hS ⊢
      have hP : va_P (dC, dI) y_cl (m_W mo adm ar Im30 Tm30 Am30 Um30 ++ ([(ot, .inl (ar 2, 1, .inr (.inl fo)))] ++ y_W ad ar I29 T29 A29 O29 pl29)) H := hP
      have hD : va_D Bq (m_W mo adm ar Im30 Tm30 Am30 Um30 ++ ([(ot, .inl (ar 2, 1, .inr (.inl fo)))] ++ y_W ad ar I29 T29 A29 O29 pl29)) := hD
      clear hPm hDm hFm hPW hDW hk1 hB
      refine W.cs (cells' := 60 + (cq29 + cs29) / 5 + (210 * K + 245 * M) + (7 + 1)) (slots' := 6000 + 4 * (cq29 + cs29) + (920 * K + 7410 * M) + 110) rfl rfl ?_
      have hok := hw
      refine lv_pop hx hb d_La_law_378 rfl ?_
      refine lv_goto (tgt := 382) hx hb d_La_law_379 (by decide) ?_
      refine lv_iinc (v := (Int32.ofNat (3 * (K + M) + 3))) (lv' := [(4, .int (Int32.ofNat (3 * (K + M) + 3))), (0, .ref b), (1, .ref (ad 0)), (2, .ref mo), (3, .ref ot)]) hx hb d_La_law_382 hl (k := 4) rfl (x_addN (a := 3 * (K + M)) (b := 3)) (by decide) rfl (fun ls hl => ?_)
      refine lv_goto (tgt := 23) hx hb d_La_law_385 (by decide) ?_
      have e3 : 3 * (K + M) + 3 = 3 * (K + 1 + M) := by omega
      rw [e3] at hl
      refine W.widen (k := 60 + (cq29 + cs29) / 5 + (210 * (K + 1) + 245 * M)) (n := 6000 + 4 * (cq29 + cs29) + (920 * (K + 1) + 7410 * M)) (Nat.le_trans (Nat.le_add_right _ 200) hrm8.1) (Nat.le_trans (Nat.le_add_right _ 800) hrm8.2) ?_
      exact ih (512 - ((K + 1) + M)) (by omega) (K + 1, M, cq29 + cs29) H locs ls ⟨mo, adm, Im30, Tm30, Am30, Um30, S, ot, fo, ad, I29, T29, A29, O29, pl29, q29, s29, cq29, cs29, rfl, rfl, (by dsimp only; omega), hok, hco, hP, hD, hS, lv_sub hl [1, 2, 3, 4, 0] rfl⟩
