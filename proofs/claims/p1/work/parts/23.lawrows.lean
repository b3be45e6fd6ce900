-- ===== 23.lawrows: the law's instructions and words =====
theorem k_0 : (Jvm.Cond.initialized "ChannelMachineLaw") ∈ x_T := x_at 0 (by decide +kernel) (by decide +kernel)
theorem k_29 : (Jvm.Cond.classLink "ChannelMachineLaw" (8 : Nat) "ChannelMachine") ∈ x_T := x_at 29 (by decide +kernel) (by decide +kernel)
theorem k_30 : (Jvm.Cond.instantiable "ChannelMachine" (3 : Nat)) ∈ x_T := x_at 30 (by decide +kernel) (by decide +kernel)
theorem k_31 : (Jvm.Cond.methodLink "ChannelMachineLaw" (45 : Nat) ({ cls := "ChannelMachine", name := "<init>", desc := "()V" } : Jvm.MethodName)) ∈ x_T := x_at 31 (by decide +kernel) (by decide +kernel)
theorem k_32 : (Jvm.Cond.instanceMethod ({ cls := "ChannelMachine", name := "<init>", desc := "()V" } : Jvm.MethodName)) ∈ x_T := x_at 32 (by decide +kernel) (by decide +kernel)
theorem k_33 : (Jvm.Cond.code ({ cls := "ChannelMachine", name := "<init>", desc := "()V" } : Jvm.MethodName) prog_1_method_1_code (1 : Nat) (Option.none : Option Jvm.ClassFile.FieldType)) ∈ x_T := x_at 33 (by decide +kernel) (by decide +kernel)
theorem k_204 : (Jvm.Cond.methodLink "ChannelMachineLaw" (84 : Nat) ({ cls := "ChannelMachine", name := "count", desc := "(I)I" } : Jvm.MethodName)) ∈ x_T := x_at 204 (by decide +kernel) (by decide +kernel)
theorem k_205 : (Jvm.Cond.instanceMethod ({ cls := "ChannelMachine", name := "count", desc := "(I)I" } : Jvm.MethodName)) ∈ x_T := x_at 205 (by decide +kernel) (by decide +kernel)
theorem k_206 : (Jvm.Cond.selects "ChannelMachine" ({ cls := "ChannelMachine", name := "count", desc := "(I)I" } : Jvm.MethodName) ({ cls := "ChannelMachine", name := "count", desc := "(I)I" } : Jvm.MethodName)) ∈ x_T := x_at 206 (by decide +kernel) (by decide +kernel)
theorem k_207 : (Jvm.Cond.code ({ cls := "ChannelMachine", name := "count", desc := "(I)I" } : Jvm.MethodName) prog_1_method_11_code (2 : Nat) (Option.some Jvm.ClassFile.FieldType.int)) ∈ x_T := x_at 207 (by decide +kernel) (by decide +kernel)
theorem k_218 : (Jvm.Cond.methodLink "ChannelMachineLaw" (51 : Nat) ({ cls := "ChannelMachineLaw", name := "type", desc := "(LChannelMachine;J[J)I" } : Jvm.MethodName)) ∈ x_T := x_at 218 (by decide +kernel) (by decide +kernel)
theorem k_219 : (Jvm.Cond.static ({ cls := "ChannelMachineLaw", name := "type", desc := "(LChannelMachine;J[J)I" } : Jvm.MethodName)) ∈ x_T := x_at 219 (by decide +kernel) (by decide +kernel)
theorem k_319 : (Jvm.Cond.methodLink "ChannelMachineLaw" (60 : Nat) ({ cls := "ChannelMachineLaw", name := "load", desc := "(LChannelMachine;[J)I" } : Jvm.MethodName)) ∈ x_T := x_at 319 (by decide +kernel) (by decide +kernel)
theorem k_320 : (Jvm.Cond.static ({ cls := "ChannelMachineLaw", name := "load", desc := "(LChannelMachine;[J)I" } : Jvm.MethodName)) ∈ x_T := x_at 320 (by decide +kernel) (by decide +kernel)
theorem k_707 : (Jvm.Cond.methodLink "ChannelMachineLaw" (64 : Nat) ({ cls := "ChannelMachineLaw", name := "run", desc := "(LChannelMachine;I[J)I" } : Jvm.MethodName)) ∈ x_T := x_at 707 (by decide +kernel) (by decide +kernel)
theorem k_708 : (Jvm.Cond.static ({ cls := "ChannelMachineLaw", name := "run", desc := "(LChannelMachine;I[J)I" } : Jvm.MethodName)) ∈ x_T := x_at 708 (by decide +kernel) (by decide +kernel)
theorem k_897 : (Jvm.Cond.methodLink "ChannelMachineLaw" (68 : Nat) ({ cls := "ChannelMachineLaw", name := "give", desc := "(LChannelMachine;I[J)I" } : Jvm.MethodName)) ∈ x_T := x_at 897 (by decide +kernel) (by decide +kernel)
theorem k_898 : (Jvm.Cond.static ({ cls := "ChannelMachineLaw", name := "give", desc := "(LChannelMachine;I[J)I" } : Jvm.MethodName)) ∈ x_T := x_at 898 (by decide +kernel) (by decide +kernel)
theorem k_910 : (Jvm.Cond.methodLink "ChannelMachineLaw" (71 : Nat) ({ cls := "ChannelMachineLaw", name := "take", desc := "(LChannelMachine;[J)I" } : Jvm.MethodName)) ∈ x_T := x_at 910 (by decide +kernel) (by decide +kernel)
theorem k_911 : (Jvm.Cond.static ({ cls := "ChannelMachineLaw", name := "take", desc := "(LChannelMachine;[J)I" } : Jvm.MethodName)) ∈ x_T := x_at 911 (by decide +kernel) (by decide +kernel)
theorem k_938 : (Jvm.Cond.methodLink "ChannelMachineLaw" (74 : Nat) ({ cls := "ChannelMachineLaw", name := "variable", desc := "(LChannelMachine;I[J)I" } : Jvm.MethodName)) ∈ x_T := x_at 938 (by decide +kernel) (by decide +kernel)
theorem k_939 : (Jvm.Cond.static ({ cls := "ChannelMachineLaw", name := "variable", desc := "(LChannelMachine;I[J)I" } : Jvm.MethodName)) ∈ x_T := x_at 939 (by decide +kernel) (by decide +kernel)
theorem k_946 : (Jvm.Cond.methodLink "ChannelMachineLaw" (77 : Nat) ({ cls := "ChannelMachineLaw", name := "set", desc := "(LChannelMachine;II)I" } : Jvm.MethodName)) ∈ x_T := x_at 946 (by decide +kernel) (by decide +kernel)
theorem k_947 : (Jvm.Cond.static ({ cls := "ChannelMachineLaw", name := "set", desc := "(LChannelMachine;II)I" } : Jvm.MethodName)) ∈ x_T := x_at 947 (by decide +kernel) (by decide +kernel)
theorem k_953 : (Jvm.Cond.methodLink "ChannelMachineLaw" (81 : Nat) ({ cls := "ChannelMachineLaw", name := "channel", desc := "(LChannelMachine;I[J)I" } : Jvm.MethodName)) ∈ x_T := x_at 953 (by decide +kernel) (by decide +kernel)
theorem k_954 : (Jvm.Cond.static ({ cls := "ChannelMachineLaw", name := "channel", desc := "(LChannelMachine;I[J)I" } : Jvm.MethodName)) ∈ x_T := x_at 954 (by decide +kernel) (by decide +kernel)
theorem k_961 : (Jvm.Cond.classLink "ChannelMachineLaw" (46 : Nat) "ChannelMachineModel") ∈ x_T := x_at 961 (by decide +kernel) (by decide +kernel)
theorem k_962 : (Jvm.Cond.instantiable "ChannelMachineModel" (45 : Nat)) ∈ x_T := x_at 962 (by decide +kernel) (by decide +kernel)
theorem k_963 : (Jvm.Cond.methodLink "ChannelMachineLaw" (48 : Nat) ({ cls := "ChannelMachineModel", name := "<init>", desc := "()V" } : Jvm.MethodName)) ∈ x_T := x_at 963 (by decide +kernel) (by decide +kernel)
theorem k_964 : (Jvm.Cond.instanceMethod ({ cls := "ChannelMachineModel", name := "<init>", desc := "()V" } : Jvm.MethodName)) ∈ x_T := x_at 964 (by decide +kernel) (by decide +kernel)
theorem k_965 : (Jvm.Cond.code ({ cls := "ChannelMachineModel", name := "<init>", desc := "()V" } : Jvm.MethodName) prog_12_method_1_code (1 : Nat) (Option.none : Option Jvm.ClassFile.FieldType)) ∈ x_T := x_at 965 (by decide +kernel) (by decide +kernel)
theorem k_1105 : (Jvm.Cond.methodLink "ChannelMachineLaw" (57 : Nat) ({ cls := "ChannelMachineModel", name := "thrown", desc := "()I" } : Jvm.MethodName)) ∈ x_T := x_at 1105 (by decide +kernel) (by decide +kernel)
theorem k_1106 : (Jvm.Cond.instanceMethod ({ cls := "ChannelMachineModel", name := "thrown", desc := "()I" } : Jvm.MethodName)) ∈ x_T := x_at 1106 (by decide +kernel) (by decide +kernel)
theorem k_1107 : (Jvm.Cond.selects "ChannelMachineModel" ({ cls := "ChannelMachineModel", name := "thrown", desc := "()I" } : Jvm.MethodName) ({ cls := "ChannelMachineModel", name := "thrown", desc := "()I" } : Jvm.MethodName)) ∈ x_T := x_at 1107 (by decide +kernel) (by decide +kernel)
theorem k_1108 : (Jvm.Cond.code ({ cls := "ChannelMachineModel", name := "thrown", desc := "()I" } : Jvm.MethodName) prog_12_method_2_code (1 : Nat) (Option.some Jvm.ClassFile.FieldType.int)) ∈ x_T := x_at 1108 (by decide +kernel) (by decide +kernel)
theorem k_1109 : (Jvm.Cond.methodLink "ChannelMachineLaw" (56 : Nat) ({ cls := "ChannelMachineModel", name := "type", desc := "(J)I" } : Jvm.MethodName)) ∈ x_T := x_at 1109 (by decide +kernel) (by decide +kernel)
theorem k_1110 : (Jvm.Cond.instanceMethod ({ cls := "ChannelMachineModel", name := "type", desc := "(J)I" } : Jvm.MethodName)) ∈ x_T := x_at 1110 (by decide +kernel) (by decide +kernel)
theorem k_1111 : (Jvm.Cond.selects "ChannelMachineModel" ({ cls := "ChannelMachineModel", name := "type", desc := "(J)I" } : Jvm.MethodName) ({ cls := "ChannelMachineModel", name := "type", desc := "(J)I" } : Jvm.MethodName)) ∈ x_T := x_at 1111 (by decide +kernel) (by decide +kernel)
theorem k_1112 : (Jvm.Cond.code ({ cls := "ChannelMachineModel", name := "type", desc := "(J)I" } : Jvm.MethodName) prog_12_method_6_code (7 : Nat) (Option.some Jvm.ClassFile.FieldType.int)) ∈ x_T := x_at 1112 (by decide +kernel) (by decide +kernel)
theorem k_1124 : (Jvm.Cond.methodLink "ChannelMachineLaw" (63 : Nat) ({ cls := "ChannelMachineModel", name := "load", desc := "()I" } : Jvm.MethodName)) ∈ x_T := x_at 1124 (by decide +kernel) (by decide +kernel)
theorem k_1125 : (Jvm.Cond.instanceMethod ({ cls := "ChannelMachineModel", name := "load", desc := "()I" } : Jvm.MethodName)) ∈ x_T := x_at 1125 (by decide +kernel) (by decide +kernel)
theorem k_1126 : (Jvm.Cond.selects "ChannelMachineModel" ({ cls := "ChannelMachineModel", name := "load", desc := "()I" } : Jvm.MethodName) ({ cls := "ChannelMachineModel", name := "load", desc := "()I" } : Jvm.MethodName)) ∈ x_T := x_at 1126 (by decide +kernel) (by decide +kernel)
theorem k_1127 : (Jvm.Cond.code ({ cls := "ChannelMachineModel", name := "load", desc := "()I" } : Jvm.MethodName) prog_12_method_23_code (3 : Nat) (Option.some Jvm.ClassFile.FieldType.int)) ∈ x_T := x_at 1127 (by decide +kernel) (by decide +kernel)
theorem k_1198 : (Jvm.Cond.methodLink "ChannelMachineLaw" (67 : Nat) ({ cls := "ChannelMachineModel", name := "run", desc := "(I)I" } : Jvm.MethodName)) ∈ x_T := x_at 1198 (by decide +kernel) (by decide +kernel)
theorem k_1199 : (Jvm.Cond.instanceMethod ({ cls := "ChannelMachineModel", name := "run", desc := "(I)I" } : Jvm.MethodName)) ∈ x_T := x_at 1199 (by decide +kernel) (by decide +kernel)
theorem k_1200 : (Jvm.Cond.selects "ChannelMachineModel" ({ cls := "ChannelMachineModel", name := "run", desc := "(I)I" } : Jvm.MethodName) ({ cls := "ChannelMachineModel", name := "run", desc := "(I)I" } : Jvm.MethodName)) ∈ x_T := x_at 1200 (by decide +kernel) (by decide +kernel)
theorem k_1201 : (Jvm.Cond.code ({ cls := "ChannelMachineModel", name := "run", desc := "(I)I" } : Jvm.MethodName) prog_12_method_42_code (4 : Nat) (Option.some Jvm.ClassFile.FieldType.int)) ∈ x_T := x_at 1201 (by decide +kernel) (by decide +kernel)
theorem k_1266 : (Jvm.Cond.methodLink "ChannelMachineLaw" (70 : Nat) ({ cls := "ChannelMachineModel", name := "give", desc := "(I)I" } : Jvm.MethodName)) ∈ x_T := x_at 1266 (by decide +kernel) (by decide +kernel)
theorem k_1267 : (Jvm.Cond.instanceMethod ({ cls := "ChannelMachineModel", name := "give", desc := "(I)I" } : Jvm.MethodName)) ∈ x_T := x_at 1267 (by decide +kernel) (by decide +kernel)
theorem k_1268 : (Jvm.Cond.selects "ChannelMachineModel" ({ cls := "ChannelMachineModel", name := "give", desc := "(I)I" } : Jvm.MethodName) ({ cls := "ChannelMachineModel", name := "give", desc := "(I)I" } : Jvm.MethodName)) ∈ x_T := x_at 1268 (by decide +kernel) (by decide +kernel)
theorem k_1269 : (Jvm.Cond.code ({ cls := "ChannelMachineModel", name := "give", desc := "(I)I" } : Jvm.MethodName) prog_12_method_43_code (2 : Nat) (Option.some Jvm.ClassFile.FieldType.int)) ∈ x_T := x_at 1269 (by decide +kernel) (by decide +kernel)
theorem k_1270 : (Jvm.Cond.methodLink "ChannelMachineLaw" (73 : Nat) ({ cls := "ChannelMachineModel", name := "take", desc := "()I" } : Jvm.MethodName)) ∈ x_T := x_at 1270 (by decide +kernel) (by decide +kernel)
theorem k_1271 : (Jvm.Cond.instanceMethod ({ cls := "ChannelMachineModel", name := "take", desc := "()I" } : Jvm.MethodName)) ∈ x_T := x_at 1271 (by decide +kernel) (by decide +kernel)
theorem k_1272 : (Jvm.Cond.selects "ChannelMachineModel" ({ cls := "ChannelMachineModel", name := "take", desc := "()I" } : Jvm.MethodName) ({ cls := "ChannelMachineModel", name := "take", desc := "()I" } : Jvm.MethodName)) ∈ x_T := x_at 1272 (by decide +kernel) (by decide +kernel)
theorem k_1273 : (Jvm.Cond.code ({ cls := "ChannelMachineModel", name := "take", desc := "()I" } : Jvm.MethodName) prog_12_method_44_code (2 : Nat) (Option.some Jvm.ClassFile.FieldType.int)) ∈ x_T := x_at 1273 (by decide +kernel) (by decide +kernel)
theorem k_1274 : (Jvm.Cond.methodLink "ChannelMachineLaw" (76 : Nat) ({ cls := "ChannelMachineModel", name := "variable", desc := "(I)I" } : Jvm.MethodName)) ∈ x_T := x_at 1274 (by decide +kernel) (by decide +kernel)
theorem k_1275 : (Jvm.Cond.instanceMethod ({ cls := "ChannelMachineModel", name := "variable", desc := "(I)I" } : Jvm.MethodName)) ∈ x_T := x_at 1275 (by decide +kernel) (by decide +kernel)
theorem k_1276 : (Jvm.Cond.selects "ChannelMachineModel" ({ cls := "ChannelMachineModel", name := "variable", desc := "(I)I" } : Jvm.MethodName) ({ cls := "ChannelMachineModel", name := "variable", desc := "(I)I" } : Jvm.MethodName)) ∈ x_T := x_at 1276 (by decide +kernel) (by decide +kernel)
theorem k_1277 : (Jvm.Cond.code ({ cls := "ChannelMachineModel", name := "variable", desc := "(I)I" } : Jvm.MethodName) prog_12_method_45_code (2 : Nat) (Option.some Jvm.ClassFile.FieldType.int)) ∈ x_T := x_at 1277 (by decide +kernel) (by decide +kernel)
theorem k_1278 : (Jvm.Cond.methodLink "ChannelMachineLaw" (80 : Nat) ({ cls := "ChannelMachineModel", name := "set", desc := "(II)V" } : Jvm.MethodName)) ∈ x_T := x_at 1278 (by decide +kernel) (by decide +kernel)
theorem k_1279 : (Jvm.Cond.instanceMethod ({ cls := "ChannelMachineModel", name := "set", desc := "(II)V" } : Jvm.MethodName)) ∈ x_T := x_at 1279 (by decide +kernel) (by decide +kernel)
theorem k_1280 : (Jvm.Cond.selects "ChannelMachineModel" ({ cls := "ChannelMachineModel", name := "set", desc := "(II)V" } : Jvm.MethodName) ({ cls := "ChannelMachineModel", name := "set", desc := "(II)V" } : Jvm.MethodName)) ∈ x_T := x_at 1280 (by decide +kernel) (by decide +kernel)
theorem k_1281 : (Jvm.Cond.code ({ cls := "ChannelMachineModel", name := "set", desc := "(II)V" } : Jvm.MethodName) prog_12_method_46_code (3 : Nat) (Option.none : Option Jvm.ClassFile.FieldType)) ∈ x_T := x_at 1281 (by decide +kernel) (by decide +kernel)
theorem k_1282 : (Jvm.Cond.methodLink "ChannelMachineLaw" (83 : Nat) ({ cls := "ChannelMachineModel", name := "channel", desc := "(I)I" } : Jvm.MethodName)) ∈ x_T := x_at 1282 (by decide +kernel) (by decide +kernel)
theorem k_1283 : (Jvm.Cond.instanceMethod ({ cls := "ChannelMachineModel", name := "channel", desc := "(I)I" } : Jvm.MethodName)) ∈ x_T := x_at 1283 (by decide +kernel) (by decide +kernel)
theorem k_1284 : (Jvm.Cond.selects "ChannelMachineModel" ({ cls := "ChannelMachineModel", name := "channel", desc := "(I)I" } : Jvm.MethodName) ({ cls := "ChannelMachineModel", name := "channel", desc := "(I)I" } : Jvm.MethodName)) ∈ x_T := x_at 1284 (by decide +kernel) (by decide +kernel)
theorem k_1285 : (Jvm.Cond.code ({ cls := "ChannelMachineModel", name := "channel", desc := "(I)I" } : Jvm.MethodName) prog_12_method_47_code (2 : Nat) (Option.some Jvm.ClassFile.FieldType.int)) ∈ x_T := x_at 1285 (by decide +kernel) (by decide +kernel)
theorem k_1286 : (Jvm.Cond.methodLink "ChannelMachineLaw" (87 : Nat) ({ cls := "ChannelMachineModel", name := "count", desc := "(I)I" } : Jvm.MethodName)) ∈ x_T := x_at 1286 (by decide +kernel) (by decide +kernel)
theorem k_1287 : (Jvm.Cond.instanceMethod ({ cls := "ChannelMachineModel", name := "count", desc := "(I)I" } : Jvm.MethodName)) ∈ x_T := x_at 1287 (by decide +kernel) (by decide +kernel)
theorem k_1288 : (Jvm.Cond.selects "ChannelMachineModel" ({ cls := "ChannelMachineModel", name := "count", desc := "(I)I" } : Jvm.MethodName) ({ cls := "ChannelMachineModel", name := "count", desc := "(I)I" } : Jvm.MethodName)) ∈ x_T := x_at 1288 (by decide +kernel) (by decide +kernel)
theorem k_1289 : (Jvm.Cond.code ({ cls := "ChannelMachineModel", name := "count", desc := "(I)I" } : Jvm.MethodName) prog_12_method_48_code (5 : Nat) (Option.some Jvm.ClassFile.FieldType.int)) ∈ x_T := x_at 1289 (by decide +kernel) (by decide +kernel)
theorem k_1290 : (Jvm.Cond.constantLong "ChannelMachineLaw" (49 : Nat) (4294967295 : Int64)) ∈ x_T := x_at 1290 (by decide +kernel) (by decide +kernel)
theorem d_La_law_0 : decode code 0 = .ok (.new 8, 3) := by decide +kernel
theorem d_La_law_3 : decode code 3 = .ok (.dup, 1) := by decide +kernel
theorem d_La_law_4 : decode code 4 = .ok (.invokespecial 45, 3) := by decide +kernel
theorem d_La_law_7 : decode code 7 = .ok (.astore_n 1, 1) := by decide +kernel
theorem d_La_law_8 : decode code 8 = .ok (.new 46, 3) := by decide +kernel
theorem d_La_law_11 : decode code 11 = .ok (.dup, 1) := by decide +kernel
theorem d_La_law_12 : decode code 12 = .ok (.invokespecial 48, 3) := by decide +kernel
theorem d_La_law_15 : decode code 15 = .ok (.astore_n 2, 1) := by decide +kernel
theorem d_La_law_16 : decode code 16 = .ok (.iconst 1, 1) := by decide +kernel
theorem d_La_law_17 : decode code 17 = .ok (.newarray .long, 2) := by decide +kernel
theorem d_La_law_19 : decode code 19 = .ok (.astore_n 3, 1) := by decide +kernel
theorem d_La_law_20 : decode code 20 = .ok (.iconst 0, 1) := by decide +kernel
theorem d_La_law_21 : decode code 21 = .ok (.istore 4, 2) := by decide +kernel
theorem d_La_law_23 : decode code 23 = .ok (.iload 4, 2) := by decide +kernel
theorem d_La_law_25 : decode code 25 = .ok (.aload_n 0, 1) := by decide +kernel
theorem d_La_law_26 : decode code 26 = .ok (.arraylength, 1) := by decide +kernel
theorem d_La_law_27 : decode code 27 = .ok (.iconst 3, 1) := by decide +kernel
theorem d_La_law_28 : decode code 28 = .ok (.isub, 1) := by decide +kernel
theorem d_La_law_29 : decode code 29 = .ok (.if_icmp .gt 538, 3) := by decide +kernel
theorem d_La_law_32 : decode code 32 = .ok (.aload_n 0, 1) := by decide +kernel
theorem d_La_law_33 : decode code 33 = .ok (.iload 4, 2) := by decide +kernel
theorem d_La_law_35 : decode code 35 = .ok (.iaload, 1) := by decide +kernel
theorem d_La_law_36 : decode code 36 = .ok (.bipush 15, 2) := by decide +kernel
theorem d_La_law_38 : decode code 38 = .ok (.iand, 1) := by decide +kernel
theorem d_La_law_39 : decode code 39 = .ok (.tableswitch 522 0 8 #[49, 137, 181, 237, 293, 337, 393, 441, 497], 49) := by decide +kernel
theorem d_La_law_88 : decode code 88 = .ok (.aload_n 1, 1) := by decide +kernel
theorem d_La_law_89 : decode code 89 = .ok (.aload_n 0, 1) := by decide +kernel
theorem d_La_law_90 : decode code 90 = .ok (.iload 4, 2) := by decide +kernel
theorem d_La_law_92 : decode code 92 = .ok (.iconst 1, 1) := by decide +kernel
theorem d_La_law_93 : decode code 93 = .ok (.iadd, 1) := by decide +kernel
theorem d_La_law_94 : decode code 94 = .ok (.iaload, 1) := by decide +kernel
theorem d_La_law_95 : decode code 95 = .ok (.i2l, 1) := by decide +kernel
theorem d_La_law_96 : decode code 96 = .ok (.bipush 32, 2) := by decide +kernel
theorem d_La_law_98 : decode code 98 = .ok (.lshl, 1) := by decide +kernel
theorem d_La_law_99 : decode code 99 = .ok (.aload_n 0, 1) := by decide +kernel
theorem d_La_law_100 : decode code 100 = .ok (.iload 4, 2) := by decide +kernel
theorem d_La_law_102 : decode code 102 = .ok (.iconst 2, 1) := by decide +kernel
theorem d_La_law_103 : decode code 103 = .ok (.iadd, 1) := by decide +kernel
theorem d_La_law_104 : decode code 104 = .ok (.iaload, 1) := by decide +kernel
theorem d_La_law_105 : decode code 105 = .ok (.i2l, 1) := by decide +kernel
theorem d_La_law_106 : decode code 106 = .ok (.ldc2_w 49, 3) := by decide +kernel
theorem d_La_law_109 : decode code 109 = .ok (.land, 1) := by decide +kernel
theorem d_La_law_110 : decode code 110 = .ok (.lor, 1) := by decide +kernel
theorem d_La_law_111 : decode code 111 = .ok (.aload_n 3, 1) := by decide +kernel
theorem d_La_law_112 : decode code 112 = .ok (.invokestatic 51, 3) := by decide +kernel
theorem d_La_law_115 : decode code 115 = .ok (.istore 5, 2) := by decide +kernel
theorem d_La_law_117 : decode code 117 = .ok (.aload_n 2, 1) := by decide +kernel
theorem d_La_law_118 : decode code 118 = .ok (.aload_n 0, 1) := by decide +kernel
theorem d_La_law_119 : decode code 119 = .ok (.iload 4, 2) := by decide +kernel
theorem d_La_law_121 : decode code 121 = .ok (.iconst 1, 1) := by decide +kernel
theorem d_La_law_122 : decode code 122 = .ok (.iadd, 1) := by decide +kernel
theorem d_La_law_123 : decode code 123 = .ok (.iaload, 1) := by decide +kernel
theorem d_La_law_124 : decode code 124 = .ok (.i2l, 1) := by decide +kernel
theorem d_La_law_125 : decode code 125 = .ok (.bipush 32, 2) := by decide +kernel
theorem d_La_law_127 : decode code 127 = .ok (.lshl, 1) := by decide +kernel
theorem d_La_law_128 : decode code 128 = .ok (.aload_n 0, 1) := by decide +kernel
theorem d_La_law_129 : decode code 129 = .ok (.iload 4, 2) := by decide +kernel
theorem d_La_law_131 : decode code 131 = .ok (.iconst 2, 1) := by decide +kernel
theorem d_La_law_132 : decode code 132 = .ok (.iadd, 1) := by decide +kernel
theorem d_La_law_133 : decode code 133 = .ok (.iaload, 1) := by decide +kernel
theorem d_La_law_134 : decode code 134 = .ok (.i2l, 1) := by decide +kernel
theorem d_La_law_135 : decode code 135 = .ok (.ldc2_w 49, 3) := by decide +kernel
theorem d_La_law_138 : decode code 138 = .ok (.land, 1) := by decide +kernel
theorem d_La_law_139 : decode code 139 = .ok (.lor, 1) := by decide +kernel
theorem d_La_law_140 : decode code 140 = .ok (.invokevirtual 56, 3) := by decide +kernel
theorem d_La_law_143 : decode code 143 = .ok (.istore 6, 2) := by decide +kernel
theorem d_La_law_145 : decode code 145 = .ok (.aload_n 2, 1) := by decide +kernel
theorem d_La_law_146 : decode code 146 = .ok (.invokevirtual 57, 3) := by decide +kernel
theorem d_La_law_149 : decode code 149 = .ok (.iload 5, 2) := by decide +kernel
theorem d_La_law_151 : decode code 151 = .ok (.if_icmp .eq 5, 3) := by decide +kernel
theorem d_La_law_154 : decode code 154 = .ok (.iconst 0, 1) := by decide +kernel
theorem d_La_law_155 : decode code 155 = .ok (.ireturn, 1) := by decide +kernel
theorem d_La_law_156 : decode code 156 = .ok (.iload 5, 2) := by decide +kernel
theorem d_La_law_158 : decode code 158 = .ok (.ifCond .ne 15, 3) := by decide +kernel
theorem d_La_law_161 : decode code 161 = .ok (.aload_n 3, 1) := by decide +kernel
theorem d_La_law_162 : decode code 162 = .ok (.iconst 0, 1) := by decide +kernel
theorem d_La_law_163 : decode code 163 = .ok (.laload, 1) := by decide +kernel
theorem d_La_law_164 : decode code 164 = .ok (.iload 6, 2) := by decide +kernel
theorem d_La_law_166 : decode code 166 = .ok (.i2l, 1) := by decide +kernel
theorem d_La_law_167 : decode code 167 = .ok (.lcmp, 1) := by decide +kernel
theorem d_La_law_168 : decode code 168 = .ok (.ifCond .eq 5, 3) := by decide +kernel
theorem d_La_law_171 : decode code 171 = .ok (.iconst 0, 1) := by decide +kernel
theorem d_La_law_172 : decode code 172 = .ok (.ireturn, 1) := by decide +kernel
theorem d_La_law_173 : decode code 173 = .ok (.goto 388, 3) := by decide +kernel
theorem d_La_law_176 : decode code 176 = .ok (.aload_n 1, 1) := by decide +kernel
theorem d_La_law_177 : decode code 177 = .ok (.aload_n 3, 1) := by decide +kernel
theorem d_La_law_178 : decode code 178 = .ok (.invokestatic 60, 3) := by decide +kernel
theorem d_La_law_181 : decode code 181 = .ok (.istore 5, 2) := by decide +kernel
theorem d_La_law_183 : decode code 183 = .ok (.aload_n 2, 1) := by decide +kernel
theorem d_La_law_184 : decode code 184 = .ok (.invokevirtual 63, 3) := by decide +kernel
theorem d_La_law_187 : decode code 187 = .ok (.istore 6, 2) := by decide +kernel
theorem d_La_law_189 : decode code 189 = .ok (.aload_n 2, 1) := by decide +kernel
theorem d_La_law_190 : decode code 190 = .ok (.invokevirtual 57, 3) := by decide +kernel
theorem d_La_law_193 : decode code 193 = .ok (.iload 5, 2) := by decide +kernel
theorem d_La_law_195 : decode code 195 = .ok (.if_icmp .eq 5, 3) := by decide +kernel
theorem d_La_law_198 : decode code 198 = .ok (.iconst 0, 1) := by decide +kernel
theorem d_La_law_199 : decode code 199 = .ok (.ireturn, 1) := by decide +kernel
theorem d_La_law_200 : decode code 200 = .ok (.iload 5, 2) := by decide +kernel
theorem d_La_law_202 : decode code 202 = .ok (.ifCond .ne 15, 3) := by decide +kernel
theorem d_La_law_205 : decode code 205 = .ok (.aload_n 3, 1) := by decide +kernel
theorem d_La_law_206 : decode code 206 = .ok (.iconst 0, 1) := by decide +kernel
theorem d_La_law_207 : decode code 207 = .ok (.laload, 1) := by decide +kernel
theorem d_La_law_208 : decode code 208 = .ok (.iload 6, 2) := by decide +kernel
theorem d_La_law_210 : decode code 210 = .ok (.i2l, 1) := by decide +kernel
theorem d_La_law_211 : decode code 211 = .ok (.lcmp, 1) := by decide +kernel
theorem d_La_law_212 : decode code 212 = .ok (.ifCond .eq 5, 3) := by decide +kernel
theorem d_La_law_215 : decode code 215 = .ok (.iconst 0, 1) := by decide +kernel
theorem d_La_law_216 : decode code 216 = .ok (.ireturn, 1) := by decide +kernel
theorem d_La_law_217 : decode code 217 = .ok (.goto 344, 3) := by decide +kernel
theorem d_La_law_220 : decode code 220 = .ok (.aload_n 1, 1) := by decide +kernel
theorem d_La_law_221 : decode code 221 = .ok (.aload_n 0, 1) := by decide +kernel
theorem d_La_law_222 : decode code 222 = .ok (.iload 4, 2) := by decide +kernel
theorem d_La_law_224 : decode code 224 = .ok (.iconst 1, 1) := by decide +kernel
theorem d_La_law_225 : decode code 225 = .ok (.iadd, 1) := by decide +kernel
theorem d_La_law_226 : decode code 226 = .ok (.iaload, 1) := by decide +kernel
theorem d_La_law_227 : decode code 227 = .ok (.aload_n 3, 1) := by decide +kernel
theorem d_La_law_228 : decode code 228 = .ok (.invokestatic 64, 3) := by decide +kernel
theorem d_La_law_231 : decode code 231 = .ok (.istore 5, 2) := by decide +kernel
theorem d_La_law_233 : decode code 233 = .ok (.aload_n 2, 1) := by decide +kernel
theorem d_La_law_234 : decode code 234 = .ok (.aload_n 0, 1) := by decide +kernel
theorem d_La_law_235 : decode code 235 = .ok (.iload 4, 2) := by decide +kernel
theorem d_La_law_237 : decode code 237 = .ok (.iconst 1, 1) := by decide +kernel
theorem d_La_law_238 : decode code 238 = .ok (.iadd, 1) := by decide +kernel
theorem d_La_law_239 : decode code 239 = .ok (.iaload, 1) := by decide +kernel
theorem d_La_law_240 : decode code 240 = .ok (.invokevirtual 67, 3) := by decide +kernel
theorem d_La_law_243 : decode code 243 = .ok (.istore 6, 2) := by decide +kernel
theorem d_La_law_245 : decode code 245 = .ok (.aload_n 2, 1) := by decide +kernel
theorem d_La_law_246 : decode code 246 = .ok (.invokevirtual 57, 3) := by decide +kernel
theorem d_La_law_249 : decode code 249 = .ok (.iload 5, 2) := by decide +kernel
theorem d_La_law_251 : decode code 251 = .ok (.if_icmp .eq 5, 3) := by decide +kernel
theorem d_La_law_254 : decode code 254 = .ok (.iconst 0, 1) := by decide +kernel
theorem d_La_law_255 : decode code 255 = .ok (.ireturn, 1) := by decide +kernel
theorem d_La_law_256 : decode code 256 = .ok (.iload 5, 2) := by decide +kernel
theorem d_La_law_258 : decode code 258 = .ok (.ifCond .ne 15, 3) := by decide +kernel
theorem d_La_law_261 : decode code 261 = .ok (.aload_n 3, 1) := by decide +kernel
theorem d_La_law_262 : decode code 262 = .ok (.iconst 0, 1) := by decide +kernel
theorem d_La_law_263 : decode code 263 = .ok (.laload, 1) := by decide +kernel
theorem d_La_law_264 : decode code 264 = .ok (.iload 6, 2) := by decide +kernel
theorem d_La_law_266 : decode code 266 = .ok (.i2l, 1) := by decide +kernel
theorem d_La_law_267 : decode code 267 = .ok (.lcmp, 1) := by decide +kernel
theorem d_La_law_268 : decode code 268 = .ok (.ifCond .eq 5, 3) := by decide +kernel
theorem d_La_law_271 : decode code 271 = .ok (.iconst 0, 1) := by decide +kernel
theorem d_La_law_272 : decode code 272 = .ok (.ireturn, 1) := by decide +kernel
theorem d_La_law_273 : decode code 273 = .ok (.goto 288, 3) := by decide +kernel
theorem d_La_law_276 : decode code 276 = .ok (.aload_n 1, 1) := by decide +kernel
theorem d_La_law_277 : decode code 277 = .ok (.aload_n 0, 1) := by decide +kernel
theorem d_La_law_278 : decode code 278 = .ok (.iload 4, 2) := by decide +kernel
theorem d_La_law_280 : decode code 280 = .ok (.iconst 1, 1) := by decide +kernel
theorem d_La_law_281 : decode code 281 = .ok (.iadd, 1) := by decide +kernel
theorem d_La_law_282 : decode code 282 = .ok (.iaload, 1) := by decide +kernel
theorem d_La_law_283 : decode code 283 = .ok (.aload_n 3, 1) := by decide +kernel
theorem d_La_law_284 : decode code 284 = .ok (.invokestatic 68, 3) := by decide +kernel
theorem d_La_law_287 : decode code 287 = .ok (.istore 5, 2) := by decide +kernel
theorem d_La_law_289 : decode code 289 = .ok (.aload_n 2, 1) := by decide +kernel
theorem d_La_law_290 : decode code 290 = .ok (.aload_n 0, 1) := by decide +kernel
theorem d_La_law_291 : decode code 291 = .ok (.iload 4, 2) := by decide +kernel
theorem d_La_law_293 : decode code 293 = .ok (.iconst 1, 1) := by decide +kernel
theorem d_La_law_294 : decode code 294 = .ok (.iadd, 1) := by decide +kernel
theorem d_La_law_295 : decode code 295 = .ok (.iaload, 1) := by decide +kernel
theorem d_La_law_296 : decode code 296 = .ok (.invokevirtual 70, 3) := by decide +kernel
theorem d_La_law_299 : decode code 299 = .ok (.istore 6, 2) := by decide +kernel
theorem d_La_law_301 : decode code 301 = .ok (.aload_n 2, 1) := by decide +kernel
theorem d_La_law_302 : decode code 302 = .ok (.invokevirtual 57, 3) := by decide +kernel
theorem d_La_law_305 : decode code 305 = .ok (.iload 5, 2) := by decide +kernel
theorem d_La_law_307 : decode code 307 = .ok (.if_icmp .eq 5, 3) := by decide +kernel
theorem d_La_law_310 : decode code 310 = .ok (.iconst 0, 1) := by decide +kernel
theorem d_La_law_311 : decode code 311 = .ok (.ireturn, 1) := by decide +kernel
theorem d_La_law_312 : decode code 312 = .ok (.iload 5, 2) := by decide +kernel
theorem d_La_law_314 : decode code 314 = .ok (.ifCond .ne 15, 3) := by decide +kernel
theorem d_La_law_317 : decode code 317 = .ok (.aload_n 3, 1) := by decide +kernel
theorem d_La_law_318 : decode code 318 = .ok (.iconst 0, 1) := by decide +kernel
theorem d_La_law_319 : decode code 319 = .ok (.laload, 1) := by decide +kernel
theorem d_La_law_320 : decode code 320 = .ok (.iload 6, 2) := by decide +kernel
theorem d_La_law_322 : decode code 322 = .ok (.i2l, 1) := by decide +kernel
theorem d_La_law_323 : decode code 323 = .ok (.lcmp, 1) := by decide +kernel
theorem d_La_law_324 : decode code 324 = .ok (.ifCond .eq 5, 3) := by decide +kernel
theorem d_La_law_327 : decode code 327 = .ok (.iconst 0, 1) := by decide +kernel
theorem d_La_law_328 : decode code 328 = .ok (.ireturn, 1) := by decide +kernel
theorem d_La_law_329 : decode code 329 = .ok (.goto 232, 3) := by decide +kernel
theorem d_La_law_332 : decode code 332 = .ok (.aload_n 1, 1) := by decide +kernel
theorem d_La_law_333 : decode code 333 = .ok (.aload_n 3, 1) := by decide +kernel
theorem d_La_law_334 : decode code 334 = .ok (.invokestatic 71, 3) := by decide +kernel
theorem d_La_law_337 : decode code 337 = .ok (.istore 5, 2) := by decide +kernel
theorem d_La_law_339 : decode code 339 = .ok (.aload_n 2, 1) := by decide +kernel
theorem d_La_law_340 : decode code 340 = .ok (.invokevirtual 73, 3) := by decide +kernel
theorem d_La_law_343 : decode code 343 = .ok (.istore 6, 2) := by decide +kernel
theorem d_La_law_345 : decode code 345 = .ok (.aload_n 2, 1) := by decide +kernel
theorem d_La_law_346 : decode code 346 = .ok (.invokevirtual 57, 3) := by decide +kernel
theorem d_La_law_349 : decode code 349 = .ok (.iload 5, 2) := by decide +kernel
theorem d_La_law_351 : decode code 351 = .ok (.if_icmp .eq 5, 3) := by decide +kernel
theorem d_La_law_354 : decode code 354 = .ok (.iconst 0, 1) := by decide +kernel
theorem d_La_law_355 : decode code 355 = .ok (.ireturn, 1) := by decide +kernel
theorem d_La_law_356 : decode code 356 = .ok (.iload 5, 2) := by decide +kernel
theorem d_La_law_358 : decode code 358 = .ok (.ifCond .ne 15, 3) := by decide +kernel
theorem d_La_law_361 : decode code 361 = .ok (.aload_n 3, 1) := by decide +kernel
theorem d_La_law_362 : decode code 362 = .ok (.iconst 0, 1) := by decide +kernel
theorem d_La_law_363 : decode code 363 = .ok (.laload, 1) := by decide +kernel
theorem d_La_law_364 : decode code 364 = .ok (.iload 6, 2) := by decide +kernel
theorem d_La_law_366 : decode code 366 = .ok (.i2l, 1) := by decide +kernel
theorem d_La_law_367 : decode code 367 = .ok (.lcmp, 1) := by decide +kernel
theorem d_La_law_368 : decode code 368 = .ok (.ifCond .eq 5, 3) := by decide +kernel
theorem d_La_law_371 : decode code 371 = .ok (.iconst 0, 1) := by decide +kernel
theorem d_La_law_372 : decode code 372 = .ok (.ireturn, 1) := by decide +kernel
theorem d_La_law_373 : decode code 373 = .ok (.goto 188, 3) := by decide +kernel
theorem d_La_law_376 : decode code 376 = .ok (.aload_n 1, 1) := by decide +kernel
theorem d_La_law_377 : decode code 377 = .ok (.aload_n 0, 1) := by decide +kernel
theorem d_La_law_378 : decode code 378 = .ok (.iload 4, 2) := by decide +kernel
theorem d_La_law_380 : decode code 380 = .ok (.iconst 1, 1) := by decide +kernel
theorem d_La_law_381 : decode code 381 = .ok (.iadd, 1) := by decide +kernel
theorem d_La_law_382 : decode code 382 = .ok (.iaload, 1) := by decide +kernel
theorem d_La_law_383 : decode code 383 = .ok (.aload_n 3, 1) := by decide +kernel
theorem d_La_law_384 : decode code 384 = .ok (.invokestatic 74, 3) := by decide +kernel
theorem d_La_law_387 : decode code 387 = .ok (.istore 5, 2) := by decide +kernel
theorem d_La_law_389 : decode code 389 = .ok (.aload_n 2, 1) := by decide +kernel
theorem d_La_law_390 : decode code 390 = .ok (.aload_n 0, 1) := by decide +kernel
theorem d_La_law_391 : decode code 391 = .ok (.iload 4, 2) := by decide +kernel
theorem d_La_law_393 : decode code 393 = .ok (.iconst 1, 1) := by decide +kernel
theorem d_La_law_394 : decode code 394 = .ok (.iadd, 1) := by decide +kernel
theorem d_La_law_395 : decode code 395 = .ok (.iaload, 1) := by decide +kernel
theorem d_La_law_396 : decode code 396 = .ok (.invokevirtual 76, 3) := by decide +kernel
theorem d_La_law_399 : decode code 399 = .ok (.istore 6, 2) := by decide +kernel
theorem d_La_law_401 : decode code 401 = .ok (.aload_n 2, 1) := by decide +kernel
theorem d_La_law_402 : decode code 402 = .ok (.invokevirtual 57, 3) := by decide +kernel
theorem d_La_law_405 : decode code 405 = .ok (.iload 5, 2) := by decide +kernel
theorem d_La_law_407 : decode code 407 = .ok (.if_icmp .eq 5, 3) := by decide +kernel
theorem d_La_law_410 : decode code 410 = .ok (.iconst 0, 1) := by decide +kernel
theorem d_La_law_411 : decode code 411 = .ok (.ireturn, 1) := by decide +kernel
theorem d_La_law_412 : decode code 412 = .ok (.iload 5, 2) := by decide +kernel
theorem d_La_law_414 : decode code 414 = .ok (.ifCond .ne 15, 3) := by decide +kernel
theorem d_La_law_417 : decode code 417 = .ok (.aload_n 3, 1) := by decide +kernel
theorem d_La_law_418 : decode code 418 = .ok (.iconst 0, 1) := by decide +kernel
theorem d_La_law_419 : decode code 419 = .ok (.laload, 1) := by decide +kernel
theorem d_La_law_420 : decode code 420 = .ok (.iload 6, 2) := by decide +kernel
theorem d_La_law_422 : decode code 422 = .ok (.i2l, 1) := by decide +kernel
theorem d_La_law_423 : decode code 423 = .ok (.lcmp, 1) := by decide +kernel
theorem d_La_law_424 : decode code 424 = .ok (.ifCond .eq 5, 3) := by decide +kernel
theorem d_La_law_427 : decode code 427 = .ok (.iconst 0, 1) := by decide +kernel
theorem d_La_law_428 : decode code 428 = .ok (.ireturn, 1) := by decide +kernel
theorem d_La_law_429 : decode code 429 = .ok (.goto 132, 3) := by decide +kernel
theorem d_La_law_432 : decode code 432 = .ok (.aload_n 1, 1) := by decide +kernel
theorem d_La_law_433 : decode code 433 = .ok (.aload_n 0, 1) := by decide +kernel
theorem d_La_law_434 : decode code 434 = .ok (.iload 4, 2) := by decide +kernel
theorem d_La_law_436 : decode code 436 = .ok (.iconst 1, 1) := by decide +kernel
theorem d_La_law_437 : decode code 437 = .ok (.iadd, 1) := by decide +kernel
theorem d_La_law_438 : decode code 438 = .ok (.iaload, 1) := by decide +kernel
theorem d_La_law_439 : decode code 439 = .ok (.aload_n 0, 1) := by decide +kernel
theorem d_La_law_440 : decode code 440 = .ok (.iload 4, 2) := by decide +kernel
theorem d_La_law_442 : decode code 442 = .ok (.iconst 2, 1) := by decide +kernel
theorem d_La_law_443 : decode code 443 = .ok (.iadd, 1) := by decide +kernel
theorem d_La_law_444 : decode code 444 = .ok (.iaload, 1) := by decide +kernel
theorem d_La_law_445 : decode code 445 = .ok (.invokestatic 77, 3) := by decide +kernel
theorem d_La_law_448 : decode code 448 = .ok (.istore 5, 2) := by decide +kernel
theorem d_La_law_450 : decode code 450 = .ok (.aload_n 2, 1) := by decide +kernel
theorem d_La_law_451 : decode code 451 = .ok (.aload_n 0, 1) := by decide +kernel
theorem d_La_law_452 : decode code 452 = .ok (.iload 4, 2) := by decide +kernel
theorem d_La_law_454 : decode code 454 = .ok (.iconst 1, 1) := by decide +kernel
theorem d_La_law_455 : decode code 455 = .ok (.iadd, 1) := by decide +kernel
theorem d_La_law_456 : decode code 456 = .ok (.iaload, 1) := by decide +kernel
theorem d_La_law_457 : decode code 457 = .ok (.aload_n 0, 1) := by decide +kernel
theorem d_La_law_458 : decode code 458 = .ok (.iload 4, 2) := by decide +kernel
theorem d_La_law_460 : decode code 460 = .ok (.iconst 2, 1) := by decide +kernel
theorem d_La_law_461 : decode code 461 = .ok (.iadd, 1) := by decide +kernel
theorem d_La_law_462 : decode code 462 = .ok (.iaload, 1) := by decide +kernel
theorem d_La_law_463 : decode code 463 = .ok (.invokevirtual 80, 3) := by decide +kernel
theorem d_La_law_466 : decode code 466 = .ok (.aload_n 2, 1) := by decide +kernel
theorem d_La_law_467 : decode code 467 = .ok (.invokevirtual 57, 3) := by decide +kernel
theorem d_La_law_470 : decode code 470 = .ok (.iload 5, 2) := by decide +kernel
theorem d_La_law_472 : decode code 472 = .ok (.if_icmp .eq 5, 3) := by decide +kernel
theorem d_La_law_475 : decode code 475 = .ok (.iconst 0, 1) := by decide +kernel
theorem d_La_law_476 : decode code 476 = .ok (.ireturn, 1) := by decide +kernel
theorem d_La_law_477 : decode code 477 = .ok (.goto 84, 3) := by decide +kernel
theorem d_La_law_480 : decode code 480 = .ok (.aload_n 1, 1) := by decide +kernel
theorem d_La_law_481 : decode code 481 = .ok (.aload_n 0, 1) := by decide +kernel
theorem d_La_law_482 : decode code 482 = .ok (.iload 4, 2) := by decide +kernel
theorem d_La_law_484 : decode code 484 = .ok (.iconst 1, 1) := by decide +kernel
theorem d_La_law_485 : decode code 485 = .ok (.iadd, 1) := by decide +kernel
theorem d_La_law_486 : decode code 486 = .ok (.iaload, 1) := by decide +kernel
theorem d_La_law_487 : decode code 487 = .ok (.aload_n 3, 1) := by decide +kernel
theorem d_La_law_488 : decode code 488 = .ok (.invokestatic 81, 3) := by decide +kernel
theorem d_La_law_491 : decode code 491 = .ok (.istore 5, 2) := by decide +kernel
theorem d_La_law_493 : decode code 493 = .ok (.aload_n 2, 1) := by decide +kernel
theorem d_La_law_494 : decode code 494 = .ok (.aload_n 0, 1) := by decide +kernel
theorem d_La_law_495 : decode code 495 = .ok (.iload 4, 2) := by decide +kernel
theorem d_La_law_497 : decode code 497 = .ok (.iconst 1, 1) := by decide +kernel
theorem d_La_law_498 : decode code 498 = .ok (.iadd, 1) := by decide +kernel
theorem d_La_law_499 : decode code 499 = .ok (.iaload, 1) := by decide +kernel
theorem d_La_law_500 : decode code 500 = .ok (.invokevirtual 83, 3) := by decide +kernel
theorem d_La_law_503 : decode code 503 = .ok (.istore 6, 2) := by decide +kernel
theorem d_La_law_505 : decode code 505 = .ok (.aload_n 2, 1) := by decide +kernel
theorem d_La_law_506 : decode code 506 = .ok (.invokevirtual 57, 3) := by decide +kernel
theorem d_La_law_509 : decode code 509 = .ok (.iload 5, 2) := by decide +kernel
theorem d_La_law_511 : decode code 511 = .ok (.if_icmp .eq 5, 3) := by decide +kernel
theorem d_La_law_514 : decode code 514 = .ok (.iconst 0, 1) := by decide +kernel
theorem d_La_law_515 : decode code 515 = .ok (.ireturn, 1) := by decide +kernel
theorem d_La_law_516 : decode code 516 = .ok (.iload 5, 2) := by decide +kernel
theorem d_La_law_518 : decode code 518 = .ok (.ifCond .ne 15, 3) := by decide +kernel
theorem d_La_law_521 : decode code 521 = .ok (.aload_n 3, 1) := by decide +kernel
theorem d_La_law_522 : decode code 522 = .ok (.iconst 0, 1) := by decide +kernel
theorem d_La_law_523 : decode code 523 = .ok (.laload, 1) := by decide +kernel
theorem d_La_law_524 : decode code 524 = .ok (.iload 6, 2) := by decide +kernel
theorem d_La_law_526 : decode code 526 = .ok (.i2l, 1) := by decide +kernel
theorem d_La_law_527 : decode code 527 = .ok (.lcmp, 1) := by decide +kernel
theorem d_La_law_528 : decode code 528 = .ok (.ifCond .eq 5, 3) := by decide +kernel
theorem d_La_law_531 : decode code 531 = .ok (.iconst 0, 1) := by decide +kernel
theorem d_La_law_532 : decode code 532 = .ok (.ireturn, 1) := by decide +kernel
theorem d_La_law_533 : decode code 533 = .ok (.goto 28, 3) := by decide +kernel
theorem d_La_law_536 : decode code 536 = .ok (.aload_n 1, 1) := by decide +kernel
theorem d_La_law_537 : decode code 537 = .ok (.aload_n 0, 1) := by decide +kernel
theorem d_La_law_538 : decode code 538 = .ok (.iload 4, 2) := by decide +kernel
theorem d_La_law_540 : decode code 540 = .ok (.iconst 1, 1) := by decide +kernel
theorem d_La_law_541 : decode code 541 = .ok (.iadd, 1) := by decide +kernel
theorem d_La_law_542 : decode code 542 = .ok (.iaload, 1) := by decide +kernel
theorem d_La_law_543 : decode code 543 = .ok (.invokevirtual 84, 3) := by decide +kernel
theorem d_La_law_546 : decode code 546 = .ok (.aload_n 2, 1) := by decide +kernel
theorem d_La_law_547 : decode code 547 = .ok (.aload_n 0, 1) := by decide +kernel
theorem d_La_law_548 : decode code 548 = .ok (.iload 4, 2) := by decide +kernel
theorem d_La_law_550 : decode code 550 = .ok (.iconst 1, 1) := by decide +kernel
theorem d_La_law_551 : decode code 551 = .ok (.iadd, 1) := by decide +kernel
theorem d_La_law_552 : decode code 552 = .ok (.iaload, 1) := by decide +kernel
theorem d_La_law_553 : decode code 553 = .ok (.invokevirtual 87, 3) := by decide +kernel
theorem d_La_law_556 : decode code 556 = .ok (.if_icmp .eq 5, 3) := by decide +kernel
theorem d_La_law_559 : decode code 559 = .ok (.iconst 0, 1) := by decide +kernel
theorem d_La_law_560 : decode code 560 = .ok (.ireturn, 1) := by decide +kernel
theorem d_La_law_561 : decode code 561 = .ok (.iinc 4 3, 3) := by decide +kernel
theorem d_La_law_564 : decode code 564 = .ok (.goto (-541), 3) := by decide +kernel
theorem d_La_law_567 : decode code 567 = .ok (.iconst 1, 1) := by decide +kernel
theorem d_La_law_568 : decode code 568 = .ok (.ireturn, 1) := by decide +kernel
theorem x_d1 {v : Int32} (h : ¬ v < 0 ∧ v < 6) (h' : v < 0 ∨ 5 < v) : False := by
  rw [x_lt, x_lt] at h
  rw [x_lt, x_lt] at h'
  have h5 : (5 : Int32).toInt = 5 := by decide
  have h6 : (6 : Int32).toInt = 6 := by decide
  omega
theorem x_d2 {v : Int32} (h : v < 0 ∨ ¬ v < 6) (h' : ¬ v < 0 ∧ ¬ 5 < v) : False := by
  rw [x_lt, x_lt] at h
  rw [x_lt, x_lt] at h'
  have h5 : (5 : Int32).toInt = 5 := by decide
  have h6 : (6 : Int32).toInt = 6 := by decide
  omega
theorem x_d3 {v : Int32} (h : v < 1 ∨ ¬ v ≤ 200) (h' : ¬ v < 1 ∧ ¬ 200 < v) : False := by
  rw [x_lt, x_le] at h
  rw [x_lt, x_lt] at h'
  omega
theorem x_d4 {v : Int32} (h : ¬ v < 1 ∧ v ≤ 200) (h' : v < 1 ∨ 200 < v) : False := by
  rw [x_lt, x_le] at h
  rw [x_lt, x_lt] at h'
  omega
