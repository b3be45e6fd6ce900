-- ===== 05.classes: the tables of the classes that have objects, by program =====
theorem k_56 : (Jvm.Cond.laysFinal "ChannelMachine$Reader" "ChannelMachine$Reader" "text" "[C") ∈ x_T := x_at 56 (by decide +kernel) (by decide +kernel)
theorem k_58 : (Jvm.Cond.laysFinal "ChannelMachine$Reader" "ChannelMachine$Reader" "code" "[I") ∈ x_T := x_at 58 (by decide +kernel) (by decide +kernel)
theorem k_60 : (Jvm.Cond.lays "ChannelMachine$Reader" "ChannelMachine$Reader" "length" "I") ∈ x_T := x_at 60 (by decide +kernel) (by decide +kernel)
theorem k_62 : (Jvm.Cond.lays "ChannelMachine$Reader" "ChannelMachine$Reader" "codeLength" "I") ∈ x_T := x_at 62 (by decide +kernel) (by decide +kernel)
theorem k_64 : (Jvm.Cond.lays "ChannelMachine$Reader" "ChannelMachine$Reader" "limit" "I") ∈ x_T := x_at 64 (by decide +kernel) (by decide +kernel)
theorem k_66 : (Jvm.Cond.lays "ChannelMachine$Reader" "ChannelMachine$Reader" "at" "I") ∈ x_T := x_at 66 (by decide +kernel) (by decide +kernel)
theorem k_68 : (Jvm.Cond.lays "ChannelMachine$Reader" "ChannelMachine$Reader" "place" "I") ∈ x_T := x_at 68 (by decide +kernel) (by decide +kernel)
theorem k_70 : (Jvm.Cond.lays "ChannelMachine$Reader" "ChannelMachine$Reader" "processes" "I") ∈ x_T := x_at 70 (by decide +kernel) (by decide +kernel)
theorem k_72 : (Jvm.Cond.lays "ChannelMachine$Reader" "ChannelMachine$Reader" "program" "LChannelMachine$Process;") ∈ x_T := x_at 72 (by decide +kernel) (by decide +kernel)
theorem k_95 : (Jvm.Cond.laysFinal "ChannelMachine$Row" "ChannelMachine$Row" "values" "[I") ∈ x_T := x_at 95 (by decide +kernel) (by decide +kernel)
theorem k_97 : (Jvm.Cond.lays "ChannelMachine$Row" "ChannelMachine$Row" "size" "I") ∈ x_T := x_at 97 (by decide +kernel) (by decide +kernel)
theorem k_119 : (Jvm.Cond.lays "java/util/ArrayList" "java/util/ArrayList" "elementData" "[Ljava/lang/Object;") ∈ x_T := x_at 119 (by decide +kernel) (by decide +kernel)
theorem k_121 : (Jvm.Cond.lays "java/util/ArrayList" "java/util/ArrayList" "size" "I") ∈ x_T := x_at 121 (by decide +kernel) (by decide +kernel)
theorem k_123 : (Jvm.Cond.lays "java/util/ArrayList" "java/util/AbstractList" "modCount" "I") ∈ x_T := x_at 123 (by decide +kernel) (by decide +kernel)
theorem k_141 : (Jvm.Cond.lays "ChannelMachine$Channel" "ChannelMachine$Channel" "sender" "LChannelMachine$Task;") ∈ x_T := x_at 141 (by decide +kernel) (by decide +kernel)
theorem k_143 : (Jvm.Cond.lays "ChannelMachine$Channel" "ChannelMachine$Channel" "receiver" "LChannelMachine$Task;") ∈ x_T := x_at 143 (by decide +kernel) (by decide +kernel)
theorem k_145 : (Jvm.Cond.lays "ChannelMachine$Channel" "ChannelMachine$Channel" "variable" "I") ∈ x_T := x_at 145 (by decide +kernel) (by decide +kernel)
theorem k_147 : (Jvm.Cond.lays "ChannelMachine$Channel" "ChannelMachine$Channel" "follow" "LChannelMachine$Process;") ∈ x_T := x_at 147 (by decide +kernel) (by decide +kernel)
theorem k_171 : (Jvm.Cond.laysFinal "ChannelMachine$Machine" "ChannelMachine$Machine" "variables" "[I") ∈ x_T := x_at 171 (by decide +kernel) (by decide +kernel)
theorem k_173 : (Jvm.Cond.laysFinal "ChannelMachine$Machine" "ChannelMachine$Machine" "channels" "[LChannelMachine$Channel;") ∈ x_T := x_at 173 (by decide +kernel) (by decide +kernel)
theorem k_175 : (Jvm.Cond.laysFinal "ChannelMachine$Machine" "ChannelMachine$Machine" "gifts" "LChannelMachine$Row;") ∈ x_T := x_at 175 (by decide +kernel) (by decide +kernel)
theorem k_177 : (Jvm.Cond.laysFinal "ChannelMachine$Machine" "ChannelMachine$Machine" "box" "LChannelMachine$Row;") ∈ x_T := x_at 177 (by decide +kernel) (by decide +kernel)
theorem k_179 : (Jvm.Cond.laysFinal "ChannelMachine$Machine" "ChannelMachine$Machine" "queue" "Ljava/util/List;") ∈ x_T := x_at 179 (by decide +kernel) (by decide +kernel)
theorem k_181 : (Jvm.Cond.laysFinal "ChannelMachine$Machine" "ChannelMachine$Machine" "sleepers" "Ljava/util/List;") ∈ x_T := x_at 181 (by decide +kernel) (by decide +kernel)
theorem k_183 : (Jvm.Cond.laysFinal "ChannelMachine$Machine" "ChannelMachine$Machine" "stack" "[I") ∈ x_T := x_at 183 (by decide +kernel) (by decide +kernel)
theorem k_185 : (Jvm.Cond.lays "ChannelMachine$Machine" "ChannelMachine$Machine" "state" "I") ∈ x_T := x_at 185 (by decide +kernel) (by decide +kernel)
theorem k_187 : (Jvm.Cond.lays "ChannelMachine$Machine" "ChannelMachine$Machine" "tasks" "I") ∈ x_T := x_at 187 (by decide +kernel) (by decide +kernel)
theorem k_189 : (Jvm.Cond.lays "ChannelMachine$Machine" "ChannelMachine$Machine" "acts" "I") ∈ x_T := x_at 189 (by decide +kernel) (by decide +kernel)
theorem k_191 : (Jvm.Cond.lays "ChannelMachine$Machine" "ChannelMachine$Machine" "time" "J") ∈ x_T := x_at 191 (by decide +kernel) (by decide +kernel)
theorem k_197 : (Jvm.Cond.laysFinal "ChannelMachine" "ChannelMachine" "reader" "LChannelMachine$Reader;") ∈ x_T := x_at 197 (by decide +kernel) (by decide +kernel)
theorem k_199 : (Jvm.Cond.laysFinal "ChannelMachine" "ChannelMachine" "machine" "LChannelMachine$Machine;") ∈ x_T := x_at 199 (by decide +kernel) (by decide +kernel)
theorem k_201 : (Jvm.Cond.lays "ChannelMachine" "ChannelMachine" "place" "I") ∈ x_T := x_at 201 (by decide +kernel) (by decide +kernel)
theorem k_1012 : (Jvm.Cond.laysFinal "ChannelMachineModel" "ChannelMachineModel" "text" "[I") ∈ x_T := x_at 1012 (by decide +kernel) (by decide +kernel)
theorem k_1014 : (Jvm.Cond.laysFinal "ChannelMachineModel" "ChannelMachineModel" "code" "[I") ∈ x_T := x_at 1014 (by decide +kernel) (by decide +kernel)
theorem k_1016 : (Jvm.Cond.laysFinal "ChannelMachineModel" "ChannelMachineModel" "fresh" "[I") ∈ x_T := x_at 1016 (by decide +kernel) (by decide +kernel)
theorem k_1018 : (Jvm.Cond.laysFinal "ChannelMachineModel" "ChannelMachineModel" "variables" "[I") ∈ x_T := x_at 1018 (by decide +kernel) (by decide +kernel)
theorem k_1020 : (Jvm.Cond.lays "ChannelMachineModel" "ChannelMachineModel" "size" "I") ∈ x_T := x_at 1020 (by decide +kernel) (by decide +kernel)
theorem k_1022 : (Jvm.Cond.lays "ChannelMachineModel" "ChannelMachineModel" "place" "I") ∈ x_T := x_at 1022 (by decide +kernel) (by decide +kernel)
theorem k_1024 : (Jvm.Cond.lays "ChannelMachineModel" "ChannelMachineModel" "pos" "I") ∈ x_T := x_at 1024 (by decide +kernel) (by decide +kernel)
theorem k_1026 : (Jvm.Cond.lays "ChannelMachineModel" "ChannelMachineModel" "at" "I") ∈ x_T := x_at 1026 (by decide +kernel) (by decide +kernel)
theorem k_1028 : (Jvm.Cond.lays "ChannelMachineModel" "ChannelMachineModel" "processes" "I") ∈ x_T := x_at 1028 (by decide +kernel) (by decide +kernel)
theorem k_1030 : (Jvm.Cond.lays "ChannelMachineModel" "ChannelMachineModel" "status" "I") ∈ x_T := x_at 1030 (by decide +kernel) (by decide +kernel)
theorem k_1032 : (Jvm.Cond.lays "ChannelMachineModel" "ChannelMachineModel" "operators" "I") ∈ x_T := x_at 1032 (by decide +kernel) (by decide +kernel)
theorem k_1034 : (Jvm.Cond.laysFinal "ChannelMachineModel" "ChannelMachineModel" "kind" "[I") ∈ x_T := x_at 1034 (by decide +kernel) (by decide +kernel)
theorem k_1036 : (Jvm.Cond.laysFinal "ChannelMachineModel" "ChannelMachineModel" "head" "[I") ∈ x_T := x_at 1036 (by decide +kernel) (by decide +kernel)
theorem k_1038 : (Jvm.Cond.laysFinal "ChannelMachineModel" "ChannelMachineModel" "many" "[I") ∈ x_T := x_at 1038 (by decide +kernel) (by decide +kernel)
theorem k_1040 : (Jvm.Cond.laysFinal "ChannelMachineModel" "ChannelMachineModel" "jumps" "[I") ∈ x_T := x_at 1040 (by decide +kernel) (by decide +kernel)
theorem k_1042 : (Jvm.Cond.laysFinal "ChannelMachineModel" "ChannelMachineModel" "operator" "[I") ∈ x_T := x_at 1042 (by decide +kernel) (by decide +kernel)
theorem k_1044 : (Jvm.Cond.laysFinal "ChannelMachineModel" "ChannelMachineModel" "ranks" "[I") ∈ x_T := x_at 1044 (by decide +kernel) (by decide +kernel)
theorem k_1046 : (Jvm.Cond.laysFinal "ChannelMachineModel" "ChannelMachineModel" "starts" "[I") ∈ x_T := x_at 1046 (by decide +kernel) (by decide +kernel)
theorem k_1048 : (Jvm.Cond.lays "ChannelMachineModel" "ChannelMachineModel" "open" "I") ∈ x_T := x_at 1048 (by decide +kernel) (by decide +kernel)
theorem k_1050 : (Jvm.Cond.laysFinal "ChannelMachineModel" "ChannelMachineModel" "compared" "[Z") ∈ x_T := x_at 1050 (by decide +kernel) (by decide +kernel)
theorem k_1052 : (Jvm.Cond.laysFinal "ChannelMachineModel" "ChannelMachineModel" "pc" "[I") ∈ x_T := x_at 1052 (by decide +kernel) (by decide +kernel)
theorem k_1054 : (Jvm.Cond.laysFinal "ChannelMachineModel" "ChannelMachineModel" "parent" "[I") ∈ x_T := x_at 1054 (by decide +kernel) (by decide +kernel)
theorem k_1056 : (Jvm.Cond.laysFinal "ChannelMachineModel" "ChannelMachineModel" "kids" "[I") ∈ x_T := x_at 1056 (by decide +kernel) (by decide +kernel)
theorem k_1058 : (Jvm.Cond.laysFinal "ChannelMachineModel" "ChannelMachineModel" "order" "[I") ∈ x_T := x_at 1058 (by decide +kernel) (by decide +kernel)
theorem k_1060 : (Jvm.Cond.laysFinal "ChannelMachineModel" "ChannelMachineModel" "queue" "[I") ∈ x_T := x_at 1060 (by decide +kernel) (by decide +kernel)
theorem k_1062 : (Jvm.Cond.laysFinal "ChannelMachineModel" "ChannelMachineModel" "pile" "[I") ∈ x_T := x_at 1062 (by decide +kernel) (by decide +kernel)
theorem k_1064 : (Jvm.Cond.laysFinal "ChannelMachineModel" "ChannelMachineModel" "until" "[J") ∈ x_T := x_at 1064 (by decide +kernel) (by decide +kernel)
theorem k_1066 : (Jvm.Cond.laysFinal "ChannelMachineModel" "ChannelMachineModel" "there" "[Z") ∈ x_T := x_at 1066 (by decide +kernel) (by decide +kernel)
theorem k_1068 : (Jvm.Cond.laysFinal "ChannelMachineModel" "ChannelMachineModel" "timed" "[Z") ∈ x_T := x_at 1068 (by decide +kernel) (by decide +kernel)
theorem k_1070 : (Jvm.Cond.lays "ChannelMachineModel" "ChannelMachineModel" "queued" "I") ∈ x_T := x_at 1070 (by decide +kernel) (by decide +kernel)
theorem k_1072 : (Jvm.Cond.lays "ChannelMachineModel" "ChannelMachineModel" "current" "I") ∈ x_T := x_at 1072 (by decide +kernel) (by decide +kernel)
theorem k_1074 : (Jvm.Cond.lays "ChannelMachineModel" "ChannelMachineModel" "stamp" "I") ∈ x_T := x_at 1074 (by decide +kernel) (by decide +kernel)
theorem k_1076 : (Jvm.Cond.lays "ChannelMachineModel" "ChannelMachineModel" "acts" "I") ∈ x_T := x_at 1076 (by decide +kernel) (by decide +kernel)
theorem k_1078 : (Jvm.Cond.lays "ChannelMachineModel" "ChannelMachineModel" "thrown" "I") ∈ x_T := x_at 1078 (by decide +kernel) (by decide +kernel)
theorem k_1080 : (Jvm.Cond.lays "ChannelMachineModel" "ChannelMachineModel" "time" "J") ∈ x_T := x_at 1080 (by decide +kernel) (by decide +kernel)
theorem k_1082 : (Jvm.Cond.laysFinal "ChannelMachineModel" "ChannelMachineModel" "reader" "[I") ∈ x_T := x_at 1082 (by decide +kernel) (by decide +kernel)
theorem k_1084 : (Jvm.Cond.laysFinal "ChannelMachineModel" "ChannelMachineModel" "into" "[I") ∈ x_T := x_at 1084 (by decide +kernel) (by decide +kernel)
theorem k_1086 : (Jvm.Cond.laysFinal "ChannelMachineModel" "ChannelMachineModel" "then" "[I") ∈ x_T := x_at 1086 (by decide +kernel) (by decide +kernel)
theorem k_1088 : (Jvm.Cond.laysFinal "ChannelMachineModel" "ChannelMachineModel" "writer" "[I") ∈ x_T := x_at 1088 (by decide +kernel) (by decide +kernel)
theorem k_1090 : (Jvm.Cond.laysFinal "ChannelMachineModel" "ChannelMachineModel" "offered" "[I") ∈ x_T := x_at 1090 (by decide +kernel) (by decide +kernel)
theorem k_1092 : (Jvm.Cond.laysFinal "ChannelMachineModel" "ChannelMachineModel" "gifts" "[I") ∈ x_T := x_at 1092 (by decide +kernel) (by decide +kernel)
theorem k_1094 : (Jvm.Cond.laysFinal "ChannelMachineModel" "ChannelMachineModel" "box" "[I") ∈ x_T := x_at 1094 (by decide +kernel) (by decide +kernel)
theorem k_1096 : (Jvm.Cond.lays "ChannelMachineModel" "ChannelMachineModel" "given" "I") ∈ x_T := x_at 1096 (by decide +kernel) (by decide +kernel)
theorem k_1098 : (Jvm.Cond.lays "ChannelMachineModel" "ChannelMachineModel" "boxed" "I") ∈ x_T := x_at 1098 (by decide +kernel) (by decide +kernel)
theorem k_1100 : (Jvm.Cond.lays "ChannelMachineModel" "ChannelMachineModel" "end" "I") ∈ x_T := x_at 1100 (by decide +kernel) (by decide +kernel)
def F_List : u_T := fun k => match k with
  | 0 => ("java/util/ArrayList", "elementData", "[Ljava/lang/Object;", false)
  | 1 => ("java/util/ArrayList", "size", "I", false)
  | _ => ("java/util/AbstractList", "modCount", "I", false)
def t_List : Nat → FieldType := fun k => match k with
  | 0 => (.array (.object "java/lang/Object"))
  | 1 => .int
  | _ => .int
theorem n_List : ∀ a, a < 3 → ∀ b, b < 3 → a ≠ b → (F_List a).2.1 ≠ (F_List b).2.1 := by decide +kernel
theorem t_List_ok : ∀ k, k < 3 → parseFieldDescriptor (F_List k).2.2.1 = some (t_List k) := by decide +kernel
theorem i_List : ∀ w ∈ u_ws "java/util/ArrayList" F_List 3, w ∈ x_T := by
  intro w hw
  obtain ⟨k, hk, rfl⟩ := List.mem_map.mp hw
  have hk := List.mem_range.mp hk
  match k, hk with
  | 0, _ => exact k_119
  | 1, _ => exact k_121
  | 2, _ => exact k_123
  | k + 3, h => exact absurd h (by omega)
def F_Channel : u_T := fun k => match k with
  | 0 => ("ChannelMachine$Channel", "sender", "LChannelMachine$Task;", false)
  | 1 => ("ChannelMachine$Channel", "receiver", "LChannelMachine$Task;", false)
  | 2 => ("ChannelMachine$Channel", "variable", "I", false)
  | _ => ("ChannelMachine$Channel", "follow", "LChannelMachine$Process;", false)
def t_Channel : Nat → FieldType := fun k => match k with
  | 0 => (.object "ChannelMachine$Task")
  | 1 => (.object "ChannelMachine$Task")
  | 2 => .int
  | _ => (.object "ChannelMachine$Process")
theorem n_Channel : ∀ a, a < 4 → ∀ b, b < 4 → a ≠ b → (F_Channel a).2.1 ≠ (F_Channel b).2.1 := by decide +kernel
theorem t_Channel_ok : ∀ k, k < 4 → parseFieldDescriptor (F_Channel k).2.2.1 = some (t_Channel k) := by decide +kernel
theorem i_Channel : ∀ w ∈ u_ws "ChannelMachine$Channel" F_Channel 4, w ∈ x_T := by
  intro w hw
  obtain ⟨k, hk, rfl⟩ := List.mem_map.mp hw
  have hk := List.mem_range.mp hk
  match k, hk with
  | 0, _ => exact k_141
  | 1, _ => exact k_143
  | 2, _ => exact k_145
  | 3, _ => exact k_147
  | k + 4, h => exact absurd h (by omega)
def F_Machine : u_T := fun k => match k with
  | 0 => ("ChannelMachine$Machine", "variables", "[I", true)
  | 1 => ("ChannelMachine$Machine", "channels", "[LChannelMachine$Channel;", true)
  | 2 => ("ChannelMachine$Machine", "gifts", "LChannelMachine$Row;", true)
  | 3 => ("ChannelMachine$Machine", "box", "LChannelMachine$Row;", true)
  | 4 => ("ChannelMachine$Machine", "queue", "Ljava/util/List;", true)
  | 5 => ("ChannelMachine$Machine", "sleepers", "Ljava/util/List;", true)
  | 6 => ("ChannelMachine$Machine", "stack", "[I", true)
  | 7 => ("ChannelMachine$Machine", "state", "I", false)
  | 8 => ("ChannelMachine$Machine", "tasks", "I", false)
  | 9 => ("ChannelMachine$Machine", "acts", "I", false)
  | _ => ("ChannelMachine$Machine", "time", "J", false)
def t_Machine : Nat → FieldType := fun k => match k with
  | 0 => (.array .int)
  | 1 => (.array (.object "ChannelMachine$Channel"))
  | 2 => (.object "ChannelMachine$Row")
  | 3 => (.object "ChannelMachine$Row")
  | 4 => (.object "java/util/List")
  | 5 => (.object "java/util/List")
  | 6 => (.array .int)
  | 7 => .int
  | 8 => .int
  | 9 => .int
  | _ => .long
theorem n_Machine : ∀ a, a < 11 → ∀ b, b < 11 → a ≠ b → (F_Machine a).2.1 ≠ (F_Machine b).2.1 := by decide +kernel
theorem t_Machine_ok : ∀ k, k < 11 → parseFieldDescriptor (F_Machine k).2.2.1 = some (t_Machine k) := by decide +kernel
theorem i_Machine : ∀ w ∈ u_ws "ChannelMachine$Machine" F_Machine 11, w ∈ x_T := by
  intro w hw
  obtain ⟨k, hk, rfl⟩ := List.mem_map.mp hw
  have hk := List.mem_range.mp hk
  match k, hk with
  | 0, _ => exact k_171
  | 1, _ => exact k_173
  | 2, _ => exact k_175
  | 3, _ => exact k_177
  | 4, _ => exact k_179
  | 5, _ => exact k_181
  | 6, _ => exact k_183
  | 7, _ => exact k_185
  | 8, _ => exact k_187
  | 9, _ => exact k_189
  | 10, _ => exact k_191
  | k + 11, h => exact absurd h (by omega)
def F_Reader : u_T := fun k => match k with
  | 0 => ("ChannelMachine$Reader", "text", "[C", true)
  | 1 => ("ChannelMachine$Reader", "code", "[I", true)
  | 2 => ("ChannelMachine$Reader", "length", "I", false)
  | 3 => ("ChannelMachine$Reader", "codeLength", "I", false)
  | 4 => ("ChannelMachine$Reader", "limit", "I", false)
  | 5 => ("ChannelMachine$Reader", "at", "I", false)
  | 6 => ("ChannelMachine$Reader", "place", "I", false)
  | 7 => ("ChannelMachine$Reader", "processes", "I", false)
  | _ => ("ChannelMachine$Reader", "program", "LChannelMachine$Process;", false)
def t_Reader : Nat → FieldType := fun k => match k with
  | 0 => (.array .char)
  | 1 => (.array .int)
  | 2 => .int
  | 3 => .int
  | 4 => .int
  | 5 => .int
  | 6 => .int
  | 7 => .int
  | _ => (.object "ChannelMachine$Process")
theorem n_Reader : ∀ a, a < 9 → ∀ b, b < 9 → a ≠ b → (F_Reader a).2.1 ≠ (F_Reader b).2.1 := by decide +kernel
theorem t_Reader_ok : ∀ k, k < 9 → parseFieldDescriptor (F_Reader k).2.2.1 = some (t_Reader k) := by decide +kernel
theorem i_Reader : ∀ w ∈ u_ws "ChannelMachine$Reader" F_Reader 9, w ∈ x_T := by
  intro w hw
  obtain ⟨k, hk, rfl⟩ := List.mem_map.mp hw
  have hk := List.mem_range.mp hk
  match k, hk with
  | 0, _ => exact k_56
  | 1, _ => exact k_58
  | 2, _ => exact k_60
  | 3, _ => exact k_62
  | 4, _ => exact k_64
  | 5, _ => exact k_66
  | 6, _ => exact k_68
  | 7, _ => exact k_70
  | 8, _ => exact k_72
  | k + 9, h => exact absurd h (by omega)
def F_Row : u_T := fun k => match k with
  | 0 => ("ChannelMachine$Row", "values", "[I", true)
  | _ => ("ChannelMachine$Row", "size", "I", false)
def t_Row : Nat → FieldType := fun k => match k with
  | 0 => (.array .int)
  | _ => .int
theorem n_Row : ∀ a, a < 2 → ∀ b, b < 2 → a ≠ b → (F_Row a).2.1 ≠ (F_Row b).2.1 := by decide +kernel
theorem t_Row_ok : ∀ k, k < 2 → parseFieldDescriptor (F_Row k).2.2.1 = some (t_Row k) := by decide +kernel
theorem i_Row : ∀ w ∈ u_ws "ChannelMachine$Row" F_Row 2, w ∈ x_T := by
  intro w hw
  obtain ⟨k, hk, rfl⟩ := List.mem_map.mp hw
  have hk := List.mem_range.mp hk
  match k, hk with
  | 0, _ => exact k_95
  | 1, _ => exact k_97
  | k + 2, h => exact absurd h (by omega)
def F_CM : u_T := fun k => match k with
  | 0 => ("ChannelMachine", "reader", "LChannelMachine$Reader;", true)
  | 1 => ("ChannelMachine", "machine", "LChannelMachine$Machine;", true)
  | _ => ("ChannelMachine", "place", "I", false)
def t_CM : Nat → FieldType := fun k => match k with
  | 0 => (.object "ChannelMachine$Reader")
  | 1 => (.object "ChannelMachine$Machine")
  | _ => .int
theorem n_CM : ∀ a, a < 3 → ∀ b, b < 3 → a ≠ b → (F_CM a).2.1 ≠ (F_CM b).2.1 := by decide +kernel
theorem t_CM_ok : ∀ k, k < 3 → parseFieldDescriptor (F_CM k).2.2.1 = some (t_CM k) := by decide +kernel
theorem i_CM : ∀ w ∈ u_ws "ChannelMachine" F_CM 3, w ∈ x_T := by
  intro w hw
  obtain ⟨k, hk, rfl⟩ := List.mem_map.mp hw
  have hk := List.mem_range.mp hk
  match k, hk with
  | 0, _ => exact k_197
  | 1, _ => exact k_199
  | 2, _ => exact k_201
  | k + 3, h => exact absurd h (by omega)
def F_Mo : u_T := fun k => match k with
  | 0 => ("ChannelMachineModel", "text", "[I", true)
  | 1 => ("ChannelMachineModel", "code", "[I", true)
  | 2 => ("ChannelMachineModel", "fresh", "[I", true)
  | 3 => ("ChannelMachineModel", "variables", "[I", true)
  | 4 => ("ChannelMachineModel", "size", "I", false)
  | 5 => ("ChannelMachineModel", "place", "I", false)
  | 6 => ("ChannelMachineModel", "pos", "I", false)
  | 7 => ("ChannelMachineModel", "at", "I", false)
  | 8 => ("ChannelMachineModel", "processes", "I", false)
  | 9 => ("ChannelMachineModel", "status", "I", false)
  | 10 => ("ChannelMachineModel", "operators", "I", false)
  | 11 => ("ChannelMachineModel", "kind", "[I", true)
  | 12 => ("ChannelMachineModel", "head", "[I", true)
  | 13 => ("ChannelMachineModel", "many", "[I", true)
  | 14 => ("ChannelMachineModel", "jumps", "[I", true)
  | 15 => ("ChannelMachineModel", "operator", "[I", true)
  | 16 => ("ChannelMachineModel", "ranks", "[I", true)
  | 17 => ("ChannelMachineModel", "starts", "[I", true)
  | 18 => ("ChannelMachineModel", "open", "I", false)
  | 19 => ("ChannelMachineModel", "compared", "[Z", true)
  | 20 => ("ChannelMachineModel", "pc", "[I", true)
  | 21 => ("ChannelMachineModel", "parent", "[I", true)
  | 22 => ("ChannelMachineModel", "kids", "[I", true)
  | 23 => ("ChannelMachineModel", "order", "[I", true)
  | 24 => ("ChannelMachineModel", "queue", "[I", true)
  | 25 => ("ChannelMachineModel", "pile", "[I", true)
  | 26 => ("ChannelMachineModel", "until", "[J", true)
  | 27 => ("ChannelMachineModel", "there", "[Z", true)
  | 28 => ("ChannelMachineModel", "timed", "[Z", true)
  | 29 => ("ChannelMachineModel", "queued", "I", false)
  | 30 => ("ChannelMachineModel", "current", "I", false)
  | 31 => ("ChannelMachineModel", "stamp", "I", false)
  | 32 => ("ChannelMachineModel", "acts", "I", false)
  | 33 => ("ChannelMachineModel", "thrown", "I", false)
  | 34 => ("ChannelMachineModel", "time", "J", false)
  | 35 => ("ChannelMachineModel", "reader", "[I", true)
  | 36 => ("ChannelMachineModel", "into", "[I", true)
  | 37 => ("ChannelMachineModel", "then", "[I", true)
  | 38 => ("ChannelMachineModel", "writer", "[I", true)
  | 39 => ("ChannelMachineModel", "offered", "[I", true)
  | 40 => ("ChannelMachineModel", "gifts", "[I", true)
  | 41 => ("ChannelMachineModel", "box", "[I", true)
  | 42 => ("ChannelMachineModel", "given", "I", false)
  | 43 => ("ChannelMachineModel", "boxed", "I", false)
  | _ => ("ChannelMachineModel", "end", "I", false)
def t_Mo : Nat → FieldType := fun k => match k with
  | 0 => (.array .int)
  | 1 => (.array .int)
  | 2 => (.array .int)
  | 3 => (.array .int)
  | 4 => .int
  | 5 => .int
  | 6 => .int
  | 7 => .int
  | 8 => .int
  | 9 => .int
  | 10 => .int
  | 11 => (.array .int)
  | 12 => (.array .int)
  | 13 => (.array .int)
  | 14 => (.array .int)
  | 15 => (.array .int)
  | 16 => (.array .int)
  | 17 => (.array .int)
  | 18 => .int
  | 19 => (.array .boolean)
  | 20 => (.array .int)
  | 21 => (.array .int)
  | 22 => (.array .int)
  | 23 => (.array .int)
  | 24 => (.array .int)
  | 25 => (.array .int)
  | 26 => (.array .long)
  | 27 => (.array .boolean)
  | 28 => (.array .boolean)
  | 29 => .int
  | 30 => .int
  | 31 => .int
  | 32 => .int
  | 33 => .int
  | 34 => .long
  | 35 => (.array .int)
  | 36 => (.array .int)
  | 37 => (.array .int)
  | 38 => (.array .int)
  | 39 => (.array .int)
  | 40 => (.array .int)
  | 41 => (.array .int)
  | 42 => .int
  | 43 => .int
  | _ => .int
theorem n_Mo : ∀ a, a < 45 → ∀ b, b < 45 → a ≠ b → (F_Mo a).2.1 ≠ (F_Mo b).2.1 := by decide +kernel
theorem t_Mo_ok : ∀ k, k < 45 → parseFieldDescriptor (F_Mo k).2.2.1 = some (t_Mo k) := by decide +kernel
theorem i_Mo : ∀ w ∈ u_ws "ChannelMachineModel" F_Mo 45, w ∈ x_T := by
  intro w hw
  obtain ⟨k, hk, rfl⟩ := List.mem_map.mp hw
  have hk := List.mem_range.mp hk
  match k, hk with
  | 0, _ => exact k_1012
  | 1, _ => exact k_1014
  | 2, _ => exact k_1016
  | 3, _ => exact k_1018
  | 4, _ => exact k_1020
  | 5, _ => exact k_1022
  | 6, _ => exact k_1024
  | 7, _ => exact k_1026
  | 8, _ => exact k_1028
  | 9, _ => exact k_1030
  | 10, _ => exact k_1032
  | 11, _ => exact k_1034
  | 12, _ => exact k_1036
  | 13, _ => exact k_1038
  | 14, _ => exact k_1040
  | 15, _ => exact k_1042
  | 16, _ => exact k_1044
  | 17, _ => exact k_1046
  | 18, _ => exact k_1048
  | 19, _ => exact k_1050
  | 20, _ => exact k_1052
  | 21, _ => exact k_1054
  | 22, _ => exact k_1056
  | 23, _ => exact k_1058
  | 24, _ => exact k_1060
  | 25, _ => exact k_1062
  | 26, _ => exact k_1064
  | 27, _ => exact k_1066
  | 28, _ => exact k_1068
  | 29, _ => exact k_1070
  | 30, _ => exact k_1072
  | 31, _ => exact k_1074
  | 32, _ => exact k_1076
  | 33, _ => exact k_1078
  | 34, _ => exact k_1080
  | 35, _ => exact k_1082
  | 36, _ => exact k_1084
  | 37, _ => exact k_1086
  | 38, _ => exact k_1088
  | 39, _ => exact k_1090
  | 40, _ => exact k_1092
  | 41, _ => exact k_1094
  | 42, _ => exact k_1096
  | 43, _ => exact k_1098
  | 44, _ => exact k_1100
  | k + 45, h => exact absurd h (by omega)
abbrev x_cl : List vw_C := [("java/util/ArrayList", F_List, 3), ("ChannelMachine$Channel", F_Channel, 4), ("ChannelMachine$Machine", F_Machine, 11), ("ChannelMachine$Reader", F_Reader, 9), ("ChannelMachine$Row", F_Row, 2), ("ChannelMachine", F_CM, 3), ("ChannelMachineModel", F_Mo, 45)]
/-- what the tables say at a state, beside the words -/
def x_U (D : va_G) (ar : Nat → ClassId) (U : State) : Prop := va_K D x_cl (x_tys ar) U ∧ (∀ w ∈ x_nest, va_Nw w U) ∧ va_AO "ChannelMachine$Channel" U
theorem x_U.warm {D : va_G} {ar : Nat → ClassId} {s U : State} (hW : s.WarmedH U.vm) (h : x_U D ar s) : x_U D ar U := ⟨va_K.moved hW.alike h.1, fun w hw => x_nk_warm (List.mem_filter.mp hw).2 hW (h.2.1 w hw), h.2.2.moved hW.alike⟩
theorem x_U.same {D : va_G} {ar : Nat → ClassId} {s U : State} (hW : s.vm = U.vm) (h : x_U D ar s) : x_U D ar U := ⟨va_K.moved (by rw [← hW]; exact Vm.Alike.refl s.vm) h.1, fun w hw => x_nk_same (List.mem_filter.mp hw).2 hW (h.2.1 w hw), h.2.2.moved (by rw [← hW]; exact Vm.Alike.refl s.vm)⟩
def x_Pc (D : va_G) (ar : Nat → ClassId) (ws : va_W) (sz : Nat) (av : List Value) : Array Value → State → Prop := va_Pc av (fun U => U.heap.size = sz ∧ va_P D x_cl ws U.heap ∧ x_U D ar U ∧ va_D (fun _ => True) ws)
theorem x_blind {D : va_G} {ar : Nat → ClassId} {ws : va_W} {sz : Nat} {av : List Value} : FrameBlind (x_Pc D ar ws sz av) := fun a U g mk q => by
  obtain ⟨q0, q1, qP, qU, qD⟩ := q
  exact ⟨q0, q1, qP, x_U.same (s := U) (U := U.calling g mk a) rfl qU, qD⟩
theorem x_pre {D : va_G} {ar : Nat → ClassId} {ws : va_W} {av : List Value} {A : Nat → Prop} {s U : State} {H : Heap} (hU : U.heap = H) (hW : s.WarmedH U.vm) (hP : va_P D x_cl ws H) (hD : va_D A ws) (h : x_U D ar s) : x_Pc D ar ws H.size av av.toArray U := ⟨rfl, by rw [hU], by rw [hU]; exact hP, x_U.warm hW h, hD.weaken (fun _ _ _ _ => trivial)⟩
