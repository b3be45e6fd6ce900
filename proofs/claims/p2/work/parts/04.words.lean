-- ===== 04.words: one list of words for every method; what the tables say beside it =====
def x_T : List Cond := lw_tbl.filter goodWord
theorem x_T_good : ∀ w ∈ x_T, goodWord w = true := fun _ h => (List.mem_filter.mp h).2
theorem x_T_in : ∀ w ∈ x_T, w ∈ lw_tbl := fun _ h => (List.mem_filter.mp h).1
/-- the word at place i of tables_1 -/
theorem x_at {w : Cond} (i : Nat) (h : tables_1[i]? = some w) (g : goodWord w = true) : w ∈ x_T := List.mem_filter.mpr ⟨List.mem_append_right _ (List.mem_of_getElem? h), g⟩
/-- .. and of the private methods' list -/
theorem x_sel {q : MethodName × Nat} (i : Nat) (h : lw_privs[i]? = some q) (g : goodWord (Cond.selects q.1.cls q.1 q.1) = true) : Cond.selects q.1.cls q.1 q.1 ∈ x_T := List.mem_filter.mpr ⟨List.mem_append_left _ (List.mem_map.mpr ⟨q, List.mem_of_getElem? h, rfl⟩), g⟩
theorem x_good {c2 : Cond} (h : c2 ∈ x_T) : GoodIn x_T (c2 :: x_T) := fun w hw => by
  have hm : w ∈ x_T := (List.mem_cons.mp hw).elim (fun e => by rw [e]; exact h) id
  exact ⟨hm, good_of_word (x_T_good w hm)⟩
/-- the words that are no good ones, but stay under warmer tables -/
def x_nk : Cond → Bool
  | .fieldLinkNest .. => true
  | .methodLinkNest .. => true
  | .declares _ => true
  | .castable .. => true
  | _ => false
def x_nest : List Cond := tables_1.filter x_nk
theorem x_nest_at {w : Cond} (i : Nat) (h : tables_1[i]? = some w) (g : x_nk w = true) : w ∈ x_nest := List.mem_filter.mpr ⟨List.mem_of_getElem? h, g⟩
theorem x_nk_warm {w : Cond} {s U : State} (g : x_nk w = true) (hW : s.WarmedH U.vm) (h : va_Nw w s) : va_Nw w U := by
  cases w <;> first | exact va_Nw.warmF hW h | exact va_Nw.warmM hW h | exact va_Nw.warmD hW h | exact va_Nw.warmC hW h | cases g
theorem x_nk_same {w : Cond} {s U : State} (g : x_nk w = true) (hW : s.vm = U.vm) (h : va_Nw w s) : va_Nw w U := by
  cases w <;> first | exact va_Nw.same rfl hW h | cases g
/-- the arrays' classes -/
def x_tys (ar : Nat → ClassId) : List (ClassId × FieldType) := [(ar 0, .int), (ar 1, .char), (ar 2, .long), (ar 3, .boolean), (ar 4, .object "ChannelMachine$Channel")]
