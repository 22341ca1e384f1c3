def RX0 : String := "RowDiffer$Comparison"
def TX0 : u_T := fun k => match k with
  | 0 => ("RowDiffer$Comparison", "restCosts", "[I", true)
  | _ => ("RowDiffer$Comparison", "eraseBits", "[J", true)
def tyX0 : Nat → FieldType := fun k => match k with
  | 0 => .array .int
  | _ => .array .long
theorem nmX0 : ∀ a, a < 2 → ∀ b, b < 2 → a ≠ b → (TX0 a).2.1 ≠ (TX0 b).2.1 := by decide +kernel
theorem tyX0_ok : ∀ k, k < 2 → parseFieldDescriptor (TX0 k).2.2.1 = some (tyX0 k) := by decide +kernel
def RX1 : String := "RowDiffer$Merge"
def TX1 : u_T := fun k => match k with
  | 0 => ("RowDiffer$Merge", "numbers", "[I", true)
  | 1 => ("RowDiffer$Merge", "inserters", "[I", true)
  | 2 => ("RowDiffer$Merge", "erasers", "[I", true)
  | 3 => ("RowDiffer$Merge", "basePlaces", "[I", true)
  | 4 => ("RowDiffer$Merge", "count", "I", false)
  | _ => ("RowDiffer$Merge", "conflictCount", "I", false)
def tyX1 : Nat → FieldType := fun k => match k with
  | 0 => .array .int
  | 1 => .array .int
  | 2 => .array .int
  | 3 => .array .int
  | 4 => .int
  | _ => .int
theorem nmX1 : ∀ a, a < 6 → ∀ b, b < 6 → a ≠ b → (TX1 a).2.1 ≠ (TX1 b).2.1 := by decide +kernel
theorem tyX1_ok : ∀ k, k < 6 → parseFieldDescriptor (TX1 k).2.2.1 = some (tyX1 k) := by decide +kernel
def RX2 : String := "RowDiffer$Row"
def TX2 : u_T := fun k => match k with
  | 0 => ("RowDiffer$Row", "numbers", "[I", true)
  | _ => ("RowDiffer$Row", "count", "I", false)
def tyX2 : Nat → FieldType := fun k => match k with
  | 0 => .array .int
  | _ => .int
theorem nmX2 : ∀ a, a < 2 → ∀ b, b < 2 → a ≠ b → (TX2 a).2.1 ≠ (TX2 b).2.1 := by decide +kernel
theorem tyX2_ok : ∀ k, k < 2 → parseFieldDescriptor (TX2 k).2.2.1 = some (tyX2 k) := by decide +kernel
def RX3 : String := "RowDiffer$Script"
def TX3 : u_T := fun k => match k with
  | 0 => ("RowDiffer$Script", "kinds", "[I", true)
  | 1 => ("RowDiffer$Script", "fromPlaces", "[I", true)
  | 2 => ("RowDiffer$Script", "toPlaces", "[I", true)
  | 3 => ("RowDiffer$Script", "numbers", "[I", true)
  | _ => ("RowDiffer$Script", "count", "I", false)
def tyX3 : Nat → FieldType := fun k => match k with
  | 0 => .array .int
  | 1 => .array .int
  | 2 => .array .int
  | 3 => .array .int
  | _ => .int
theorem nmX3 : ∀ a, a < 5 → ∀ b, b < 5 → a ≠ b → (TX3 a).2.1 ≠ (TX3 b).2.1 := by decide +kernel
theorem tyX3_ok : ∀ k, k < 5 → parseFieldDescriptor (TX3 k).2.2.1 = some (tyX3 k) := by decide +kernel
def RX4 : String := "RowDiffer"
def TX4 : u_T := fun k => match k with
  | 0 => ("RowDiffer", "rows", "[LRowDiffer$Row;", true)
  | 1 => ("RowDiffer", "comparison", "LRowDiffer$Comparison;", true)
  | 2 => ("RowDiffer", "lastScript", "LRowDiffer$Script;", true)
  | 3 => ("RowDiffer", "leftScript", "LRowDiffer$Script;", true)
  | 4 => ("RowDiffer", "rightScript", "LRowDiffer$Script;", true)
  | _ => ("RowDiffer", "lastMerge", "LRowDiffer$Merge;", true)
def tyX4 : Nat → FieldType := fun k => match k with
  | 0 => .array (.object "RowDiffer$Row")
  | 1 => .object "RowDiffer$Comparison"
  | 2 => .object "RowDiffer$Script"
  | 3 => .object "RowDiffer$Script"
  | 4 => .object "RowDiffer$Script"
  | _ => .object "RowDiffer$Merge"
theorem nmX4 : ∀ a, a < 6 → ∀ b, b < 6 → a ≠ b → (TX4 a).2.1 ≠ (TX4 b).2.1 := by decide +kernel
theorem tyX4_ok : ∀ k, k < 6 → parseFieldDescriptor (TX4 k).2.2.1 = some (tyX4 k) := by decide +kernel
def RX5 : String := "RowDifferModel"
def TX5 : u_T := fun k => match k with
  | 0 => ("RowDifferModel", "code", "I", false)
  | 1 => ("RowDifferModel", "size", "[I", true)
  | 2 => ("RowDifferModel", "rows", "[I", true)
  | 3 => ("RowDifferModel", "cost", "[S", true)
  | 4 => ("RowDifferModel", "steps", "I", false)
  | 5 => ("RowDifferModel", "kind", "[B", true)
  | 6 => ("RowDifferModel", "first", "[B", true)
  | 7 => ("RowDifferModel", "second", "[B", true)
  | 8 => ("RowDifferModel", "number", "[I", true)
  | 9 => ("RowDifferModel", "begins", "[B", true)
  | 10 => ("RowDifferModel", "many", "[B", true)
  | 11 => ("RowDifferModel", "gone", "[Z", true)
  | 12 => ("RowDifferModel", "entries", "I", false)
  | 13 => ("RowDifferModel", "conflicts", "I", false)
  | 14 => ("RowDifferModel", "value", "[I", true)
  | 15 => ("RowDifferModel", "put", "[B", true)
  | 16 => ("RowDifferModel", "taken", "[B", true)
  | 17 => ("RowDifferModel", "place", "[B", true)
  | _ => ("RowDifferModel", "made", "[I", true)
def tyX5 : Nat → FieldType := fun k => match k with
  | 0 => .int
  | 1 => .array .int
  | 2 => .array .int
  | 3 => .array .short
  | 4 => .int
  | 5 => .array .byte
  | 6 => .array .byte
  | 7 => .array .byte
  | 8 => .array .int
  | 9 => .array .byte
  | 10 => .array .byte
  | 11 => .array .boolean
  | 12 => .int
  | 13 => .int
  | 14 => .array .int
  | 15 => .array .byte
  | 16 => .array .byte
  | 17 => .array .byte
  | _ => .array .int
theorem nmX5 : ∀ a, a < 19 → ∀ b, b < 19 → a ≠ b → (TX5 a).2.1 ≠ (TX5 b).2.1 := by decide +kernel
theorem tyX5_ok : ∀ k, k < 19 → parseFieldDescriptor (TX5 k).2.2.1 = some (tyX5 k) := by decide +kernel
def RL : String := "RowDifferLaw"
abbrev vwCl : List vw_C := [(RX0, TX0, 2), (RX1, TX1, 6), (RX2, TX2, 2), (RX3, TX3, 5), (RX4, TX4, 6), (RX5, TX5, 19)]
abbrev cX4_init : ByteArray := prog_1_method_1_code
def yX4_init : MethodName := ⟨RX4, "<init>", "()V"⟩
abbrev cX2_init : ByteArray := prog_4_method_1_code
def yX2_init : MethodName := ⟨RX2, "<init>", "()V"⟩
abbrev cX0_init : ByteArray := prog_2_method_1_code
def yX0_init : MethodName := ⟨RX0, "<init>", "()V"⟩
abbrev cX3_init : ByteArray := prog_5_method_1_code
def yX3_init : MethodName := ⟨RX3, "<init>", "()V"⟩
abbrev cX1_init : ByteArray := prog_3_method_1_code
def yX1_init : MethodName := ⟨RX1, "<init>", "()V"⟩
abbrev cX4_add : ByteArray := prog_1_method_2_code
def yX4_add : MethodName := ⟨RX4, "add", "(II)I"⟩
abbrev cX4_isRow : ByteArray := prog_1_method_16_code
def yX4_isRow : MethodName := ⟨RX4, "isRow", "(I)Z"⟩
abbrev cX2_append : ByteArray := prog_4_method_3_code
def yX2_append : MethodName := ⟨RX2, "append", "(I)V"⟩
abbrev cX4_wipe : ByteArray := prog_1_method_3_code
def yX4_wipe : MethodName := ⟨RX4, "wipe", "(I)I"⟩
abbrev cX2_empty : ByteArray := prog_4_method_2_code
def yX2_empty : MethodName := ⟨RX2, "empty", "()V"⟩
abbrev cX4_length : ByteArray := prog_1_method_4_code
def yX4_length : MethodName := ⟨RX4, "length", "(I)I"⟩
abbrev cX4_steps : ByteArray := prog_1_method_7_code
def yX4_steps : MethodName := ⟨RX4, "steps", "()I"⟩
abbrev cX4_hunks : ByteArray := prog_1_method_9_code
def yX4_hunks : MethodName := ⟨RX4, "hunks", "()I"⟩
abbrev cX3_countHunks : ByteArray := prog_5_method_4_code
def yX3_countHunks : MethodName := ⟨RX3, "countHunks", "()I"⟩
abbrev cX3_opensHunk : ByteArray := prog_5_method_11_code
def yX3_opensHunk : MethodName := ⟨RX3, "opensHunk", "(I)Z"⟩
abbrev cX4_conflicts : ByteArray := prog_1_method_14_code
def yX4_conflicts : MethodName := ⟨RX4, "conflicts", "()I"⟩
abbrev cL_number : ByteArray := method_3_code
def yL_number : MethodName := ⟨RL, "number", "(LRowDiffer;II[J)I"⟩
abbrev cX4_number : ByteArray := prog_1_method_5_code
def yX4_number : MethodName := ⟨RX4, "number", "(II)I"⟩
abbrev cX4_existingRow : ByteArray := prog_1_method_17_code
def yX4_existingRow : MethodName := ⟨RX4, "existingRow", "(I)LRowDiffer$Row;"⟩
abbrev cL_diff : ByteArray := method_4_code
def yL_diff : MethodName := ⟨RL, "diff", "(LRowDiffer;II[J)I"⟩
abbrev cX4_diff : ByteArray := prog_1_method_6_code
def yX4_diff : MethodName := ⟨RX4, "diff", "(II)I"⟩
abbrev cX0_compare : ByteArray := prog_2_method_2_code
def yX0_compare : MethodName := ⟨RX0, "compare", "(LRowDiffer$Row;LRowDiffer$Row;LRowDiffer$Script;)I"⟩
abbrev cX0_findLeastCost : ByteArray := prog_2_method_3_code
def yX0_findLeastCost : MethodName := ⟨RX0, "findLeastCost", "(LRowDiffer$Row;LRowDiffer$Row;)I"⟩
abbrev cX0_moveCostsBackTo : ByteArray := prog_2_method_4_code
def yX0_moveCostsBackTo : MethodName := ⟨RX0, "moveCostsBackTo", "(IILRowDiffer$Row;)V"⟩
abbrev cX0_markErase : ByteArray := prog_2_method_6_code
def yX0_markErase : MethodName := ⟨RX0, "markErase", "(IIZ)V"⟩
abbrev cX0_wordOf : ByteArray := prog_2_method_8_code
def yX0_wordOf : MethodName := ⟨RX0, "wordOf", "(II)I"⟩
abbrev cX0_writeScript : ByteArray := prog_2_method_5_code
def yX0_writeScript : MethodName := ⟨RX0, "writeScript", "(LRowDiffer$Row;LRowDiffer$Row;LRowDiffer$Script;)V"⟩
abbrev cX3_begin : ByteArray := prog_5_method_2_code
def yX3_begin : MethodName := ⟨RX3, "begin", "()V"⟩
abbrev cX3_append : ByteArray := prog_5_method_3_code
def yX3_append : MethodName := ⟨RX3, "append", "(IIII)V"⟩
abbrev cX0_isEraseMarked : ByteArray := prog_2_method_7_code
def yX0_isEraseMarked : MethodName := ⟨RX0, "isEraseMarked", "(II)Z"⟩
abbrev cL_step : ByteArray := method_5_code
def yL_step : MethodName := ⟨RL, "step", "(LRowDiffer;II[J)I"⟩
abbrev cX4_step : ByteArray := prog_1_method_8_code
def yX4_step : MethodName := ⟨RX4, "step", "(II)I"⟩
abbrev cL_hunk : ByteArray := method_6_code
def yL_hunk : MethodName := ⟨RL, "hunk", "(LRowDiffer;II[J)I"⟩
abbrev cX4_hunk : ByteArray := prog_1_method_10_code
def yX4_hunk : MethodName := ⟨RX4, "hunk", "(II)I"⟩
abbrev cX3_firstStepOfHunk : ByteArray := prog_5_method_5_code
def yX3_firstStepOfHunk : MethodName := ⟨RX3, "firstStepOfHunk", "(I)I"⟩
abbrev cX3_countInHunk : ByteArray := prog_5_method_6_code
def yX3_countInHunk : MethodName := ⟨RX3, "countInHunk", "(II)I"⟩
abbrev cL_apply : ByteArray := method_7_code
def yL_apply : MethodName := ⟨RL, "apply", "(LRowDiffer;IIZ[J)I"⟩
abbrev cX4_apply : ByteArray := prog_1_method_11_code
def yX4_apply : MethodName := ⟨RX4, "apply", "(IIZ)I"⟩
abbrev cX3_spells : ByteArray := prog_5_method_9_code
def yX3_spells : MethodName := ⟨RX3, "spells", "(LRowDiffer$Row;I)Z"⟩
abbrev cX3_spellInto : ByteArray := prog_5_method_10_code
def yX3_spellInto : MethodName := ⟨RX3, "spellInto", "(LRowDiffer$Row;I)V"⟩
abbrev cL_merge : ByteArray := method_8_code
def yL_merge : MethodName := ⟨RL, "merge", "(LRowDiffer;III[J)I"⟩
abbrev cX4_merge : ByteArray := prog_1_method_12_code
def yX4_merge : MethodName := ⟨RX4, "merge", "(III)I"⟩
abbrev cX1_make : ByteArray := prog_3_method_2_code
def yX1_make : MethodName := ⟨RX1, "make", "(LRowDiffer$Row;LRowDiffer$Script;LRowDiffer$Script;)V"⟩
abbrev cX3_endOfInserts : ByteArray := prog_5_method_7_code
def yX3_endOfInserts : MethodName := ⟨RX3, "endOfInserts", "(I)I"⟩
abbrev cX1_appendCommon : ByteArray := prog_3_method_6_code
def yX1_appendCommon : MethodName := ⟨RX1, "appendCommon", "(LRowDiffer$Script;IILRowDiffer$Script;II)I"⟩
abbrev cX1_append : ByteArray := prog_3_method_8_code
def yX1_append : MethodName := ⟨RX1, "append", "(IIII)V"⟩
abbrev cX1_appendInserts : ByteArray := prog_3_method_7_code
def yX1_appendInserts : MethodName := ⟨RX1, "appendInserts", "(LRowDiffer$Script;III)V"⟩
abbrev cX3_erasesAt : ByteArray := prog_5_method_8_code
def yX3_erasesAt : MethodName := ⟨RX3, "erasesAt", "(I)Z"⟩
abbrev cL_entry : ByteArray := method_9_code
def yL_entry : MethodName := ⟨RL, "entry", "(LRowDiffer;II[J)I"⟩
abbrev cX4_entry : ByteArray := prog_1_method_13_code
def yX4_entry : MethodName := ⟨RX4, "entry", "(II)I"⟩
abbrev cL_see : ByteArray := method_10_code
def yL_see : MethodName := ⟨RL, "see", "(LRowDiffer;II[J)I"⟩
abbrev cX4_see : ByteArray := prog_1_method_15_code
def yX4_see : MethodName := ⟨RX4, "see", "(II)I"⟩
abbrev cX1_countSeen : ByteArray := prog_3_method_3_code
def yX1_countSeen : MethodName := ⟨RX1, "countSeen", "(I)I"⟩
abbrev cX1_isSeen : ByteArray := prog_3_method_5_code
def yX1_isSeen : MethodName := ⟨RX1, "isSeen", "(II)Z"⟩
abbrev cX1_showInto : ByteArray := prog_3_method_4_code
def yX1_showInto : MethodName := ⟨RX1, "showInto", "(LRowDiffer$Row;I)V"⟩
abbrev cX5_init : ByteArray := prog_7_method_1_code
def yX5_init : MethodName := ⟨RX5, "<init>", "()V"⟩
abbrev cX5_thrown : ByteArray := prog_7_method_2_code
def yX5_thrown : MethodName := ⟨RX5, "thrown", "()I"⟩
abbrev cX5_add : ByteArray := prog_7_method_5_code
def yX5_add : MethodName := ⟨RX5, "add", "(II)I"⟩
abbrev cX5_isRow : ByteArray := prog_7_method_4_code
def yX5_isRow : MethodName := ⟨RX5, "isRow", "(I)Z"⟩
abbrev cX5_wipe : ByteArray := prog_7_method_6_code
def yX5_wipe : MethodName := ⟨RX5, "wipe", "(I)I"⟩
abbrev cX5_length : ByteArray := prog_7_method_7_code
def yX5_length : MethodName := ⟨RX5, "length", "(I)I"⟩
abbrev cX5_number : ByteArray := prog_7_method_8_code
def yX5_number : MethodName := ⟨RX5, "number", "(II)I"⟩
abbrev cX5_diff : ByteArray := prog_7_method_12_code
def yX5_diff : MethodName := ⟨RX5, "diff", "(II)I"⟩
abbrev cX5_measure : ByteArray := prog_7_method_10_code
def yX5_measure : MethodName := ⟨RX5, "measure", "(II)I"⟩
abbrev cX5_same : ByteArray := prog_7_method_9_code
def yX5_same : MethodName := ⟨RX5, "same", "(IIII)Z"⟩
abbrev cX5_raise : ByteArray := prog_7_method_3_code
def yX5_raise : MethodName := ⟨RX5, "raise", "(I)I"⟩
abbrev cX5_due : ByteArray := prog_7_method_11_code
def yX5_due : MethodName := ⟨RX5, "due", "(IIII)I"⟩
abbrev cX5_steps : ByteArray := prog_7_method_13_code
def yX5_steps : MethodName := ⟨RX5, "steps", "()I"⟩
abbrev cX5_step : ByteArray := prog_7_method_14_code
def yX5_step : MethodName := ⟨RX5, "step", "(II)I"⟩
abbrev cX5_hunks : ByteArray := prog_7_method_16_code
def yX5_hunks : MethodName := ⟨RX5, "hunks", "()I"⟩
abbrev cX5_opens : ByteArray := prog_7_method_15_code
def yX5_opens : MethodName := ⟨RX5, "opens", "(I)Z"⟩
abbrev cX5_hunk : ByteArray := prog_7_method_17_code
def yX5_hunk : MethodName := ⟨RX5, "hunk", "(II)I"⟩
abbrev cX5_apply : ByteArray := prog_7_method_19_code
def yX5_apply : MethodName := ⟨RX5, "apply", "(IIZ)I"⟩
abbrev cX5_store : ByteArray := prog_7_method_18_code
def yX5_store : MethodName := ⟨RX5, "store", "(II)V"⟩
abbrev cX5_merge : ByteArray := prog_7_method_23_code
def yX5_merge : MethodName := ⟨RX5, "merge", "(III)I"⟩
abbrev cX5_side : ByteArray := prog_7_method_20_code
def yX5_side : MethodName := ⟨RX5, "side", "(III)Z"⟩
abbrev cX5_putIn : ByteArray := prog_7_method_22_code
def yX5_putIn : MethodName := ⟨RX5, "putIn", "(III)V"⟩
abbrev cX5_enter : ByteArray := prog_7_method_21_code
def yX5_enter : MethodName := ⟨RX5, "enter", "(IIII)V"⟩
abbrev cX5_entry : ByteArray := prog_7_method_24_code
def yX5_entry : MethodName := ⟨RX5, "entry", "(II)I"⟩
abbrev cX5_conflicts : ByteArray := prog_7_method_25_code
def yX5_conflicts : MethodName := ⟨RX5, "conflicts", "()I"⟩
abbrev cX5_see : ByteArray := prog_7_method_26_code
def yX5_see : MethodName := ⟨RX5, "see", "(II)I"⟩
/-- the words that go with every call: those of the tables that hold behind any step -/
def zW : List Cond := lw_tbl.filter goodWord
def zNW : List Cond := lw_tbl.filter zNk
theorem zW_tbl {w : Cond} (h : w ∈ zW) : w ∈ lw_tbl := (List.mem_filter.mp h).1
theorem zgW : GoodIn zW zW := fun w h => ⟨h, good_of_word (List.mem_filter.mp h).2⟩
theorem zgI {w : Cond} (h : w ∈ zW) : GoodIn zW (w :: zW) := fun w2 h2 => (List.mem_cons.mp h2).elim (fun e => by rw [e]; exact zgW w h) (fun h3 => zgW w2 h3)
theorem zgV {own C : String} {ix : Nat} {y : MethodName} {w : Cond} (h1 : Cond.methodLink own ix y ∈ zW) (h2 : Cond.instanceMethod y ∈ zW) (h3 : Cond.selects C y y ∈ zW) (h4 : Cond.initialized C ∈ zW) (h : w ∈ zW) : GoodIn zW (wsV own ix C y (w :: zW)) := by
  intro w2 hw
  unfold wsV at hw
  rcases List.mem_append.mp hw with h9 | h9
  · simp only [List.mem_cons, List.not_mem_nil, or_false] at h9
    rcases h9 with rfl | rfl | rfl | rfl
    · exact zgW _ h1
    · exact zgW _ h2
    · exact zgW _ h3
    · exact zgW _ h4
  · exact zgI h w2 h9
theorem zgS {own : String} {ix : Nat} {y : MethodName} {w : Cond} (h1 : Cond.methodLink own ix y ∈ zW) (h2 : Cond.static y ∈ zW) (h3 : Cond.initialized own ∈ zW) (h : w ∈ zW) : GoodIn zW (wsS own ix y (w :: zW)) := by
  intro w2 hw
  unfold wsS at hw
  rcases List.mem_append.mp hw with h9 | h9
  · simp only [List.mem_cons, List.not_mem_nil, or_false] at h9
    rcases h9 with rfl | rfl | rfl
    · exact zgW _ h1
    · exact zgW _ h2
    · exact zgW _ h3
  · exact zgI h w2 h9
abbrev wsX4_init : List Cond := .code yX4_init cX4_init 2 none :: zW
abbrev wsX2_init : List Cond := .code yX2_init cX2_init 1 none :: zW
abbrev wsX0_init : List Cond := .code yX0_init cX0_init 1 none :: zW
abbrev wsX3_init : List Cond := .code yX3_init cX3_init 1 none :: zW
abbrev wsX1_init : List Cond := .code yX1_init cX1_init 1 none :: zW
abbrev wsX4_add : List Cond := .code yX4_add cX4_add 3 (some .int) :: zW
abbrev wsX4_isRow : List Cond := .code yX4_isRow cX4_isRow 1 (some .boolean) :: zW
abbrev wsX2_append : List Cond := .code yX2_append cX2_append 2 none :: zW
abbrev wsX4_wipe : List Cond := .code yX4_wipe cX4_wipe 3 (some .int) :: zW
abbrev wsX2_empty : List Cond := .code yX2_empty cX2_empty 1 none :: zW
abbrev wsX4_length : List Cond := .code yX4_length cX4_length 2 (some .int) :: zW
abbrev wsX4_steps : List Cond := .code yX4_steps cX4_steps 1 (some .int) :: zW
abbrev wsX4_hunks : List Cond := .code yX4_hunks cX4_hunks 1 (some .int) :: zW
abbrev wsX3_countHunks : List Cond := .code yX3_countHunks cX3_countHunks 3 (some .int) :: zW
abbrev wsX3_opensHunk : List Cond := .code yX3_opensHunk cX3_opensHunk 2 (some .boolean) :: zW
abbrev wsX4_conflicts : List Cond := .code yX4_conflicts cX4_conflicts 1 (some .int) :: zW
abbrev wsX4_number : List Cond := .code yX4_number cX4_number 4 (some .int) :: zW
abbrev wsX4_existingRow : List Cond := .code yX4_existingRow cX4_existingRow 2 (some (.object "RowDiffer$Row")) :: zW
abbrev wsX4_diff : List Cond := .code yX4_diff cX4_diff 6 (some .int) :: zW
abbrev wsX0_compare : List Cond := .code yX0_compare cX0_compare 5 (some .int) :: zW
abbrev wsX0_findLeastCost : List Cond := .code yX0_findLeastCost cX0_findLeastCost 4 (some .int) :: zW
abbrev wsX0_moveCostsBackTo : List Cond := .code yX0_moveCostsBackTo cX0_moveCostsBackTo 8 none :: zW
abbrev wsX0_markErase : List Cond := .code yX0_markErase cX0_markErase 7 none :: zW
abbrev wsX0_wordOf : List Cond := .code yX0_wordOf cX0_wordOf 2 (some .int) :: zW
abbrev wsX0_writeScript : List Cond := .code yX0_writeScript cX0_writeScript 7 none :: zW
abbrev wsX3_begin : List Cond := .code yX3_begin cX3_begin 1 none :: zW
abbrev wsX3_append : List Cond := .code yX3_append cX3_append 5 none :: zW
abbrev wsX0_isEraseMarked : List Cond := .code yX0_isEraseMarked cX0_isEraseMarked 3 (some .boolean) :: zW
abbrev wsX4_step : List Cond := .code yX4_step cX4_step 3 (some .int) :: zW
abbrev wsX4_hunk : List Cond := .code yX4_hunk cX4_hunk 4 (some .int) :: zW
abbrev wsX3_firstStepOfHunk : List Cond := .code yX3_firstStepOfHunk cX3_firstStepOfHunk 4 (some .int) :: zW
abbrev wsX3_countInHunk : List Cond := .code yX3_countInHunk cX3_countInHunk 5 (some .int) :: zW
abbrev wsX4_apply : List Cond := .code yX4_apply cX4_apply 8 (some .int) :: zW
abbrev wsX3_spells : List Cond := .code yX3_spells cX3_spells 5 (some .boolean) :: zW
abbrev wsX3_spellInto : List Cond := .code yX3_spellInto cX3_spellInto 4 none :: zW
abbrev wsX4_merge : List Cond := .code yX4_merge cX4_merge 7 (some .int) :: zW
abbrev wsX1_make : List Cond := .code yX1_make cX1_make 12 none :: zW
abbrev wsX3_endOfInserts : List Cond := .code yX3_endOfInserts cX3_endOfInserts 3 (some .int) :: zW
abbrev wsX1_appendCommon : List Cond := .code yX1_appendCommon cX1_appendCommon 9 (some .int) :: zW
abbrev wsX1_append : List Cond := .code yX1_append cX1_append 5 none :: zW
abbrev wsX1_appendInserts : List Cond := .code yX1_appendInserts cX1_appendInserts 6 none :: zW
abbrev wsX3_erasesAt : List Cond := .code yX3_erasesAt cX3_erasesAt 2 (some .boolean) :: zW
abbrev wsX4_entry : List Cond := .code yX4_entry cX4_entry 3 (some .int) :: zW
abbrev wsX4_see : List Cond := .code yX4_see cX4_see 4 (some .int) :: zW
abbrev wsX1_countSeen : List Cond := .code yX1_countSeen cX1_countSeen 4 (some .int) :: zW
abbrev wsX1_isSeen : List Cond := .code yX1_isSeen cX1_isSeen 4 (some .boolean) :: zW
abbrev wsX1_showInto : List Cond := .code yX1_showInto cX1_showInto 4 none :: zW
abbrev wsX5_init : List Cond := .code yX5_init cX5_init 1 none :: zW
abbrev wsX5_thrown : List Cond := .code yX5_thrown cX5_thrown 1 (some .int) :: zW
abbrev wsX5_add : List Cond := .code yX5_add cX5_add 3 (some .int) :: zW
abbrev wsX5_isRow : List Cond := .code yX5_isRow cX5_isRow 1 (some .boolean) :: zW
abbrev wsX5_wipe : List Cond := .code yX5_wipe cX5_wipe 3 (some .int) :: zW
abbrev wsX5_length : List Cond := .code yX5_length cX5_length 2 (some .int) :: zW
abbrev wsX5_number : List Cond := .code yX5_number cX5_number 3 (some .int) :: zW
abbrev wsX5_diff : List Cond := .code yX5_diff cX5_diff 7 (some .int) :: zW
abbrev wsX5_measure : List Cond := .code yX5_measure cX5_measure 8 (some .int) :: zW
abbrev wsX5_same : List Cond := .code yX5_same cX5_same 5 (some .boolean) :: zW
abbrev wsX5_raise : List Cond := .code yX5_raise cX5_raise 2 (some .int) :: zW
abbrev wsX5_due : List Cond := .code yX5_due cX5_due 5 (some .int) :: zW
abbrev wsX5_steps : List Cond := .code yX5_steps cX5_steps 1 (some .int) :: zW
abbrev wsX5_step : List Cond := .code yX5_step cX5_step 3 (some .int) :: zW
abbrev wsX5_hunks : List Cond := .code yX5_hunks cX5_hunks 3 (some .int) :: zW
abbrev wsX5_opens : List Cond := .code yX5_opens cX5_opens 2 (some .boolean) :: zW
abbrev wsX5_hunk : List Cond := .code yX5_hunk cX5_hunk 7 (some .int) :: zW
abbrev wsX5_apply : List Cond := .code yX5_apply cX5_apply 8 (some .int) :: zW
abbrev wsX5_store : List Cond := .code yX5_store cX5_store 4 none :: zW
abbrev wsX5_merge : List Cond := .code yX5_merge cX5_merge 5 (some .int) :: zW
abbrev wsX5_side : List Cond := .code yX5_side cX5_side 6 (some .boolean) :: zW
abbrev wsX5_putIn : List Cond := .code yX5_putIn cX5_putIn 10 none :: zW
abbrev wsX5_enter : List Cond := .code yX5_enter cX5_enter 5 none :: zW
abbrev wsX5_entry : List Cond := .code yX5_entry cX5_entry 3 (some .int) :: zW
abbrev wsX5_conflicts : List Cond := .code yX5_conflicts cX5_conflicts 1 (some .int) :: zW
abbrev wsX5_see : List Cond := .code yX5_see cX5_see 6 (some .int) :: zW
