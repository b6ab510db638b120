/-! names, fields, words and links, by program out of the claim's own printed names (wip/whole/tools/gen_names.py) -/
abbrev RX0 : String := "HalfIsle$DeedReader"
def TX0 : u_T := fun k => match k with
  | _ => ("HalfIsle$DeedReader", "text", "LHalfIsle$Reader;", true)
def tyX0 : Nat → FieldType := fun k => match k with
  | _ => .object "HalfIsle$Reader"
theorem nmX0 : ∀ a, a < 1 → ∀ b, b < 1 → a ≠ b → (TX0 a).2.1 ≠ (TX0 b).2.1 := by decide +kernel
theorem tyX0_ok : ∀ k, k < 1 → parseFieldDescriptor (TX0 k).2.2.1 = some (tyX0 k) := by decide +kernel
abbrev RX1 : String := "HalfIsle$Island"
def TX1 : u_T := fun k => match k with
  | 0 => ("HalfIsle$Island", "home", "[I", true)
  | 1 => ("HalfIsle$Island", "room", "[I", true)
  | 2 => ("HalfIsle$Island", "worn", "[I", true)
  | 3 => ("HalfIsle$Island", "value", "[I", true)
  | 4 => ("HalfIsle$Island", "owner", "[I", true)
  | 5 => ("HalfIsle$Island", "foundRoom", "[I", true)
  | 6 => ("HalfIsle$Island", "foundWorn", "[I", true)
  | 7 => ("HalfIsle$Island", "soil", "[I", true)
  | 8 => ("HalfIsle$Island", "places", "[I", true)
  | 9 => ("HalfIsle$Island", "hands", "[I", true)
  | 10 => ("HalfIsle$Island", "owes", "[I", true)
  | 11 => ("HalfIsle$Island", "leavings", "LHalfIsle$Leavings;", true)
  | 12 => ("HalfIsle$Island", "items", "I", false)
  | 13 => ("HalfIsle$Island", "texts", "I", false)
  | 14 => ("HalfIsle$Island", "storm", "I", false)
  | 15 => ("HalfIsle$Island", "day", "I", false)
  | 16 => ("HalfIsle$Island", "soiled", "I", false)
  | _ => ("HalfIsle$Island", "seed", "I", false)
def tyX1 : Nat → FieldType := fun k => match k with
  | 0 => .array .int
  | 1 => .array .int
  | 2 => .array .int
  | 3 => .array .int
  | 4 => .array .int
  | 5 => .array .int
  | 6 => .array .int
  | 7 => .array .int
  | 8 => .array .int
  | 9 => .array .int
  | 10 => .array .int
  | 11 => .object "HalfIsle$Leavings"
  | 12 => .int
  | 13 => .int
  | 14 => .int
  | 15 => .int
  | 16 => .int
  | _ => .int
theorem nmX1 : ∀ a, a < 18 → ∀ b, b < 18 → a ≠ b → (TX1 a).2.1 ≠ (TX1 b).2.1 := by decide +kernel
theorem tyX1_ok : ∀ k, k < 18 → parseFieldDescriptor (TX1 k).2.2.1 = some (tyX1 k) := by decide +kernel
abbrev RX2 : String := "HalfIsle$Law"
def TX2 : u_T := fun k => match k with
  | 0 => ("HalfIsle$Law", "about", "[I", true)
  | 1 => ("HalfIsle$Law", "amount", "[I", true)
  | 2 => ("HalfIsle$Law", "begins", "[I", true)
  | 3 => ("HalfIsle$Law", "codes", "[I", true)
  | 4 => ("HalfIsle$Law", "used", "I", false)
  | 5 => ("HalfIsle$Law", "lines", "I", false)
  | _ => ("HalfIsle$Law", "told", "[I", true)
def tyX2 : Nat → FieldType := fun k => match k with
  | 0 => .array .int
  | 1 => .array .int
  | 2 => .array .int
  | 3 => .array .int
  | 4 => .int
  | 5 => .int
  | _ => .array .int
theorem nmX2 : ∀ a, a < 7 → ∀ b, b < 7 → a ≠ b → (TX2 a).2.1 ≠ (TX2 b).2.1 := by decide +kernel
theorem tyX2_ok : ∀ k, k < 7 → parseFieldDescriptor (TX2 k).2.2.1 = some (tyX2 k) := by decide +kernel
abbrev RX3 : String := "HalfIsle$LawReader"
def TX3 : u_T := fun k => match k with
  | 0 => ("HalfIsle$LawReader", "text", "LHalfIsle$Reader;", true)
  | 1 => ("HalfIsle$LawReader", "waits", "[I", true)
  | 2 => ("HalfIsle$LawReader", "waiting", "I", false)
  | _ => ("HalfIsle$LawReader", "deep", "I", false)
def tyX3 : Nat → FieldType := fun k => match k with
  | 0 => .object "HalfIsle$Reader"
  | 1 => .array .int
  | 2 => .int
  | _ => .int
theorem nmX3 : ∀ a, a < 4 → ∀ b, b < 4 → a ≠ b → (TX3 a).2.1 ≠ (TX3 b).2.1 := by decide +kernel
theorem tyX3_ok : ∀ k, k < 4 → parseFieldDescriptor (TX3 k).2.2.1 = some (tyX3 k) := by decide +kernel
abbrev RX4 : String := "HalfIsle$Leavings"
def TX4 : u_T := fun k => match k with
  | 0 => ("HalfIsle$Leavings", "cells", "[I", true)
  | 1 => ("HalfIsle$Leavings", "latest", "I", false)
  | _ => ("HalfIsle$Leavings", "count", "I", false)
def tyX4 : Nat → FieldType := fun k => match k with
  | 0 => .array .int
  | 1 => .int
  | _ => .int
theorem nmX4 : ∀ a, a < 3 → ∀ b, b < 3 → a ≠ b → (TX4 a).2.1 ≠ (TX4 b).2.1 := by decide +kernel
theorem tyX4_ok : ∀ k, k < 3 → parseFieldDescriptor (TX4 k).2.2.1 = some (tyX4 k) := by decide +kernel
abbrev RX5 : String := "HalfIsle$Reader"
def TX5 : u_T := fun k => match k with
  | 0 => ("HalfIsle$Reader", "bytes", "[I", true)
  | 1 => ("HalfIsle$Reader", "length", "I", false)
  | 2 => ("HalfIsle$Reader", "begin", "I", false)
  | 3 => ("HalfIsle$Reader", "end", "I", false)
  | _ => ("HalfIsle$Reader", "wrong", "I", false)
def tyX5 : Nat → FieldType := fun k => match k with
  | 0 => .array .int
  | 1 => .int
  | 2 => .int
  | 3 => .int
  | _ => .int
theorem nmX5 : ∀ a, a < 5 → ∀ b, b < 5 → a ≠ b → (TX5 a).2.1 ≠ (TX5 b).2.1 := by decide +kernel
theorem tyX5_ok : ∀ k, k < 5 → parseFieldDescriptor (TX5 k).2.2.1 = some (tyX5 k) := by decide +kernel
abbrev RX6 : String := "HalfIsle$Sums"
def TX6 : u_T := fun k => match k with
  | 0 => ("HalfIsle$Sums", "low", "[I", true)
  | _ => ("HalfIsle$Sums", "high", "[I", true)
def tyX6 : Nat → FieldType := fun k => match k with
  | 0 => .array .int
  | _ => .array .int
theorem nmX6 : ∀ a, a < 2 → ∀ b, b < 2 → a ≠ b → (TX6 a).2.1 ≠ (TX6 b).2.1 := by decide +kernel
theorem tyX6_ok : ∀ k, k < 2 → parseFieldDescriptor (TX6 k).2.2.1 = some (tyX6 k) := by decide +kernel
abbrev RX7 : String := "HalfIsle"
def TX7 : u_T := fun k => match k with
  | 0 => ("HalfIsle", "tape", "[I", true)
  | 1 => ("HalfIsle", "taped", "I", false)
  | 2 => ("HalfIsle", "deedReader", "LHalfIsle$DeedReader;", true)
  | 3 => ("HalfIsle", "lawReader", "LHalfIsle$LawReader;", true)
  | 4 => ("HalfIsle", "wrongByte", "I", false)
  | 5 => ("HalfIsle", "now", "LHalfIsle$Island;", true)
  | 6 => ("HalfIsle", "scratch", "LHalfIsle$Island;", true)
  | 7 => ("HalfIsle", "rule", "LHalfIsle$Law;", false)
  | 8 => ("HalfIsle", "spareRule", "LHalfIsle$Law;", false)
  | 9 => ("HalfIsle", "imaged", "Z", false)
  | 10 => ("HalfIsle", "imageIsland", "LHalfIsle$Island;", true)
  | 11 => ("HalfIsle", "imageRule", "LHalfIsle$Law;", true)
  | 12 => ("HalfIsle", "past", "[LHalfIsle$Island;", true)
  | 13 => ("HalfIsle", "newest", "I", false)
  | 14 => ("HalfIsle", "remembered", "I", false)
  | 15 => ("HalfIsle", "weights", "[I", true)
  | 16 => ("HalfIsle", "sums", "LHalfIsle$Sums;", true)
  | 17 => ("HalfIsle", "valueSums", "LHalfIsle$Sums;", true)
  | _ => ("HalfIsle", "order", "[I", true)
def tyX7 : Nat → FieldType := fun k => match k with
  | 0 => .array .int
  | 1 => .int
  | 2 => .object "HalfIsle$DeedReader"
  | 3 => .object "HalfIsle$LawReader"
  | 4 => .int
  | 5 => .object "HalfIsle$Island"
  | 6 => .object "HalfIsle$Island"
  | 7 => .object "HalfIsle$Law"
  | 8 => .object "HalfIsle$Law"
  | 9 => .boolean
  | 10 => .object "HalfIsle$Island"
  | 11 => .object "HalfIsle$Law"
  | 12 => .array (.object "HalfIsle$Island")
  | 13 => .int
  | 14 => .int
  | 15 => .array .int
  | 16 => .object "HalfIsle$Sums"
  | 17 => .object "HalfIsle$Sums"
  | _ => .array .int
theorem nmX7 : ∀ a, a < 19 → ∀ b, b < 19 → a ≠ b → (TX7 a).2.1 ≠ (TX7 b).2.1 := by decide +kernel
theorem tyX7_ok : ∀ k, k < 19 → parseFieldDescriptor (TX7 k).2.2.1 = some (tyX7 k) := by decide +kernel
abbrev RX8 : String := "HalfIsleModel"
def TX8 : u_T := fun k => match k with
  | 0 => ("HalfIsleModel", "thrown", "I", false)
  | 1 => ("HalfIsleModel", "m", "[I", true)
  | 2 => ("HalfIsleModel", "kept", "[I", true)
  | 3 => ("HalfIsleModel", "hasImage", "Z", false)
  | 4 => ("HalfIsleModel", "aside", "[I", true)
  | 5 => ("HalfIsleModel", "acts", "[I", true)
  | 6 => ("HalfIsleModel", "acted", "I", false)
  | 7 => ("HalfIsleModel", "tape", "[I", true)
  | 8 => ("HalfIsleModel", "taped", "I", false)
  | 9 => ("HalfIsleModel", "base", "I", false)
  | 10 => ("HalfIsleModel", "end", "I", false)
  | 11 => ("HalfIsleModel", "at", "I", false)
  | 12 => ("HalfIsleModel", "fault", "I", false)
  | 13 => ("HalfIsleModel", "deep", "I", false)
  | 14 => ("HalfIsleModel", "fact", "[I", true)
  | 15 => ("HalfIsleModel", "isOwn", "Z", false)
  | 16 => ("HalfIsleModel", "isHome", "Z", false)
  | 17 => ("HalfIsleModel", "wears", "I", false)
  | 18 => ("HalfIsleModel", "shifts", "I", false)
  | 19 => ("HalfIsleModel", "soils", "I", false)
  | 20 => ("HalfIsleModel", "least", "[I", true)
  | _ => ("HalfIsleModel", "fits", "[Z", true)
def tyX8 : Nat → FieldType := fun k => match k with
  | 0 => .int
  | 1 => .array .int
  | 2 => .array .int
  | 3 => .boolean
  | 4 => .array .int
  | 5 => .array .int
  | 6 => .int
  | 7 => .array .int
  | 8 => .int
  | 9 => .int
  | 10 => .int
  | 11 => .int
  | 12 => .int
  | 13 => .int
  | 14 => .array .int
  | 15 => .boolean
  | 16 => .boolean
  | 17 => .int
  | 18 => .int
  | 19 => .int
  | 20 => .array .int
  | _ => .array .boolean
theorem nmX8 : ∀ a, a < 22 → ∀ b, b < 22 → a ≠ b → (TX8 a).2.1 ≠ (TX8 b).2.1 := by decide +kernel
theorem tyX8_ok : ∀ k, k < 22 → parseFieldDescriptor (TX8 k).2.2.1 = some (tyX8 k) := by decide +kernel
abbrev vwCl : List vw_C := [(RX0, TX0, 1), (RX1, TX1, 18), (RX2, TX2, 7), (RX3, TX3, 4), (RX4, TX4, 3), (RX5, TX5, 5), (RX6, TX6, 2), (RX7, TX7, 19), (RX8, TX8, 22)]
/-- a method: its name, bytes, locals, answer, table -/
abbrev MR : Type := MethodName × ByteArray × Nat × Option FieldType × List (Nat × Nat × Nat × Nat)
abbrev kX7_init : MR := (⟨"HalfIsle", "<init>", "()V"⟩, prog_1_method_1_code, 2, none, [])
abbrev kX0_init : MR := (⟨"HalfIsle$DeedReader", "<init>", "()V"⟩, prog_2_method_1_code, 1, none, [])
abbrev kX5_init : MR := (⟨"HalfIsle$Reader", "<init>", "()V"⟩, prog_7_method_1_code, 1, none, [])
abbrev kX3_init : MR := (⟨"HalfIsle$LawReader", "<init>", "()V"⟩, prog_5_method_1_code, 1, none, [])
abbrev kX1_init : MR := (⟨"HalfIsle$Island", "<init>", "()V"⟩, prog_3_method_1_code, 1, none, [])
abbrev kX4_init : MR := (⟨"HalfIsle$Leavings", "<init>", "()V"⟩, prog_6_method_1_code, 1, none, [])
abbrev kX2_init : MR := (⟨"HalfIsle$Law", "<init>", "()V"⟩, prog_4_method_1_code, 1, none, [])
abbrev kX6_init : MR := (⟨"HalfIsle$Sums", "<init>", "()V"⟩, prog_8_method_1_code, 1, none, [])
abbrev kX7_feed : MR := (⟨"HalfIsle", "feed", "(IIIII)I"⟩, prog_1_method_2_code, 6, (some .int), [])
abbrev kX7_tapeNumber : MR := (⟨"HalfIsle", "tapeNumber", "(I)V"⟩, prog_1_method_65_code, 3, none, [])
abbrev kX7_put : MR := (⟨"HalfIsle", "put", "([III)V"⟩, prog_1_method_57_code, 3, none, [])
abbrev kX7_end : MR := (⟨"HalfIsle", "end", "(I)Z"⟩, prog_1_method_3_code, 2, (some .boolean), [])
abbrev kX7_fault : MR := (⟨"HalfIsle", "fault", "()I"⟩, prog_1_method_6_code, 1, (some .int), [])
abbrev kX7_take : MR := (⟨"HalfIsle", "take", "()I"⟩, prog_1_method_16_code, 2, (some .int), [])
abbrev kX7_remember : MR := (⟨"HalfIsle", "remember", "()V"⟩, prog_1_method_67_code, 2, none, [])
abbrev kX1_copyFrom : MR := (⟨"HalfIsle$Island", "copyFrom", "(LHalfIsle$Island;)V"⟩, prog_3_method_2_code, 2, none, [])
abbrev kX7_copyRow : MR := (⟨"HalfIsle", "copyRow", "([I[I)V"⟩, prog_1_method_58_code, 2, none, [])
abbrev kJ9_min : MR := (⟨"java/lang/Math", "min", "(II)I"⟩, prog_18_method_69_code, 2, (some .int), [])
abbrev kX4_copyFrom : MR := (⟨"HalfIsle$Leavings", "copyFrom", "(LHalfIsle$Leavings;)V"⟩, prog_6_method_2_code, 2, none, [])
abbrev kX1_missingOnes : MR := (⟨"HalfIsle$Island", "missingOnes", "()I"⟩, prog_3_method_13_code, 3, (some .int), [])
abbrev kX1_isMissing : MR := (⟨"HalfIsle$Island", "isMissing", "(I)Z"⟩, prog_3_method_6_code, 2, (some .boolean), [])
abbrev kX7_at : MR := (⟨"HalfIsle", "at", "([II)I"⟩, prog_1_method_56_code, 2, (some .int), [])
abbrev kJ6_bitCount_0f7a4 : MR := (⟨"java/lang/Integer", "bitCount", "(I)I"⟩, prog_17_method_49_code, 1, (some .int), [])
abbrev kX1_takeInventory : MR := (⟨"HalfIsle$Island", "takeInventory", "()V"⟩, prog_3_method_18_code, 1, none, [])
abbrev kX7_total : MR := (⟨"HalfIsle", "total", "([II)I"⟩, prog_1_method_59_code, 4, (some .int), [])
abbrev kX7_missing : MR := (⟨"HalfIsle", "missing", "()I"⟩, prog_1_method_19_code, 1, (some .int), [])
abbrev kX7_worse : MR := (⟨"HalfIsle", "worse", "()I"⟩, prog_1_method_20_code, 3, (some .int), [])
abbrev kX1_worseBy : MR := (⟨"HalfIsle$Island", "worseBy", "(I)I"⟩, prog_3_method_7_code, 2, (some .int), [])
abbrev kJ9_max : MR := (⟨"java/lang/Math", "max", "(II)I"⟩, prog_18_method_65_code, 2, (some .int), [])
abbrev kX7_mislaid : MR := (⟨"HalfIsle", "mislaid", "()I"⟩, prog_1_method_21_code, 3, (some .int), [])
abbrev kX7_work : MR := (⟨"HalfIsle", "work", "()I"⟩, prog_1_method_22_code, 1, (some .int), [])
abbrev kX1_workOfAll : MR := (⟨"HalfIsle$Island", "workOfAll", "()I"⟩, prog_3_method_9_code, 3, (some .int), [])
abbrev kX1_workOf : MR := (⟨"HalfIsle$Island", "workOf", "(I)I"⟩, prog_3_method_8_code, 2, (some .int), [])
abbrev kX7_stepsBetween : MR := (⟨"HalfIsle", "stepsBetween", "(II)I"⟩, prog_1_method_73_code, 3, (some .int), [])
abbrev kJ9_abs : MR := (⟨"java/lang/Math", "abs", "(I)I"⟩, prog_18_method_59_code, 1, (some .int), [])
abbrev kX7_roundedUp : MR := (⟨"HalfIsle", "roundedUp", "(II)I"⟩, prog_1_method_74_code, 2, (some .int), [])
abbrev kX7_first : MR := (⟨"HalfIsle", "first", "(Z)I"⟩, prog_1_method_23_code, 4, (some .int), [])
abbrev kX7_lowest : MR := (⟨"HalfIsle", "lowest", "(I)I"⟩, prog_1_method_72_code, 2, (some .int), [])
abbrev kX1_passDay : MR := (⟨"HalfIsle$Island", "passDay", "(LHalfIsle$Law;Z)Z"⟩, prog_3_method_19_code, 4, (some .boolean), [])
abbrev kX1_passItem : MR := (⟨"HalfIsle$Island", "passItem", "(LHalfIsle$Law;I)V"⟩, prog_3_method_20_code, 4, none, [])
abbrev kX2_tell : MR := (⟨"HalfIsle$Law", "tell", "(LHalfIsle$Island;I)V"⟩, prog_4_method_7_code, 5, none, [])
abbrev kX2_holds : MR := (⟨"HalfIsle$Law", "holds", "(LHalfIsle$Island;III)Z"⟩, prog_4_method_8_code, 15, (some .boolean), [])
abbrev kX2_part : MR := (⟨"HalfIsle$Law", "part", "(LHalfIsle$Island;II)I"⟩, prog_4_method_9_code, 3, (some .int), [])
abbrev kX1_there : MR := (⟨"HalfIsle$Island", "there", "()I"⟩, prog_3_method_4_code, 1, (some .int), [])
abbrev kX2_atom : MR := (⟨"HalfIsle$Law", "atom", "(LHalfIsle$Island;III)Z"⟩, prog_4_method_10_code, 4, (some .boolean), [])
abbrev kX1_passWeather : MR := (⟨"HalfIsle$Island", "passWeather", "()V"⟩, prog_3_method_21_code, 3, none, [])
abbrev kX1_draw : MR := (⟨"HalfIsle$Island", "draw", "()I"⟩, prog_3_method_22_code, 1, (some .int), [])
abbrev kX1_daysLeft : MR := (⟨"HalfIsle$Island", "daysLeft", "()I"⟩, prog_3_method_5_code, 1, (some .int), [])
abbrev kX1_leave : MR := (⟨"HalfIsle$Island", "leave", "()V"⟩, prog_3_method_23_code, 3, none, [])
abbrev kX1_owedMore : MR := (⟨"HalfIsle$Island", "owedMore", "()I"⟩, prog_3_method_17_code, 3, (some .int), [])
abbrev kX1_owedFor : MR := (⟨"HalfIsle$Island", "owedFor", "(I)I"⟩, prog_3_method_16_code, 2, (some .int), [])
abbrev kX4_add : MR := (⟨"HalfIsle$Leavings", "add", "(IIII)V"⟩, prog_6_method_3_code, 5, none, [])
abbrev kX7_round : MR := (⟨"HalfIsle", "round", "()I"⟩, prog_1_method_24_code, 2, (some .int), [])
abbrev kX7_sameRooms : MR := (⟨"HalfIsle", "sameRooms", "()Z"⟩, prog_1_method_70_code, 3, (some .boolean), [])
abbrev kX7_search : MR := (⟨"HalfIsle", "search", "(I)I"⟩, prog_1_method_27_code, 2, (some .int), [])
abbrev kX7_orderRooms : MR := (⟨"HalfIsle", "orderRooms", "()V"⟩, prog_1_method_79_code, 3, none, [])
abbrev kX7_goesAhead : MR := (⟨"HalfIsle", "goesAhead", "(II)Z"⟩, prog_1_method_80_code, 3, (some .boolean), [])
abbrev kX7_lookCost : MR := (⟨"HalfIsle", "lookCost", "(I)I"⟩, prog_1_method_78_code, 2, (some .int), [])
abbrev kX7_likelihood : MR := (⟨"HalfIsle", "likelihood", "(I)I"⟩, prog_1_method_77_code, 2, (some .int), [])
abbrev kX1_itemsWith : MR := (⟨"HalfIsle$Island", "itemsWith", "([II)I"⟩, prog_3_method_12_code, 5, (some .int), [])
abbrev kX7_costs : MR := (⟨"HalfIsle", "costs", "()I"⟩, prog_1_method_28_code, 5, (some .int), [])
abbrev kX7_rests : MR := (⟨"HalfIsle", "rests", "()I"⟩, prog_1_method_31_code, 9, (some .int), [])
abbrev kX1_missingValue : MR := (⟨"HalfIsle$Island", "missingValue", "()I"⟩, prog_3_method_14_code, 3, (some .int), [])
abbrev kX7_restCost : MR := (⟨"HalfIsle", "restCost", "(IIII)I"⟩, prog_1_method_76_code, 4, (some .int), [])
abbrev kX7_due : MR := (⟨"HalfIsle", "due", "()I"⟩, prog_1_method_32_code, 1, (some .int), [])
abbrev kX7_parted : MR := (⟨"HalfIsle", "parted", "(Z)I"⟩, prog_1_method_39_code, 7, (some .int), [])
abbrev kX6_fill : MR := (⟨"HalfIsle$Sums", "fill", "([I)V"⟩, prog_8_method_2_code, 2, none, [])
abbrev kX6_fillHalf : MR := (⟨"HalfIsle$Sums", "fillHalf", "([I[II)V"⟩, prog_8_method_3_code, 5, none, [])
abbrev kX6_of : MR := (⟨"HalfIsle$Sums", "of", "(I)I"⟩, prog_8_method_4_code, 2, (some .int), [])
abbrev kX7_clash : MR := (⟨"HalfIsle", "clash", "()I"⟩, prog_1_method_40_code, 3, (some .int), [])
abbrev kX7_full : MR := (⟨"HalfIsle", "full", "()I"⟩, prog_1_method_41_code, 3, (some .int), [])
abbrev kX7_settles : MR := (⟨"HalfIsle", "settles", "()I"⟩, prog_1_method_42_code, 1, (some .int), [])
abbrev kX7_richest : MR := (⟨"HalfIsle", "richest", "()I"⟩, prog_1_method_43_code, 5, (some .int), [])
abbrev kX1_valueIn : MR := (⟨"HalfIsle$Island", "valueIn", "(I)I"⟩, prog_3_method_15_code, 4, (some .int), [])
abbrev kX7_like : MR := (⟨"HalfIsle", "like", "()I"⟩, prog_1_method_46_code, 3, (some .int), [])
abbrev kX7_seed : MR := (⟨"HalfIsle", "seed", "(I)I"⟩, prog_1_method_51_code, 3, (some .int), [])
abbrev kX7_undo : MR := (⟨"HalfIsle", "undo", "()Z"⟩, prog_1_method_52_code, 1, (some .boolean), [])
abbrev kX7_image : MR := (⟨"HalfIsle", "image", "()V"⟩, prog_1_method_53_code, 1, none, [])
abbrev kX2_copyFrom : MR := (⟨"HalfIsle$Law", "copyFrom", "(LHalfIsle$Law;)V"⟩, prog_4_method_2_code, 2, none, [])
abbrev kX7_back : MR := (⟨"HalfIsle", "back", "()Z"⟩, prog_1_method_54_code, 1, (some .boolean), [])
abbrev kX7_count : MR := (⟨"HalfIsle", "count", "(I)I"⟩, prog_1_method_55_code, 2, (some .int), [])
abbrev kL_deed : MR := (⟨"HalfIsleLaw", "deed", "(LHalfIsle;[J)I"⟩, method_3_code, 3, (some .int), [(0, 8, 11, 13), (0, 8, 14, 15)])
abbrev kX7_deed : MR := (⟨"HalfIsle", "deed", "()I"⟩, prog_1_method_4_code, 1, (some .int), [])
abbrev kX7_usedTape : MR := (⟨"HalfIsle", "usedTape", "()I"⟩, prog_1_method_66_code, 2, (some .int), [])
abbrev kX0_readText : MR := (⟨"HalfIsle$DeedReader", "readText", "([IILHalfIsle$Island;)I"⟩, prog_2_method_2_code, 6, (some .int), [])
abbrev kX5_open : MR := (⟨"HalfIsle$Reader", "open", "([II)V"⟩, prog_7_method_2_code, 3, none, [])
abbrev kX5_step : MR := (⟨"HalfIsle$Reader", "step", "()V"⟩, prog_7_method_3_code, 7, none, [])
abbrev kX5_isEnd : MR := (⟨"HalfIsle$Reader", "isEnd", "()Z"⟩, prog_7_method_5_code, 1, (some .boolean), [])
abbrev kX5_refuse : MR := (⟨"HalfIsle$Reader", "refuse", "()V"⟩, prog_7_method_10_code, 1, none, [])
abbrev kX0_readLine : MR := (⟨"HalfIsle$DeedReader", "readLine", "(LHalfIsle$Island;)V"⟩, prog_2_method_3_code, 2, none, [])
abbrev kX5_isAt : MR := (⟨"HalfIsle$Reader", "isAt", "(Ljava/lang/String;)Z"⟩, prog_7_method_7_code, 5, (some .boolean), [])
abbrev kX0_readItem : MR := (⟨"HalfIsle$DeedReader", "readItem", "(LHalfIsle$Island;)V"⟩, prog_2_method_5_code, 6, none, [])
abbrev kX5_needs : MR := (⟨"HalfIsle$Reader", "needs", "(Ljava/lang/String;)V"⟩, prog_7_method_9_code, 2, none, [])
abbrev kX5_takes : MR := (⟨"HalfIsle$Reader", "takes", "(Ljava/lang/String;)Z"⟩, prog_7_method_8_code, 2, (some .boolean), [])
abbrev kX5_number : MR := (⟨"HalfIsle$Reader", "number", "(II)I"⟩, prog_7_method_11_code, 6, (some .int), [])
abbrev kX5_isNumber : MR := (⟨"HalfIsle$Reader", "isNumber", "()Z"⟩, prog_7_method_6_code, 1, (some .boolean), [])
abbrev kX1_addItem : MR := (⟨"HalfIsle$Island", "addItem", "(IIII)V"⟩, prog_3_method_3_code, 5, none, [])
abbrev kX0_readCell : MR := (⟨"HalfIsle$DeedReader", "readCell", "([III)V"⟩, prog_2_method_4_code, 5, none, [])
abbrev kX5_isRight : MR := (⟨"HalfIsle$Reader", "isRight", "()Z"⟩, prog_7_method_4_code, 1, (some .boolean), [])
abbrev kL_law : MR := (⟨"HalfIsleLaw", "law", "(LHalfIsle;[J)I"⟩, method_4_code, 3, (some .int), [(0, 8, 11, 13)])
abbrev kX7_law : MR := (⟨"HalfIsle", "law", "()I"⟩, prog_1_method_5_code, 2, (some .int), [])
abbrev kX3_readText : MR := (⟨"HalfIsle$LawReader", "readText", "([IILHalfIsle$Law;)I"⟩, prog_5_method_2_code, 6, (some .int), [])
abbrev kX2_clear : MR := (⟨"HalfIsle$Law", "clear", "()V"⟩, prog_4_method_3_code, 1, none, [])
abbrev kX3_readLine : MR := (⟨"HalfIsle$LawReader", "readLine", "(LHalfIsle$Law;)V"⟩, prog_5_method_3_code, 3, none, [])
abbrev kX2_beginLine : MR := (⟨"HalfIsle$Law", "beginLine", "(II)V"⟩, prog_4_method_4_code, 3, none, [])
abbrev kX3_readCondition : MR := (⟨"HalfIsle$LawReader", "readCondition", "(LHalfIsle$Law;)V"⟩, prog_5_method_4_code, 4, none, [])
abbrev kX3_readAtom : MR := (⟨"HalfIsle$LawReader", "readAtom", "(LHalfIsle$Law;)V"⟩, prog_5_method_5_code, 3, none, [])
abbrev kX3_hold : MR := (⟨"HalfIsle$LawReader", "hold", "(I)V"⟩, prog_5_method_10_code, 2, none, [])
abbrev kX2_emit : MR := (⟨"HalfIsle$Law", "emit", "(I)V"⟩, prog_4_method_6_code, 2, none, [])
abbrev kX3_readSum : MR := (⟨"HalfIsle$LawReader", "readSum", "(LHalfIsle$Law;)V"⟩, prog_5_method_6_code, 5, none, [])
abbrev kX3_partCode : MR := (⟨"HalfIsle$LawReader", "partCode", "()I"⟩, prog_5_method_7_code, 1, (some .int), [])
abbrev kX3_closeAtom : MR := (⟨"HalfIsle$LawReader", "closeAtom", "(LHalfIsle$Law;)V"⟩, prog_5_method_8_code, 3, none, [])
abbrev kX3_release : MR := (⟨"HalfIsle$LawReader", "release", "(LHalfIsle$Law;I)V"⟩, prog_5_method_11_code, 4, none, [])
abbrev kX3_joins : MR := (⟨"HalfIsle$LawReader", "joins", "(LHalfIsle$Law;)Z"⟩, prog_5_method_9_code, 2, (some .boolean), [])
abbrev kX2_endLine : MR := (⟨"HalfIsle$Law", "endLine", "()V"⟩, prog_4_method_5_code, 1, none, [])
abbrev kL_item : MR := (⟨"HalfIsleLaw", "item", "(LHalfIsle;II[J)I"⟩, method_5_code, 5, (some .int), [(0, 10, 13, 24), (0, 10, 17, 26)])
abbrev kX7_item : MR := (⟨"HalfIsle", "item", "(II)I"⟩, prog_1_method_7_code, 3, (some .int), [])
abbrev kX7_checkItem : MR := (⟨"HalfIsle", "checkItem", "(I)V"⟩, prog_1_method_60_code, 2, none, [])
abbrev kX7_checkWhat : MR := (⟨"HalfIsle", "checkWhat", "(II)V"⟩, prog_1_method_64_code, 2, none, [])
abbrev kL_room : MR := (⟨"HalfIsleLaw", "room", "(LHalfIsle;II[J)I"⟩, method_6_code, 5, (some .int), [(0, 10, 13, 24), (0, 10, 17, 26)])
abbrev kX7_room : MR := (⟨"HalfIsle", "room", "(II)I"⟩, prog_1_method_8_code, 3, (some .int), [])
abbrev kX7_checkRoom : MR := (⟨"HalfIsle", "checkRoom", "(I)V"⟩, prog_1_method_61_code, 1, none, [])
abbrev kL_side : MR := (⟨"HalfIsleLaw", "side", "(LHalfIsle;II[J)I"⟩, method_7_code, 5, (some .int), [(0, 10, 13, 24), (0, 10, 17, 26)])
abbrev kX7_side : MR := (⟨"HalfIsle", "side", "(II)I"⟩, prog_1_method_9_code, 3, (some .int), [])
abbrev kX7_checkSide : MR := (⟨"HalfIsle", "checkSide", "(I)V"⟩, prog_1_method_62_code, 1, none, [])
abbrev kX1_needsOf : MR := (⟨"HalfIsle$Island", "needsOf", "(I)I"⟩, prog_3_method_10_code, 4, (some .int), [])
abbrev kX1_latestOf : MR := (⟨"HalfIsle$Island", "latestOf", "(I)I"⟩, prog_3_method_11_code, 4, (some .int), [])
abbrev kL_does : MR := (⟨"HalfIsleLaw", "does", "(LHalfIsle;II[J)I"⟩, method_8_code, 5, (some .int), [(0, 10, 13, 24), (0, 10, 17, 26)])
abbrev kX7_does : MR := (⟨"HalfIsle", "does", "(II)I"⟩, prog_1_method_10_code, 3, (some .int), [])
abbrev kL_steps : MR := (⟨"HalfIsleLaw", "steps", "(LHalfIsle;II[J)I"⟩, method_9_code, 5, (some .int), [(0, 10, 13, 24)])
abbrev kX7_steps : MR := (⟨"HalfIsle", "steps", "(II)I"⟩, prog_1_method_11_code, 3, (some .int), [])
abbrev kL_carry : MR := (⟨"HalfIsleLaw", "carry", "(LHalfIsle;II[J)I"⟩, method_10_code, 5, (some .int), [(0, 10, 13, 24)])
abbrev kX7_carry : MR := (⟨"HalfIsle", "carry", "(II)I"⟩, prog_1_method_12_code, 4, (some .int), [])
abbrev kL_mend : MR := (⟨"HalfIsleLaw", "mend", "(LHalfIsle;I[J)I"⟩, method_11_code, 4, (some .int), [(0, 9, 12, 24)])
abbrev kX7_mend : MR := (⟨"HalfIsle", "mend", "(I)I"⟩, prog_1_method_13_code, 3, (some .int), [])
abbrev kL_sweep : MR := (⟨"HalfIsleLaw", "sweep", "(LHalfIsle;I[J)I"⟩, method_12_code, 4, (some .int), [(0, 9, 12, 24)])
abbrev kX7_sweep : MR := (⟨"HalfIsle", "sweep", "(I)I"⟩, prog_1_method_14_code, 3, (some .int), [])
abbrev kL_pay : MR := (⟨"HalfIsleLaw", "pay", "(LHalfIsle;II[J)I"⟩, method_13_code, 5, (some .int), [(0, 10, 13, 24), (0, 10, 17, 13)])
abbrev kX7_pay : MR := (⟨"HalfIsle", "pay", "(II)I"⟩, prog_1_method_15_code, 4, (some .int), [])
abbrev kX7_checkNumber : MR := (⟨"HalfIsle", "checkNumber", "(III)V"⟩, prog_1_method_63_code, 3, none, [])
abbrev kL_days : MR := (⟨"HalfIsleLaw", "days", "(LHalfIsle;I[J)I"⟩, method_14_code, 4, (some .int), [(0, 9, 12, 13)])
abbrev kX7_days : MR := (⟨"HalfIsle", "days", "(I)I"⟩, prog_1_method_17_code, 4, (some .int), [])
abbrev kL_ahead : MR := (⟨"HalfIsleLaw", "ahead", "(LHalfIsle;III[J)I"⟩, method_15_code, 6, (some .int), [(0, 12, 15, 24), (0, 12, 19, 13), (0, 12, 23, 26)])
abbrev kX7_ahead : MR := (⟨"HalfIsle", "ahead", "(III)I"⟩, prog_1_method_18_code, 4, (some .int), [])
abbrev kX7_goAhead : MR := (⟨"HalfIsle", "goAhead", "(I)V"⟩, prog_1_method_68_code, 3, none, [])
abbrev kL_worst : MR := (⟨"HalfIsleLaw", "worst", "(LHalfIsle;I[J)I"⟩, method_16_code, 4, (some .int), [(0, 9, 12, 13)])
abbrev kX7_worst : MR := (⟨"HalfIsle", "worst", "(I)I"⟩, prog_1_method_25_code, 5, (some .int), [])
abbrev kL_saves : MR := (⟨"HalfIsleLaw", "saves", "(LHalfIsle;IZ[J)I"⟩, method_17_code, 5, (some .int), [(0, 10, 13, 13)])
abbrev kX7_saves : MR := (⟨"HalfIsle", "saves", "(IZ)I"⟩, prog_1_method_26_code, 7, (some .int), [])
abbrev kL_calm : MR := (⟨"HalfIsleLaw", "calm", "(LHalfIsle;II[J)I"⟩, method_18_code, 5, (some .int), [(0, 10, 13, 13)])
abbrev kX7_calm : MR := (⟨"HalfIsle", "calm", "(II)I"⟩, prog_1_method_29_code, 9, (some .int), [])
abbrev kX7_power : MR := (⟨"HalfIsle", "power", "(II)J"⟩, prog_1_method_75_code, 5, (some .long), [])
abbrev kL_boats : MR := (⟨"HalfIsleLaw", "boats", "(LHalfIsle;III[J)I"⟩, method_19_code, 6, (some .int), [(0, 12, 15, 13)])
abbrev kX7_boats : MR := (⟨"HalfIsle", "boats", "(III)I"⟩, prog_1_method_30_code, 4, (some .int), [])
abbrev kL_lighten : MR := (⟨"HalfIsleLaw", "lighten", "(LHalfIsle;I[J)I"⟩, method_20_code, 4, (some .int), [(0, 9, 12, 13)])
abbrev kX7_lighten : MR := (⟨"HalfIsle", "lighten", "(I)I"⟩, prog_1_method_33_code, 6, (some .int), [])
abbrev kL_wearing : MR := (⟨"HalfIsleLaw", "wearing", "(LHalfIsle;I[J)I"⟩, method_21_code, 4, (some .int), [(0, 9, 12, 24)])
abbrev kX7_wearing : MR := (⟨"HalfIsle", "wearing", "(I)I"⟩, prog_1_method_34_code, 2, (some .int), [])
abbrev kL_meets : MR := (⟨"HalfIsleLaw", "meets", "(LHalfIsle;II[J)I"⟩, method_22_code, 5, (some .int), [(0, 10, 13, 24), (0, 10, 17, 13)])
abbrev kX7_meets : MR := (⟨"HalfIsle", "meets", "(II)I"⟩, prog_1_method_35_code, 3, (some .int), [])
abbrev kX7_firstMeeting : MR := (⟨"HalfIsle", "firstMeeting", "(II)I"⟩, prog_1_method_71_code, 4, (some .int), [])
abbrev kL_visits : MR := (⟨"HalfIsleLaw", "visits", "(LHalfIsle;II[J)I"⟩, method_23_code, 5, (some .int), [(0, 10, 13, 24), (0, 10, 17, 13)])
abbrev kX7_visits : MR := (⟨"HalfIsle", "visits", "(II)I"⟩, prog_1_method_36_code, 5, (some .int), [])
abbrev kL_crowd : MR := (⟨"HalfIsleLaw", "crowd", "(LHalfIsle;I[J)I"⟩, method_24_code, 4, (some .int), [(0, 9, 12, 13)])
abbrev kX7_crowd : MR := (⟨"HalfIsle", "crowd", "(I)I"⟩, prog_1_method_37_code, 4, (some .int), [])
abbrev kL_stays : MR := (⟨"HalfIsleLaw", "stays", "(LHalfIsle;I[J)I"⟩, method_25_code, 4, (some .int), [(0, 9, 12, 24)])
abbrev kX7_stays : MR := (⟨"HalfIsle", "stays", "(I)I"⟩, prog_1_method_38_code, 3, (some .int), [])
abbrev kL_traces : MR := (⟨"HalfIsleLaw", "traces", "(LHalfIsle;Z[J)I"⟩, method_26_code, 4, (some .int), [(0, 9, 12, 13)])
abbrev kX7_traces : MR := (⟨"HalfIsle", "traces", "(Z)I"⟩, prog_1_method_44_code, 5, (some .int), [])
abbrev kX7_readTraces : MR := (⟨"HalfIsle", "readTraces", "()I"⟩, prog_1_method_81_code, 6, (some .int), [])
abbrev kX7_waysThrough : MR := (⟨"HalfIsle", "waysThrough", "(II)I"⟩, prog_1_method_84_code, 4, (some .int), [])
abbrev kX7_fits : MR := (⟨"HalfIsle", "fits", "(II)Z"⟩, prog_1_method_83_code, 5, (some .boolean), [])
abbrev kX7_roomsOf : MR := (⟨"HalfIsle", "roomsOf", "(I)I"⟩, prog_1_method_82_code, 5, (some .int), [])
abbrev kL_look : MR := (⟨"HalfIsleLaw", "look", "(LHalfIsle;[J)I"⟩, method_27_code, 3, (some .int), [(0, 8, 11, 13)])
abbrev kX7_look : MR := (⟨"HalfIsle", "look", "()I"⟩, prog_1_method_45_code, 8, (some .int), [])
abbrev kL_trial : MR := (⟨"HalfIsleLaw", "trial", "(LHalfIsle;IZ[J)I"⟩, method_28_code, 5, (some .int), [(0, 10, 13, 13)])
abbrev kX7_trial : MR := (⟨"HalfIsle", "trial", "(IZ)I"⟩, prog_1_method_47_code, 3, (some .int), [])
abbrev kX7_tryDays : MR := (⟨"HalfIsle", "tryDays", "(II)V"⟩, prog_1_method_69_code, 4, none, [])
abbrev kL_span : MR := (⟨"HalfIsleLaw", "span", "(LHalfIsle;IZ[J)I"⟩, method_29_code, 5, (some .int), [(0, 10, 13, 13)])
abbrev kX7_span : MR := (⟨"HalfIsle", "span", "(IZ)I"⟩, prog_1_method_48_code, 6, (some .int), [])
abbrev kL_led : MR := (⟨"HalfIsleLaw", "led", "(LHalfIsle;IZ[J)I"⟩, method_30_code, 5, (some .int), [(0, 10, 13, 24)])
abbrev kX7_led : MR := (⟨"HalfIsle", "led", "(IZ)I"⟩, prog_1_method_49_code, 6, (some .int), [])
abbrev kX4_cell : MR := (⟨"HalfIsle$Leavings", "cell", "(II)I"⟩, prog_6_method_4_code, 4, (some .int), [])
abbrev kJ9_floorMod_7cf53 : MR := (⟨"java/lang/Math", "floorMod", "(II)I"⟩, prog_18_method_50_code, 3, (some .int), [])
abbrev kL_log : MR := (⟨"HalfIsleLaw", "log", "(LHalfIsle;II[J)I"⟩, method_31_code, 5, (some .int), [(0, 10, 13, 26)])
abbrev kX7_log : MR := (⟨"HalfIsle", "log", "(II)I"⟩, prog_1_method_50_code, 3, (some .int), [])
abbrev kX8_init : MR := (⟨"HalfIsleModel", "<init>", "()V"⟩, prog_10_method_1_code, 2, none, [])
abbrev kX8_thrown : MR := (⟨"HalfIsleModel", "thrown", "()I"⟩, prog_10_method_2_code, 1, (some .int), [])
abbrev kX8_feed : MR := (⟨"HalfIsleModel", "feed", "(IIIII)I"⟩, prog_10_method_16_code, 8, (some .int), [])
abbrev kX8_end : MR := (⟨"HalfIsleModel", "end", "(I)Z"⟩, prog_10_method_17_code, 2, (some .boolean), [])
abbrev kX8_isIn : MR := (⟨"HalfIsleModel", "isIn", "(III)Z"⟩, prog_10_method_3_code, 3, (some .boolean), [])
abbrev kX8_deed : MR := (⟨"HalfIsleModel", "deed", "()I"⟩, prog_10_method_34_code, 2, (some .int), [])
abbrev kX8_putsAside : MR := (⟨"HalfIsleModel", "putsAside", "()V"⟩, prog_10_method_32_code, 2, none, [])
abbrev kX8_begins : MR := (⟨"HalfIsleModel", "begins", "()V"⟩, prog_10_method_30_code, 1, none, [])
abbrev kX8_read : MR := (⟨"HalfIsleModel", "read", "(Z)I"⟩, prog_10_method_31_code, 4, (some .int), [])
abbrev kX8_skip : MR := (⟨"HalfIsleModel", "skip", "()V"⟩, prog_10_method_19_code, 1, none, [])
abbrev kX8_letter : MR := (⟨"HalfIsleModel", "letter", "(I)I"⟩, prog_10_method_18_code, 2, (some .int), [])
abbrev kX8_wrong : MR := (⟨"HalfIsleModel", "wrong", "(I)V"⟩, prog_10_method_22_code, 2, none, [])
abbrev kX8_lawLine : MR := (⟨"HalfIsleModel", "lawLine", "()V"⟩, prog_10_method_41_code, 4, none, [])
abbrev kX8_has : MR := (⟨"HalfIsleModel", "has", "(Ljava/lang/String;)Z"⟩, prog_10_method_21_code, 4, (some .boolean), [])
abbrev kX8_figures : MR := (⟨"HalfIsleModel", "figures", "(II)I"⟩, prog_10_method_24_code, 5, (some .int), [])
abbrev kX8_place : MR := (⟨"HalfIsleModel", "place", "()I"⟩, prog_10_method_23_code, 1, (some .int), [])
abbrev kX8_some : MR := (⟨"HalfIsleModel", "some", "()Z"⟩, prog_10_method_40_code, 3, (some .boolean), [])
abbrev kX8_every : MR := (⟨"HalfIsleModel", "every", "()Z"⟩, prog_10_method_39_code, 3, (some .boolean), [])
abbrev kX8_atom : MR := (⟨"HalfIsleModel", "atom", "()Z"⟩, prog_10_method_38_code, 4, (some .boolean), [])
abbrev kX8_isSign : MR := (⟨"HalfIsleModel", "isSign", "(I)Z"⟩, prog_10_method_20_code, 2, (some .boolean), [])
abbrev kX8_plain : MR := (⟨"HalfIsleModel", "plain", "()Z"⟩, prog_10_method_37_code, 4, (some .boolean), [])
abbrev kX8_sum : MR := (⟨"HalfIsleModel", "sum", "()I"⟩, prog_10_method_36_code, 2, (some .int), [])
abbrev kX8_part : MR := (⟨"HalfIsleModel", "part", "()I"⟩, prog_10_method_35_code, 2, (some .int), [])
abbrev kX8_deedLine : MR := (⟨"HalfIsleModel", "deedLine", "()V"⟩, prog_10_method_29_code, 2, none, [])
abbrev kX8_itemLine : MR := (⟨"HalfIsleModel", "itemLine", "(I)V"⟩, prog_10_method_26_code, 7, none, [])
abbrev kX8_after : MR := (⟨"HalfIsleModel", "after", "(Ljava/lang/String;II)I"⟩, prog_10_method_25_code, 4, (some .int), [])
abbrev kX8_put : MR := (⟨"HalfIsleModel", "put", "(III)V"⟩, prog_10_method_10_code, 4, none, [])
abbrev kX8_tellsAt : MR := (⟨"HalfIsleModel", "tellsAt", "(IIII)V"⟩, prog_10_method_27_code, 7, none, [])
abbrev kX8_tells : MR := (⟨"HalfIsleModel", "tells", "(II)V"⟩, prog_10_method_28_code, 4, none, [])
abbrev kX8_comesBack : MR := (⟨"HalfIsleModel", "comesBack", "()V"⟩, prog_10_method_33_code, 2, none, [])
abbrev kX8_law : MR := (⟨"HalfIsleModel", "law", "()I"⟩, prog_10_method_42_code, 3, (some .int), [])
abbrev kX8_fault : MR := (⟨"HalfIsleModel", "fault", "()I"⟩, prog_10_method_43_code, 1, (some .int), [])
abbrev kX8_item : MR := (⟨"HalfIsleModel", "item", "(II)I"⟩, prog_10_method_59_code, 3, (some .int), [])
abbrev kX8_isItem : MR := (⟨"HalfIsleModel", "isItem", "(I)Z"⟩, prog_10_method_11_code, 2, (some .boolean), [])
abbrev kX8_of : MR := (⟨"HalfIsleModel", "of", "(II)I"⟩, prog_10_method_9_code, 3, (some .int), [])
abbrev kX8_isMissing : MR := (⟨"HalfIsleModel", "isMissing", "(I)Z"⟩, prog_10_method_45_code, 2, (some .boolean), [])
abbrev kX8_worseBy : MR := (⟨"HalfIsleModel", "worseBy", "(I)I"⟩, prog_10_method_46_code, 2, (some .int), [])
abbrev kX8_greater : MR := (⟨"HalfIsleModel", "greater", "(II)I"⟩, prog_10_method_5_code, 2, (some .int), [])
abbrev kX8_workOf : MR := (⟨"HalfIsleModel", "workOf", "(I)I"⟩, prog_10_method_48_code, 2, (some .int), [])
abbrev kX8_stepsOf : MR := (⟨"HalfIsleModel", "stepsOf", "(II)I"⟩, prog_10_method_47_code, 3, (some .int), [])
abbrev kX8_lesser : MR := (⟨"HalfIsleModel", "lesser", "(II)I"⟩, prog_10_method_4_code, 2, (some .int), [])
abbrev kX8_rounded : MR := (⟨"HalfIsleModel", "rounded", "(II)I"⟩, prog_10_method_8_code, 2, (some .int), [])
abbrev kX8_room : MR := (⟨"HalfIsleModel", "room", "(II)I"⟩, prog_10_method_61_code, 3, (some .int), [])
abbrev kX8_isRoom : MR := (⟨"HalfIsleModel", "isRoom", "(I)Z"⟩, prog_10_method_12_code, 1, (some .boolean), [])
abbrev kX8_itemsOf : MR := (⟨"HalfIsleModel", "itemsOf", "(II)I"⟩, prog_10_method_60_code, 5, (some .int), [])
abbrev kX8_side : MR := (⟨"HalfIsleModel", "side", "(II)I"⟩, prog_10_method_64_code, 3, (some .int), [])
abbrev kX8_needs : MR := (⟨"HalfIsleModel", "needs", "(I)I"⟩, prog_10_method_62_code, 3, (some .int), [])
abbrev kX8_workOfAll : MR := (⟨"HalfIsleModel", "workOfAll", "()I"⟩, prog_10_method_49_code, 3, (some .int), [])
abbrev kX8_latest : MR := (⟨"HalfIsleModel", "latest", "(I)I"⟩, prog_10_method_63_code, 4, (some .int), [])
abbrev kX8_does : MR := (⟨"HalfIsleModel", "does", "(II)I"⟩, prog_10_method_65_code, 3, (some .int), [])
abbrev kX8_asks : MR := (⟨"HalfIsleModel", "asks", "(I)V"⟩, prog_10_method_44_code, 4, none, [])
abbrev kX8_there : MR := (⟨"HalfIsleModel", "there", "()I"⟩, prog_10_method_13_code, 1, (some .int), [])
abbrev kX8_steps : MR := (⟨"HalfIsleModel", "steps", "(II)I"⟩, prog_10_method_66_code, 3, (some .int), [])
abbrev kX8_carry : MR := (⟨"HalfIsleModel", "carry", "(II)I"⟩, prog_10_method_68_code, 4, (some .int), [])
abbrev kX8_remembers : MR := (⟨"HalfIsleModel", "remembers", "()V"⟩, prog_10_method_67_code, 2, none, [])
abbrev kX8_mend : MR := (⟨"HalfIsleModel", "mend", "(I)I"⟩, prog_10_method_69_code, 2, (some .int), [])
abbrev kX8_sweep : MR := (⟨"HalfIsleModel", "sweep", "(I)I"⟩, prog_10_method_70_code, 3, (some .int), [])
abbrev kX8_pay : MR := (⟨"HalfIsleModel", "pay", "(II)I"⟩, prog_10_method_71_code, 3, (some .int), [])
abbrev kX8_take : MR := (⟨"HalfIsleModel", "take", "()I"⟩, prog_10_method_72_code, 2, (some .int), [])
abbrev kX8_missingOnes : MR := (⟨"HalfIsleModel", "missingOnes", "()I"⟩, prog_10_method_50_code, 3, (some .int), [])
abbrev kX8_bits : MR := (⟨"HalfIsleModel", "bits", "(I)I"⟩, prog_10_method_7_code, 3, (some .int), [])
abbrev kX8_inventory : MR := (⟨"HalfIsleModel", "inventory", "()V"⟩, prog_10_method_52_code, 2, none, [])
abbrev kX8_soils : MR := (⟨"HalfIsleModel", "soils", "()I"⟩, prog_10_method_14_code, 3, (some .int), [])
abbrev kX8_days : MR := (⟨"HalfIsleModel", "days", "(I)I"⟩, prog_10_method_73_code, 2, (some .int), [])
abbrev kX8_goes : MR := (⟨"HalfIsleModel", "goes", "(IZ)I"⟩, prog_10_method_58_code, 5, (some .int), [])
abbrev kX8_moves : MR := (⟨"HalfIsleModel", "moves", "()V"⟩, prog_10_method_54_code, 3, none, [])
abbrev kX8_storms : MR := (⟨"HalfIsleModel", "storms", "()V"⟩, prog_10_method_55_code, 3, none, [])
abbrev kX8_draw : MR := (⟨"HalfIsleModel", "draw", "(I)I"⟩, prog_10_method_53_code, 2, (some .int), [])
abbrev kX8_leaves : MR := (⟨"HalfIsleModel", "leaves", "()V"⟩, prog_10_method_57_code, 5, none, [])
abbrev kX8_owedNow : MR := (⟨"HalfIsleModel", "owedNow", "()I"⟩, prog_10_method_56_code, 3, (some .int), [])
abbrev kX8_valueOf : MR := (⟨"HalfIsleModel", "valueOf", "(I)I"⟩, prog_10_method_51_code, 4, (some .int), [])
abbrev kX8_isOf : MR := (⟨"HalfIsleModel", "isOf", "(II)Z"⟩, prog_10_method_6_code, 2, (some .boolean), [])
abbrev kX8_ahead : MR := (⟨"HalfIsleModel", "ahead", "(III)I"⟩, prog_10_method_74_code, 6, (some .int), [])
abbrev kX8_missing : MR := (⟨"HalfIsleModel", "missing", "()I"⟩, prog_10_method_75_code, 1, (some .int), [])
abbrev kX8_worse : MR := (⟨"HalfIsleModel", "worse", "()I"⟩, prog_10_method_76_code, 3, (some .int), [])
abbrev kX8_mislaid : MR := (⟨"HalfIsleModel", "mislaid", "()I"⟩, prog_10_method_77_code, 3, (some .int), [])
abbrev kX8_work : MR := (⟨"HalfIsleModel", "work", "()I"⟩, prog_10_method_78_code, 1, (some .int), [])
abbrev kX8_first : MR := (⟨"HalfIsleModel", "first", "(Z)I"⟩, prog_10_method_79_code, 5, (some .int), [])
abbrev kX8_leastOf : MR := (⟨"HalfIsleModel", "leastOf", "(I)I"⟩, prog_10_method_80_code, 2, (some .int), [])
abbrev kX8_round : MR := (⟨"HalfIsleModel", "round", "()I"⟩, prog_10_method_82_code, 4, (some .int), [])
abbrev kX8_areThere : MR := (⟨"HalfIsleModel", "areThere", "()Z"⟩, prog_10_method_81_code, 2, (some .boolean), [])
abbrev kX8_worst : MR := (⟨"HalfIsleModel", "worst", "(I)I"⟩, prog_10_method_83_code, 5, (some .int), [])
abbrev kX8_saves : MR := (⟨"HalfIsleModel", "saves", "(IZ)I"⟩, prog_10_method_84_code, 8, (some .int), [])
abbrev kX8_search : MR := (⟨"HalfIsleModel", "search", "(I)I"⟩, prog_10_method_88_code, 5, (some .int), [])
abbrev kX8_searches : MR := (⟨"HalfIsleModel", "searches", "()V"⟩, prog_10_method_87_code, 3, none, [])
abbrev kX8_by : MR := (⟨"HalfIsleModel", "by", "(II)I"⟩, prog_10_method_86_code, 3, (some .int), [])
abbrev kX8_costsOf : MR := (⟨"HalfIsleModel", "costsOf", "(I)I"⟩, prog_10_method_85_code, 4, (some .int), [])
abbrev kX8_costs : MR := (⟨"HalfIsleModel", "costs", "()I"⟩, prog_10_method_89_code, 1, (some .int), [])
abbrev kX8_calm : MR := (⟨"HalfIsleModel", "calm", "(II)I"⟩, prog_10_method_90_code, 11, (some .int), [])
abbrev kX8_boats : MR := (⟨"HalfIsleModel", "boats", "(III)I"⟩, prog_10_method_91_code, 4, (some .int), [])
abbrev kX8_rests : MR := (⟨"HalfIsleModel", "rests", "()I"⟩, prog_10_method_93_code, 5, (some .int), [])
abbrev kX8_pays : MR := (⟨"HalfIsleModel", "pays", "(II)I"⟩, prog_10_method_92_code, 3, (some .int), [])
abbrev kX8_due : MR := (⟨"HalfIsleModel", "due", "()I"⟩, prog_10_method_94_code, 1, (some .int), [])
abbrev kX8_lighten : MR := (⟨"HalfIsleModel", "lighten", "(I)I"⟩, prog_10_method_95_code, 7, (some .int), [])
abbrev kX8_wearing : MR := (⟨"HalfIsleModel", "wearing", "(I)I"⟩, prog_10_method_96_code, 5, (some .int), [])
abbrev kX8_meets : MR := (⟨"HalfIsleModel", "meets", "(II)I"⟩, prog_10_method_97_code, 6, (some .int), [])
abbrev kX8_visits : MR := (⟨"HalfIsleModel", "visits", "(II)I"⟩, prog_10_method_98_code, 6, (some .int), [])
abbrev kX8_stays : MR := (⟨"HalfIsleModel", "stays", "(I)I"⟩, prog_10_method_99_code, 6, (some .int), [])
abbrev kX8_crowd : MR := (⟨"HalfIsleModel", "crowd", "(I)I"⟩, prog_10_method_100_code, 5, (some .int), [])
abbrev kX8_parted : MR := (⟨"HalfIsleModel", "parted", "(Z)I"⟩, prog_10_method_101_code, 7, (some .int), [])
abbrev kX8_together : MR := (⟨"HalfIsleModel", "together", "(I)I"⟩, prog_10_method_15_code, 4, (some .int), [])
abbrev kX8_clash : MR := (⟨"HalfIsleModel", "clash", "()I"⟩, prog_10_method_102_code, 3, (some .int), [])
abbrev kX8_full : MR := (⟨"HalfIsleModel", "full", "()I"⟩, prog_10_method_103_code, 3, (some .int), [])
abbrev kX8_settles : MR := (⟨"HalfIsleModel", "settles", "()I"⟩, prog_10_method_104_code, 1, (some .int), [])
abbrev kX8_richest : MR := (⟨"HalfIsleModel", "richest", "()I"⟩, prog_10_method_105_code, 3, (some .int), [])
abbrev kX8_traces : MR := (⟨"HalfIsleModel", "traces", "(Z)I"⟩, prog_10_method_109_code, 5, (some .int), [])
abbrev kX8_told : MR := (⟨"HalfIsleModel", "told", "()I"⟩, prog_10_method_107_code, 6, (some .int), [])
abbrev kX8_passes : MR := (⟨"HalfIsleModel", "passes", "(II)Z"⟩, prog_10_method_106_code, 4, (some .boolean), [])
abbrev kX8_passing : MR := (⟨"HalfIsleModel", "passing", "(I)I"⟩, prog_10_method_108_code, 4, (some .int), [])
abbrev kX8_look : MR := (⟨"HalfIsleModel", "look", "()I"⟩, prog_10_method_110_code, 6, (some .int), [])
abbrev kX8_like : MR := (⟨"HalfIsleModel", "like", "()I"⟩, prog_10_method_111_code, 3, (some .int), [])
abbrev kX8_trial : MR := (⟨"HalfIsleModel", "trial", "(IZ)I"⟩, prog_10_method_112_code, 5, (some .int), [])
abbrev kX8_span : MR := (⟨"HalfIsleModel", "span", "(IZ)I"⟩, prog_10_method_113_code, 7, (some .int), [])
abbrev kX8_led : MR := (⟨"HalfIsleModel", "led", "(IZ)I"⟩, prog_10_method_115_code, 5, (some .int), [])
abbrev kX8_logged : MR := (⟨"HalfIsleModel", "logged", "(II)I"⟩, prog_10_method_114_code, 3, (some .int), [])
abbrev kX8_log : MR := (⟨"HalfIsleModel", "log", "(II)I"⟩, prog_10_method_116_code, 3, (some .int), [])
abbrev kX8_seed : MR := (⟨"HalfIsleModel", "seed", "(I)I"⟩, prog_10_method_117_code, 3, (some .int), [])
abbrev kX8_undo : MR := (⟨"HalfIsleModel", "undo", "()Z"⟩, prog_10_method_118_code, 2, (some .boolean), [])
abbrev kX8_image : MR := (⟨"HalfIsleModel", "image", "()V"⟩, prog_10_method_119_code, 2, none, [])
abbrev kX8_back : MR := (⟨"HalfIsleModel", "back", "()Z"⟩, prog_10_method_120_code, 2, (some .boolean), [])
abbrev kX8_count : MR := (⟨"HalfIsleModel", "count", "(I)I"⟩, prog_10_method_121_code, 2, (some .int), [])
/-- the words that every method may use: the good ones of the tables; and the links within a nest -/
def LW : List Cond := lw_tbl.filter goodWord
def nwB : Cond → Bool | .fieldLinkNest .. => true | .methodLinkNest .. => true | .castable .. => true | .declares .. => true | _ => false
def NW : List Cond := tables_1.filter nwB
theorem tb1 (j : Nat) {w : Cond} (h : tables_1_1[j]? = some w) : w ∈ tables_1 := List.mem_append_left _ (List.mem_of_getElem? h)
theorem lw1 (j : Nat) {w : Cond} (h : tables_1_1[j]? = some w) (g : goodWord w = true) : w ∈ LW := List.mem_filter.mpr ⟨List.mem_append_right _ (tb1 j h), g⟩
theorem nw1 (j : Nat) {w : Cond} (h : tables_1_1[j]? = some w) (g : nwB w = true) : w ∈ NW := List.mem_filter.mpr ⟨tb1 j h, g⟩
theorem tb2 (j : Nat) {w : Cond} (h : tables_1_2[j]? = some w) : w ∈ tables_1 := List.mem_append_right _ (List.mem_append_left _ (List.mem_of_getElem? h))
theorem lw2 (j : Nat) {w : Cond} (h : tables_1_2[j]? = some w) (g : goodWord w = true) : w ∈ LW := List.mem_filter.mpr ⟨List.mem_append_right _ (tb2 j h), g⟩
theorem nw2 (j : Nat) {w : Cond} (h : tables_1_2[j]? = some w) (g : nwB w = true) : w ∈ NW := List.mem_filter.mpr ⟨tb2 j h, g⟩
theorem tb3 (j : Nat) {w : Cond} (h : tables_1_3[j]? = some w) : w ∈ tables_1 := List.mem_append_right _ (List.mem_append_right _ (List.mem_append_left _ (List.mem_of_getElem? h)))
theorem lw3 (j : Nat) {w : Cond} (h : tables_1_3[j]? = some w) (g : goodWord w = true) : w ∈ LW := List.mem_filter.mpr ⟨List.mem_append_right _ (tb3 j h), g⟩
theorem nw3 (j : Nat) {w : Cond} (h : tables_1_3[j]? = some w) (g : nwB w = true) : w ∈ NW := List.mem_filter.mpr ⟨tb3 j h, g⟩
theorem tb4 (j : Nat) {w : Cond} (h : tables_1_4[j]? = some w) : w ∈ tables_1 := List.mem_append_right _ (List.mem_append_right _ (List.mem_append_right _ (List.mem_append_left _ (List.mem_of_getElem? h))))
theorem lw4 (j : Nat) {w : Cond} (h : tables_1_4[j]? = some w) (g : goodWord w = true) : w ∈ LW := List.mem_filter.mpr ⟨List.mem_append_right _ (tb4 j h), g⟩
theorem nw4 (j : Nat) {w : Cond} (h : tables_1_4[j]? = some w) (g : nwB w = true) : w ∈ NW := List.mem_filter.mpr ⟨tb4 j h, g⟩
theorem tb5 (j : Nat) {w : Cond} (h : tables_1_5[j]? = some w) : w ∈ tables_1 := List.mem_append_right _ (List.mem_append_right _ (List.mem_append_right _ (List.mem_append_right _ (List.mem_append_left _ (List.mem_of_getElem? h)))))
theorem lw5 (j : Nat) {w : Cond} (h : tables_1_5[j]? = some w) (g : goodWord w = true) : w ∈ LW := List.mem_filter.mpr ⟨List.mem_append_right _ (tb5 j h), g⟩
theorem nw5 (j : Nat) {w : Cond} (h : tables_1_5[j]? = some w) (g : nwB w = true) : w ∈ NW := List.mem_filter.mpr ⟨tb5 j h, g⟩
theorem tb6 (j : Nat) {w : Cond} (h : tables_1_6[j]? = some w) : w ∈ tables_1 := List.mem_append_right _ (List.mem_append_right _ (List.mem_append_right _ (List.mem_append_right _ (List.mem_append_right _ (List.mem_append_left _ (List.mem_of_getElem? h))))))
theorem lw6 (j : Nat) {w : Cond} (h : tables_1_6[j]? = some w) (g : goodWord w = true) : w ∈ LW := List.mem_filter.mpr ⟨List.mem_append_right _ (tb6 j h), g⟩
theorem nw6 (j : Nat) {w : Cond} (h : tables_1_6[j]? = some w) (g : nwB w = true) : w ∈ NW := List.mem_filter.mpr ⟨tb6 j h, g⟩
theorem tb7 (j : Nat) {w : Cond} (h : tables_1_7[j]? = some w) : w ∈ tables_1 := List.mem_append_right _ (List.mem_append_right _ (List.mem_append_right _ (List.mem_append_right _ (List.mem_append_right _ (List.mem_append_right _ (List.mem_append_left _ (List.mem_of_getElem? h)))))))
theorem lw7 (j : Nat) {w : Cond} (h : tables_1_7[j]? = some w) (g : goodWord w = true) : w ∈ LW := List.mem_filter.mpr ⟨List.mem_append_right _ (tb7 j h), g⟩
theorem nw7 (j : Nat) {w : Cond} (h : tables_1_7[j]? = some w) (g : nwB w = true) : w ∈ NW := List.mem_filter.mpr ⟨tb7 j h, g⟩
theorem tb8 (j : Nat) {w : Cond} (h : tables_1_8[j]? = some w) : w ∈ tables_1 := List.mem_append_right _ (List.mem_append_right _ (List.mem_append_right _ (List.mem_append_right _ (List.mem_append_right _ (List.mem_append_right _ (List.mem_append_right _ (List.mem_of_getElem? h)))))))
theorem lw8 (j : Nat) {w : Cond} (h : tables_1_8[j]? = some w) (g : goodWord w = true) : w ∈ LW := List.mem_filter.mpr ⟨List.mem_append_right _ (tb8 j h), g⟩
theorem nw8 (j : Nat) {w : Cond} (h : tables_1_8[j]? = some w) (g : nwB w = true) : w ∈ NW := List.mem_filter.mpr ⟨tb8 j h, g⟩
theorem lwsel (j : Nat) {w : Cond} (h : (k2_sels lw_privs)[j]? = some w) (g : goodWord w = true) : w ∈ LW := List.mem_filter.mpr ⟨List.mem_append_left _ (List.mem_of_getElem? h), g⟩
theorem u_0 : (Cond.initialized "HalfIsleLaw") ∈ LW := lw1 0 rfl rfl
theorem u_1 : (Cond.initialized "HalfIsle") ∈ LW := lw1 1 rfl rfl
theorem u_2 : (Cond.initialized "HalfIsle$DeedReader") ∈ LW := lw1 2 rfl rfl
theorem u_3 : (Cond.initialized "HalfIsle$Reader") ∈ LW := lw1 3 rfl rfl
theorem u_4 : (Cond.initialized "HalfIsle$LawReader") ∈ LW := lw1 4 rfl rfl
theorem u_5 : (Cond.initialized "HalfIsle$Island") ∈ LW := lw1 5 rfl rfl
theorem u_6 : (Cond.initialized "HalfIsle$Leavings") ∈ LW := lw1 6 rfl rfl
theorem u_7 : (Cond.initialized "HalfIsle$Law") ∈ LW := lw1 7 rfl rfl
theorem u_8 : (Cond.initialized "HalfIsle$Sums") ∈ LW := lw1 8 rfl rfl
theorem u_9 : (Cond.initialized "HalfIsleModel") ∈ LW := lw1 9 rfl rfl
theorem u_10 : (Cond.initialized "java/lang/Math") ∈ LW := lw1 10 rfl rfl
theorem u_11 : (Cond.initialized "java/lang/System") ∈ LW := lw1 11 rfl rfl
theorem u_12 : (Cond.initialized "java/lang/String") ∈ LW := lw1 12 rfl rfl
theorem u_13 : (Cond.initialized "java/lang/StringLatin1") ∈ LW := lw1 13 rfl rfl
theorem u_14 : (Cond.initialized "jdk/internal/util/Preconditions") ∈ LW := lw1 14 rfl rfl
theorem u_15 : (Cond.initialized "java/lang/StringUTF16") ∈ LW := lw1 15 rfl rfl
theorem u_16 : (Cond.initialized "java/lang/Throwable") ∈ LW := lw1 16 rfl rfl
theorem u_17 : (Cond.initialized "java/lang/Exception") ∈ LW := lw1 17 rfl rfl
theorem u_18 : (Cond.initialized "java/lang/RuntimeException") ∈ LW := lw1 18 rfl rfl
theorem u_19 : (Cond.initialized "java/lang/IllegalArgumentException") ∈ LW := lw1 19 rfl rfl
theorem u_20 : (Cond.initialized "java/lang/UnsupportedOperationException") ∈ LW := lw1 20 rfl rfl
theorem u_21 : (Cond.initialized "java/lang/IndexOutOfBoundsException") ∈ LW := lw1 21 rfl rfl
theorem u_22 : (Cond.initialized "java/util/NoSuchElementException") ∈ LW := lw1 22 rfl rfl
theorem u_23 : (Cond.initialized "java/lang/Integer") ∈ LW := lw1 23 rfl rfl
theorem u_24 : (Cond.classLink "HalfIsleLaw" (8 : Nat) "HalfIsle") ∈ LW := lw1 24 rfl rfl
theorem u_25 : (Cond.instantiable "HalfIsle" (19 : Nat)) ∈ LW := lw1 25 rfl rfl
theorem u_26 : (Cond.methodLink "HalfIsleLaw" (110 : Nat) ({ cls := "HalfIsle", name := "<init>", desc := "()V" } : MethodName)) ∈ LW := lw1 26 rfl rfl
theorem u_27 : (Cond.instanceMethod ({ cls := "HalfIsle", name := "<init>", desc := "()V" } : MethodName)) ∈ LW := lw1 27 rfl rfl
theorem u_28 : (Cond.code ({ cls := "HalfIsle", name := "<init>", desc := "()V" } : MethodName) prog_1_method_1_code (2 : Nat) (Option.none : Option FieldType)) ∈ LW := lw1 28 rfl rfl
theorem u_29 : (Cond.methodLink "HalfIsle" (1 : Nat) ({ cls := "java/lang/Object", name := "<init>", desc := "()V" } : MethodName)) ∈ LW := lw1 29 rfl rfl
theorem u_30 : (Cond.instanceMethod ({ cls := "java/lang/Object", name := "<init>", desc := "()V" } : MethodName)) ∈ LW := lw1 30 rfl rfl
theorem u_31 : (Cond.code ({ cls := "java/lang/Object", name := "<init>", desc := "()V" } : MethodName) object_method_1_code (1 : Nat) (Option.none : Option FieldType)) ∈ LW := lw1 31 rfl rfl
theorem u_32 : (Cond.classLink "HalfIsle" (17 : Nat) "HalfIsle$DeedReader") ∈ LW := lw1 32 rfl rfl
theorem u_33 : (Cond.instantiable "HalfIsle$DeedReader" (1 : Nat)) ∈ LW := lw1 33 rfl rfl
theorem un_34 : (Cond.methodLinkNest "HalfIsle" (19 : Nat) ({ cls := "HalfIsle$DeedReader", name := "<init>", desc := "()V" } : MethodName) "HalfIsle") ∈ NW := nw1 34 rfl rfl
theorem u_35 : (Cond.instanceMethod ({ cls := "HalfIsle$DeedReader", name := "<init>", desc := "()V" } : MethodName)) ∈ LW := lw1 35 rfl rfl
theorem u_36 : (Cond.code ({ cls := "HalfIsle$DeedReader", name := "<init>", desc := "()V" } : MethodName) prog_2_method_1_code (1 : Nat) (Option.none : Option FieldType)) ∈ LW := lw1 36 rfl rfl
theorem u_37 : (Cond.methodLink "HalfIsle$DeedReader" (3 : Nat) ({ cls := "java/lang/Object", name := "<init>", desc := "()V" } : MethodName)) ∈ LW := lw1 37 rfl rfl
theorem u_38 : (Cond.classLink "HalfIsle$DeedReader" (9 : Nat) "HalfIsle$Reader") ∈ LW := lw1 38 rfl rfl
theorem u_39 : (Cond.instantiable "HalfIsle$Reader" (5 : Nat)) ∈ LW := lw1 39 rfl rfl
theorem un_40 : (Cond.methodLinkNest "HalfIsle$DeedReader" (11 : Nat) ({ cls := "HalfIsle$Reader", name := "<init>", desc := "()V" } : MethodName) "HalfIsle") ∈ NW := nw1 40 rfl rfl
theorem u_41 : (Cond.instanceMethod ({ cls := "HalfIsle$Reader", name := "<init>", desc := "()V" } : MethodName)) ∈ LW := lw1 41 rfl rfl
theorem u_42 : (Cond.code ({ cls := "HalfIsle$Reader", name := "<init>", desc := "()V" } : MethodName) prog_7_method_1_code (1 : Nat) (Option.none : Option FieldType)) ∈ LW := lw1 42 rfl rfl
theorem u_43 : (Cond.methodLink "HalfIsle$Reader" (3 : Nat) ({ cls := "java/lang/Object", name := "<init>", desc := "()V" } : MethodName)) ∈ LW := lw1 43 rfl rfl
theorem u_44 : (Cond.fieldLink "HalfIsle$Reader" (9 : Nat) "HalfIsle$Reader" "bytes" "[I") ∈ LW := lw1 44 rfl rfl
theorem u_45 : (Cond.fieldLink "HalfIsle$Reader" (15 : Nat) "HalfIsle$Reader" "length" "I") ∈ LW := lw1 45 rfl rfl
theorem u_46 : (Cond.fieldLink "HalfIsle$Reader" (19 : Nat) "HalfIsle$Reader" "begin" "I") ∈ LW := lw1 46 rfl rfl
theorem u_47 : (Cond.fieldLink "HalfIsle$Reader" (22 : Nat) "HalfIsle$Reader" "end" "I") ∈ LW := lw1 47 rfl rfl
theorem u_48 : (Cond.fieldLink "HalfIsle$Reader" (25 : Nat) "HalfIsle$Reader" "wrong" "I") ∈ LW := lw1 48 rfl rfl
theorem un_49 : (Cond.fieldLinkNest "HalfIsle$DeedReader" (42 : Nat) "HalfIsle$Reader" "wrong" "I" "HalfIsle") ∈ NW := nw1 49 rfl rfl
theorem un_50 : (Cond.fieldLinkNest "HalfIsle$LawReader" (58 : Nat) "HalfIsle$Reader" "wrong" "I" "HalfIsle") ∈ NW := nw1 50 rfl rfl
theorem u_51 : (Cond.laysFinal "HalfIsle$Reader" "HalfIsle$Reader" "bytes" "[I") ∈ LW := lw1 51 rfl rfl
theorem u_53 : (Cond.lays "HalfIsle$Reader" "HalfIsle$Reader" "length" "I") ∈ LW := lw1 53 rfl rfl
theorem u_55 : (Cond.lays "HalfIsle$Reader" "HalfIsle$Reader" "begin" "I") ∈ LW := lw1 55 rfl rfl
theorem u_57 : (Cond.lays "HalfIsle$Reader" "HalfIsle$Reader" "end" "I") ∈ LW := lw1 57 rfl rfl
theorem u_59 : (Cond.lays "HalfIsle$Reader" "HalfIsle$Reader" "wrong" "I") ∈ LW := lw1 59 rfl rfl
theorem u_62 : (Cond.arrayClass FieldType.int) ∈ LW := lw1 62 rfl rfl
theorem u_63 : (Cond.fieldLink "HalfIsle$DeedReader" (12 : Nat) "HalfIsle$DeedReader" "text" "LHalfIsle$Reader;") ∈ LW := lw1 63 rfl rfl
theorem u_64 : (Cond.laysFinal "HalfIsle$DeedReader" "HalfIsle$DeedReader" "text" "LHalfIsle$Reader;") ∈ LW := lw1 64 rfl rfl
theorem u_67 : (Cond.classLink "HalfIsle" (24 : Nat) "HalfIsle$LawReader") ∈ LW := lw1 67 rfl rfl
theorem u_68 : (Cond.instantiable "HalfIsle$LawReader" (4 : Nat)) ∈ LW := lw1 68 rfl rfl
theorem un_69 : (Cond.methodLinkNest "HalfIsle" (26 : Nat) ({ cls := "HalfIsle$LawReader", name := "<init>", desc := "()V" } : MethodName) "HalfIsle") ∈ NW := nw1 69 rfl rfl
theorem u_70 : (Cond.instanceMethod ({ cls := "HalfIsle$LawReader", name := "<init>", desc := "()V" } : MethodName)) ∈ LW := lw1 70 rfl rfl
theorem u_71 : (Cond.code ({ cls := "HalfIsle$LawReader", name := "<init>", desc := "()V" } : MethodName) prog_5_method_1_code (1 : Nat) (Option.none : Option FieldType)) ∈ LW := lw1 71 rfl rfl
theorem u_72 : (Cond.methodLink "HalfIsle$LawReader" (3 : Nat) ({ cls := "java/lang/Object", name := "<init>", desc := "()V" } : MethodName)) ∈ LW := lw1 72 rfl rfl
theorem u_73 : (Cond.classLink "HalfIsle$LawReader" (9 : Nat) "HalfIsle$Reader") ∈ LW := lw1 73 rfl rfl
theorem un_74 : (Cond.methodLinkNest "HalfIsle$LawReader" (11 : Nat) ({ cls := "HalfIsle$Reader", name := "<init>", desc := "()V" } : MethodName) "HalfIsle") ∈ NW := nw1 74 rfl rfl
theorem u_75 : (Cond.fieldLink "HalfIsle$LawReader" (12 : Nat) "HalfIsle$LawReader" "text" "LHalfIsle$Reader;") ∈ LW := lw1 75 rfl rfl
theorem u_76 : (Cond.fieldLink "HalfIsle$LawReader" (18 : Nat) "HalfIsle$LawReader" "waits" "[I") ∈ LW := lw1 76 rfl rfl
theorem u_77 : (Cond.fieldLink "HalfIsle$LawReader" (22 : Nat) "HalfIsle$LawReader" "waiting" "I") ∈ LW := lw1 77 rfl rfl
theorem u_78 : (Cond.fieldLink "HalfIsle$LawReader" (26 : Nat) "HalfIsle$LawReader" "deep" "I") ∈ LW := lw1 78 rfl rfl
theorem u_79 : (Cond.laysFinal "HalfIsle$LawReader" "HalfIsle$LawReader" "text" "LHalfIsle$Reader;") ∈ LW := lw1 79 rfl rfl
theorem u_81 : (Cond.laysFinal "HalfIsle$LawReader" "HalfIsle$LawReader" "waits" "[I") ∈ LW := lw1 81 rfl rfl
theorem u_83 : (Cond.lays "HalfIsle$LawReader" "HalfIsle$LawReader" "waiting" "I") ∈ LW := lw1 83 rfl rfl
theorem u_85 : (Cond.lays "HalfIsle$LawReader" "HalfIsle$LawReader" "deep" "I") ∈ LW := lw1 85 rfl rfl
theorem u_88 : (Cond.classLink "HalfIsle" (34 : Nat) "HalfIsle$Island") ∈ LW := lw1 88 rfl rfl
theorem u_89 : (Cond.instantiable "HalfIsle$Island" (18 : Nat)) ∈ LW := lw1 89 rfl rfl
theorem un_90 : (Cond.methodLinkNest "HalfIsle" (36 : Nat) ({ cls := "HalfIsle$Island", name := "<init>", desc := "()V" } : MethodName) "HalfIsle") ∈ NW := nw1 90 rfl rfl
theorem u_91 : (Cond.instanceMethod ({ cls := "HalfIsle$Island", name := "<init>", desc := "()V" } : MethodName)) ∈ LW := lw1 91 rfl rfl
theorem u_92 : (Cond.code ({ cls := "HalfIsle$Island", name := "<init>", desc := "()V" } : MethodName) prog_3_method_1_code (1 : Nat) (Option.none : Option FieldType)) ∈ LW := lw1 92 rfl rfl
theorem u_93 : (Cond.methodLink "HalfIsle$Island" (3 : Nat) ({ cls := "java/lang/Object", name := "<init>", desc := "()V" } : MethodName)) ∈ LW := lw1 93 rfl rfl
theorem u_94 : (Cond.classLink "HalfIsle$Island" (45 : Nat) "HalfIsle$Leavings") ∈ LW := lw1 94 rfl rfl
theorem u_95 : (Cond.instantiable "HalfIsle$Leavings" (3 : Nat)) ∈ LW := lw1 95 rfl rfl
theorem un_96 : (Cond.methodLinkNest "HalfIsle$Island" (47 : Nat) ({ cls := "HalfIsle$Leavings", name := "<init>", desc := "()V" } : MethodName) "HalfIsle") ∈ NW := nw1 96 rfl rfl
theorem u_97 : (Cond.instanceMethod ({ cls := "HalfIsle$Leavings", name := "<init>", desc := "()V" } : MethodName)) ∈ LW := lw1 97 rfl rfl
theorem u_98 : (Cond.code ({ cls := "HalfIsle$Leavings", name := "<init>", desc := "()V" } : MethodName) prog_6_method_1_code (1 : Nat) (Option.none : Option FieldType)) ∈ LW := lw1 98 rfl rfl
theorem u_99 : (Cond.methodLink "HalfIsle$Leavings" (3 : Nat) ({ cls := "java/lang/Object", name := "<init>", desc := "()V" } : MethodName)) ∈ LW := lw1 99 rfl rfl
theorem u_100 : (Cond.fieldLink "HalfIsle$Leavings" (9 : Nat) "HalfIsle$Leavings" "cells" "[I") ∈ LW := lw1 100 rfl rfl
theorem u_101 : (Cond.fieldLink "HalfIsle$Leavings" (15 : Nat) "HalfIsle$Leavings" "latest" "I") ∈ LW := lw1 101 rfl rfl
theorem u_102 : (Cond.fieldLink "HalfIsle$Leavings" (19 : Nat) "HalfIsle$Leavings" "count" "I") ∈ LW := lw1 102 rfl rfl
theorem un_103 : (Cond.fieldLinkNest "HalfIsle" (339 : Nat) "HalfIsle$Leavings" "count" "I" "HalfIsle") ∈ NW := nw1 103 rfl rfl
theorem u_104 : (Cond.laysFinal "HalfIsle$Leavings" "HalfIsle$Leavings" "cells" "[I") ∈ LW := lw1 104 rfl rfl
theorem u_106 : (Cond.lays "HalfIsle$Leavings" "HalfIsle$Leavings" "latest" "I") ∈ LW := lw1 106 rfl rfl
theorem u_108 : (Cond.lays "HalfIsle$Leavings" "HalfIsle$Leavings" "count" "I") ∈ LW := lw1 108 rfl rfl
theorem u_111 : (Cond.fieldLink "HalfIsle$Island" (9 : Nat) "HalfIsle$Island" "home" "[I") ∈ LW := lw1 111 rfl rfl
theorem un_112 : (Cond.fieldLinkNest "HalfIsle" (141 : Nat) "HalfIsle$Island" "home" "[I" "HalfIsle") ∈ NW := nw1 112 rfl rfl
theorem un_113 : (Cond.fieldLinkNest "HalfIsle$Law" (83 : Nat) "HalfIsle$Island" "home" "[I" "HalfIsle") ∈ NW := nw1 113 rfl rfl
theorem u_114 : (Cond.fieldLink "HalfIsle$Island" (15 : Nat) "HalfIsle$Island" "room" "[I") ∈ LW := lw1 114 rfl rfl
theorem un_115 : (Cond.fieldLinkNest "HalfIsle" (134 : Nat) "HalfIsle$Island" "room" "[I" "HalfIsle") ∈ NW := nw1 115 rfl rfl
theorem un_116 : (Cond.fieldLinkNest "HalfIsle$Law" (59 : Nat) "HalfIsle$Island" "room" "[I" "HalfIsle") ∈ NW := nw1 116 rfl rfl
theorem u_117 : (Cond.fieldLink "HalfIsle$Island" (18 : Nat) "HalfIsle$Island" "worn" "[I") ∈ LW := lw1 117 rfl rfl
theorem un_118 : (Cond.fieldLinkNest "HalfIsle$DeedReader" (75 : Nat) "HalfIsle$Island" "worn" "[I" "HalfIsle") ∈ NW := nw1 118 rfl rfl
theorem un_119 : (Cond.fieldLinkNest "HalfIsle" (144 : Nat) "HalfIsle$Island" "worn" "[I" "HalfIsle") ∈ NW := nw1 119 rfl rfl
theorem un_120 : (Cond.fieldLinkNest "HalfIsle$Law" (64 : Nat) "HalfIsle$Island" "worn" "[I" "HalfIsle") ∈ NW := nw1 120 rfl rfl
theorem u_121 : (Cond.fieldLink "HalfIsle$Island" (21 : Nat) "HalfIsle$Island" "value" "[I") ∈ LW := lw1 121 rfl rfl
theorem un_122 : (Cond.fieldLinkNest "HalfIsle" (147 : Nat) "HalfIsle$Island" "value" "[I" "HalfIsle") ∈ NW := nw1 122 rfl rfl
theorem un_123 : (Cond.fieldLinkNest "HalfIsle$Law" (67 : Nat) "HalfIsle$Island" "value" "[I" "HalfIsle") ∈ NW := nw1 123 rfl rfl
theorem u_124 : (Cond.fieldLink "HalfIsle$Island" (24 : Nat) "HalfIsle$Island" "owner" "[I") ∈ LW := lw1 124 rfl rfl
theorem un_125 : (Cond.fieldLinkNest "HalfIsle" (150 : Nat) "HalfIsle$Island" "owner" "[I" "HalfIsle") ∈ NW := nw1 125 rfl rfl
theorem un_126 : (Cond.fieldLinkNest "HalfIsle$Law" (80 : Nat) "HalfIsle$Island" "owner" "[I" "HalfIsle") ∈ NW := nw1 126 rfl rfl
theorem u_127 : (Cond.fieldLink "HalfIsle$Island" (27 : Nat) "HalfIsle$Island" "foundRoom" "[I") ∈ LW := lw1 127 rfl rfl
theorem un_128 : (Cond.fieldLinkNest "HalfIsle" (153 : Nat) "HalfIsle$Island" "foundRoom" "[I" "HalfIsle") ∈ NW := nw1 128 rfl rfl
theorem u_129 : (Cond.fieldLink "HalfIsle$Island" (30 : Nat) "HalfIsle$Island" "foundWorn" "[I") ∈ LW := lw1 129 rfl rfl
theorem un_130 : (Cond.fieldLinkNest "HalfIsle" (156 : Nat) "HalfIsle$Island" "foundWorn" "[I" "HalfIsle") ∈ NW := nw1 130 rfl rfl
theorem u_131 : (Cond.fieldLink "HalfIsle$Island" (33 : Nat) "HalfIsle$Island" "soil" "[I") ∈ LW := lw1 131 rfl rfl
theorem un_132 : (Cond.fieldLinkNest "HalfIsle$DeedReader" (67 : Nat) "HalfIsle$Island" "soil" "[I" "HalfIsle") ∈ NW := nw1 132 rfl rfl
theorem un_133 : (Cond.fieldLinkNest "HalfIsle" (173 : Nat) "HalfIsle$Island" "soil" "[I" "HalfIsle") ∈ NW := nw1 133 rfl rfl
theorem un_134 : (Cond.fieldLinkNest "HalfIsle$Law" (77 : Nat) "HalfIsle$Island" "soil" "[I" "HalfIsle") ∈ NW := nw1 134 rfl rfl
theorem u_135 : (Cond.fieldLink "HalfIsle$Island" (36 : Nat) "HalfIsle$Island" "places" "[I") ∈ LW := lw1 135 rfl rfl
theorem un_136 : (Cond.fieldLinkNest "HalfIsle$DeedReader" (71 : Nat) "HalfIsle$Island" "places" "[I" "HalfIsle") ∈ NW := nw1 136 rfl rfl
theorem un_137 : (Cond.fieldLinkNest "HalfIsle" (176 : Nat) "HalfIsle$Island" "places" "[I" "HalfIsle") ∈ NW := nw1 137 rfl rfl
theorem u_138 : (Cond.fieldLink "HalfIsle$Island" (39 : Nat) "HalfIsle$Island" "hands" "[I") ∈ LW := lw1 138 rfl rfl
theorem un_139 : (Cond.fieldLinkNest "HalfIsle$DeedReader" (56 : Nat) "HalfIsle$Island" "hands" "[I" "HalfIsle") ∈ NW := nw1 139 rfl rfl
theorem un_140 : (Cond.fieldLinkNest "HalfIsle" (185 : Nat) "HalfIsle$Island" "hands" "[I" "HalfIsle") ∈ NW := nw1 140 rfl rfl
theorem u_141 : (Cond.fieldLink "HalfIsle$Island" (42 : Nat) "HalfIsle$Island" "owes" "[I") ∈ LW := lw1 141 rfl rfl
theorem un_142 : (Cond.fieldLinkNest "HalfIsle" (188 : Nat) "HalfIsle$Island" "owes" "[I" "HalfIsle") ∈ NW := nw1 142 rfl rfl
theorem u_143 : (Cond.fieldLink "HalfIsle$Island" (48 : Nat) "HalfIsle$Island" "leavings" "LHalfIsle$Leavings;") ∈ LW := lw1 143 rfl rfl
theorem un_144 : (Cond.fieldLinkNest "HalfIsle" (335 : Nat) "HalfIsle$Island" "leavings" "LHalfIsle$Leavings;" "HalfIsle") ∈ NW := nw1 144 rfl rfl
theorem u_145 : (Cond.fieldLink "HalfIsle$Island" (52 : Nat) "HalfIsle$Island" "items" "I") ∈ LW := lw1 145 rfl rfl
theorem un_146 : (Cond.fieldLinkNest "HalfIsle$DeedReader" (77 : Nat) "HalfIsle$Island" "items" "I" "HalfIsle") ∈ NW := nw1 146 rfl rfl
theorem un_147 : (Cond.fieldLinkNest "HalfIsle" (242 : Nat) "HalfIsle$Island" "items" "I" "HalfIsle") ∈ NW := nw1 147 rfl rfl
theorem u_148 : (Cond.fieldLink "HalfIsle$Island" (56 : Nat) "HalfIsle$Island" "texts" "I") ∈ LW := lw1 148 rfl rfl
theorem un_149 : (Cond.fieldLinkNest "HalfIsle" (113 : Nat) "HalfIsle$Island" "texts" "I" "HalfIsle") ∈ NW := nw1 149 rfl rfl
theorem u_150 : (Cond.fieldLink "HalfIsle$Island" (59 : Nat) "HalfIsle$Island" "storm" "I") ∈ LW := lw1 150 rfl rfl
theorem un_151 : (Cond.fieldLinkNest "HalfIsle$DeedReader" (86 : Nat) "HalfIsle$Island" "storm" "I" "HalfIsle") ∈ NW := nw1 151 rfl rfl
theorem un_152 : (Cond.fieldLinkNest "HalfIsle" (271 : Nat) "HalfIsle$Island" "storm" "I" "HalfIsle") ∈ NW := nw1 152 rfl rfl
theorem u_153 : (Cond.fieldLink "HalfIsle$Island" (62 : Nat) "HalfIsle$Island" "day" "I") ∈ LW := lw1 153 rfl rfl
theorem un_154 : (Cond.fieldLinkNest "HalfIsle$DeedReader" (90 : Nat) "HalfIsle$Island" "day" "I" "HalfIsle") ∈ NW := nw1 154 rfl rfl
theorem un_155 : (Cond.fieldLinkNest "HalfIsle$Law" (74 : Nat) "HalfIsle$Island" "day" "I" "HalfIsle") ∈ NW := nw1 155 rfl rfl
theorem un_156 : (Cond.fieldLinkNest "HalfIsle" (350 : Nat) "HalfIsle$Island" "day" "I" "HalfIsle") ∈ NW := nw1 156 rfl rfl
theorem u_157 : (Cond.fieldLink "HalfIsle$Island" (65 : Nat) "HalfIsle$Island" "soiled" "I") ∈ LW := lw1 157 rfl rfl
theorem un_158 : (Cond.fieldLinkNest "HalfIsle" (356 : Nat) "HalfIsle$Island" "soiled" "I" "HalfIsle") ∈ NW := nw1 158 rfl rfl
theorem u_159 : (Cond.fieldLink "HalfIsle$Island" (68 : Nat) "HalfIsle$Island" "seed" "I") ∈ LW := lw1 159 rfl rfl
theorem un_160 : (Cond.fieldLinkNest "HalfIsle" (326 : Nat) "HalfIsle$Island" "seed" "I" "HalfIsle") ∈ NW := nw1 160 rfl rfl
theorem u_161 : (Cond.laysFinal "HalfIsle$Island" "HalfIsle$Island" "home" "[I") ∈ LW := lw1 161 rfl rfl
theorem u_163 : (Cond.laysFinal "HalfIsle$Island" "HalfIsle$Island" "room" "[I") ∈ LW := lw1 163 rfl rfl
theorem u_165 : (Cond.laysFinal "HalfIsle$Island" "HalfIsle$Island" "worn" "[I") ∈ LW := lw1 165 rfl rfl
theorem u_167 : (Cond.laysFinal "HalfIsle$Island" "HalfIsle$Island" "value" "[I") ∈ LW := lw1 167 rfl rfl
theorem u_169 : (Cond.laysFinal "HalfIsle$Island" "HalfIsle$Island" "owner" "[I") ∈ LW := lw1 169 rfl rfl
theorem u_171 : (Cond.laysFinal "HalfIsle$Island" "HalfIsle$Island" "foundRoom" "[I") ∈ LW := lw1 171 rfl rfl
theorem u_173 : (Cond.laysFinal "HalfIsle$Island" "HalfIsle$Island" "foundWorn" "[I") ∈ LW := lw1 173 rfl rfl
theorem u_175 : (Cond.laysFinal "HalfIsle$Island" "HalfIsle$Island" "soil" "[I") ∈ LW := lw1 175 rfl rfl
theorem u_177 : (Cond.laysFinal "HalfIsle$Island" "HalfIsle$Island" "places" "[I") ∈ LW := lw1 177 rfl rfl
theorem u_179 : (Cond.laysFinal "HalfIsle$Island" "HalfIsle$Island" "hands" "[I") ∈ LW := lw1 179 rfl rfl
theorem u_181 : (Cond.laysFinal "HalfIsle$Island" "HalfIsle$Island" "owes" "[I") ∈ LW := lw1 181 rfl rfl
theorem u_183 : (Cond.laysFinal "HalfIsle$Island" "HalfIsle$Island" "leavings" "LHalfIsle$Leavings;") ∈ LW := lw1 183 rfl rfl
theorem u_185 : (Cond.lays "HalfIsle$Island" "HalfIsle$Island" "items" "I") ∈ LW := lw1 185 rfl rfl
theorem u_187 : (Cond.lays "HalfIsle$Island" "HalfIsle$Island" "texts" "I") ∈ LW := lw1 187 rfl rfl
theorem u_189 : (Cond.lays "HalfIsle$Island" "HalfIsle$Island" "storm" "I") ∈ LW := lw1 189 rfl rfl
theorem u_191 : (Cond.lays "HalfIsle$Island" "HalfIsle$Island" "day" "I") ∈ LW := lw1 191 rfl rfl
theorem u_193 : (Cond.lays "HalfIsle$Island" "HalfIsle$Island" "soiled" "I") ∈ LW := lw1 193 rfl rfl
theorem u_195 : (Cond.lays "HalfIsle$Island" "HalfIsle$Island" "seed" "I") ∈ LW := lw1 195 rfl rfl
theorem u_198 : (Cond.classLink "HalfIsle" (44 : Nat) "HalfIsle$Law") ∈ LW := lw1 198 rfl rfl
theorem u_199 : (Cond.instantiable "HalfIsle$Law" (7 : Nat)) ∈ LW := lw1 199 rfl rfl
theorem un_200 : (Cond.methodLinkNest "HalfIsle" (46 : Nat) ({ cls := "HalfIsle$Law", name := "<init>", desc := "()V" } : MethodName) "HalfIsle") ∈ NW := nw1 200 rfl rfl
theorem u_201 : (Cond.instanceMethod ({ cls := "HalfIsle$Law", name := "<init>", desc := "()V" } : MethodName)) ∈ LW := lw1 201 rfl rfl
theorem u_202 : (Cond.code ({ cls := "HalfIsle$Law", name := "<init>", desc := "()V" } : MethodName) prog_4_method_1_code (1 : Nat) (Option.none : Option FieldType)) ∈ LW := lw1 202 rfl rfl
theorem u_203 : (Cond.methodLink "HalfIsle$Law" (3 : Nat) ({ cls := "java/lang/Object", name := "<init>", desc := "()V" } : MethodName)) ∈ LW := lw1 203 rfl rfl
theorem u_204 : (Cond.fieldLink "HalfIsle$Law" (9 : Nat) "HalfIsle$Law" "about" "[I") ∈ LW := lw1 204 rfl rfl
theorem u_205 : (Cond.fieldLink "HalfIsle$Law" (15 : Nat) "HalfIsle$Law" "amount" "[I") ∈ LW := lw1 205 rfl rfl
theorem u_206 : (Cond.fieldLink "HalfIsle$Law" (18 : Nat) "HalfIsle$Law" "begins" "[I") ∈ LW := lw1 206 rfl rfl
theorem u_207 : (Cond.fieldLink "HalfIsle$Law" (21 : Nat) "HalfIsle$Law" "codes" "[I") ∈ LW := lw1 207 rfl rfl
theorem u_208 : (Cond.fieldLink "HalfIsle$Law" (24 : Nat) "HalfIsle$Law" "used" "I") ∈ LW := lw1 208 rfl rfl
theorem u_209 : (Cond.fieldLink "HalfIsle$Law" (28 : Nat) "HalfIsle$Law" "lines" "I") ∈ LW := lw1 209 rfl rfl
theorem un_210 : (Cond.fieldLinkNest "HalfIsle" (124 : Nat) "HalfIsle$Law" "lines" "I" "HalfIsle") ∈ NW := nw1 210 rfl rfl
theorem u_211 : (Cond.fieldLink "HalfIsle$Law" (31 : Nat) "HalfIsle$Law" "told" "[I") ∈ LW := lw1 211 rfl rfl
theorem un_212 : (Cond.fieldLinkNest "HalfIsle" (201 : Nat) "HalfIsle$Law" "told" "[I" "HalfIsle") ∈ NW := nw1 212 rfl rfl
theorem un_213 : (Cond.fieldLinkNest "HalfIsle$Island" (145 : Nat) "HalfIsle$Law" "told" "[I" "HalfIsle") ∈ NW := nw1 213 rfl rfl
theorem u_214 : (Cond.laysFinal "HalfIsle$Law" "HalfIsle$Law" "about" "[I") ∈ LW := lw1 214 rfl rfl
theorem u_216 : (Cond.laysFinal "HalfIsle$Law" "HalfIsle$Law" "amount" "[I") ∈ LW := lw1 216 rfl rfl
theorem u_218 : (Cond.laysFinal "HalfIsle$Law" "HalfIsle$Law" "begins" "[I") ∈ LW := lw1 218 rfl rfl
theorem u_220 : (Cond.laysFinal "HalfIsle$Law" "HalfIsle$Law" "codes" "[I") ∈ LW := lw1 220 rfl rfl
theorem u_222 : (Cond.lays "HalfIsle$Law" "HalfIsle$Law" "used" "I") ∈ LW := lw1 222 rfl rfl
theorem u_224 : (Cond.lays "HalfIsle$Law" "HalfIsle$Law" "lines" "I") ∈ LW := lw1 224 rfl rfl
theorem u_226 : (Cond.laysFinal "HalfIsle$Law" "HalfIsle$Law" "told" "[I") ∈ LW := lw1 226 rfl rfl
theorem u_230 : (Cond.classLink "HalfIsle" (77 : Nat) "HalfIsle$Sums") ∈ LW := lw1 230 rfl rfl
theorem u_231 : (Cond.instantiable "HalfIsle$Sums" (2 : Nat)) ∈ LW := lw1 231 rfl rfl
theorem un_232 : (Cond.methodLinkNest "HalfIsle" (79 : Nat) ({ cls := "HalfIsle$Sums", name := "<init>", desc := "()V" } : MethodName) "HalfIsle") ∈ NW := nw1 232 rfl rfl
theorem u_233 : (Cond.instanceMethod ({ cls := "HalfIsle$Sums", name := "<init>", desc := "()V" } : MethodName)) ∈ LW := lw1 233 rfl rfl
theorem u_234 : (Cond.code ({ cls := "HalfIsle$Sums", name := "<init>", desc := "()V" } : MethodName) prog_8_method_1_code (1 : Nat) (Option.none : Option FieldType)) ∈ LW := lw1 234 rfl rfl
theorem u_235 : (Cond.methodLink "HalfIsle$Sums" (1 : Nat) ({ cls := "java/lang/Object", name := "<init>", desc := "()V" } : MethodName)) ∈ LW := lw1 235 rfl rfl
theorem u_236 : (Cond.fieldLink "HalfIsle$Sums" (9 : Nat) "HalfIsle$Sums" "low" "[I") ∈ LW := lw1 236 rfl rfl
theorem u_237 : (Cond.fieldLink "HalfIsle$Sums" (13 : Nat) "HalfIsle$Sums" "high" "[I") ∈ LW := lw1 237 rfl rfl
theorem u_238 : (Cond.laysFinal "HalfIsle$Sums" "HalfIsle$Sums" "low" "[I") ∈ LW := lw1 238 rfl rfl
theorem u_240 : (Cond.laysFinal "HalfIsle$Sums" "HalfIsle$Sums" "high" "[I") ∈ LW := lw2 0 rfl rfl
theorem u_243 : (Cond.fieldLink "HalfIsle" (9 : Nat) "HalfIsle" "tape" "[I") ∈ LW := lw2 3 rfl rfl
theorem u_244 : (Cond.fieldLink "HalfIsle" (13 : Nat) "HalfIsle" "taped" "I") ∈ LW := lw2 4 rfl rfl
theorem u_245 : (Cond.fieldLink "HalfIsle" (20 : Nat) "HalfIsle" "deedReader" "LHalfIsle$DeedReader;") ∈ LW := lw2 5 rfl rfl
theorem u_246 : (Cond.fieldLink "HalfIsle" (27 : Nat) "HalfIsle" "lawReader" "LHalfIsle$LawReader;") ∈ LW := lw2 6 rfl rfl
theorem u_247 : (Cond.fieldLink "HalfIsle" (31 : Nat) "HalfIsle" "wrongByte" "I") ∈ LW := lw2 7 rfl rfl
theorem u_248 : (Cond.fieldLink "HalfIsle" (37 : Nat) "HalfIsle" "now" "LHalfIsle$Island;") ∈ LW := lw2 8 rfl rfl
theorem u_249 : (Cond.fieldLink "HalfIsle" (41 : Nat) "HalfIsle" "scratch" "LHalfIsle$Island;") ∈ LW := lw2 9 rfl rfl
theorem u_250 : (Cond.fieldLink "HalfIsle" (47 : Nat) "HalfIsle" "rule" "LHalfIsle$Law;") ∈ LW := lw2 10 rfl rfl
theorem u_251 : (Cond.fieldLink "HalfIsle" (51 : Nat) "HalfIsle" "spareRule" "LHalfIsle$Law;") ∈ LW := lw2 11 rfl rfl
theorem u_252 : (Cond.fieldLink "HalfIsle" (54 : Nat) "HalfIsle" "imaged" "Z") ∈ LW := lw2 12 rfl rfl
theorem u_253 : (Cond.fieldLink "HalfIsle" (58 : Nat) "HalfIsle" "imageIsland" "LHalfIsle$Island;") ∈ LW := lw2 13 rfl rfl
theorem u_254 : (Cond.fieldLink "HalfIsle" (61 : Nat) "HalfIsle" "imageRule" "LHalfIsle$Law;") ∈ LW := lw2 14 rfl rfl
theorem u_255 : (Cond.fieldLink "HalfIsle" (64 : Nat) "HalfIsle" "past" "[LHalfIsle$Island;") ∈ LW := lw2 15 rfl rfl
theorem u_256 : (Cond.fieldLink "HalfIsle" (68 : Nat) "HalfIsle" "newest" "I") ∈ LW := lw2 16 rfl rfl
theorem u_257 : (Cond.fieldLink "HalfIsle" (71 : Nat) "HalfIsle" "remembered" "I") ∈ LW := lw2 17 rfl rfl
theorem u_258 : (Cond.fieldLink "HalfIsle" (74 : Nat) "HalfIsle" "weights" "[I") ∈ LW := lw2 18 rfl rfl
theorem u_259 : (Cond.fieldLink "HalfIsle" (80 : Nat) "HalfIsle" "sums" "LHalfIsle$Sums;") ∈ LW := lw2 19 rfl rfl
theorem u_260 : (Cond.fieldLink "HalfIsle" (84 : Nat) "HalfIsle" "valueSums" "LHalfIsle$Sums;") ∈ LW := lw2 20 rfl rfl
theorem u_261 : (Cond.fieldLink "HalfIsle" (87 : Nat) "HalfIsle" "order" "[I") ∈ LW := lw2 21 rfl rfl
theorem u_262 : (Cond.laysFinal "HalfIsle" "HalfIsle" "tape" "[I") ∈ LW := lw2 22 rfl rfl
theorem u_264 : (Cond.lays "HalfIsle" "HalfIsle" "taped" "I") ∈ LW := lw2 24 rfl rfl
theorem u_266 : (Cond.laysFinal "HalfIsle" "HalfIsle" "deedReader" "LHalfIsle$DeedReader;") ∈ LW := lw2 26 rfl rfl
theorem u_268 : (Cond.laysFinal "HalfIsle" "HalfIsle" "lawReader" "LHalfIsle$LawReader;") ∈ LW := lw2 28 rfl rfl
theorem u_270 : (Cond.lays "HalfIsle" "HalfIsle" "wrongByte" "I") ∈ LW := lw2 30 rfl rfl
theorem u_272 : (Cond.laysFinal "HalfIsle" "HalfIsle" "now" "LHalfIsle$Island;") ∈ LW := lw2 32 rfl rfl
theorem u_274 : (Cond.laysFinal "HalfIsle" "HalfIsle" "scratch" "LHalfIsle$Island;") ∈ LW := lw2 34 rfl rfl
theorem u_276 : (Cond.lays "HalfIsle" "HalfIsle" "rule" "LHalfIsle$Law;") ∈ LW := lw2 36 rfl rfl
theorem u_278 : (Cond.lays "HalfIsle" "HalfIsle" "spareRule" "LHalfIsle$Law;") ∈ LW := lw2 38 rfl rfl
theorem u_280 : (Cond.lays "HalfIsle" "HalfIsle" "imaged" "Z") ∈ LW := lw2 40 rfl rfl
theorem u_282 : (Cond.laysFinal "HalfIsle" "HalfIsle" "imageIsland" "LHalfIsle$Island;") ∈ LW := lw2 42 rfl rfl
theorem u_284 : (Cond.laysFinal "HalfIsle" "HalfIsle" "imageRule" "LHalfIsle$Law;") ∈ LW := lw2 44 rfl rfl
theorem u_286 : (Cond.laysFinal "HalfIsle" "HalfIsle" "past" "[LHalfIsle$Island;") ∈ LW := lw2 46 rfl rfl
theorem u_288 : (Cond.lays "HalfIsle" "HalfIsle" "newest" "I") ∈ LW := lw2 48 rfl rfl
theorem u_290 : (Cond.lays "HalfIsle" "HalfIsle" "remembered" "I") ∈ LW := lw2 50 rfl rfl
theorem u_292 : (Cond.laysFinal "HalfIsle" "HalfIsle" "weights" "[I") ∈ LW := lw2 52 rfl rfl
theorem u_294 : (Cond.laysFinal "HalfIsle" "HalfIsle" "sums" "LHalfIsle$Sums;") ∈ LW := lw2 54 rfl rfl
theorem u_296 : (Cond.laysFinal "HalfIsle" "HalfIsle" "valueSums" "LHalfIsle$Sums;") ∈ LW := lw2 56 rfl rfl
theorem u_298 : (Cond.laysFinal "HalfIsle" "HalfIsle" "order" "[I") ∈ LW := lw2 58 rfl rfl
theorem u_301 : (Cond.methodLink "HalfIsleLaw" (114 : Nat) ({ cls := "HalfIsle", name := "feed", desc := "(IIIII)I" } : MethodName)) ∈ LW := lw2 61 rfl rfl
theorem u_302 : (Cond.instanceMethod ({ cls := "HalfIsle", name := "feed", desc := "(IIIII)I" } : MethodName)) ∈ LW := lw2 62 rfl rfl
theorem u_303 : (Cond.selects "HalfIsle" ({ cls := "HalfIsle", name := "feed", desc := "(IIIII)I" } : MethodName) ({ cls := "HalfIsle", name := "feed", desc := "(IIIII)I" } : MethodName)) ∈ LW := lw2 63 rfl rfl
theorem u_304 : (Cond.code ({ cls := "HalfIsle", name := "feed", desc := "(IIIII)I" } : MethodName) prog_1_method_2_code (6 : Nat) (Option.some FieldType.int)) ∈ LW := lw2 64 rfl rfl
theorem u_305 : (Cond.methodLink "HalfIsle" (90 : Nat) ({ cls := "HalfIsle", name := "tapeNumber", desc := "(I)V" } : MethodName)) ∈ LW := lw2 65 rfl rfl
theorem u_307 : (Cond.instanceMethod ({ cls := "HalfIsle", name := "tapeNumber", desc := "(I)V" } : MethodName)) ∈ LW := lw2 67 rfl rfl
theorem u_308 : (Cond.code ({ cls := "HalfIsle", name := "tapeNumber", desc := "(I)V" } : MethodName) prog_1_method_65_code (3 : Nat) (Option.none : Option FieldType)) ∈ LW := lw2 68 rfl rfl
theorem u_309 : (Cond.methodLink "HalfIsle" (211 : Nat) ({ cls := "HalfIsle", name := "put", desc := "([III)V" } : MethodName)) ∈ LW := lw2 69 rfl rfl
theorem u_310 : (Cond.static ({ cls := "HalfIsle", name := "put", desc := "([III)V" } : MethodName)) ∈ LW := lw2 70 rfl rfl
theorem u_311 : (Cond.code ({ cls := "HalfIsle", name := "put", desc := "([III)V" } : MethodName) prog_1_method_57_code (3 : Nat) (Option.none : Option FieldType)) ∈ LW := lw2 71 rfl rfl
theorem u_312 : (Cond.methodLink "HalfIsleLaw" (119 : Nat) ({ cls := "HalfIsle", name := "end", desc := "(I)Z" } : MethodName)) ∈ LW := lw2 72 rfl rfl
theorem u_313 : (Cond.instanceMethod ({ cls := "HalfIsle", name := "end", desc := "(I)Z" } : MethodName)) ∈ LW := lw2 73 rfl rfl
theorem u_314 : (Cond.selects "HalfIsle" ({ cls := "HalfIsle", name := "end", desc := "(I)Z" } : MethodName) ({ cls := "HalfIsle", name := "end", desc := "(I)Z" } : MethodName)) ∈ LW := lw2 74 rfl rfl
theorem u_315 : (Cond.code ({ cls := "HalfIsle", name := "end", desc := "(I)Z" } : MethodName) prog_1_method_3_code (2 : Nat) (Option.some FieldType.boolean)) ∈ LW := lw2 75 rfl rfl
theorem u_316 : (Cond.methodLink "HalfIsleLaw" (136 : Nat) ({ cls := "HalfIsle", name := "fault", desc := "()I" } : MethodName)) ∈ LW := lw2 76 rfl rfl
theorem u_317 : (Cond.instanceMethod ({ cls := "HalfIsle", name := "fault", desc := "()I" } : MethodName)) ∈ LW := lw2 77 rfl rfl
theorem u_318 : (Cond.selects "HalfIsle" ({ cls := "HalfIsle", name := "fault", desc := "()I" } : MethodName) ({ cls := "HalfIsle", name := "fault", desc := "()I" } : MethodName)) ∈ LW := lw2 78 rfl rfl
theorem u_319 : (Cond.code ({ cls := "HalfIsle", name := "fault", desc := "()I" } : MethodName) prog_1_method_6_code (1 : Nat) (Option.some FieldType.int)) ∈ LW := lw2 79 rfl rfl
theorem u_320 : (Cond.methodLink "HalfIsleLaw" (169 : Nat) ({ cls := "HalfIsle", name := "take", desc := "()I" } : MethodName)) ∈ LW := lw2 80 rfl rfl
theorem u_321 : (Cond.instanceMethod ({ cls := "HalfIsle", name := "take", desc := "()I" } : MethodName)) ∈ LW := lw2 81 rfl rfl
theorem u_322 : (Cond.selects "HalfIsle" ({ cls := "HalfIsle", name := "take", desc := "()I" } : MethodName) ({ cls := "HalfIsle", name := "take", desc := "()I" } : MethodName)) ∈ LW := lw2 82 rfl rfl
theorem u_323 : (Cond.code ({ cls := "HalfIsle", name := "take", desc := "()I" } : MethodName) prog_1_method_16_code (2 : Nat) (Option.some FieldType.int)) ∈ LW := lw2 83 rfl rfl
theorem u_324 : (Cond.methodLink "HalfIsle" (208 : Nat) ({ cls := "HalfIsle", name := "remember", desc := "()V" } : MethodName)) ∈ LW := lw2 84 rfl rfl
theorem u_326 : (Cond.instanceMethod ({ cls := "HalfIsle", name := "remember", desc := "()V" } : MethodName)) ∈ LW := lw2 86 rfl rfl
theorem u_327 : (Cond.code ({ cls := "HalfIsle", name := "remember", desc := "()V" } : MethodName) prog_1_method_67_code (2 : Nat) (Option.none : Option FieldType)) ∈ LW := lw2 87 rfl rfl
theorem u_328 : (Cond.methodLink "HalfIsle" (94 : Nat) ({ cls := "HalfIsle$Island", name := "copyFrom", desc := "(LHalfIsle$Island;)V" } : MethodName)) ∈ LW := lw2 88 rfl rfl
theorem u_329 : (Cond.instanceMethod ({ cls := "HalfIsle$Island", name := "copyFrom", desc := "(LHalfIsle$Island;)V" } : MethodName)) ∈ LW := lw2 89 rfl rfl
theorem u_330 : (Cond.selects "HalfIsle$Island" ({ cls := "HalfIsle$Island", name := "copyFrom", desc := "(LHalfIsle$Island;)V" } : MethodName) ({ cls := "HalfIsle$Island", name := "copyFrom", desc := "(LHalfIsle$Island;)V" } : MethodName)) ∈ LW := lw2 90 rfl rfl
theorem u_331 : (Cond.code ({ cls := "HalfIsle$Island", name := "copyFrom", desc := "(LHalfIsle$Island;)V" } : MethodName) prog_3_method_2_code (2 : Nat) (Option.none : Option FieldType)) ∈ LW := lw2 91 rfl rfl
theorem un_332 : (Cond.methodLinkNest "HalfIsle$Island" (71 : Nat) ({ cls := "HalfIsle", name := "copyRow", desc := "([I[I)V" } : MethodName) "HalfIsle") ∈ NW := nw2 92 rfl rfl
theorem u_333 : (Cond.static ({ cls := "HalfIsle", name := "copyRow", desc := "([I[I)V" } : MethodName)) ∈ LW := lw2 93 rfl rfl
theorem u_334 : (Cond.code ({ cls := "HalfIsle", name := "copyRow", desc := "([I[I)V" } : MethodName) prog_1_method_58_code (2 : Nat) (Option.none : Option FieldType)) ∈ LW := lw2 94 rfl rfl
theorem u_335 : (Cond.methodLink "HalfIsle" (332 : Nat) ({ cls := "java/lang/Math", name := "min", desc := "(II)I" } : MethodName)) ∈ LW := lw2 95 rfl rfl
theorem u_336 : (Cond.static ({ cls := "java/lang/Math", name := "min", desc := "(II)I" } : MethodName)) ∈ LW := lw2 96 rfl rfl
theorem u_337 : (Cond.code ({ cls := "java/lang/Math", name := "min", desc := "(II)I" } : MethodName) prog_18_method_69_code (2 : Nat) (Option.some FieldType.int)) ∈ LW := lw2 97 rfl rfl
theorem u_338 : (Cond.methodLink "HalfIsle" (359 : Nat) ({ cls := "java/lang/System", name := "arraycopy", desc := "(Ljava/lang/Object;ILjava/lang/Object;II)V" } : MethodName)) ∈ LW := lw2 98 rfl rfl
theorem u_339 : (Cond.static ({ cls := "java/lang/System", name := "arraycopy", desc := "(Ljava/lang/Object;ILjava/lang/Object;II)V" } : MethodName)) ∈ LW := lw2 99 rfl rfl
theorem u_341 : (Cond.methodLink "HalfIsle$Island" (75 : Nat) ({ cls := "HalfIsle$Leavings", name := "copyFrom", desc := "(LHalfIsle$Leavings;)V" } : MethodName)) ∈ LW := lw2 101 rfl rfl
theorem u_342 : (Cond.instanceMethod ({ cls := "HalfIsle$Leavings", name := "copyFrom", desc := "(LHalfIsle$Leavings;)V" } : MethodName)) ∈ LW := lw2 102 rfl rfl
theorem u_343 : (Cond.selects "HalfIsle$Leavings" ({ cls := "HalfIsle$Leavings", name := "copyFrom", desc := "(LHalfIsle$Leavings;)V" } : MethodName) ({ cls := "HalfIsle$Leavings", name := "copyFrom", desc := "(LHalfIsle$Leavings;)V" } : MethodName)) ∈ LW := lw2 103 rfl rfl
theorem u_344 : (Cond.code ({ cls := "HalfIsle$Leavings", name := "copyFrom", desc := "(LHalfIsle$Leavings;)V" } : MethodName) prog_6_method_2_code (2 : Nat) (Option.none : Option FieldType)) ∈ LW := lw2 104 rfl rfl
theorem un_345 : (Cond.methodLinkNest "HalfIsle$Leavings" (22 : Nat) ({ cls := "HalfIsle", name := "copyRow", desc := "([I[I)V" } : MethodName) "HalfIsle") ∈ NW := nw2 105 rfl rfl
theorem u_346 : (Cond.methodLink "HalfIsle" (224 : Nat) ({ cls := "HalfIsle$Island", name := "missingOnes", desc := "()I" } : MethodName)) ∈ LW := lw2 106 rfl rfl
theorem u_347 : (Cond.instanceMethod ({ cls := "HalfIsle$Island", name := "missingOnes", desc := "()I" } : MethodName)) ∈ LW := lw2 107 rfl rfl
theorem u_348 : (Cond.selects "HalfIsle$Island" ({ cls := "HalfIsle$Island", name := "missingOnes", desc := "()I" } : MethodName) ({ cls := "HalfIsle$Island", name := "missingOnes", desc := "()I" } : MethodName)) ∈ LW := lw2 108 rfl rfl
theorem u_349 : (Cond.code ({ cls := "HalfIsle$Island", name := "missingOnes", desc := "()I" } : MethodName) prog_3_method_13_code (3 : Nat) (Option.some FieldType.int)) ∈ LW := lw2 109 rfl rfl
theorem u_350 : (Cond.methodLink "HalfIsle$Island" (116 : Nat) ({ cls := "HalfIsle$Island", name := "isMissing", desc := "(I)Z" } : MethodName)) ∈ LW := lw2 110 rfl rfl
theorem u_351 : (Cond.instanceMethod ({ cls := "HalfIsle$Island", name := "isMissing", desc := "(I)Z" } : MethodName)) ∈ LW := lw2 111 rfl rfl
theorem u_352 : (Cond.selects "HalfIsle$Island" ({ cls := "HalfIsle$Island", name := "isMissing", desc := "(I)Z" } : MethodName) ({ cls := "HalfIsle$Island", name := "isMissing", desc := "(I)Z" } : MethodName)) ∈ LW := lw2 112 rfl rfl
theorem u_353 : (Cond.code ({ cls := "HalfIsle$Island", name := "isMissing", desc := "(I)Z" } : MethodName) prog_3_method_6_code (2 : Nat) (Option.some FieldType.boolean)) ∈ LW := lw2 113 rfl rfl
theorem un_354 : (Cond.methodLinkNest "HalfIsle$Island" (83 : Nat) ({ cls := "HalfIsle", name := "at", desc := "([II)I" } : MethodName) "HalfIsle") ∈ NW := nw2 114 rfl rfl
theorem u_355 : (Cond.static ({ cls := "HalfIsle", name := "at", desc := "([II)I" } : MethodName)) ∈ LW := lw2 115 rfl rfl
theorem u_356 : (Cond.code ({ cls := "HalfIsle", name := "at", desc := "([II)I" } : MethodName) prog_1_method_56_code (2 : Nat) (Option.some FieldType.int)) ∈ LW := lw2 116 rfl rfl
theorem u_357 : (Cond.methodLink "HalfIsle" (227 : Nat) ({ cls := "java/lang/Integer", name := "bitCount", desc := "(I)I" } : MethodName)) ∈ LW := lw2 117 rfl rfl
theorem u_358 : (Cond.static ({ cls := "java/lang/Integer", name := "bitCount", desc := "(I)I" } : MethodName)) ∈ LW := lw2 118 rfl rfl
theorem u_359 : (Cond.code ({ cls := "java/lang/Integer", name := "bitCount", desc := "(I)I" } : MethodName) prog_17_method_49_code (1 : Nat) (Option.some FieldType.int)) ∈ LW := lw2 119 rfl rfl
theorem u_360 : (Cond.constant "java/lang/Integer" (265 : Nat) (1431655765 : Int32)) ∈ LW := lw2 120 rfl rfl
theorem u_361 : (Cond.constant "java/lang/Integer" (266 : Nat) (858993459 : Int32)) ∈ LW := lw2 121 rfl rfl
theorem u_362 : (Cond.constant "java/lang/Integer" (267 : Nat) (252645135 : Int32)) ∈ LW := lw2 122 rfl rfl
theorem u_363 : (Cond.methodLink "HalfIsle" (232 : Nat) ({ cls := "HalfIsle$Island", name := "takeInventory", desc := "()V" } : MethodName)) ∈ LW := lw2 123 rfl rfl
theorem u_364 : (Cond.instanceMethod ({ cls := "HalfIsle$Island", name := "takeInventory", desc := "()V" } : MethodName)) ∈ LW := lw2 124 rfl rfl
theorem u_365 : (Cond.selects "HalfIsle$Island" ({ cls := "HalfIsle$Island", name := "takeInventory", desc := "()V" } : MethodName) ({ cls := "HalfIsle$Island", name := "takeInventory", desc := "()V" } : MethodName)) ∈ LW := lw2 125 rfl rfl
theorem u_366 : (Cond.code ({ cls := "HalfIsle$Island", name := "takeInventory", desc := "()V" } : MethodName) prog_3_method_18_code (1 : Nat) (Option.none : Option FieldType)) ∈ LW := lw2 126 rfl rfl
theorem un_367 : (Cond.methodLinkNest "HalfIsle$Island" (120 : Nat) ({ cls := "HalfIsle", name := "total", desc := "([II)I" } : MethodName) "HalfIsle") ∈ NW := nw2 127 rfl rfl
theorem u_368 : (Cond.static ({ cls := "HalfIsle", name := "total", desc := "([II)I" } : MethodName)) ∈ LW := lw2 128 rfl rfl
theorem u_369 : (Cond.code ({ cls := "HalfIsle", name := "total", desc := "([II)I" } : MethodName) prog_1_method_59_code (4 : Nat) (Option.some FieldType.int)) ∈ LW := lw2 129 rfl rfl
theorem u_370 : (Cond.methodLink "HalfIsle" (137 : Nat) ({ cls := "HalfIsle", name := "at", desc := "([II)I" } : MethodName)) ∈ LW := lw2 130 rfl rfl
theorem u_371 : (Cond.methodLink "HalfIsleLaw" (180 : Nat) ({ cls := "HalfIsle", name := "missing", desc := "()I" } : MethodName)) ∈ LW := lw2 131 rfl rfl
theorem u_372 : (Cond.instanceMethod ({ cls := "HalfIsle", name := "missing", desc := "()I" } : MethodName)) ∈ LW := lw2 132 rfl rfl
theorem u_373 : (Cond.selects "HalfIsle" ({ cls := "HalfIsle", name := "missing", desc := "()I" } : MethodName) ({ cls := "HalfIsle", name := "missing", desc := "()I" } : MethodName)) ∈ LW := lw2 133 rfl rfl
theorem u_374 : (Cond.code ({ cls := "HalfIsle", name := "missing", desc := "()I" } : MethodName) prog_1_method_19_code (1 : Nat) (Option.some FieldType.int)) ∈ LW := lw2 134 rfl rfl
theorem u_375 : (Cond.methodLink "HalfIsleLaw" (184 : Nat) ({ cls := "HalfIsle", name := "worse", desc := "()I" } : MethodName)) ∈ LW := lw2 135 rfl rfl
theorem u_376 : (Cond.instanceMethod ({ cls := "HalfIsle", name := "worse", desc := "()I" } : MethodName)) ∈ LW := lw2 136 rfl rfl
theorem u_377 : (Cond.selects "HalfIsle" ({ cls := "HalfIsle", name := "worse", desc := "()I" } : MethodName) ({ cls := "HalfIsle", name := "worse", desc := "()I" } : MethodName)) ∈ LW := lw2 137 rfl rfl
theorem u_378 : (Cond.code ({ cls := "HalfIsle", name := "worse", desc := "()I" } : MethodName) prog_1_method_20_code (3 : Nat) (Option.some FieldType.int)) ∈ LW := lw2 138 rfl rfl
theorem u_379 : (Cond.methodLink "HalfIsle" (163 : Nat) ({ cls := "HalfIsle$Island", name := "worseBy", desc := "(I)I" } : MethodName)) ∈ LW := lw2 139 rfl rfl
theorem u_380 : (Cond.instanceMethod ({ cls := "HalfIsle$Island", name := "worseBy", desc := "(I)I" } : MethodName)) ∈ LW := lw2 140 rfl rfl
theorem u_381 : (Cond.selects "HalfIsle$Island" ({ cls := "HalfIsle$Island", name := "worseBy", desc := "(I)I" } : MethodName) ({ cls := "HalfIsle$Island", name := "worseBy", desc := "(I)I" } : MethodName)) ∈ LW := lw2 141 rfl rfl
theorem u_382 : (Cond.code ({ cls := "HalfIsle$Island", name := "worseBy", desc := "(I)I" } : MethodName) prog_3_method_7_code (2 : Nat) (Option.some FieldType.int)) ∈ LW := lw2 142 rfl rfl
theorem u_383 : (Cond.methodLink "HalfIsle$Island" (87 : Nat) ({ cls := "java/lang/Math", name := "max", desc := "(II)I" } : MethodName)) ∈ LW := lw2 143 rfl rfl
theorem u_384 : (Cond.static ({ cls := "java/lang/Math", name := "max", desc := "(II)I" } : MethodName)) ∈ LW := lw2 144 rfl rfl
theorem u_385 : (Cond.code ({ cls := "java/lang/Math", name := "max", desc := "(II)I" } : MethodName) prog_18_method_65_code (2 : Nat) (Option.some FieldType.int)) ∈ LW := lw2 145 rfl rfl
theorem u_386 : (Cond.methodLink "HalfIsleLaw" (188 : Nat) ({ cls := "HalfIsle", name := "mislaid", desc := "()I" } : MethodName)) ∈ LW := lw2 146 rfl rfl
theorem u_387 : (Cond.instanceMethod ({ cls := "HalfIsle", name := "mislaid", desc := "()I" } : MethodName)) ∈ LW := lw2 147 rfl rfl
theorem u_388 : (Cond.selects "HalfIsle" ({ cls := "HalfIsle", name := "mislaid", desc := "()I" } : MethodName) ({ cls := "HalfIsle", name := "mislaid", desc := "()I" } : MethodName)) ∈ LW := lw2 148 rfl rfl
theorem u_389 : (Cond.code ({ cls := "HalfIsle", name := "mislaid", desc := "()I" } : MethodName) prog_1_method_21_code (3 : Nat) (Option.some FieldType.int)) ∈ LW := lw2 149 rfl rfl
theorem u_390 : (Cond.methodLink "HalfIsleLaw" (192 : Nat) ({ cls := "HalfIsle", name := "work", desc := "()I" } : MethodName)) ∈ LW := lw2 150 rfl rfl
theorem u_391 : (Cond.instanceMethod ({ cls := "HalfIsle", name := "work", desc := "()I" } : MethodName)) ∈ LW := lw2 151 rfl rfl
theorem u_392 : (Cond.selects "HalfIsle" ({ cls := "HalfIsle", name := "work", desc := "()I" } : MethodName) ({ cls := "HalfIsle", name := "work", desc := "()I" } : MethodName)) ∈ LW := lw2 152 rfl rfl
theorem u_393 : (Cond.code ({ cls := "HalfIsle", name := "work", desc := "()I" } : MethodName) prog_1_method_22_code (1 : Nat) (Option.some FieldType.int)) ∈ LW := lw2 153 rfl rfl
theorem u_394 : (Cond.methodLink "HalfIsle" (245 : Nat) ({ cls := "HalfIsle$Island", name := "workOfAll", desc := "()I" } : MethodName)) ∈ LW := lw2 154 rfl rfl
theorem u_395 : (Cond.instanceMethod ({ cls := "HalfIsle$Island", name := "workOfAll", desc := "()I" } : MethodName)) ∈ LW := lw2 155 rfl rfl
theorem u_396 : (Cond.selects "HalfIsle$Island" ({ cls := "HalfIsle$Island", name := "workOfAll", desc := "()I" } : MethodName) ({ cls := "HalfIsle$Island", name := "workOfAll", desc := "()I" } : MethodName)) ∈ LW := lw2 156 rfl rfl
theorem u_397 : (Cond.code ({ cls := "HalfIsle$Island", name := "workOfAll", desc := "()I" } : MethodName) prog_3_method_9_code (3 : Nat) (Option.some FieldType.int)) ∈ LW := lw2 157 rfl rfl
theorem u_398 : (Cond.methodLink "HalfIsle$Island" (103 : Nat) ({ cls := "HalfIsle$Island", name := "workOf", desc := "(I)I" } : MethodName)) ∈ LW := lw2 158 rfl rfl
theorem u_399 : (Cond.instanceMethod ({ cls := "HalfIsle$Island", name := "workOf", desc := "(I)I" } : MethodName)) ∈ LW := lw2 159 rfl rfl
theorem u_400 : (Cond.selects "HalfIsle$Island" ({ cls := "HalfIsle$Island", name := "workOf", desc := "(I)I" } : MethodName) ({ cls := "HalfIsle$Island", name := "workOf", desc := "(I)I" } : MethodName)) ∈ LW := lw2 160 rfl rfl
theorem u_401 : (Cond.code ({ cls := "HalfIsle$Island", name := "workOf", desc := "(I)I" } : MethodName) prog_3_method_8_code (2 : Nat) (Option.some FieldType.int)) ∈ LW := lw2 161 rfl rfl
theorem un_402 : (Cond.methodLinkNest "HalfIsle$Island" (93 : Nat) ({ cls := "HalfIsle", name := "stepsBetween", desc := "(II)I" } : MethodName) "HalfIsle") ∈ NW := nw2 162 rfl rfl
theorem u_403 : (Cond.static ({ cls := "HalfIsle", name := "stepsBetween", desc := "(II)I" } : MethodName)) ∈ LW := lw2 163 rfl rfl
theorem u_404 : (Cond.code ({ cls := "HalfIsle", name := "stepsBetween", desc := "(II)I" } : MethodName) prog_1_method_73_code (3 : Nat) (Option.some FieldType.int)) ∈ LW := lw2 164 rfl rfl
theorem u_405 : (Cond.methodLink "HalfIsle" (307 : Nat) ({ cls := "java/lang/Math", name := "abs", desc := "(I)I" } : MethodName)) ∈ LW := lw2 165 rfl rfl
theorem u_406 : (Cond.static ({ cls := "java/lang/Math", name := "abs", desc := "(I)I" } : MethodName)) ∈ LW := lw2 166 rfl rfl
theorem u_407 : (Cond.code ({ cls := "java/lang/Math", name := "abs", desc := "(I)I" } : MethodName) prog_18_method_59_code (1 : Nat) (Option.some FieldType.int)) ∈ LW := lw2 167 rfl rfl
theorem u_408 : (Cond.methodLink "HalfIsle$Island" (96 : Nat) ({ cls := "HalfIsle$Island", name := "worseBy", desc := "(I)I" } : MethodName)) ∈ LW := lw2 168 rfl rfl
theorem un_409 : (Cond.methodLinkNest "HalfIsle$Island" (100 : Nat) ({ cls := "HalfIsle", name := "roundedUp", desc := "(II)I" } : MethodName) "HalfIsle") ∈ NW := nw2 169 rfl rfl
theorem u_410 : (Cond.static ({ cls := "HalfIsle", name := "roundedUp", desc := "(II)I" } : MethodName)) ∈ LW := lw2 170 rfl rfl
theorem u_411 : (Cond.code ({ cls := "HalfIsle", name := "roundedUp", desc := "(II)I" } : MethodName) prog_1_method_74_code (2 : Nat) (Option.some FieldType.int)) ∈ LW := lw2 171 rfl rfl
theorem u_412 : (Cond.methodLink "HalfIsleLaw" (196 : Nat) ({ cls := "HalfIsle", name := "first", desc := "(Z)I" } : MethodName)) ∈ LW := lw2 172 rfl rfl
theorem u_413 : (Cond.instanceMethod ({ cls := "HalfIsle", name := "first", desc := "(Z)I" } : MethodName)) ∈ LW := lw2 173 rfl rfl
theorem u_414 : (Cond.selects "HalfIsle" ({ cls := "HalfIsle", name := "first", desc := "(Z)I" } : MethodName) ({ cls := "HalfIsle", name := "first", desc := "(Z)I" } : MethodName)) ∈ LW := lw2 174 rfl rfl
theorem u_415 : (Cond.code ({ cls := "HalfIsle", name := "first", desc := "(Z)I" } : MethodName) prog_1_method_23_code (4 : Nat) (Option.some FieldType.int)) ∈ LW := lw2 175 rfl rfl
theorem u_416 : (Cond.methodLink "HalfIsle" (248 : Nat) ({ cls := "HalfIsle", name := "lowest", desc := "(I)I" } : MethodName)) ∈ LW := lw2 176 rfl rfl
theorem u_417 : (Cond.static ({ cls := "HalfIsle", name := "lowest", desc := "(I)I" } : MethodName)) ∈ LW := lw2 177 rfl rfl
theorem u_418 : (Cond.code ({ cls := "HalfIsle", name := "lowest", desc := "(I)I" } : MethodName) prog_1_method_72_code (2 : Nat) (Option.some FieldType.int)) ∈ LW := lw2 178 rfl rfl
theorem u_419 : (Cond.methodLink "HalfIsle" (235 : Nat) ({ cls := "HalfIsle$Island", name := "passDay", desc := "(LHalfIsle$Law;Z)Z" } : MethodName)) ∈ LW := lw2 179 rfl rfl
theorem u_420 : (Cond.instanceMethod ({ cls := "HalfIsle$Island", name := "passDay", desc := "(LHalfIsle$Law;Z)Z" } : MethodName)) ∈ LW := lw2 180 rfl rfl
theorem u_421 : (Cond.selects "HalfIsle$Island" ({ cls := "HalfIsle$Island", name := "passDay", desc := "(LHalfIsle$Law;Z)Z" } : MethodName) ({ cls := "HalfIsle$Island", name := "passDay", desc := "(LHalfIsle$Law;Z)Z" } : MethodName)) ∈ LW := lw2 181 rfl rfl
theorem u_422 : (Cond.code ({ cls := "HalfIsle$Island", name := "passDay", desc := "(LHalfIsle$Law;Z)Z" } : MethodName) prog_3_method_19_code (4 : Nat) (Option.some FieldType.boolean)) ∈ LW := lw2 182 rfl rfl
theorem u_423 : (Cond.methodLink "HalfIsle$Island" (126 : Nat) ({ cls := "HalfIsle$Island", name := "passItem", desc := "(LHalfIsle$Law;I)V" } : MethodName)) ∈ LW := lw2 183 rfl rfl
theorem u_425 : (Cond.instanceMethod ({ cls := "HalfIsle$Island", name := "passItem", desc := "(LHalfIsle$Law;I)V" } : MethodName)) ∈ LW := lw2 185 rfl rfl
theorem u_426 : (Cond.code ({ cls := "HalfIsle$Island", name := "passItem", desc := "(LHalfIsle$Law;I)V" } : MethodName) prog_3_method_20_code (4 : Nat) (Option.none : Option FieldType)) ∈ LW := lw2 186 rfl rfl
theorem u_427 : (Cond.methodLink "HalfIsle$Island" (139 : Nat) ({ cls := "HalfIsle$Law", name := "tell", desc := "(LHalfIsle$Island;I)V" } : MethodName)) ∈ LW := lw2 187 rfl rfl
theorem u_428 : (Cond.instanceMethod ({ cls := "HalfIsle$Law", name := "tell", desc := "(LHalfIsle$Island;I)V" } : MethodName)) ∈ LW := lw2 188 rfl rfl
theorem u_429 : (Cond.selects "HalfIsle$Law" ({ cls := "HalfIsle$Law", name := "tell", desc := "(LHalfIsle$Island;I)V" } : MethodName) ({ cls := "HalfIsle$Law", name := "tell", desc := "(LHalfIsle$Island;I)V" } : MethodName)) ∈ LW := lw2 189 rfl rfl
theorem u_430 : (Cond.code ({ cls := "HalfIsle$Law", name := "tell", desc := "(LHalfIsle$Island;I)V" } : MethodName) prog_4_method_7_code (5 : Nat) (Option.none : Option FieldType)) ∈ LW := lw2 190 rfl rfl
theorem un_431 : (Cond.methodLinkNest "HalfIsle$Law" (38 : Nat) ({ cls := "HalfIsle", name := "put", desc := "([III)V" } : MethodName) "HalfIsle") ∈ NW := nw2 191 rfl rfl
theorem un_432 : (Cond.methodLinkNest "HalfIsle$Law" (42 : Nat) ({ cls := "HalfIsle", name := "at", desc := "([II)I" } : MethodName) "HalfIsle") ∈ NW := nw2 192 rfl rfl
theorem u_433 : (Cond.methodLink "HalfIsle$Law" (46 : Nat) ({ cls := "HalfIsle$Law", name := "holds", desc := "(LHalfIsle$Island;III)Z" } : MethodName)) ∈ LW := lw2 193 rfl rfl
theorem u_435 : (Cond.instanceMethod ({ cls := "HalfIsle$Law", name := "holds", desc := "(LHalfIsle$Island;III)Z" } : MethodName)) ∈ LW := lw2 195 rfl rfl
theorem u_436 : (Cond.code ({ cls := "HalfIsle$Law", name := "holds", desc := "(LHalfIsle$Island;III)Z" } : MethodName) prog_4_method_8_code (15 : Nat) (Option.some FieldType.boolean)) ∈ LW := lw2 196 rfl rfl
theorem u_437 : (Cond.methodLink "HalfIsle$Law" (50 : Nat) ({ cls := "HalfIsle$Law", name := "part", desc := "(LHalfIsle$Island;II)I" } : MethodName)) ∈ LW := lw2 197 rfl rfl
theorem u_438 : (Cond.static ({ cls := "HalfIsle$Law", name := "part", desc := "(LHalfIsle$Island;II)I" } : MethodName)) ∈ LW := lw2 198 rfl rfl
theorem u_439 : (Cond.code ({ cls := "HalfIsle$Law", name := "part", desc := "(LHalfIsle$Island;II)I" } : MethodName) prog_4_method_9_code (3 : Nat) (Option.some FieldType.int)) ∈ LW := lw2 199 rfl rfl
theorem u_440 : (Cond.methodLink "HalfIsle$Law" (70 : Nat) ({ cls := "HalfIsle$Island", name := "there", desc := "()I" } : MethodName)) ∈ LW := lw2 200 rfl rfl
theorem u_441 : (Cond.instanceMethod ({ cls := "HalfIsle$Island", name := "there", desc := "()I" } : MethodName)) ∈ LW := lw2 201 rfl rfl
theorem u_442 : (Cond.selects "HalfIsle$Island" ({ cls := "HalfIsle$Island", name := "there", desc := "()I" } : MethodName) ({ cls := "HalfIsle$Island", name := "there", desc := "()I" } : MethodName)) ∈ LW := lw2 202 rfl rfl
theorem u_443 : (Cond.code ({ cls := "HalfIsle$Island", name := "there", desc := "()I" } : MethodName) prog_3_method_4_code (1 : Nat) (Option.some FieldType.int)) ∈ LW := lw2 203 rfl rfl
theorem u_444 : (Cond.methodLink "HalfIsle$Law" (54 : Nat) ({ cls := "HalfIsle$Law", name := "atom", desc := "(LHalfIsle$Island;III)Z" } : MethodName)) ∈ LW := lw2 204 rfl rfl
theorem u_445 : (Cond.static ({ cls := "HalfIsle$Law", name := "atom", desc := "(LHalfIsle$Island;III)Z" } : MethodName)) ∈ LW := lw2 205 rfl rfl
theorem u_446 : (Cond.code ({ cls := "HalfIsle$Law", name := "atom", desc := "(LHalfIsle$Island;III)Z" } : MethodName) prog_4_method_10_code (4 : Nat) (Option.some FieldType.boolean)) ∈ LW := lw2 206 rfl rfl
theorem u_447 : (Cond.constantLong "HalfIsle$Law" (57 : Nat) (-2 : Int64)) ∈ LW := lw2 207 rfl rfl
theorem u_448 : (Cond.methodLink "HalfIsle$Island" (136 : Nat) ({ cls := "java/lang/Math", name := "min", desc := "(II)I" } : MethodName)) ∈ LW := lw2 208 rfl rfl
theorem un_449 : (Cond.methodLinkNest "HalfIsle$Island" (79 : Nat) ({ cls := "HalfIsle", name := "put", desc := "([III)V" } : MethodName) "HalfIsle") ∈ NW := nw2 209 rfl rfl
theorem u_450 : (Cond.methodLink "HalfIsle$Island" (130 : Nat) ({ cls := "HalfIsle$Island", name := "passWeather", desc := "()V" } : MethodName)) ∈ LW := lw2 210 rfl rfl
theorem u_452 : (Cond.instanceMethod ({ cls := "HalfIsle$Island", name := "passWeather", desc := "()V" } : MethodName)) ∈ LW := lw2 212 rfl rfl
theorem u_453 : (Cond.code ({ cls := "HalfIsle$Island", name := "passWeather", desc := "()V" } : MethodName) prog_3_method_21_code (3 : Nat) (Option.none : Option FieldType)) ∈ LW := lw2 213 rfl rfl
theorem u_454 : (Cond.methodLink "HalfIsle$Island" (148 : Nat) ({ cls := "HalfIsle$Island", name := "draw", desc := "()I" } : MethodName)) ∈ LW := lw2 214 rfl rfl
theorem u_456 : (Cond.instanceMethod ({ cls := "HalfIsle$Island", name := "draw", desc := "()I" } : MethodName)) ∈ LW := lw2 216 rfl rfl
theorem u_457 : (Cond.code ({ cls := "HalfIsle$Island", name := "draw", desc := "()I" } : MethodName) prog_3_method_22_code (1 : Nat) (Option.some FieldType.int)) ∈ LW := lw2 217 rfl rfl
theorem u_458 : (Cond.constant "HalfIsle$Island" (151 : Nat) (1103515245 : Int32)) ∈ LW := lw2 218 rfl rfl
theorem u_459 : (Cond.methodLink "HalfIsle$Island" (113 : Nat) ({ cls := "HalfIsle$Island", name := "daysLeft", desc := "()I" } : MethodName)) ∈ LW := lw2 219 rfl rfl
theorem u_460 : (Cond.instanceMethod ({ cls := "HalfIsle$Island", name := "daysLeft", desc := "()I" } : MethodName)) ∈ LW := lw2 220 rfl rfl
theorem u_461 : (Cond.selects "HalfIsle$Island" ({ cls := "HalfIsle$Island", name := "daysLeft", desc := "()I" } : MethodName) ({ cls := "HalfIsle$Island", name := "daysLeft", desc := "()I" } : MethodName)) ∈ LW := lw2 221 rfl rfl
theorem u_462 : (Cond.code ({ cls := "HalfIsle$Island", name := "daysLeft", desc := "()I" } : MethodName) prog_3_method_5_code (1 : Nat) (Option.some FieldType.int)) ∈ LW := lw2 222 rfl rfl
theorem u_463 : (Cond.methodLink "HalfIsle$Island" (133 : Nat) ({ cls := "HalfIsle$Island", name := "leave", desc := "()V" } : MethodName)) ∈ LW := lw2 223 rfl rfl
theorem u_465 : (Cond.instanceMethod ({ cls := "HalfIsle$Island", name := "leave", desc := "()V" } : MethodName)) ∈ LW := lw2 225 rfl rfl
theorem u_466 : (Cond.code ({ cls := "HalfIsle$Island", name := "leave", desc := "()V" } : MethodName) prog_3_method_23_code (3 : Nat) (Option.none : Option FieldType)) ∈ LW := lw2 226 rfl rfl
theorem u_467 : (Cond.methodLink "HalfIsle$Island" (152 : Nat) ({ cls := "HalfIsle$Island", name := "there", desc := "()I" } : MethodName)) ∈ LW := lw2 227 rfl rfl
theorem u_468 : (Cond.methodLink "HalfIsle$Island" (155 : Nat) ({ cls := "HalfIsle$Island", name := "owedMore", desc := "()I" } : MethodName)) ∈ LW := lw2 228 rfl rfl
theorem u_469 : (Cond.instanceMethod ({ cls := "HalfIsle$Island", name := "owedMore", desc := "()I" } : MethodName)) ∈ LW := lw2 229 rfl rfl
theorem u_470 : (Cond.selects "HalfIsle$Island" ({ cls := "HalfIsle$Island", name := "owedMore", desc := "()I" } : MethodName) ({ cls := "HalfIsle$Island", name := "owedMore", desc := "()I" } : MethodName)) ∈ LW := lw2 230 rfl rfl
theorem u_471 : (Cond.code ({ cls := "HalfIsle$Island", name := "owedMore", desc := "()I" } : MethodName) prog_3_method_17_code (3 : Nat) (Option.some FieldType.int)) ∈ LW := lw2 231 rfl rfl
theorem u_472 : (Cond.methodLink "HalfIsle$Island" (123 : Nat) ({ cls := "HalfIsle$Island", name := "owedFor", desc := "(I)I" } : MethodName)) ∈ LW := lw2 232 rfl rfl
theorem u_473 : (Cond.instanceMethod ({ cls := "HalfIsle$Island", name := "owedFor", desc := "(I)I" } : MethodName)) ∈ LW := lw2 233 rfl rfl
theorem u_474 : (Cond.selects "HalfIsle$Island" ({ cls := "HalfIsle$Island", name := "owedFor", desc := "(I)I" } : MethodName) ({ cls := "HalfIsle$Island", name := "owedFor", desc := "(I)I" } : MethodName)) ∈ LW := lw2 234 rfl rfl
theorem u_475 : (Cond.code ({ cls := "HalfIsle$Island", name := "owedFor", desc := "(I)I" } : MethodName) prog_3_method_16_code (2 : Nat) (Option.some FieldType.int)) ∈ LW := lw2 235 rfl rfl
theorem u_476 : (Cond.methodLink "HalfIsle$Island" (158 : Nat) ({ cls := "HalfIsle$Island", name := "missingOnes", desc := "()I" } : MethodName)) ∈ LW := lw2 236 rfl rfl
theorem u_477 : (Cond.methodLink "HalfIsle$Island" (161 : Nat) ({ cls := "java/lang/Integer", name := "bitCount", desc := "(I)I" } : MethodName)) ∈ LW := lw2 237 rfl rfl
theorem u_478 : (Cond.methodLink "HalfIsle$Island" (166 : Nat) ({ cls := "HalfIsle$Leavings", name := "add", desc := "(IIII)V" } : MethodName)) ∈ LW := lw2 238 rfl rfl
theorem u_479 : (Cond.instanceMethod ({ cls := "HalfIsle$Leavings", name := "add", desc := "(IIII)V" } : MethodName)) ∈ LW := lw2 239 rfl rfl
theorem u_480 : (Cond.selects "HalfIsle$Leavings" ({ cls := "HalfIsle$Leavings", name := "add", desc := "(IIII)V" } : MethodName) ({ cls := "HalfIsle$Leavings", name := "add", desc := "(IIII)V" } : MethodName)) ∈ LW := lw3 0 rfl rfl
theorem u_481 : (Cond.code ({ cls := "HalfIsle$Leavings", name := "add", desc := "(IIII)V" } : MethodName) prog_6_method_3_code (5 : Nat) (Option.none : Option FieldType)) ∈ LW := lw3 1 rfl rfl
theorem u_482 : (Cond.methodLink "HalfIsle$Leavings" (26 : Nat) ({ cls := "java/lang/Math", name := "min", desc := "(II)I" } : MethodName)) ∈ LW := lw3 2 rfl rfl
theorem un_483 : (Cond.methodLinkNest "HalfIsle$Leavings" (32 : Nat) ({ cls := "HalfIsle", name := "put", desc := "([III)V" } : MethodName) "HalfIsle") ∈ NW := nw3 3 rfl rfl
theorem u_484 : (Cond.methodLink "HalfIsle$Island" (170 : Nat) ({ cls := "HalfIsle$Island", name := "takeInventory", desc := "()V" } : MethodName)) ∈ LW := lw3 4 rfl rfl
theorem u_485 : (Cond.methodLink "HalfIsleLaw" (200 : Nat) ({ cls := "HalfIsle", name := "round", desc := "()I" } : MethodName)) ∈ LW := lw3 5 rfl rfl
theorem u_486 : (Cond.instanceMethod ({ cls := "HalfIsle", name := "round", desc := "()I" } : MethodName)) ∈ LW := lw3 6 rfl rfl
theorem u_487 : (Cond.selects "HalfIsle" ({ cls := "HalfIsle", name := "round", desc := "()I" } : MethodName) ({ cls := "HalfIsle", name := "round", desc := "()I" } : MethodName)) ∈ LW := lw3 7 rfl rfl
theorem u_488 : (Cond.code ({ cls := "HalfIsle", name := "round", desc := "()I" } : MethodName) prog_1_method_24_code (2 : Nat) (Option.some FieldType.int)) ∈ LW := lw3 8 rfl rfl
theorem u_489 : (Cond.methodLink "HalfIsle" (251 : Nat) ({ cls := "HalfIsle", name := "sameRooms", desc := "()Z" } : MethodName)) ∈ LW := lw3 9 rfl rfl
theorem u_491 : (Cond.instanceMethod ({ cls := "HalfIsle", name := "sameRooms", desc := "()Z" } : MethodName)) ∈ LW := lw3 11 rfl rfl
theorem u_492 : (Cond.code ({ cls := "HalfIsle", name := "sameRooms", desc := "()Z" } : MethodName) prog_1_method_70_code (3 : Nat) (Option.some FieldType.boolean)) ∈ LW := lw3 12 rfl rfl
theorem u_493 : (Cond.methodLink "HalfIsleLaw" (211 : Nat) ({ cls := "HalfIsle", name := "search", desc := "(I)I" } : MethodName)) ∈ LW := lw3 13 rfl rfl
theorem u_494 : (Cond.instanceMethod ({ cls := "HalfIsle", name := "search", desc := "(I)I" } : MethodName)) ∈ LW := lw3 14 rfl rfl
theorem u_495 : (Cond.selects "HalfIsle" ({ cls := "HalfIsle", name := "search", desc := "(I)I" } : MethodName) ({ cls := "HalfIsle", name := "search", desc := "(I)I" } : MethodName)) ∈ LW := lw3 15 rfl rfl
theorem u_496 : (Cond.code ({ cls := "HalfIsle", name := "search", desc := "(I)I" } : MethodName) prog_1_method_27_code (2 : Nat) (Option.some FieldType.int)) ∈ LW := lw3 16 rfl rfl
theorem u_497 : (Cond.methodLink "HalfIsle" (262 : Nat) ({ cls := "HalfIsle", name := "orderRooms", desc := "()V" } : MethodName)) ∈ LW := lw3 17 rfl rfl
theorem u_499 : (Cond.instanceMethod ({ cls := "HalfIsle", name := "orderRooms", desc := "()V" } : MethodName)) ∈ LW := lw3 19 rfl rfl
theorem u_500 : (Cond.code ({ cls := "HalfIsle", name := "orderRooms", desc := "()V" } : MethodName) prog_1_method_79_code (3 : Nat) (Option.none : Option FieldType)) ∈ LW := lw3 20 rfl rfl
theorem u_501 : (Cond.methodLink "HalfIsle" (381 : Nat) ({ cls := "HalfIsle", name := "goesAhead", desc := "(II)Z" } : MethodName)) ∈ LW := lw3 21 rfl rfl
theorem u_503 : (Cond.instanceMethod ({ cls := "HalfIsle", name := "goesAhead", desc := "(II)Z" } : MethodName)) ∈ LW := lw3 23 rfl rfl
theorem u_504 : (Cond.code ({ cls := "HalfIsle", name := "goesAhead", desc := "(II)Z" } : MethodName) prog_1_method_80_code (3 : Nat) (Option.some FieldType.boolean)) ∈ LW := lw3 24 rfl rfl
theorem u_505 : (Cond.methodLink "HalfIsle" (265 : Nat) ({ cls := "HalfIsle", name := "lookCost", desc := "(I)I" } : MethodName)) ∈ LW := lw3 25 rfl rfl
theorem u_507 : (Cond.instanceMethod ({ cls := "HalfIsle", name := "lookCost", desc := "(I)I" } : MethodName)) ∈ LW := lw3 27 rfl rfl
theorem u_508 : (Cond.code ({ cls := "HalfIsle", name := "lookCost", desc := "(I)I" } : MethodName) prog_1_method_78_code (2 : Nat) (Option.some FieldType.int)) ∈ LW := lw3 28 rfl rfl
theorem u_509 : (Cond.methodLink "HalfIsle" (268 : Nat) ({ cls := "HalfIsle", name := "likelihood", desc := "(I)I" } : MethodName)) ∈ LW := lw3 29 rfl rfl
theorem u_511 : (Cond.instanceMethod ({ cls := "HalfIsle", name := "likelihood", desc := "(I)I" } : MethodName)) ∈ LW := lw3 31 rfl rfl
theorem u_512 : (Cond.code ({ cls := "HalfIsle", name := "likelihood", desc := "(I)I" } : MethodName) prog_1_method_77_code (2 : Nat) (Option.some FieldType.int)) ∈ LW := lw3 32 rfl rfl
theorem u_513 : (Cond.methodLink "HalfIsle" (179 : Nat) ({ cls := "HalfIsle$Island", name := "itemsWith", desc := "([II)I" } : MethodName)) ∈ LW := lw3 33 rfl rfl
theorem u_514 : (Cond.instanceMethod ({ cls := "HalfIsle$Island", name := "itemsWith", desc := "([II)I" } : MethodName)) ∈ LW := lw3 34 rfl rfl
theorem u_515 : (Cond.selects "HalfIsle$Island" ({ cls := "HalfIsle$Island", name := "itemsWith", desc := "([II)I" } : MethodName) ({ cls := "HalfIsle$Island", name := "itemsWith", desc := "([II)I" } : MethodName)) ∈ LW := lw3 35 rfl rfl
theorem u_516 : (Cond.code ({ cls := "HalfIsle$Island", name := "itemsWith", desc := "([II)I" } : MethodName) prog_3_method_12_code (5 : Nat) (Option.some FieldType.int)) ∈ LW := lw3 36 rfl rfl
theorem u_517 : (Cond.methodLink "HalfIsleLaw" (215 : Nat) ({ cls := "HalfIsle", name := "costs", desc := "()I" } : MethodName)) ∈ LW := lw3 37 rfl rfl
theorem u_518 : (Cond.instanceMethod ({ cls := "HalfIsle", name := "costs", desc := "()I" } : MethodName)) ∈ LW := lw3 38 rfl rfl
theorem u_519 : (Cond.selects "HalfIsle" ({ cls := "HalfIsle", name := "costs", desc := "()I" } : MethodName) ({ cls := "HalfIsle", name := "costs", desc := "()I" } : MethodName)) ∈ LW := lw3 39 rfl rfl
theorem u_520 : (Cond.code ({ cls := "HalfIsle", name := "costs", desc := "()I" } : MethodName) prog_1_method_28_code (5 : Nat) (Option.some FieldType.int)) ∈ LW := lw3 40 rfl rfl
theorem u_521 : (Cond.methodLink "HalfIsleLaw" (225 : Nat) ({ cls := "HalfIsle", name := "rests", desc := "()I" } : MethodName)) ∈ LW := lw3 41 rfl rfl
theorem u_522 : (Cond.instanceMethod ({ cls := "HalfIsle", name := "rests", desc := "()I" } : MethodName)) ∈ LW := lw3 42 rfl rfl
theorem u_523 : (Cond.selects "HalfIsle" ({ cls := "HalfIsle", name := "rests", desc := "()I" } : MethodName) ({ cls := "HalfIsle", name := "rests", desc := "()I" } : MethodName)) ∈ LW := lw3 43 rfl rfl
theorem u_524 : (Cond.code ({ cls := "HalfIsle", name := "rests", desc := "()I" } : MethodName) prog_1_method_31_code (9 : Nat) (Option.some FieldType.int)) ∈ LW := lw3 44 rfl rfl
theorem u_525 : (Cond.methodLink "HalfIsle" (283 : Nat) ({ cls := "HalfIsle$Island", name := "missingValue", desc := "()I" } : MethodName)) ∈ LW := lw3 45 rfl rfl
theorem u_526 : (Cond.instanceMethod ({ cls := "HalfIsle$Island", name := "missingValue", desc := "()I" } : MethodName)) ∈ LW := lw3 46 rfl rfl
theorem u_527 : (Cond.selects "HalfIsle$Island" ({ cls := "HalfIsle$Island", name := "missingValue", desc := "()I" } : MethodName) ({ cls := "HalfIsle$Island", name := "missingValue", desc := "()I" } : MethodName)) ∈ LW := lw3 47 rfl rfl
theorem u_528 : (Cond.code ({ cls := "HalfIsle$Island", name := "missingValue", desc := "()I" } : MethodName) prog_3_method_14_code (3 : Nat) (Option.some FieldType.int)) ∈ LW := lw3 48 rfl rfl
theorem u_529 : (Cond.methodLink "HalfIsle" (286 : Nat) ({ cls := "HalfIsle", name := "restCost", desc := "(IIII)I" } : MethodName)) ∈ LW := lw3 49 rfl rfl
theorem u_530 : (Cond.static ({ cls := "HalfIsle", name := "restCost", desc := "(IIII)I" } : MethodName)) ∈ LW := lw3 50 rfl rfl
theorem u_531 : (Cond.code ({ cls := "HalfIsle", name := "restCost", desc := "(IIII)I" } : MethodName) prog_1_method_76_code (4 : Nat) (Option.some FieldType.int)) ∈ LW := lw3 51 rfl rfl
theorem u_532 : (Cond.methodLink "HalfIsle" (280 : Nat) ({ cls := "HalfIsle", name := "roundedUp", desc := "(II)I" } : MethodName)) ∈ LW := lw3 52 rfl rfl
theorem u_533 : (Cond.methodLink "HalfIsleLaw" (229 : Nat) ({ cls := "HalfIsle", name := "due", desc := "()I" } : MethodName)) ∈ LW := lw3 53 rfl rfl
theorem u_534 : (Cond.instanceMethod ({ cls := "HalfIsle", name := "due", desc := "()I" } : MethodName)) ∈ LW := lw3 54 rfl rfl
theorem u_535 : (Cond.selects "HalfIsle" ({ cls := "HalfIsle", name := "due", desc := "()I" } : MethodName) ({ cls := "HalfIsle", name := "due", desc := "()I" } : MethodName)) ∈ LW := lw3 55 rfl rfl
theorem u_536 : (Cond.code ({ cls := "HalfIsle", name := "due", desc := "()I" } : MethodName) prog_1_method_32_code (1 : Nat) (Option.some FieldType.int)) ∈ LW := lw3 56 rfl rfl
theorem u_537 : (Cond.methodLink "HalfIsle" (290 : Nat) ({ cls := "HalfIsle$Island", name := "owedMore", desc := "()I" } : MethodName)) ∈ LW := lw3 57 rfl rfl
theorem u_538 : (Cond.methodLink "HalfIsleLaw" (251 : Nat) ({ cls := "HalfIsle", name := "parted", desc := "(Z)I" } : MethodName)) ∈ LW := lw3 58 rfl rfl
theorem u_539 : (Cond.instanceMethod ({ cls := "HalfIsle", name := "parted", desc := "(Z)I" } : MethodName)) ∈ LW := lw3 59 rfl rfl
theorem u_540 : (Cond.selects "HalfIsle" ({ cls := "HalfIsle", name := "parted", desc := "(Z)I" } : MethodName) ({ cls := "HalfIsle", name := "parted", desc := "(Z)I" } : MethodName)) ∈ LW := lw3 60 rfl rfl
theorem u_541 : (Cond.code ({ cls := "HalfIsle", name := "parted", desc := "(Z)I" } : MethodName) prog_1_method_39_code (7 : Nat) (Option.some FieldType.int)) ∈ LW := lw3 61 rfl rfl
theorem u_542 : (Cond.methodLink "HalfIsle" (255 : Nat) ({ cls := "HalfIsle$Sums", name := "fill", desc := "([I)V" } : MethodName)) ∈ LW := lw3 62 rfl rfl
theorem u_543 : (Cond.instanceMethod ({ cls := "HalfIsle$Sums", name := "fill", desc := "([I)V" } : MethodName)) ∈ LW := lw3 63 rfl rfl
theorem u_544 : (Cond.selects "HalfIsle$Sums" ({ cls := "HalfIsle$Sums", name := "fill", desc := "([I)V" } : MethodName) ({ cls := "HalfIsle$Sums", name := "fill", desc := "([I)V" } : MethodName)) ∈ LW := lw3 64 rfl rfl
theorem u_545 : (Cond.code ({ cls := "HalfIsle$Sums", name := "fill", desc := "([I)V" } : MethodName) prog_8_method_2_code (2 : Nat) (Option.none : Option FieldType)) ∈ LW := lw3 65 rfl rfl
theorem u_546 : (Cond.methodLink "HalfIsle$Sums" (16 : Nat) ({ cls := "HalfIsle$Sums", name := "fillHalf", desc := "([I[II)V" } : MethodName)) ∈ LW := lw3 66 rfl rfl
theorem u_547 : (Cond.static ({ cls := "HalfIsle$Sums", name := "fillHalf", desc := "([I[II)V" } : MethodName)) ∈ LW := lw3 67 rfl rfl
theorem u_548 : (Cond.code ({ cls := "HalfIsle$Sums", name := "fillHalf", desc := "([I[II)V" } : MethodName) prog_8_method_3_code (5 : Nat) (Option.none : Option FieldType)) ∈ LW := lw3 68 rfl rfl
theorem un_549 : (Cond.methodLinkNest "HalfIsle$Sums" (20 : Nat) ({ cls := "HalfIsle", name := "at", desc := "([II)I" } : MethodName) "HalfIsle") ∈ NW := nw3 69 rfl rfl
theorem un_550 : (Cond.methodLinkNest "HalfIsle$Sums" (26 : Nat) ({ cls := "HalfIsle", name := "put", desc := "([III)V" } : MethodName) "HalfIsle") ∈ NW := nw3 70 rfl rfl
theorem u_551 : (Cond.methodLink "HalfIsle" (304 : Nat) ({ cls := "HalfIsle", name := "total", desc := "([II)I" } : MethodName)) ∈ LW := lw3 71 rfl rfl
theorem u_552 : (Cond.methodLink "HalfIsle" (259 : Nat) ({ cls := "HalfIsle$Sums", name := "of", desc := "(I)I" } : MethodName)) ∈ LW := lw3 72 rfl rfl
theorem u_553 : (Cond.instanceMethod ({ cls := "HalfIsle$Sums", name := "of", desc := "(I)I" } : MethodName)) ∈ LW := lw3 73 rfl rfl
theorem u_554 : (Cond.selects "HalfIsle$Sums" ({ cls := "HalfIsle$Sums", name := "of", desc := "(I)I" } : MethodName) ({ cls := "HalfIsle$Sums", name := "of", desc := "(I)I" } : MethodName)) ∈ LW := lw3 74 rfl rfl
theorem u_555 : (Cond.code ({ cls := "HalfIsle$Sums", name := "of", desc := "(I)I" } : MethodName) prog_8_method_4_code (2 : Nat) (Option.some FieldType.int)) ∈ LW := lw3 75 rfl rfl
theorem u_556 : (Cond.methodLink "HalfIsleLaw" (255 : Nat) ({ cls := "HalfIsle", name := "clash", desc := "()I" } : MethodName)) ∈ LW := lw3 76 rfl rfl
theorem u_557 : (Cond.instanceMethod ({ cls := "HalfIsle", name := "clash", desc := "()I" } : MethodName)) ∈ LW := lw3 77 rfl rfl
theorem u_558 : (Cond.selects "HalfIsle" ({ cls := "HalfIsle", name := "clash", desc := "()I" } : MethodName) ({ cls := "HalfIsle", name := "clash", desc := "()I" } : MethodName)) ∈ LW := lw3 78 rfl rfl
theorem u_559 : (Cond.code ({ cls := "HalfIsle", name := "clash", desc := "()I" } : MethodName) prog_1_method_40_code (3 : Nat) (Option.some FieldType.int)) ∈ LW := lw3 79 rfl rfl
theorem u_560 : (Cond.methodLink "HalfIsleLaw" (259 : Nat) ({ cls := "HalfIsle", name := "full", desc := "()I" } : MethodName)) ∈ LW := lw3 80 rfl rfl
theorem u_561 : (Cond.instanceMethod ({ cls := "HalfIsle", name := "full", desc := "()I" } : MethodName)) ∈ LW := lw3 81 rfl rfl
theorem u_562 : (Cond.selects "HalfIsle" ({ cls := "HalfIsle", name := "full", desc := "()I" } : MethodName) ({ cls := "HalfIsle", name := "full", desc := "()I" } : MethodName)) ∈ LW := lw3 82 rfl rfl
theorem u_563 : (Cond.code ({ cls := "HalfIsle", name := "full", desc := "()I" } : MethodName) prog_1_method_41_code (3 : Nat) (Option.some FieldType.int)) ∈ LW := lw3 83 rfl rfl
theorem u_564 : (Cond.methodLink "HalfIsleLaw" (263 : Nat) ({ cls := "HalfIsle", name := "settles", desc := "()I" } : MethodName)) ∈ LW := lw3 84 rfl rfl
theorem u_565 : (Cond.instanceMethod ({ cls := "HalfIsle", name := "settles", desc := "()I" } : MethodName)) ∈ LW := lw3 85 rfl rfl
theorem u_566 : (Cond.selects "HalfIsle" ({ cls := "HalfIsle", name := "settles", desc := "()I" } : MethodName) ({ cls := "HalfIsle", name := "settles", desc := "()I" } : MethodName)) ∈ LW := lw3 86 rfl rfl
theorem u_567 : (Cond.code ({ cls := "HalfIsle", name := "settles", desc := "()I" } : MethodName) prog_1_method_42_code (1 : Nat) (Option.some FieldType.int)) ∈ LW := lw3 87 rfl rfl
theorem u_568 : (Cond.methodLink "HalfIsleLaw" (267 : Nat) ({ cls := "HalfIsle", name := "richest", desc := "()I" } : MethodName)) ∈ LW := lw3 88 rfl rfl
theorem u_569 : (Cond.instanceMethod ({ cls := "HalfIsle", name := "richest", desc := "()I" } : MethodName)) ∈ LW := lw3 89 rfl rfl
theorem u_570 : (Cond.selects "HalfIsle" ({ cls := "HalfIsle", name := "richest", desc := "()I" } : MethodName) ({ cls := "HalfIsle", name := "richest", desc := "()I" } : MethodName)) ∈ LW := lw3 90 rfl rfl
theorem u_571 : (Cond.code ({ cls := "HalfIsle", name := "richest", desc := "()I" } : MethodName) prog_1_method_43_code (5 : Nat) (Option.some FieldType.int)) ∈ LW := lw3 91 rfl rfl
theorem u_572 : (Cond.methodLink "HalfIsle" (310 : Nat) ({ cls := "HalfIsle$Island", name := "valueIn", desc := "(I)I" } : MethodName)) ∈ LW := lw3 92 rfl rfl
theorem u_573 : (Cond.instanceMethod ({ cls := "HalfIsle$Island", name := "valueIn", desc := "(I)I" } : MethodName)) ∈ LW := lw3 93 rfl rfl
theorem u_574 : (Cond.selects "HalfIsle$Island" ({ cls := "HalfIsle$Island", name := "valueIn", desc := "(I)I" } : MethodName) ({ cls := "HalfIsle$Island", name := "valueIn", desc := "(I)I" } : MethodName)) ∈ LW := lw3 94 rfl rfl
theorem u_575 : (Cond.code ({ cls := "HalfIsle$Island", name := "valueIn", desc := "(I)I" } : MethodName) prog_3_method_15_code (4 : Nat) (Option.some FieldType.int)) ∈ LW := lw3 95 rfl rfl
theorem u_576 : (Cond.methodLink "HalfIsleLaw" (278 : Nat) ({ cls := "HalfIsle", name := "like", desc := "()I" } : MethodName)) ∈ LW := lw3 96 rfl rfl
theorem u_577 : (Cond.instanceMethod ({ cls := "HalfIsle", name := "like", desc := "()I" } : MethodName)) ∈ LW := lw3 97 rfl rfl
theorem u_578 : (Cond.selects "HalfIsle" ({ cls := "HalfIsle", name := "like", desc := "()I" } : MethodName) ({ cls := "HalfIsle", name := "like", desc := "()I" } : MethodName)) ∈ LW := lw3 98 rfl rfl
theorem u_579 : (Cond.code ({ cls := "HalfIsle", name := "like", desc := "()I" } : MethodName) prog_1_method_46_code (3 : Nat) (Option.some FieldType.int)) ∈ LW := lw3 99 rfl rfl
theorem u_580 : (Cond.methodLink "HalfIsleLaw" (294 : Nat) ({ cls := "HalfIsle", name := "seed", desc := "(I)I" } : MethodName)) ∈ LW := lw3 100 rfl rfl
theorem u_581 : (Cond.instanceMethod ({ cls := "HalfIsle", name := "seed", desc := "(I)I" } : MethodName)) ∈ LW := lw3 101 rfl rfl
theorem u_582 : (Cond.selects "HalfIsle" ({ cls := "HalfIsle", name := "seed", desc := "(I)I" } : MethodName) ({ cls := "HalfIsle", name := "seed", desc := "(I)I" } : MethodName)) ∈ LW := lw3 102 rfl rfl
theorem u_583 : (Cond.code ({ cls := "HalfIsle", name := "seed", desc := "(I)I" } : MethodName) prog_1_method_51_code (3 : Nat) (Option.some FieldType.int)) ∈ LW := lw3 103 rfl rfl
theorem u_584 : (Cond.methodLink "HalfIsleLaw" (298 : Nat) ({ cls := "HalfIsle", name := "undo", desc := "()Z" } : MethodName)) ∈ LW := lw3 104 rfl rfl
theorem u_585 : (Cond.instanceMethod ({ cls := "HalfIsle", name := "undo", desc := "()Z" } : MethodName)) ∈ LW := lw3 105 rfl rfl
theorem u_586 : (Cond.selects "HalfIsle" ({ cls := "HalfIsle", name := "undo", desc := "()Z" } : MethodName) ({ cls := "HalfIsle", name := "undo", desc := "()Z" } : MethodName)) ∈ LW := lw3 106 rfl rfl
theorem u_587 : (Cond.code ({ cls := "HalfIsle", name := "undo", desc := "()Z" } : MethodName) prog_1_method_52_code (1 : Nat) (Option.some FieldType.boolean)) ∈ LW := lw3 107 rfl rfl
theorem u_588 : (Cond.methodLink "HalfIsleLaw" (303 : Nat) ({ cls := "HalfIsle", name := "image", desc := "()V" } : MethodName)) ∈ LW := lw3 108 rfl rfl
theorem u_589 : (Cond.instanceMethod ({ cls := "HalfIsle", name := "image", desc := "()V" } : MethodName)) ∈ LW := lw3 109 rfl rfl
theorem u_590 : (Cond.selects "HalfIsle" ({ cls := "HalfIsle", name := "image", desc := "()V" } : MethodName) ({ cls := "HalfIsle", name := "image", desc := "()V" } : MethodName)) ∈ LW := lw3 110 rfl rfl
theorem u_591 : (Cond.code ({ cls := "HalfIsle", name := "image", desc := "()V" } : MethodName) prog_1_method_53_code (1 : Nat) (Option.none : Option FieldType)) ∈ LW := lw3 111 rfl rfl
theorem u_592 : (Cond.methodLink "HalfIsle" (347 : Nat) ({ cls := "HalfIsle$Law", name := "copyFrom", desc := "(LHalfIsle$Law;)V" } : MethodName)) ∈ LW := lw3 112 rfl rfl
theorem u_593 : (Cond.instanceMethod ({ cls := "HalfIsle$Law", name := "copyFrom", desc := "(LHalfIsle$Law;)V" } : MethodName)) ∈ LW := lw3 113 rfl rfl
theorem u_594 : (Cond.selects "HalfIsle$Law" ({ cls := "HalfIsle$Law", name := "copyFrom", desc := "(LHalfIsle$Law;)V" } : MethodName) ({ cls := "HalfIsle$Law", name := "copyFrom", desc := "(LHalfIsle$Law;)V" } : MethodName)) ∈ LW := lw3 114 rfl rfl
theorem u_595 : (Cond.code ({ cls := "HalfIsle$Law", name := "copyFrom", desc := "(LHalfIsle$Law;)V" } : MethodName) prog_4_method_2_code (2 : Nat) (Option.none : Option FieldType)) ∈ LW := lw3 115 rfl rfl
theorem un_596 : (Cond.methodLinkNest "HalfIsle$Law" (34 : Nat) ({ cls := "HalfIsle", name := "copyRow", desc := "([I[I)V" } : MethodName) "HalfIsle") ∈ NW := nw3 116 rfl rfl
theorem u_597 : (Cond.methodLink "HalfIsleLaw" (307 : Nat) ({ cls := "HalfIsle", name := "back", desc := "()Z" } : MethodName)) ∈ LW := lw3 117 rfl rfl
theorem u_598 : (Cond.instanceMethod ({ cls := "HalfIsle", name := "back", desc := "()Z" } : MethodName)) ∈ LW := lw3 118 rfl rfl
theorem u_599 : (Cond.selects "HalfIsle" ({ cls := "HalfIsle", name := "back", desc := "()Z" } : MethodName) ({ cls := "HalfIsle", name := "back", desc := "()Z" } : MethodName)) ∈ LW := lw3 119 rfl rfl
theorem u_600 : (Cond.code ({ cls := "HalfIsle", name := "back", desc := "()Z" } : MethodName) prog_1_method_54_code (1 : Nat) (Option.some FieldType.boolean)) ∈ LW := lw3 120 rfl rfl
theorem u_601 : (Cond.methodLink "HalfIsleLaw" (311 : Nat) ({ cls := "HalfIsle", name := "count", desc := "(I)I" } : MethodName)) ∈ LW := lw3 121 rfl rfl
theorem u_602 : (Cond.instanceMethod ({ cls := "HalfIsle", name := "count", desc := "(I)I" } : MethodName)) ∈ LW := lw3 122 rfl rfl
theorem u_603 : (Cond.selects "HalfIsle" ({ cls := "HalfIsle", name := "count", desc := "(I)I" } : MethodName) ({ cls := "HalfIsle", name := "count", desc := "(I)I" } : MethodName)) ∈ LW := lw3 123 rfl rfl
theorem u_604 : (Cond.code ({ cls := "HalfIsle", name := "count", desc := "(I)I" } : MethodName) prog_1_method_55_code (2 : Nat) (Option.some FieldType.int)) ∈ LW := lw3 124 rfl rfl
theorem u_605 : (Cond.methodLink "HalfIsle" (353 : Nat) ({ cls := "HalfIsle$Island", name := "there", desc := "()I" } : MethodName)) ∈ LW := lw3 125 rfl rfl
theorem u_606 : (Cond.methodLink "HalfIsleLaw" (124 : Nat) ({ cls := "HalfIsleLaw", name := "deed", desc := "(LHalfIsle;[J)I" } : MethodName)) ∈ LW := lw3 126 rfl rfl
theorem u_607 : (Cond.static ({ cls := "HalfIsleLaw", name := "deed", desc := "(LHalfIsle;[J)I" } : MethodName)) ∈ LW := lw3 127 rfl rfl
theorem u_608 : (Cond.codeWith ({ cls := "HalfIsleLaw", name := "deed", desc := "(LHalfIsle;[J)I" } : MethodName) method_3_code (3 : Nat) (Option.some FieldType.int) [((0 : Nat), (8 : Nat), (11 : Nat), (13 : Nat)), ((0 : Nat), (8 : Nat), (14 : Nat), (15 : Nat))]) ∈ LW := lw3 128 rfl rfl
theorem u_609 : (Cond.classLink "HalfIsleLaw" (13 : Nat) "java/lang/IllegalArgumentException") ∈ LW := lw3 129 rfl rfl
theorem u_610 : (Cond.classLink "HalfIsleLaw" (15 : Nat) "java/lang/UnsupportedOperationException") ∈ LW := lw3 130 rfl rfl
theorem u_611 : (Cond.methodLink "HalfIsleLaw" (7 : Nat) ({ cls := "HalfIsle", name := "deed", desc := "()I" } : MethodName)) ∈ LW := lw3 131 rfl rfl
theorem u_612 : (Cond.instanceMethod ({ cls := "HalfIsle", name := "deed", desc := "()I" } : MethodName)) ∈ LW := lw3 132 rfl rfl
theorem u_613 : (Cond.selects "HalfIsle" ({ cls := "HalfIsle", name := "deed", desc := "()I" } : MethodName) ({ cls := "HalfIsle", name := "deed", desc := "()I" } : MethodName)) ∈ LW := lw3 133 rfl rfl
theorem u_614 : (Cond.code ({ cls := "HalfIsle", name := "deed", desc := "()I" } : MethodName) prog_1_method_4_code (1 : Nat) (Option.some FieldType.int)) ∈ LW := lw3 134 rfl rfl
theorem u_615 : (Cond.methodLink "HalfIsle" (98 : Nat) ({ cls := "HalfIsle", name := "usedTape", desc := "()I" } : MethodName)) ∈ LW := lw3 135 rfl rfl
theorem u_617 : (Cond.instanceMethod ({ cls := "HalfIsle", name := "usedTape", desc := "()I" } : MethodName)) ∈ LW := lw3 137 rfl rfl
theorem u_618 : (Cond.code ({ cls := "HalfIsle", name := "usedTape", desc := "()I" } : MethodName) prog_1_method_66_code (2 : Nat) (Option.some FieldType.int)) ∈ LW := lw3 138 rfl rfl
theorem u_619 : (Cond.methodLink "HalfIsle" (102 : Nat) ({ cls := "HalfIsle$DeedReader", name := "readText", desc := "([IILHalfIsle$Island;)I" } : MethodName)) ∈ LW := lw3 139 rfl rfl
theorem u_620 : (Cond.instanceMethod ({ cls := "HalfIsle$DeedReader", name := "readText", desc := "([IILHalfIsle$Island;)I" } : MethodName)) ∈ LW := lw3 140 rfl rfl
theorem u_621 : (Cond.selects "HalfIsle$DeedReader" ({ cls := "HalfIsle$DeedReader", name := "readText", desc := "([IILHalfIsle$Island;)I" } : MethodName) ({ cls := "HalfIsle$DeedReader", name := "readText", desc := "([IILHalfIsle$Island;)I" } : MethodName)) ∈ LW := lw3 141 rfl rfl
theorem u_622 : (Cond.code ({ cls := "HalfIsle$DeedReader", name := "readText", desc := "([IILHalfIsle$Island;)I" } : MethodName) prog_2_method_2_code (6 : Nat) (Option.some FieldType.int)) ∈ LW := lw3 142 rfl rfl
theorem u_623 : (Cond.methodLink "HalfIsle$DeedReader" (18 : Nat) ({ cls := "HalfIsle$Reader", name := "open", desc := "([II)V" } : MethodName)) ∈ LW := lw3 143 rfl rfl
theorem u_624 : (Cond.instanceMethod ({ cls := "HalfIsle$Reader", name := "open", desc := "([II)V" } : MethodName)) ∈ LW := lw3 144 rfl rfl
theorem u_625 : (Cond.selects "HalfIsle$Reader" ({ cls := "HalfIsle$Reader", name := "open", desc := "([II)V" } : MethodName) ({ cls := "HalfIsle$Reader", name := "open", desc := "([II)V" } : MethodName)) ∈ LW := lw3 145 rfl rfl
theorem u_626 : (Cond.code ({ cls := "HalfIsle$Reader", name := "open", desc := "([II)V" } : MethodName) prog_7_method_2_code (3 : Nat) (Option.none : Option FieldType)) ∈ LW := lw3 146 rfl rfl
theorem un_627 : (Cond.methodLinkNest "HalfIsle$Reader" (28 : Nat) ({ cls := "HalfIsle", name := "copyRow", desc := "([I[I)V" } : MethodName) "HalfIsle") ∈ NW := nw3 147 rfl rfl
theorem u_628 : (Cond.methodLink "HalfIsle$Reader" (32 : Nat) ({ cls := "java/lang/Math", name := "min", desc := "(II)I" } : MethodName)) ∈ LW := lw3 148 rfl rfl
theorem u_629 : (Cond.methodLink "HalfIsle$Reader" (38 : Nat) ({ cls := "HalfIsle$Reader", name := "step", desc := "()V" } : MethodName)) ∈ LW := lw3 149 rfl rfl
theorem u_630 : (Cond.instanceMethod ({ cls := "HalfIsle$Reader", name := "step", desc := "()V" } : MethodName)) ∈ LW := lw3 150 rfl rfl
theorem u_631 : (Cond.selects "HalfIsle$Reader" ({ cls := "HalfIsle$Reader", name := "step", desc := "()V" } : MethodName) ({ cls := "HalfIsle$Reader", name := "step", desc := "()V" } : MethodName)) ∈ LW := lw3 151 rfl rfl
theorem u_632 : (Cond.code ({ cls := "HalfIsle$Reader", name := "step", desc := "()V" } : MethodName) prog_7_method_3_code (7 : Nat) (Option.none : Option FieldType)) ∈ LW := lw3 152 rfl rfl
theorem u_633 : (Cond.methodLink "HalfIsle$Reader" (41 : Nat) ({ cls := "java/lang/Math", name := "max", desc := "(II)I" } : MethodName)) ∈ LW := lw3 153 rfl rfl
theorem u_634 : (Cond.methodLink "HalfIsle$DeedReader" (22 : Nat) ({ cls := "HalfIsle$Reader", name := "isEnd", desc := "()Z" } : MethodName)) ∈ LW := lw3 154 rfl rfl
theorem u_635 : (Cond.instanceMethod ({ cls := "HalfIsle$Reader", name := "isEnd", desc := "()Z" } : MethodName)) ∈ LW := lw3 155 rfl rfl
theorem u_636 : (Cond.selects "HalfIsle$Reader" ({ cls := "HalfIsle$Reader", name := "isEnd", desc := "()Z" } : MethodName) ({ cls := "HalfIsle$Reader", name := "isEnd", desc := "()Z" } : MethodName)) ∈ LW := lw3 156 rfl rfl
theorem u_637 : (Cond.code ({ cls := "HalfIsle$Reader", name := "isEnd", desc := "()Z" } : MethodName) prog_7_method_5_code (1 : Nat) (Option.some FieldType.boolean)) ∈ LW := lw3 157 rfl rfl
theorem u_638 : (Cond.methodLink "HalfIsle$DeedReader" (26 : Nat) ({ cls := "HalfIsle$Reader", name := "refuse", desc := "()V" } : MethodName)) ∈ LW := lw3 158 rfl rfl
theorem u_639 : (Cond.instanceMethod ({ cls := "HalfIsle$Reader", name := "refuse", desc := "()V" } : MethodName)) ∈ LW := lw3 159 rfl rfl
theorem u_640 : (Cond.selects "HalfIsle$Reader" ({ cls := "HalfIsle$Reader", name := "refuse", desc := "()V" } : MethodName) ({ cls := "HalfIsle$Reader", name := "refuse", desc := "()V" } : MethodName)) ∈ LW := lw3 160 rfl rfl
theorem u_641 : (Cond.code ({ cls := "HalfIsle$Reader", name := "refuse", desc := "()V" } : MethodName) prog_7_method_10_code (1 : Nat) (Option.none : Option FieldType)) ∈ LW := lw3 161 rfl rfl
theorem u_642 : (Cond.methodLink "HalfIsle$DeedReader" (29 : Nat) ({ cls := "HalfIsle$DeedReader", name := "readLine", desc := "(LHalfIsle$Island;)V" } : MethodName)) ∈ LW := lw3 162 rfl rfl
theorem u_644 : (Cond.instanceMethod ({ cls := "HalfIsle$DeedReader", name := "readLine", desc := "(LHalfIsle$Island;)V" } : MethodName)) ∈ LW := lw3 164 rfl rfl
theorem u_645 : (Cond.code ({ cls := "HalfIsle$DeedReader", name := "readLine", desc := "(LHalfIsle$Island;)V" } : MethodName) prog_2_method_3_code (2 : Nat) (Option.none : Option FieldType)) ∈ LW := lw3 165 rfl rfl
theorem u_647 : (Cond.methodLink "HalfIsle$DeedReader" (48 : Nat) ({ cls := "HalfIsle$Reader", name := "isAt", desc := "(Ljava/lang/String;)Z" } : MethodName)) ∈ LW := lw3 167 rfl rfl
theorem u_648 : (Cond.instanceMethod ({ cls := "HalfIsle$Reader", name := "isAt", desc := "(Ljava/lang/String;)Z" } : MethodName)) ∈ LW := lw3 168 rfl rfl
theorem u_649 : (Cond.selects "HalfIsle$Reader" ({ cls := "HalfIsle$Reader", name := "isAt", desc := "(Ljava/lang/String;)Z" } : MethodName) ({ cls := "HalfIsle$Reader", name := "isAt", desc := "(Ljava/lang/String;)Z" } : MethodName)) ∈ LW := lw3 169 rfl rfl
theorem u_650 : (Cond.code ({ cls := "HalfIsle$Reader", name := "isAt", desc := "(Ljava/lang/String;)Z" } : MethodName) prog_7_method_7_code (5 : Nat) (Option.some FieldType.boolean)) ∈ LW := lw3 170 rfl rfl
theorem u_651 : (Cond.methodLink "HalfIsle$Reader" (44 : Nat) ({ cls := "java/lang/String", name := "length", desc := "()I" } : MethodName)) ∈ LW := lw3 171 rfl rfl
theorem u_652 : (Cond.instanceMethod ({ cls := "java/lang/String", name := "length", desc := "()I" } : MethodName)) ∈ LW := lw3 172 rfl rfl
theorem u_653 : (Cond.selects "java/lang/String" ({ cls := "java/lang/String", name := "length", desc := "()I" } : MethodName) ({ cls := "java/lang/String", name := "length", desc := "()I" } : MethodName)) ∈ LW := lw3 173 rfl rfl
theorem u_654 : (Cond.code ({ cls := "java/lang/String", name := "length", desc := "()I" } : MethodName) prog_20_method_54_code (1 : Nat) (Option.some FieldType.int)) ∈ LW := lw3 174 rfl rfl
theorem u_655 : (Cond.methodLink "java/lang/String" (335 : Nat) ({ cls := "java/lang/String", name := "coder", desc := "()B" } : MethodName)) ∈ LW := lw3 175 rfl rfl
theorem u_656 : (Cond.instanceMethod ({ cls := "java/lang/String", name := "coder", desc := "()B" } : MethodName)) ∈ LW := lw3 176 rfl rfl
theorem u_657 : (Cond.selects "java/lang/String" ({ cls := "java/lang/String", name := "coder", desc := "()B" } : MethodName) ({ cls := "java/lang/String", name := "coder", desc := "()B" } : MethodName)) ∈ LW := lw3 177 rfl rfl
theorem u_658 : (Cond.code ({ cls := "java/lang/String", name := "coder", desc := "()B" } : MethodName) prog_20_method_152_code (1 : Nat) (Option.some FieldType.byte)) ∈ LW := lw3 178 rfl rfl
theorem u_659 : (Cond.fieldLink "java/lang/String" (38 : Nat) "java/lang/String" "COMPACT_STRINGS" "Z") ∈ LW := lw3 179 rfl rfl
theorem u_661 : (Cond.methodLink "HalfIsle$Reader" (49 : Nat) ({ cls := "java/lang/String", name := "charAt", desc := "(I)C" } : MethodName)) ∈ LW := lw3 181 rfl rfl
theorem u_662 : (Cond.instanceMethod ({ cls := "java/lang/String", name := "charAt", desc := "(I)C" } : MethodName)) ∈ LW := lw3 182 rfl rfl
theorem u_663 : (Cond.selects "java/lang/String" ({ cls := "java/lang/String", name := "charAt", desc := "(I)C" } : MethodName) ({ cls := "java/lang/String", name := "charAt", desc := "(I)C" } : MethodName)) ∈ LW := lw3 183 rfl rfl
theorem u_664 : (Cond.code ({ cls := "java/lang/String", name := "charAt", desc := "(I)C" } : MethodName) prog_20_method_56_code (2 : Nat) (Option.some FieldType.char)) ∈ LW := lw3 184 rfl rfl
theorem u_665 : (Cond.methodLink "java/lang/String" (492 : Nat) ({ cls := "java/lang/String", name := "isLatin1", desc := "()Z" } : MethodName)) ∈ LW := lw3 185 rfl rfl
theorem u_666 : (Cond.instanceMethod ({ cls := "java/lang/String", name := "isLatin1", desc := "()Z" } : MethodName)) ∈ LW := lw3 186 rfl rfl
theorem u_667 : (Cond.selects "java/lang/String" ({ cls := "java/lang/String", name := "isLatin1", desc := "()Z" } : MethodName) ({ cls := "java/lang/String", name := "isLatin1", desc := "()Z" } : MethodName)) ∈ LW := lw3 187 rfl rfl
theorem u_668 : (Cond.code ({ cls := "java/lang/String", name := "isLatin1", desc := "()Z" } : MethodName) prog_20_method_154_code (1 : Nat) (Option.some FieldType.boolean)) ∈ LW := lw3 188 rfl rfl
theorem u_669 : (Cond.methodLink "java/lang/String" (495 : Nat) ({ cls := "java/lang/StringLatin1", name := "charAt", desc := "([BI)C" } : MethodName)) ∈ LW := lw3 189 rfl rfl
theorem u_670 : (Cond.static ({ cls := "java/lang/StringLatin1", name := "charAt", desc := "([BI)C" } : MethodName)) ∈ LW := lw3 190 rfl rfl
theorem u_671 : (Cond.code ({ cls := "java/lang/StringLatin1", name := "charAt", desc := "([BI)C" } : MethodName) prog_21_method_2_code (2 : Nat) (Option.some FieldType.char)) ∈ LW := lw3 191 rfl rfl
theorem u_672 : (Cond.methodLink "java/lang/StringLatin1" (9 : Nat) ({ cls := "java/lang/String", name := "checkIndex", desc := "(II)V" } : MethodName)) ∈ LW := lw3 192 rfl rfl
theorem u_673 : (Cond.static ({ cls := "java/lang/String", name := "checkIndex", desc := "(II)V" } : MethodName)) ∈ LW := lw3 193 rfl rfl
theorem u_674 : (Cond.code ({ cls := "java/lang/String", name := "checkIndex", desc := "(II)V" } : MethodName) prog_20_method_155_code (2 : Nat) (Option.none : Option FieldType)) ∈ LW := lw3 194 rfl rfl
theorem u_675 : (Cond.fieldLink "java/lang/String" (1053 : Nat) "jdk/internal/util/Preconditions" "SIOOBE_FORMATTER" "Ljava/util/function/BiFunction;") ∈ LW := lw3 195 rfl rfl
theorem u_677 : (Cond.methodLink "java/lang/String" (1059 : Nat) ({ cls := "jdk/internal/util/Preconditions", name := "checkIndex", desc := "(IILjava/util/function/BiFunction;)I" } : MethodName)) ∈ LW := lw3 197 rfl rfl
theorem u_678 : (Cond.static ({ cls := "jdk/internal/util/Preconditions", name := "checkIndex", desc := "(IILjava/util/function/BiFunction;)I" } : MethodName)) ∈ LW := lw3 198 rfl rfl
theorem u_679 : (Cond.code ({ cls := "jdk/internal/util/Preconditions", name := "checkIndex", desc := "(IILjava/util/function/BiFunction;)I" } : MethodName) prog_29_method_11_code (3 : Nat) (Option.some FieldType.int)) ∈ LW := lw3 199 rfl rfl
theorem u_680 : (Cond.methodLink "java/lang/String" (498 : Nat) ({ cls := "java/lang/StringUTF16", name := "charAt", desc := "([BI)C" } : MethodName)) ∈ LW := lw3 200 rfl rfl
theorem u_681 : (Cond.static ({ cls := "java/lang/StringUTF16", name := "charAt", desc := "([BI)C" } : MethodName)) ∈ LW := lw3 201 rfl rfl
theorem u_682 : (Cond.code ({ cls := "java/lang/StringUTF16", name := "charAt", desc := "([BI)C" } : MethodName) prog_22_method_83_code (2 : Nat) (Option.some FieldType.char)) ∈ LW := lw3 202 rfl rfl
theorem u_683 : (Cond.methodLink "java/lang/StringUTF16" (67 : Nat) ({ cls := "java/lang/StringUTF16", name := "checkIndex", desc := "(I[B)V" } : MethodName)) ∈ LW := lw3 203 rfl rfl
theorem u_684 : (Cond.static ({ cls := "java/lang/StringUTF16", name := "checkIndex", desc := "(I[B)V" } : MethodName)) ∈ LW := lw3 204 rfl rfl
theorem u_685 : (Cond.code ({ cls := "java/lang/StringUTF16", name := "checkIndex", desc := "(I[B)V" } : MethodName) prog_22_method_91_code (2 : Nat) (Option.none : Option FieldType)) ∈ LW := lw3 205 rfl rfl
theorem u_686 : (Cond.methodLink "java/lang/StringUTF16" (48 : Nat) ({ cls := "java/lang/StringUTF16", name := "length", desc := "([B)I" } : MethodName)) ∈ LW := lw3 206 rfl rfl
theorem u_687 : (Cond.static ({ cls := "java/lang/StringUTF16", name := "length", desc := "([B)I" } : MethodName)) ∈ LW := lw3 207 rfl rfl
theorem u_688 : (Cond.code ({ cls := "java/lang/StringUTF16", name := "length", desc := "([B)I" } : MethodName) prog_22_method_6_code (1 : Nat) (Option.some FieldType.int)) ∈ LW := lw3 208 rfl rfl
theorem u_689 : (Cond.methodLink "java/lang/StringUTF16" (414 : Nat) ({ cls := "java/lang/String", name := "checkIndex", desc := "(II)V" } : MethodName)) ∈ LW := lw3 209 rfl rfl
theorem u_690 : (Cond.methodLink "java/lang/StringUTF16" (71 : Nat) ({ cls := "java/lang/StringUTF16", name := "getChar", desc := "([BI)C" } : MethodName)) ∈ LW := lw3 210 rfl rfl
theorem u_691 : (Cond.static ({ cls := "java/lang/StringUTF16", name := "getChar", desc := "([BI)C" } : MethodName)) ∈ LW := lw3 211 rfl rfl
theorem u_692 : (Cond.code ({ cls := "java/lang/StringUTF16", name := "getChar", desc := "([BI)C" } : MethodName) prog_22_method_5_code (2 : Nat) (Option.some FieldType.char)) ∈ LW := lw3 212 rfl rfl
theorem u_693 : (Cond.fieldLink "java/lang/StringUTF16" (44 : Nat) "java/lang/StringUTF16" "$assertionsDisabled" "Z") ∈ LW := lw3 213 rfl rfl
theorem u_695 : (Cond.fieldLink "java/lang/StringUTF16" (59 : Nat) "java/lang/StringUTF16" "HI_BYTE_SHIFT" "I") ∈ LW := lw3 215 rfl rfl
theorem u_697 : (Cond.fieldLink "java/lang/StringUTF16" (63 : Nat) "java/lang/StringUTF16" "LO_BYTE_SHIFT" "I") ∈ LW := lw3 217 rfl rfl
theorem u_699 : (Cond.methodLink "HalfIsle$DeedReader" (51 : Nat) ({ cls := "HalfIsle$DeedReader", name := "readItem", desc := "(LHalfIsle$Island;)V" } : MethodName)) ∈ LW := lw3 219 rfl rfl
theorem u_701 : (Cond.instanceMethod ({ cls := "HalfIsle$DeedReader", name := "readItem", desc := "(LHalfIsle$Island;)V" } : MethodName)) ∈ LW := lw3 221 rfl rfl
theorem u_702 : (Cond.code ({ cls := "HalfIsle$DeedReader", name := "readItem", desc := "(LHalfIsle$Island;)V" } : MethodName) prog_2_method_5_code (6 : Nat) (Option.none : Option FieldType)) ∈ LW := lw3 222 rfl rfl
theorem u_703 : (Cond.methodLink "HalfIsle$DeedReader" (95 : Nat) ({ cls := "HalfIsle$Reader", name := "needs", desc := "(Ljava/lang/String;)V" } : MethodName)) ∈ LW := lw3 223 rfl rfl
theorem u_704 : (Cond.instanceMethod ({ cls := "HalfIsle$Reader", name := "needs", desc := "(Ljava/lang/String;)V" } : MethodName)) ∈ LW := lw3 224 rfl rfl
theorem u_705 : (Cond.selects "HalfIsle$Reader" ({ cls := "HalfIsle$Reader", name := "needs", desc := "(Ljava/lang/String;)V" } : MethodName) ({ cls := "HalfIsle$Reader", name := "needs", desc := "(Ljava/lang/String;)V" } : MethodName)) ∈ LW := lw3 225 rfl rfl
theorem u_706 : (Cond.code ({ cls := "HalfIsle$Reader", name := "needs", desc := "(Ljava/lang/String;)V" } : MethodName) prog_7_method_9_code (2 : Nat) (Option.none : Option FieldType)) ∈ LW := lw3 226 rfl rfl
theorem u_707 : (Cond.methodLink "HalfIsle$Reader" (57 : Nat) ({ cls := "HalfIsle$Reader", name := "takes", desc := "(Ljava/lang/String;)Z" } : MethodName)) ∈ LW := lw3 227 rfl rfl
theorem u_708 : (Cond.instanceMethod ({ cls := "HalfIsle$Reader", name := "takes", desc := "(Ljava/lang/String;)Z" } : MethodName)) ∈ LW := lw3 228 rfl rfl
theorem u_709 : (Cond.selects "HalfIsle$Reader" ({ cls := "HalfIsle$Reader", name := "takes", desc := "(Ljava/lang/String;)Z" } : MethodName) ({ cls := "HalfIsle$Reader", name := "takes", desc := "(Ljava/lang/String;)Z" } : MethodName)) ∈ LW := lw3 229 rfl rfl
theorem u_710 : (Cond.code ({ cls := "HalfIsle$Reader", name := "takes", desc := "(Ljava/lang/String;)Z" } : MethodName) prog_7_method_8_code (2 : Nat) (Option.some FieldType.boolean)) ∈ LW := lw3 230 rfl rfl
theorem u_711 : (Cond.methodLink "HalfIsle$Reader" (53 : Nat) ({ cls := "HalfIsle$Reader", name := "isAt", desc := "(Ljava/lang/String;)Z" } : MethodName)) ∈ LW := lw3 231 rfl rfl
theorem u_712 : (Cond.methodLink "HalfIsle$Reader" (60 : Nat) ({ cls := "HalfIsle$Reader", name := "refuse", desc := "()V" } : MethodName)) ∈ LW := lw3 232 rfl rfl
theorem u_713 : (Cond.methodLink "HalfIsle$DeedReader" (82 : Nat) ({ cls := "HalfIsle$Reader", name := "number", desc := "(II)I" } : MethodName)) ∈ LW := lw3 233 rfl rfl
theorem u_714 : (Cond.instanceMethod ({ cls := "HalfIsle$Reader", name := "number", desc := "(II)I" } : MethodName)) ∈ LW := lw3 234 rfl rfl
theorem u_715 : (Cond.selects "HalfIsle$Reader" ({ cls := "HalfIsle$Reader", name := "number", desc := "(II)I" } : MethodName) ({ cls := "HalfIsle$Reader", name := "number", desc := "(II)I" } : MethodName)) ∈ LW := lw3 235 rfl rfl
theorem u_716 : (Cond.code ({ cls := "HalfIsle$Reader", name := "number", desc := "(II)I" } : MethodName) prog_7_method_11_code (6 : Nat) (Option.some FieldType.int)) ∈ LW := lw3 236 rfl rfl
theorem u_717 : (Cond.methodLink "HalfIsle$Reader" (63 : Nat) ({ cls := "HalfIsle$Reader", name := "isNumber", desc := "()Z" } : MethodName)) ∈ LW := lw3 237 rfl rfl
theorem u_718 : (Cond.instanceMethod ({ cls := "HalfIsle$Reader", name := "isNumber", desc := "()Z" } : MethodName)) ∈ LW := lw3 238 rfl rfl
theorem u_719 : (Cond.selects "HalfIsle$Reader" ({ cls := "HalfIsle$Reader", name := "isNumber", desc := "()Z" } : MethodName) ({ cls := "HalfIsle$Reader", name := "isNumber", desc := "()Z" } : MethodName)) ∈ LW := lw3 239 rfl rfl
theorem u_720 : (Cond.code ({ cls := "HalfIsle$Reader", name := "isNumber", desc := "()Z" } : MethodName) prog_7_method_6_code (1 : Nat) (Option.some FieldType.boolean)) ∈ LW := lw4 0 rfl rfl
theorem u_724 : (Cond.methodLink "HalfIsle$DeedReader" (38 : Nat) ({ cls := "HalfIsle$Reader", name := "takes", desc := "(Ljava/lang/String;)Z" } : MethodName)) ∈ LW := lw4 4 rfl rfl
theorem u_725 : (Cond.methodLink "HalfIsle$DeedReader" (105 : Nat) ({ cls := "HalfIsle$Island", name := "addItem", desc := "(IIII)V" } : MethodName)) ∈ LW := lw4 5 rfl rfl
theorem u_726 : (Cond.instanceMethod ({ cls := "HalfIsle$Island", name := "addItem", desc := "(IIII)V" } : MethodName)) ∈ LW := lw4 6 rfl rfl
theorem u_727 : (Cond.selects "HalfIsle$Island" ({ cls := "HalfIsle$Island", name := "addItem", desc := "(IIII)V" } : MethodName) ({ cls := "HalfIsle$Island", name := "addItem", desc := "(IIII)V" } : MethodName)) ∈ LW := lw4 7 rfl rfl
theorem u_728 : (Cond.code ({ cls := "HalfIsle$Island", name := "addItem", desc := "(IIII)V" } : MethodName) prog_3_method_3_code (5 : Nat) (Option.none : Option FieldType)) ∈ LW := lw4 8 rfl rfl
theorem u_730 : (Cond.methodLink "HalfIsle$DeedReader" (61 : Nat) ({ cls := "HalfIsle$DeedReader", name := "readCell", desc := "([III)V" } : MethodName)) ∈ LW := lw4 10 rfl rfl
theorem u_732 : (Cond.instanceMethod ({ cls := "HalfIsle$DeedReader", name := "readCell", desc := "([III)V" } : MethodName)) ∈ LW := lw4 12 rfl rfl
theorem u_733 : (Cond.code ({ cls := "HalfIsle$DeedReader", name := "readCell", desc := "([III)V" } : MethodName) prog_2_method_4_code (5 : Nat) (Option.none : Option FieldType)) ∈ LW := lw4 13 rfl rfl
theorem un_734 : (Cond.methodLinkNest "HalfIsle$DeedReader" (92 : Nat) ({ cls := "HalfIsle", name := "put", desc := "([III)V" } : MethodName) "HalfIsle") ∈ NW := nw4 14 rfl rfl
theorem u_740 : (Cond.methodLink "HalfIsle$DeedReader" (33 : Nat) ({ cls := "HalfIsle$Reader", name := "isRight", desc := "()Z" } : MethodName)) ∈ LW := lw4 20 rfl rfl
theorem u_741 : (Cond.instanceMethod ({ cls := "HalfIsle$Reader", name := "isRight", desc := "()Z" } : MethodName)) ∈ LW := lw4 21 rfl rfl
theorem u_742 : (Cond.selects "HalfIsle$Reader" ({ cls := "HalfIsle$Reader", name := "isRight", desc := "()Z" } : MethodName) ({ cls := "HalfIsle$Reader", name := "isRight", desc := "()Z" } : MethodName)) ∈ LW := lw4 22 rfl rfl
theorem u_743 : (Cond.code ({ cls := "HalfIsle$Reader", name := "isRight", desc := "()Z" } : MethodName) prog_7_method_4_code (1 : Nat) (Option.some FieldType.boolean)) ∈ LW := lw4 23 rfl rfl
theorem u_745 : (Cond.classLink "HalfIsle" (106 : Nat) "java/lang/IllegalArgumentException") ∈ LW := lw4 25 rfl rfl
theorem u_746 : (Cond.instantiable "java/lang/IllegalArgumentException" (6 : Nat)) ∈ LW := lw4 26 rfl rfl
theorem un_747 : (Cond.castable "java/lang/IllegalArgumentException" "java/lang/IllegalArgumentException") ∈ NW := nw4 27 rfl rfl
theorem u_754 : (Cond.selects "java/lang/IllegalArgumentException" ({ cls := "java/lang/Throwable", name := "fillInStackTrace", desc := "(I)Ljava/lang/Throwable;" } : MethodName) ({ cls := "java/lang/Throwable", name := "fillInStackTrace", desc := "(I)Ljava/lang/Throwable;" } : MethodName)) ∈ LW := lw4 34 rfl rfl
theorem u_755 : (Cond.selects "java/lang/IllegalArgumentException" ({ cls := "java/lang/Throwable", name := "fillInStackTrace", desc := "()Ljava/lang/Throwable;" } : MethodName) ({ cls := "java/lang/Throwable", name := "fillInStackTrace", desc := "()Ljava/lang/Throwable;" } : MethodName)) ∈ LW := lw4 35 rfl rfl
theorem u_756 : (Cond.lays "java/lang/IllegalArgumentException" "java/lang/Throwable" "cause" "Ljava/lang/Throwable;") ∈ LW := lw4 36 rfl rfl
theorem u_757 : (Cond.lays "java/lang/Throwable" "java/lang/Throwable" "cause" "Ljava/lang/Throwable;") ∈ LW := lw4 37 rfl rfl
theorem u_758 : (Cond.lays "java/lang/IllegalArgumentException" "java/lang/Throwable" "stackTrace" "[Ljava/lang/StackTraceElement;") ∈ LW := lw4 38 rfl rfl
theorem u_759 : (Cond.lays "java/lang/Throwable" "java/lang/Throwable" "stackTrace" "[Ljava/lang/StackTraceElement;") ∈ LW := lw4 39 rfl rfl
theorem u_760 : (Cond.lays "java/lang/IllegalArgumentException" "java/lang/Throwable" "suppressedExceptions" "Ljava/util/List;") ∈ LW := lw4 40 rfl rfl
theorem u_761 : (Cond.lays "java/lang/Throwable" "java/lang/Throwable" "suppressedExceptions" "Ljava/util/List;") ∈ LW := lw4 41 rfl rfl
theorem u_762 : (Cond.lays "java/lang/IllegalArgumentException" "java/lang/Throwable" "detailMessage" "Ljava/lang/String;") ∈ LW := lw4 42 rfl rfl
theorem u_763 : (Cond.lays "java/lang/Throwable" "java/lang/Throwable" "detailMessage" "Ljava/lang/String;") ∈ LW := lw4 43 rfl rfl
theorem u_764 : (Cond.lays "java/lang/IllegalArgumentException" "java/lang/Throwable" "backtrace" "Ljava/lang/Object;") ∈ LW := lw4 44 rfl rfl
theorem u_765 : (Cond.lays "java/lang/Throwable" "java/lang/Throwable" "backtrace" "Ljava/lang/Object;") ∈ LW := lw4 45 rfl rfl
theorem u_766 : (Cond.fieldLink "java/lang/Throwable" (198 : Nat) "java/lang/Throwable" "backtrace" "Ljava/lang/Object;") ∈ LW := lw4 46 rfl rfl
theorem u_768 : (Cond.instanceMethod ({ cls := "java/lang/Throwable", name := "<init>", desc := "()V" } : MethodName)) ∈ LW := lw4 48 rfl rfl
theorem u_769 : (Cond.code ({ cls := "java/lang/Throwable", name := "<init>", desc := "()V" } : MethodName) prog_24_method_1_code (1 : Nat) (Option.none : Option FieldType)) ∈ LW := lw4 49 rfl rfl
theorem u_770 : (Cond.methodLink "java/lang/Throwable" (1 : Nat) ({ cls := "java/lang/Object", name := "<init>", desc := "()V" } : MethodName)) ∈ LW := lw4 50 rfl rfl
theorem u_771 : (Cond.fieldLink "java/lang/Throwable" (13 : Nat) "java/lang/Throwable" "UNASSIGNED_STACK" "[Ljava/lang/StackTraceElement;") ∈ LW := lw4 51 rfl rfl
theorem u_773 : (Cond.fieldLink "java/lang/Throwable" (20 : Nat) "java/lang/Throwable" "SUPPRESSED_SENTINEL" "Ljava/util/List;") ∈ LW := lw4 53 rfl rfl
theorem u_775 : (Cond.methodLink "java/lang/Throwable" (27 : Nat) ({ cls := "java/lang/Throwable", name := "fillInStackTrace", desc := "()Ljava/lang/Throwable;" } : MethodName)) ∈ LW := lw4 55 rfl rfl
theorem u_776 : (Cond.instanceMethod ({ cls := "java/lang/Throwable", name := "fillInStackTrace", desc := "()Ljava/lang/Throwable;" } : MethodName)) ∈ LW := lw4 56 rfl rfl
theorem u_778 : (Cond.selects "java/lang/IndexOutOfBoundsException" ({ cls := "java/lang/Throwable", name := "fillInStackTrace", desc := "()Ljava/lang/Throwable;" } : MethodName) ({ cls := "java/lang/Throwable", name := "fillInStackTrace", desc := "()Ljava/lang/Throwable;" } : MethodName)) ∈ LW := lw4 58 rfl rfl
theorem u_779 : (Cond.selects "java/lang/UnsupportedOperationException" ({ cls := "java/lang/Throwable", name := "fillInStackTrace", desc := "()Ljava/lang/Throwable;" } : MethodName) ({ cls := "java/lang/Throwable", name := "fillInStackTrace", desc := "()Ljava/lang/Throwable;" } : MethodName)) ∈ LW := lw4 59 rfl rfl
theorem u_780 : (Cond.selects "java/util/NoSuchElementException" ({ cls := "java/lang/Throwable", name := "fillInStackTrace", desc := "()Ljava/lang/Throwable;" } : MethodName) ({ cls := "java/lang/Throwable", name := "fillInStackTrace", desc := "()Ljava/lang/Throwable;" } : MethodName)) ∈ LW := lw4 60 rfl rfl
theorem u_782 : (Cond.methodLink "java/lang/Throwable" (202 : Nat) ({ cls := "java/lang/Throwable", name := "fillInStackTrace", desc := "(I)Ljava/lang/Throwable;" } : MethodName)) ∈ LW := lw4 62 rfl rfl
theorem u_784 : (Cond.instanceMethod ({ cls := "java/lang/Throwable", name := "fillInStackTrace", desc := "(I)Ljava/lang/Throwable;" } : MethodName)) ∈ LW := lw4 64 rfl rfl
theorem u_785 : (Cond.instantiable "java/lang/Throwable" (6 : Nat)) ∈ LW := lw4 65 rfl rfl
theorem u_788 : (Cond.methodLink "HalfIsle" (110 : Nat) ({ cls := "java/lang/IllegalArgumentException", name := "<init>", desc := "(Ljava/lang/String;)V" } : MethodName)) ∈ LW := lw4 68 rfl rfl
theorem u_789 : (Cond.instanceMethod ({ cls := "java/lang/IllegalArgumentException", name := "<init>", desc := "(Ljava/lang/String;)V" } : MethodName)) ∈ LW := lw4 69 rfl rfl
theorem u_790 : (Cond.code ({ cls := "java/lang/IllegalArgumentException", name := "<init>", desc := "(Ljava/lang/String;)V" } : MethodName) prog_15_method_2_code (2 : Nat) (Option.none : Option FieldType)) ∈ LW := lw4 70 rfl rfl
theorem u_791 : (Cond.methodLink "java/lang/IllegalArgumentException" (7 : Nat) ({ cls := "java/lang/RuntimeException", name := "<init>", desc := "(Ljava/lang/String;)V" } : MethodName)) ∈ LW := lw4 71 rfl rfl
theorem u_792 : (Cond.instanceMethod ({ cls := "java/lang/RuntimeException", name := "<init>", desc := "(Ljava/lang/String;)V" } : MethodName)) ∈ LW := lw4 72 rfl rfl
theorem u_793 : (Cond.code ({ cls := "java/lang/RuntimeException", name := "<init>", desc := "(Ljava/lang/String;)V" } : MethodName) prog_19_method_2_code (2 : Nat) (Option.none : Option FieldType)) ∈ LW := lw4 73 rfl rfl
theorem u_794 : (Cond.methodLink "java/lang/RuntimeException" (7 : Nat) ({ cls := "java/lang/Exception", name := "<init>", desc := "(Ljava/lang/String;)V" } : MethodName)) ∈ LW := lw4 74 rfl rfl
theorem u_795 : (Cond.instanceMethod ({ cls := "java/lang/Exception", name := "<init>", desc := "(Ljava/lang/String;)V" } : MethodName)) ∈ LW := lw4 75 rfl rfl
theorem u_796 : (Cond.code ({ cls := "java/lang/Exception", name := "<init>", desc := "(Ljava/lang/String;)V" } : MethodName) prog_14_method_2_code (2 : Nat) (Option.none : Option FieldType)) ∈ LW := lw4 76 rfl rfl
theorem u_797 : (Cond.methodLink "java/lang/Exception" (7 : Nat) ({ cls := "java/lang/Throwable", name := "<init>", desc := "(Ljava/lang/String;)V" } : MethodName)) ∈ LW := lw4 77 rfl rfl
theorem u_798 : (Cond.instanceMethod ({ cls := "java/lang/Throwable", name := "<init>", desc := "(Ljava/lang/String;)V" } : MethodName)) ∈ LW := lw4 78 rfl rfl
theorem u_799 : (Cond.code ({ cls := "java/lang/Throwable", name := "<init>", desc := "(Ljava/lang/String;)V" } : MethodName) prog_24_method_2_code (2 : Nat) (Option.none : Option FieldType)) ∈ LW := lw4 79 rfl rfl
theorem u_800 : (Cond.fieldLink "java/lang/Throwable" (198 : Nat) "java/lang/Throwable" "backtrace" "Ljava/lang/Object;") ∈ LW := lw4 80 rfl rfl
theorem u_801 : (Cond.fieldLink "java/lang/Throwable" (31 : Nat) "java/lang/Throwable" "detailMessage" "Ljava/lang/String;") ∈ LW := lw4 81 rfl rfl
theorem u_802 : (Cond.fieldLink "java/lang/Throwable" (7 : Nat) "java/lang/Throwable" "cause" "Ljava/lang/Throwable;") ∈ LW := lw4 82 rfl rfl
theorem u_803 : (Cond.fieldLink "java/lang/Throwable" (17 : Nat) "java/lang/Throwable" "stackTrace" "[Ljava/lang/StackTraceElement;") ∈ LW := lw4 83 rfl rfl
theorem u_804 : (Cond.fieldLink "java/lang/Throwable" (24 : Nat) "java/lang/Throwable" "suppressedExceptions" "Ljava/util/List;") ∈ LW := lw4 84 rfl rfl
theorem u_809 : (Cond.lays "java/lang/IllegalArgumentException" "java/lang/Throwable" "depth" "I") ∈ LW := lw4 89 rfl rfl
theorem u_813 : (Cond.arrayClass FieldType.byte) ∈ LW := lw4 93 rfl rfl
theorem u_814 : (Cond.classLink "HalfIsle" (116 : Nat) "java/lang/UnsupportedOperationException") ∈ LW := lw4 94 rfl rfl
theorem u_815 : (Cond.instantiable "java/lang/UnsupportedOperationException" (6 : Nat)) ∈ LW := lw4 95 rfl rfl
theorem un_816 : (Cond.castable "java/lang/UnsupportedOperationException" "java/lang/UnsupportedOperationException") ∈ NW := nw4 96 rfl rfl
theorem u_817 : (Cond.selects "java/lang/UnsupportedOperationException" ({ cls := "java/lang/Throwable", name := "fillInStackTrace", desc := "(I)Ljava/lang/Throwable;" } : MethodName) ({ cls := "java/lang/Throwable", name := "fillInStackTrace", desc := "(I)Ljava/lang/Throwable;" } : MethodName)) ∈ LW := lw4 97 rfl rfl
theorem u_818 : (Cond.lays "java/lang/UnsupportedOperationException" "java/lang/Throwable" "cause" "Ljava/lang/Throwable;") ∈ LW := lw4 98 rfl rfl
theorem u_819 : (Cond.lays "java/lang/UnsupportedOperationException" "java/lang/Throwable" "stackTrace" "[Ljava/lang/StackTraceElement;") ∈ LW := lw4 99 rfl rfl
theorem u_820 : (Cond.lays "java/lang/UnsupportedOperationException" "java/lang/Throwable" "suppressedExceptions" "Ljava/util/List;") ∈ LW := lw4 100 rfl rfl
theorem u_821 : (Cond.lays "java/lang/UnsupportedOperationException" "java/lang/Throwable" "detailMessage" "Ljava/lang/String;") ∈ LW := lw4 101 rfl rfl
theorem u_822 : (Cond.lays "java/lang/UnsupportedOperationException" "java/lang/Throwable" "backtrace" "Ljava/lang/Object;") ∈ LW := lw4 102 rfl rfl
theorem u_824 : (Cond.methodLink "HalfIsle" (120 : Nat) ({ cls := "java/lang/UnsupportedOperationException", name := "<init>", desc := "(Ljava/lang/String;)V" } : MethodName)) ∈ LW := lw4 104 rfl rfl
theorem u_825 : (Cond.instanceMethod ({ cls := "java/lang/UnsupportedOperationException", name := "<init>", desc := "(Ljava/lang/String;)V" } : MethodName)) ∈ LW := lw4 105 rfl rfl
theorem u_826 : (Cond.code ({ cls := "java/lang/UnsupportedOperationException", name := "<init>", desc := "(Ljava/lang/String;)V" } : MethodName) prog_25_method_2_code (2 : Nat) (Option.none : Option FieldType)) ∈ LW := lw4 106 rfl rfl
theorem u_827 : (Cond.methodLink "java/lang/UnsupportedOperationException" (7 : Nat) ({ cls := "java/lang/RuntimeException", name := "<init>", desc := "(Ljava/lang/String;)V" } : MethodName)) ∈ LW := lw4 107 rfl rfl
theorem u_828 : (Cond.lays "java/lang/UnsupportedOperationException" "java/lang/Throwable" "depth" "I") ∈ LW := lw4 108 rfl rfl
theorem u_830 : (Cond.methodLink "HalfIsleLaw" (133 : Nat) ({ cls := "HalfIsleLaw", name := "law", desc := "(LHalfIsle;[J)I" } : MethodName)) ∈ LW := lw4 110 rfl rfl
theorem u_831 : (Cond.static ({ cls := "HalfIsleLaw", name := "law", desc := "(LHalfIsle;[J)I" } : MethodName)) ∈ LW := lw4 111 rfl rfl
theorem u_832 : (Cond.codeWith ({ cls := "HalfIsleLaw", name := "law", desc := "(LHalfIsle;[J)I" } : MethodName) method_4_code (3 : Nat) (Option.some FieldType.int) [((0 : Nat), (8 : Nat), (11 : Nat), (13 : Nat))]) ∈ LW := lw4 112 rfl rfl
theorem u_833 : (Cond.methodLink "HalfIsleLaw" (17 : Nat) ({ cls := "HalfIsle", name := "law", desc := "()I" } : MethodName)) ∈ LW := lw4 113 rfl rfl
theorem u_834 : (Cond.instanceMethod ({ cls := "HalfIsle", name := "law", desc := "()I" } : MethodName)) ∈ LW := lw4 114 rfl rfl
theorem u_835 : (Cond.selects "HalfIsle" ({ cls := "HalfIsle", name := "law", desc := "()I" } : MethodName) ({ cls := "HalfIsle", name := "law", desc := "()I" } : MethodName)) ∈ LW := lw4 115 rfl rfl
theorem u_836 : (Cond.code ({ cls := "HalfIsle", name := "law", desc := "()I" } : MethodName) prog_1_method_5_code (2 : Nat) (Option.some FieldType.int)) ∈ LW := lw4 116 rfl rfl
theorem u_837 : (Cond.methodLink "HalfIsle" (121 : Nat) ({ cls := "HalfIsle$LawReader", name := "readText", desc := "([IILHalfIsle$Law;)I" } : MethodName)) ∈ LW := lw4 117 rfl rfl
theorem u_838 : (Cond.instanceMethod ({ cls := "HalfIsle$LawReader", name := "readText", desc := "([IILHalfIsle$Law;)I" } : MethodName)) ∈ LW := lw4 118 rfl rfl
theorem u_839 : (Cond.selects "HalfIsle$LawReader" ({ cls := "HalfIsle$LawReader", name := "readText", desc := "([IILHalfIsle$Law;)I" } : MethodName) ({ cls := "HalfIsle$LawReader", name := "readText", desc := "([IILHalfIsle$Law;)I" } : MethodName)) ∈ LW := lw4 119 rfl rfl
theorem u_840 : (Cond.code ({ cls := "HalfIsle$LawReader", name := "readText", desc := "([IILHalfIsle$Law;)I" } : MethodName) prog_5_method_2_code (6 : Nat) (Option.some FieldType.int)) ∈ LW := lw4 120 rfl rfl
theorem u_841 : (Cond.methodLink "HalfIsle$LawReader" (29 : Nat) ({ cls := "HalfIsle$Reader", name := "open", desc := "([II)V" } : MethodName)) ∈ LW := lw4 121 rfl rfl
theorem u_842 : (Cond.methodLink "HalfIsle$LawReader" (33 : Nat) ({ cls := "HalfIsle$Law", name := "clear", desc := "()V" } : MethodName)) ∈ LW := lw4 122 rfl rfl
theorem u_843 : (Cond.instanceMethod ({ cls := "HalfIsle$Law", name := "clear", desc := "()V" } : MethodName)) ∈ LW := lw4 123 rfl rfl
theorem u_844 : (Cond.selects "HalfIsle$Law" ({ cls := "HalfIsle$Law", name := "clear", desc := "()V" } : MethodName) ({ cls := "HalfIsle$Law", name := "clear", desc := "()V" } : MethodName)) ∈ LW := lw4 124 rfl rfl
theorem u_845 : (Cond.code ({ cls := "HalfIsle$Law", name := "clear", desc := "()V" } : MethodName) prog_4_method_3_code (1 : Nat) (Option.none : Option FieldType)) ∈ LW := lw4 125 rfl rfl
theorem u_846 : (Cond.methodLink "HalfIsle$LawReader" (38 : Nat) ({ cls := "HalfIsle$Reader", name := "isEnd", desc := "()Z" } : MethodName)) ∈ LW := lw4 126 rfl rfl
theorem u_847 : (Cond.methodLink "HalfIsle$LawReader" (42 : Nat) ({ cls := "HalfIsle$Reader", name := "refuse", desc := "()V" } : MethodName)) ∈ LW := lw4 127 rfl rfl
theorem u_848 : (Cond.methodLink "HalfIsle$LawReader" (45 : Nat) ({ cls := "HalfIsle$LawReader", name := "readLine", desc := "(LHalfIsle$Law;)V" } : MethodName)) ∈ LW := lw4 128 rfl rfl
theorem u_850 : (Cond.instanceMethod ({ cls := "HalfIsle$LawReader", name := "readLine", desc := "(LHalfIsle$Law;)V" } : MethodName)) ∈ LW := lw4 130 rfl rfl
theorem u_851 : (Cond.code ({ cls := "HalfIsle$LawReader", name := "readLine", desc := "(LHalfIsle$Law;)V" } : MethodName) prog_5_method_3_code (3 : Nat) (Option.none : Option FieldType)) ∈ LW := lw4 131 rfl rfl
theorem u_853 : (Cond.methodLink "HalfIsle$LawReader" (63 : Nat) ({ cls := "HalfIsle$Reader", name := "isAt", desc := "(Ljava/lang/String;)Z" } : MethodName)) ∈ LW := lw4 133 rfl rfl
theorem u_856 : (Cond.methodLink "HalfIsle$LawReader" (70 : Nat) ({ cls := "HalfIsle$Reader", name := "step", desc := "()V" } : MethodName)) ∈ LW := lw4 136 rfl rfl
theorem u_857 : (Cond.methodLink "HalfIsle$LawReader" (73 : Nat) ({ cls := "HalfIsle$Reader", name := "number", desc := "(II)I" } : MethodName)) ∈ LW := lw4 137 rfl rfl
theorem u_858 : (Cond.methodLink "HalfIsle$LawReader" (77 : Nat) ({ cls := "HalfIsle$Law", name := "beginLine", desc := "(II)V" } : MethodName)) ∈ LW := lw4 138 rfl rfl
theorem u_859 : (Cond.instanceMethod ({ cls := "HalfIsle$Law", name := "beginLine", desc := "(II)V" } : MethodName)) ∈ LW := lw4 139 rfl rfl
theorem u_860 : (Cond.selects "HalfIsle$Law" ({ cls := "HalfIsle$Law", name := "beginLine", desc := "(II)V" } : MethodName) ({ cls := "HalfIsle$Law", name := "beginLine", desc := "(II)V" } : MethodName)) ∈ LW := lw4 140 rfl rfl
theorem u_861 : (Cond.code ({ cls := "HalfIsle$Law", name := "beginLine", desc := "(II)V" } : MethodName) prog_4_method_4_code (3 : Nat) (Option.none : Option FieldType)) ∈ LW := lw4 141 rfl rfl
theorem u_863 : (Cond.methodLink "HalfIsle$LawReader" (54 : Nat) ({ cls := "HalfIsle$Reader", name := "takes", desc := "(Ljava/lang/String;)Z" } : MethodName)) ∈ LW := lw4 143 rfl rfl
theorem u_864 : (Cond.methodLink "HalfIsle$LawReader" (83 : Nat) ({ cls := "HalfIsle$LawReader", name := "readCondition", desc := "(LHalfIsle$Law;)V" } : MethodName)) ∈ LW := lw4 144 rfl rfl
theorem u_866 : (Cond.instanceMethod ({ cls := "HalfIsle$LawReader", name := "readCondition", desc := "(LHalfIsle$Law;)V" } : MethodName)) ∈ LW := lw4 146 rfl rfl
theorem u_867 : (Cond.code ({ cls := "HalfIsle$LawReader", name := "readCondition", desc := "(LHalfIsle$Law;)V" } : MethodName) prog_5_method_4_code (4 : Nat) (Option.none : Option FieldType)) ∈ LW := lw4 147 rfl rfl
theorem u_868 : (Cond.methodLink "HalfIsle$LawReader" (89 : Nat) ({ cls := "HalfIsle$LawReader", name := "readAtom", desc := "(LHalfIsle$Law;)V" } : MethodName)) ∈ LW := lw4 148 rfl rfl
theorem u_870 : (Cond.instanceMethod ({ cls := "HalfIsle$LawReader", name := "readAtom", desc := "(LHalfIsle$Law;)V" } : MethodName)) ∈ LW := lw4 150 rfl rfl
theorem u_871 : (Cond.code ({ cls := "HalfIsle$LawReader", name := "readAtom", desc := "(LHalfIsle$Law;)V" } : MethodName) prog_5_method_5_code (3 : Nat) (Option.none : Option FieldType)) ∈ LW := lw4 151 rfl rfl
theorem u_874 : (Cond.methodLink "HalfIsle$LawReader" (107 : Nat) ({ cls := "HalfIsle$LawReader", name := "hold", desc := "(I)V" } : MethodName)) ∈ LW := lw4 154 rfl rfl
theorem u_876 : (Cond.instanceMethod ({ cls := "HalfIsle$LawReader", name := "hold", desc := "(I)V" } : MethodName)) ∈ LW := lw4 156 rfl rfl
theorem u_877 : (Cond.code ({ cls := "HalfIsle$LawReader", name := "hold", desc := "(I)V" } : MethodName) prog_5_method_10_code (2 : Nat) (Option.none : Option FieldType)) ∈ LW := lw4 157 rfl rfl
theorem un_878 : (Cond.methodLinkNest "HalfIsle$LawReader" (155 : Nat) ({ cls := "HalfIsle", name := "put", desc := "([III)V" } : MethodName) "HalfIsle") ∈ NW := nw4 158 rfl rfl
theorem u_880 : (Cond.methodLink "HalfIsle$LawReader" (113 : Nat) ({ cls := "HalfIsle$Law", name := "emit", desc := "(I)V" } : MethodName)) ∈ LW := lw4 160 rfl rfl
theorem u_881 : (Cond.instanceMethod ({ cls := "HalfIsle$Law", name := "emit", desc := "(I)V" } : MethodName)) ∈ LW := lw4 161 rfl rfl
theorem u_882 : (Cond.selects "HalfIsle$Law" ({ cls := "HalfIsle$Law", name := "emit", desc := "(I)V" } : MethodName) ({ cls := "HalfIsle$Law", name := "emit", desc := "(I)V" } : MethodName)) ∈ LW := lw4 162 rfl rfl
theorem u_883 : (Cond.code ({ cls := "HalfIsle$Law", name := "emit", desc := "(I)V" } : MethodName) prog_4_method_6_code (2 : Nat) (Option.none : Option FieldType)) ∈ LW := lw4 163 rfl rfl
theorem u_885 : (Cond.methodLink "HalfIsle$LawReader" (118 : Nat) ({ cls := "HalfIsle$LawReader", name := "readSum", desc := "(LHalfIsle$Law;)V" } : MethodName)) ∈ LW := lw4 165 rfl rfl
theorem u_887 : (Cond.instanceMethod ({ cls := "HalfIsle$LawReader", name := "readSum", desc := "(LHalfIsle$Law;)V" } : MethodName)) ∈ LW := lw4 167 rfl rfl
theorem u_888 : (Cond.code ({ cls := "HalfIsle$LawReader", name := "readSum", desc := "(LHalfIsle$Law;)V" } : MethodName) prog_5_method_6_code (5 : Nat) (Option.none : Option FieldType)) ∈ LW := lw4 168 rfl rfl
theorem u_889 : (Cond.methodLink "HalfIsle$LawReader" (49 : Nat) ({ cls := "HalfIsle$Reader", name := "isRight", desc := "()Z" } : MethodName)) ∈ LW := lw4 169 rfl rfl
theorem u_890 : (Cond.methodLink "HalfIsle$LawReader" (129 : Nat) ({ cls := "HalfIsle$LawReader", name := "partCode", desc := "()I" } : MethodName)) ∈ LW := lw4 170 rfl rfl
theorem u_892 : (Cond.instanceMethod ({ cls := "HalfIsle$LawReader", name := "partCode", desc := "()I" } : MethodName)) ∈ LW := lw4 172 rfl rfl
theorem u_893 : (Cond.code ({ cls := "HalfIsle$LawReader", name := "partCode", desc := "()I" } : MethodName) prog_5_method_7_code (1 : Nat) (Option.some FieldType.int)) ∈ LW := lw4 173 rfl rfl
theorem u_904 : (Cond.methodLink "HalfIsle$LawReader" (125 : Nat) ({ cls := "HalfIsle$Reader", name := "needs", desc := "(Ljava/lang/String;)V" } : MethodName)) ∈ LW := lw4 184 rfl rfl
theorem u_905 : (Cond.methodLink "HalfIsle$LawReader" (92 : Nat) ({ cls := "HalfIsle$LawReader", name := "closeAtom", desc := "(LHalfIsle$Law;)V" } : MethodName)) ∈ LW := lw4 185 rfl rfl
theorem u_907 : (Cond.instanceMethod ({ cls := "HalfIsle$LawReader", name := "closeAtom", desc := "(LHalfIsle$Law;)V" } : MethodName)) ∈ LW := lw4 187 rfl rfl
theorem u_908 : (Cond.code ({ cls := "HalfIsle$LawReader", name := "closeAtom", desc := "(LHalfIsle$Law;)V" } : MethodName) prog_5_method_8_code (3 : Nat) (Option.none : Option FieldType)) ∈ LW := lw4 188 rfl rfl
theorem u_909 : (Cond.methodLink "HalfIsle$LawReader" (99 : Nat) ({ cls := "HalfIsle$LawReader", name := "release", desc := "(LHalfIsle$Law;I)V" } : MethodName)) ∈ LW := lw4 189 rfl rfl
theorem u_911 : (Cond.instanceMethod ({ cls := "HalfIsle$LawReader", name := "release", desc := "(LHalfIsle$Law;I)V" } : MethodName)) ∈ LW := lw4 191 rfl rfl
theorem u_912 : (Cond.code ({ cls := "HalfIsle$LawReader", name := "release", desc := "(LHalfIsle$Law;I)V" } : MethodName) prog_5_method_11_code (4 : Nat) (Option.none : Option FieldType)) ∈ LW := lw4 192 rfl rfl
theorem un_913 : (Cond.methodLinkNest "HalfIsle$LawReader" (159 : Nat) ({ cls := "HalfIsle", name := "at", desc := "([II)I" } : MethodName) "HalfIsle") ∈ NW := nw4 193 rfl rfl
theorem u_915 : (Cond.methodLink "HalfIsle$LawReader" (95 : Nat) ({ cls := "HalfIsle$LawReader", name := "joins", desc := "(LHalfIsle$Law;)Z" } : MethodName)) ∈ LW := lw4 195 rfl rfl
theorem u_917 : (Cond.instanceMethod ({ cls := "HalfIsle$LawReader", name := "joins", desc := "(LHalfIsle$Law;)Z" } : MethodName)) ∈ LW := lw4 197 rfl rfl
theorem u_918 : (Cond.code ({ cls := "HalfIsle$LawReader", name := "joins", desc := "(LHalfIsle$Law;)Z" } : MethodName) prog_5_method_9_code (2 : Nat) (Option.some FieldType.boolean)) ∈ LW := lw4 198 rfl rfl
theorem u_921 : (Cond.methodLink "HalfIsle$LawReader" (86 : Nat) ({ cls := "HalfIsle$Law", name := "endLine", desc := "()V" } : MethodName)) ∈ LW := lw4 201 rfl rfl
theorem u_922 : (Cond.instanceMethod ({ cls := "HalfIsle$Law", name := "endLine", desc := "()V" } : MethodName)) ∈ LW := lw4 202 rfl rfl
theorem u_923 : (Cond.selects "HalfIsle$Law" ({ cls := "HalfIsle$Law", name := "endLine", desc := "()V" } : MethodName) ({ cls := "HalfIsle$Law", name := "endLine", desc := "()V" } : MethodName)) ∈ LW := lw4 203 rfl rfl
theorem u_924 : (Cond.code ({ cls := "HalfIsle$Law", name := "endLine", desc := "()V" } : MethodName) prog_4_method_5_code (1 : Nat) (Option.none : Option FieldType)) ∈ LW := lw4 204 rfl rfl
theorem u_926 : (Cond.methodLink "HalfIsleLaw" (140 : Nat) ({ cls := "HalfIsleLaw", name := "item", desc := "(LHalfIsle;II[J)I" } : MethodName)) ∈ LW := lw4 206 rfl rfl
theorem u_927 : (Cond.static ({ cls := "HalfIsleLaw", name := "item", desc := "(LHalfIsle;II[J)I" } : MethodName)) ∈ LW := lw4 207 rfl rfl
theorem u_928 : (Cond.codeWith ({ cls := "HalfIsleLaw", name := "item", desc := "(LHalfIsle;II[J)I" } : MethodName) method_5_code (5 : Nat) (Option.some FieldType.int) [((0 : Nat), (10 : Nat), (13 : Nat), (24 : Nat)), ((0 : Nat), (10 : Nat), (17 : Nat), (26 : Nat))]) ∈ LW := lw4 208 rfl rfl
theorem u_929 : (Cond.classLink "HalfIsleLaw" (24 : Nat) "java/lang/IndexOutOfBoundsException") ∈ LW := lw4 209 rfl rfl
theorem u_930 : (Cond.classLink "HalfIsleLaw" (26 : Nat) "java/util/NoSuchElementException") ∈ LW := lw4 210 rfl rfl
theorem u_931 : (Cond.methodLink "HalfIsleLaw" (20 : Nat) ({ cls := "HalfIsle", name := "item", desc := "(II)I" } : MethodName)) ∈ LW := lw4 211 rfl rfl
theorem u_932 : (Cond.instanceMethod ({ cls := "HalfIsle", name := "item", desc := "(II)I" } : MethodName)) ∈ LW := lw4 212 rfl rfl
theorem u_933 : (Cond.selects "HalfIsle" ({ cls := "HalfIsle", name := "item", desc := "(II)I" } : MethodName) ({ cls := "HalfIsle", name := "item", desc := "(II)I" } : MethodName)) ∈ LW := lw4 213 rfl rfl
theorem u_934 : (Cond.code ({ cls := "HalfIsle", name := "item", desc := "(II)I" } : MethodName) prog_1_method_7_code (3 : Nat) (Option.some FieldType.int)) ∈ LW := lw4 214 rfl rfl
theorem u_935 : (Cond.methodLink "HalfIsle" (127 : Nat) ({ cls := "HalfIsle", name := "checkItem", desc := "(I)V" } : MethodName)) ∈ LW := lw4 215 rfl rfl
theorem u_937 : (Cond.instanceMethod ({ cls := "HalfIsle", name := "checkItem", desc := "(I)V" } : MethodName)) ∈ LW := lw4 217 rfl rfl
theorem u_938 : (Cond.code ({ cls := "HalfIsle", name := "checkItem", desc := "(I)V" } : MethodName) prog_1_method_60_code (2 : Nat) (Option.none : Option FieldType)) ∈ LW := lw4 218 rfl rfl
theorem u_939 : (Cond.classLink "HalfIsle" (365 : Nat) "java/lang/IndexOutOfBoundsException") ∈ LW := lw4 219 rfl rfl
theorem u_940 : (Cond.instantiable "java/lang/IndexOutOfBoundsException" (6 : Nat)) ∈ LW := lw4 220 rfl rfl
theorem un_941 : (Cond.castable "java/lang/IndexOutOfBoundsException" "java/lang/IndexOutOfBoundsException") ∈ NW := nw4 221 rfl rfl
theorem u_942 : (Cond.selects "java/lang/IndexOutOfBoundsException" ({ cls := "java/lang/Throwable", name := "fillInStackTrace", desc := "(I)Ljava/lang/Throwable;" } : MethodName) ({ cls := "java/lang/Throwable", name := "fillInStackTrace", desc := "(I)Ljava/lang/Throwable;" } : MethodName)) ∈ LW := lw4 222 rfl rfl
theorem u_943 : (Cond.lays "java/lang/IndexOutOfBoundsException" "java/lang/Throwable" "cause" "Ljava/lang/Throwable;") ∈ LW := lw4 223 rfl rfl
theorem u_944 : (Cond.lays "java/lang/IndexOutOfBoundsException" "java/lang/Throwable" "stackTrace" "[Ljava/lang/StackTraceElement;") ∈ LW := lw4 224 rfl rfl
theorem u_945 : (Cond.lays "java/lang/IndexOutOfBoundsException" "java/lang/Throwable" "suppressedExceptions" "Ljava/util/List;") ∈ LW := lw4 225 rfl rfl
theorem u_946 : (Cond.lays "java/lang/IndexOutOfBoundsException" "java/lang/Throwable" "detailMessage" "Ljava/lang/String;") ∈ LW := lw4 226 rfl rfl
theorem u_947 : (Cond.lays "java/lang/IndexOutOfBoundsException" "java/lang/Throwable" "backtrace" "Ljava/lang/Object;") ∈ LW := lw4 227 rfl rfl
theorem u_949 : (Cond.methodLink "HalfIsle" (369 : Nat) ({ cls := "java/lang/IndexOutOfBoundsException", name := "<init>", desc := "(Ljava/lang/String;)V" } : MethodName)) ∈ LW := lw4 229 rfl rfl
theorem u_950 : (Cond.instanceMethod ({ cls := "java/lang/IndexOutOfBoundsException", name := "<init>", desc := "(Ljava/lang/String;)V" } : MethodName)) ∈ LW := lw4 230 rfl rfl
theorem u_951 : (Cond.code ({ cls := "java/lang/IndexOutOfBoundsException", name := "<init>", desc := "(Ljava/lang/String;)V" } : MethodName) prog_16_method_2_code (2 : Nat) (Option.none : Option FieldType)) ∈ LW := lw4 231 rfl rfl
theorem u_952 : (Cond.methodLink "java/lang/IndexOutOfBoundsException" (7 : Nat) ({ cls := "java/lang/RuntimeException", name := "<init>", desc := "(Ljava/lang/String;)V" } : MethodName)) ∈ LW := lw4 232 rfl rfl
theorem u_953 : (Cond.lays "java/lang/IndexOutOfBoundsException" "java/lang/Throwable" "depth" "I") ∈ LW := lw4 233 rfl rfl
theorem u_955 : (Cond.methodLink "HalfIsle" (130 : Nat) ({ cls := "HalfIsle", name := "checkWhat", desc := "(II)V" } : MethodName)) ∈ LW := lw4 235 rfl rfl
theorem u_956 : (Cond.static ({ cls := "HalfIsle", name := "checkWhat", desc := "(II)V" } : MethodName)) ∈ LW := lw4 236 rfl rfl
theorem u_957 : (Cond.code ({ cls := "HalfIsle", name := "checkWhat", desc := "(II)V" } : MethodName) prog_1_method_64_code (2 : Nat) (Option.none : Option FieldType)) ∈ LW := lw4 237 rfl rfl
theorem u_958 : (Cond.classLink "HalfIsle" (376 : Nat) "java/util/NoSuchElementException") ∈ LW := lw4 238 rfl rfl
theorem u_959 : (Cond.instantiable "java/util/NoSuchElementException" (6 : Nat)) ∈ LW := lw4 239 rfl rfl
theorem un_960 : (Cond.castable "java/util/NoSuchElementException" "java/util/NoSuchElementException") ∈ NW := nw5 0 rfl rfl
theorem u_961 : (Cond.selects "java/util/NoSuchElementException" ({ cls := "java/lang/Throwable", name := "fillInStackTrace", desc := "(I)Ljava/lang/Throwable;" } : MethodName) ({ cls := "java/lang/Throwable", name := "fillInStackTrace", desc := "(I)Ljava/lang/Throwable;" } : MethodName)) ∈ LW := lw5 1 rfl rfl
theorem u_962 : (Cond.lays "java/util/NoSuchElementException" "java/lang/Throwable" "cause" "Ljava/lang/Throwable;") ∈ LW := lw5 2 rfl rfl
theorem u_963 : (Cond.lays "java/util/NoSuchElementException" "java/lang/Throwable" "stackTrace" "[Ljava/lang/StackTraceElement;") ∈ LW := lw5 3 rfl rfl
theorem u_964 : (Cond.lays "java/util/NoSuchElementException" "java/lang/Throwable" "suppressedExceptions" "Ljava/util/List;") ∈ LW := lw5 4 rfl rfl
theorem u_965 : (Cond.lays "java/util/NoSuchElementException" "java/lang/Throwable" "detailMessage" "Ljava/lang/String;") ∈ LW := lw5 5 rfl rfl
theorem u_966 : (Cond.lays "java/util/NoSuchElementException" "java/lang/Throwable" "backtrace" "Ljava/lang/Object;") ∈ LW := lw5 6 rfl rfl
theorem u_968 : (Cond.methodLink "HalfIsle" (380 : Nat) ({ cls := "java/util/NoSuchElementException", name := "<init>", desc := "(Ljava/lang/String;)V" } : MethodName)) ∈ LW := lw5 8 rfl rfl
theorem u_969 : (Cond.instanceMethod ({ cls := "java/util/NoSuchElementException", name := "<init>", desc := "(Ljava/lang/String;)V" } : MethodName)) ∈ LW := lw5 9 rfl rfl
theorem u_970 : (Cond.code ({ cls := "java/util/NoSuchElementException", name := "<init>", desc := "(Ljava/lang/String;)V" } : MethodName) prog_28_method_4_code (2 : Nat) (Option.none : Option FieldType)) ∈ LW := lw5 10 rfl rfl
theorem u_971 : (Cond.methodLink "java/util/NoSuchElementException" (13 : Nat) ({ cls := "java/lang/RuntimeException", name := "<init>", desc := "(Ljava/lang/String;)V" } : MethodName)) ∈ LW := lw5 11 rfl rfl
theorem u_972 : (Cond.lays "java/util/NoSuchElementException" "java/lang/Throwable" "depth" "I") ∈ LW := lw5 12 rfl rfl
theorem u_974 : (Cond.methodLink "HalfIsle" (159 : Nat) ({ cls := "HalfIsle$Island", name := "isMissing", desc := "(I)Z" } : MethodName)) ∈ LW := lw5 14 rfl rfl
theorem u_975 : (Cond.methodLink "HalfIsle" (167 : Nat) ({ cls := "HalfIsle$Island", name := "workOf", desc := "(I)I" } : MethodName)) ∈ LW := lw5 15 rfl rfl
theorem u_976 : (Cond.methodLink "HalfIsleLaw" (144 : Nat) ({ cls := "HalfIsleLaw", name := "room", desc := "(LHalfIsle;II[J)I" } : MethodName)) ∈ LW := lw5 16 rfl rfl
theorem u_977 : (Cond.static ({ cls := "HalfIsleLaw", name := "room", desc := "(LHalfIsle;II[J)I" } : MethodName)) ∈ LW := lw5 17 rfl rfl
theorem u_978 : (Cond.codeWith ({ cls := "HalfIsleLaw", name := "room", desc := "(LHalfIsle;II[J)I" } : MethodName) method_6_code (5 : Nat) (Option.some FieldType.int) [((0 : Nat), (10 : Nat), (13 : Nat), (24 : Nat)), ((0 : Nat), (10 : Nat), (17 : Nat), (26 : Nat))]) ∈ LW := lw5 18 rfl rfl
theorem u_979 : (Cond.methodLink "HalfIsleLaw" (28 : Nat) ({ cls := "HalfIsle", name := "room", desc := "(II)I" } : MethodName)) ∈ LW := lw5 19 rfl rfl
theorem u_980 : (Cond.instanceMethod ({ cls := "HalfIsle", name := "room", desc := "(II)I" } : MethodName)) ∈ LW := lw5 20 rfl rfl
theorem u_981 : (Cond.selects "HalfIsle" ({ cls := "HalfIsle", name := "room", desc := "(II)I" } : MethodName) ({ cls := "HalfIsle", name := "room", desc := "(II)I" } : MethodName)) ∈ LW := lw5 21 rfl rfl
theorem u_982 : (Cond.code ({ cls := "HalfIsle", name := "room", desc := "(II)I" } : MethodName) prog_1_method_8_code (3 : Nat) (Option.some FieldType.int)) ∈ LW := lw5 22 rfl rfl
theorem u_983 : (Cond.methodLink "HalfIsle" (170 : Nat) ({ cls := "HalfIsle", name := "checkRoom", desc := "(I)V" } : MethodName)) ∈ LW := lw5 23 rfl rfl
theorem u_984 : (Cond.static ({ cls := "HalfIsle", name := "checkRoom", desc := "(I)V" } : MethodName)) ∈ LW := lw5 24 rfl rfl
theorem u_985 : (Cond.code ({ cls := "HalfIsle", name := "checkRoom", desc := "(I)V" } : MethodName) prog_1_method_61_code (1 : Nat) (Option.none : Option FieldType)) ∈ LW := lw5 25 rfl rfl
theorem u_987 : (Cond.methodLink "HalfIsleLaw" (147 : Nat) ({ cls := "HalfIsleLaw", name := "side", desc := "(LHalfIsle;II[J)I" } : MethodName)) ∈ LW := lw5 27 rfl rfl
theorem u_988 : (Cond.static ({ cls := "HalfIsleLaw", name := "side", desc := "(LHalfIsle;II[J)I" } : MethodName)) ∈ LW := lw5 28 rfl rfl
theorem u_989 : (Cond.codeWith ({ cls := "HalfIsleLaw", name := "side", desc := "(LHalfIsle;II[J)I" } : MethodName) method_7_code (5 : Nat) (Option.some FieldType.int) [((0 : Nat), (10 : Nat), (13 : Nat), (24 : Nat)), ((0 : Nat), (10 : Nat), (17 : Nat), (26 : Nat))]) ∈ LW := lw5 29 rfl rfl
theorem u_990 : (Cond.methodLink "HalfIsleLaw" (31 : Nat) ({ cls := "HalfIsle", name := "side", desc := "(II)I" } : MethodName)) ∈ LW := lw5 30 rfl rfl
theorem u_991 : (Cond.instanceMethod ({ cls := "HalfIsle", name := "side", desc := "(II)I" } : MethodName)) ∈ LW := lw5 31 rfl rfl
theorem u_992 : (Cond.selects "HalfIsle" ({ cls := "HalfIsle", name := "side", desc := "(II)I" } : MethodName) ({ cls := "HalfIsle", name := "side", desc := "(II)I" } : MethodName)) ∈ LW := lw5 32 rfl rfl
theorem u_993 : (Cond.code ({ cls := "HalfIsle", name := "side", desc := "(II)I" } : MethodName) prog_1_method_9_code (3 : Nat) (Option.some FieldType.int)) ∈ LW := lw5 33 rfl rfl
theorem u_994 : (Cond.methodLink "HalfIsle" (182 : Nat) ({ cls := "HalfIsle", name := "checkSide", desc := "(I)V" } : MethodName)) ∈ LW := lw5 34 rfl rfl
theorem u_995 : (Cond.static ({ cls := "HalfIsle", name := "checkSide", desc := "(I)V" } : MethodName)) ∈ LW := lw5 35 rfl rfl
theorem u_996 : (Cond.code ({ cls := "HalfIsle", name := "checkSide", desc := "(I)V" } : MethodName) prog_1_method_62_code (1 : Nat) (Option.none : Option FieldType)) ∈ LW := lw5 36 rfl rfl
theorem u_998 : (Cond.methodLink "HalfIsle" (191 : Nat) ({ cls := "HalfIsle$Island", name := "needsOf", desc := "(I)I" } : MethodName)) ∈ LW := lw5 38 rfl rfl
theorem u_999 : (Cond.instanceMethod ({ cls := "HalfIsle$Island", name := "needsOf", desc := "(I)I" } : MethodName)) ∈ LW := lw5 39 rfl rfl
theorem u_1000 : (Cond.selects "HalfIsle$Island" ({ cls := "HalfIsle$Island", name := "needsOf", desc := "(I)I" } : MethodName) ({ cls := "HalfIsle$Island", name := "needsOf", desc := "(I)I" } : MethodName)) ∈ LW := lw5 40 rfl rfl
theorem u_1001 : (Cond.code ({ cls := "HalfIsle$Island", name := "needsOf", desc := "(I)I" } : MethodName) prog_3_method_10_code (4 : Nat) (Option.some FieldType.int)) ∈ LW := lw5 41 rfl rfl
theorem u_1002 : (Cond.methodLink "HalfIsle$Island" (106 : Nat) ({ cls := "HalfIsle$Island", name := "workOfAll", desc := "()I" } : MethodName)) ∈ LW := lw5 42 rfl rfl
theorem u_1003 : (Cond.methodLink "HalfIsle" (194 : Nat) ({ cls := "HalfIsle$Island", name := "latestOf", desc := "(I)I" } : MethodName)) ∈ LW := lw5 43 rfl rfl
theorem u_1004 : (Cond.instanceMethod ({ cls := "HalfIsle$Island", name := "latestOf", desc := "(I)I" } : MethodName)) ∈ LW := lw5 44 rfl rfl
theorem u_1005 : (Cond.selects "HalfIsle$Island" ({ cls := "HalfIsle$Island", name := "latestOf", desc := "(I)I" } : MethodName) ({ cls := "HalfIsle$Island", name := "latestOf", desc := "(I)I" } : MethodName)) ∈ LW := lw5 45 rfl rfl
theorem u_1006 : (Cond.code ({ cls := "HalfIsle$Island", name := "latestOf", desc := "(I)I" } : MethodName) prog_3_method_11_code (4 : Nat) (Option.some FieldType.int)) ∈ LW := lw5 46 rfl rfl
theorem u_1007 : (Cond.methodLink "HalfIsle$Island" (110 : Nat) ({ cls := "HalfIsle$Island", name := "needsOf", desc := "(I)I" } : MethodName)) ∈ LW := lw5 47 rfl rfl
theorem u_1008 : (Cond.methodLink "HalfIsleLaw" (150 : Nat) ({ cls := "HalfIsleLaw", name := "does", desc := "(LHalfIsle;II[J)I" } : MethodName)) ∈ LW := lw5 48 rfl rfl
theorem u_1009 : (Cond.static ({ cls := "HalfIsleLaw", name := "does", desc := "(LHalfIsle;II[J)I" } : MethodName)) ∈ LW := lw5 49 rfl rfl
theorem u_1010 : (Cond.codeWith ({ cls := "HalfIsleLaw", name := "does", desc := "(LHalfIsle;II[J)I" } : MethodName) method_8_code (5 : Nat) (Option.some FieldType.int) [((0 : Nat), (10 : Nat), (13 : Nat), (24 : Nat)), ((0 : Nat), (10 : Nat), (17 : Nat), (26 : Nat))]) ∈ LW := lw5 50 rfl rfl
theorem u_1011 : (Cond.methodLink "HalfIsleLaw" (34 : Nat) ({ cls := "HalfIsle", name := "does", desc := "(II)I" } : MethodName)) ∈ LW := lw5 51 rfl rfl
theorem u_1012 : (Cond.instanceMethod ({ cls := "HalfIsle", name := "does", desc := "(II)I" } : MethodName)) ∈ LW := lw5 52 rfl rfl
theorem u_1013 : (Cond.selects "HalfIsle" ({ cls := "HalfIsle", name := "does", desc := "(II)I" } : MethodName) ({ cls := "HalfIsle", name := "does", desc := "(II)I" } : MethodName)) ∈ LW := lw5 53 rfl rfl
theorem u_1014 : (Cond.code ({ cls := "HalfIsle", name := "does", desc := "(II)I" } : MethodName) prog_1_method_10_code (3 : Nat) (Option.some FieldType.int)) ∈ LW := lw5 54 rfl rfl
theorem u_1015 : (Cond.methodLink "HalfIsle" (197 : Nat) ({ cls := "HalfIsle$Law", name := "tell", desc := "(LHalfIsle$Island;I)V" } : MethodName)) ∈ LW := lw5 55 rfl rfl
theorem u_1016 : (Cond.methodLink "HalfIsleLaw" (153 : Nat) ({ cls := "HalfIsleLaw", name := "steps", desc := "(LHalfIsle;II[J)I" } : MethodName)) ∈ LW := lw5 56 rfl rfl
theorem u_1017 : (Cond.static ({ cls := "HalfIsleLaw", name := "steps", desc := "(LHalfIsle;II[J)I" } : MethodName)) ∈ LW := lw5 57 rfl rfl
theorem u_1018 : (Cond.codeWith ({ cls := "HalfIsleLaw", name := "steps", desc := "(LHalfIsle;II[J)I" } : MethodName) method_9_code (5 : Nat) (Option.some FieldType.int) [((0 : Nat), (10 : Nat), (13 : Nat), (24 : Nat))]) ∈ LW := lw5 58 rfl rfl
theorem u_1019 : (Cond.methodLink "HalfIsleLaw" (37 : Nat) ({ cls := "HalfIsle", name := "steps", desc := "(II)I" } : MethodName)) ∈ LW := lw5 59 rfl rfl
theorem u_1020 : (Cond.instanceMethod ({ cls := "HalfIsle", name := "steps", desc := "(II)I" } : MethodName)) ∈ LW := lw5 60 rfl rfl
theorem u_1021 : (Cond.selects "HalfIsle" ({ cls := "HalfIsle", name := "steps", desc := "(II)I" } : MethodName) ({ cls := "HalfIsle", name := "steps", desc := "(II)I" } : MethodName)) ∈ LW := lw5 61 rfl rfl
theorem u_1022 : (Cond.code ({ cls := "HalfIsle", name := "steps", desc := "(II)I" } : MethodName) prog_1_method_11_code (3 : Nat) (Option.some FieldType.int)) ∈ LW := lw5 62 rfl rfl
theorem u_1023 : (Cond.methodLink "HalfIsle" (204 : Nat) ({ cls := "HalfIsle", name := "stepsBetween", desc := "(II)I" } : MethodName)) ∈ LW := lw5 63 rfl rfl
theorem u_1024 : (Cond.methodLink "HalfIsleLaw" (156 : Nat) ({ cls := "HalfIsleLaw", name := "carry", desc := "(LHalfIsle;II[J)I" } : MethodName)) ∈ LW := lw5 64 rfl rfl
theorem u_1025 : (Cond.static ({ cls := "HalfIsleLaw", name := "carry", desc := "(LHalfIsle;II[J)I" } : MethodName)) ∈ LW := lw5 65 rfl rfl
theorem u_1026 : (Cond.codeWith ({ cls := "HalfIsleLaw", name := "carry", desc := "(LHalfIsle;II[J)I" } : MethodName) method_10_code (5 : Nat) (Option.some FieldType.int) [((0 : Nat), (10 : Nat), (13 : Nat), (24 : Nat))]) ∈ LW := lw5 66 rfl rfl
theorem u_1027 : (Cond.methodLink "HalfIsleLaw" (40 : Nat) ({ cls := "HalfIsle", name := "carry", desc := "(II)I" } : MethodName)) ∈ LW := lw5 67 rfl rfl
theorem u_1028 : (Cond.instanceMethod ({ cls := "HalfIsle", name := "carry", desc := "(II)I" } : MethodName)) ∈ LW := lw5 68 rfl rfl
theorem u_1029 : (Cond.selects "HalfIsle" ({ cls := "HalfIsle", name := "carry", desc := "(II)I" } : MethodName) ({ cls := "HalfIsle", name := "carry", desc := "(II)I" } : MethodName)) ∈ LW := lw5 69 rfl rfl
theorem u_1030 : (Cond.code ({ cls := "HalfIsle", name := "carry", desc := "(II)I" } : MethodName) prog_1_method_12_code (4 : Nat) (Option.some FieldType.int)) ∈ LW := lw5 70 rfl rfl
theorem u_1031 : (Cond.methodLink "HalfIsleLaw" (159 : Nat) ({ cls := "HalfIsleLaw", name := "mend", desc := "(LHalfIsle;I[J)I" } : MethodName)) ∈ LW := lw5 71 rfl rfl
theorem u_1032 : (Cond.static ({ cls := "HalfIsleLaw", name := "mend", desc := "(LHalfIsle;I[J)I" } : MethodName)) ∈ LW := lw5 72 rfl rfl
theorem u_1033 : (Cond.codeWith ({ cls := "HalfIsleLaw", name := "mend", desc := "(LHalfIsle;I[J)I" } : MethodName) method_11_code (4 : Nat) (Option.some FieldType.int) [((0 : Nat), (9 : Nat), (12 : Nat), (24 : Nat))]) ∈ LW := lw5 73 rfl rfl
theorem u_1034 : (Cond.methodLink "HalfIsleLaw" (43 : Nat) ({ cls := "HalfIsle", name := "mend", desc := "(I)I" } : MethodName)) ∈ LW := lw5 74 rfl rfl
theorem u_1035 : (Cond.instanceMethod ({ cls := "HalfIsle", name := "mend", desc := "(I)I" } : MethodName)) ∈ LW := lw5 75 rfl rfl
theorem u_1036 : (Cond.selects "HalfIsle" ({ cls := "HalfIsle", name := "mend", desc := "(I)I" } : MethodName) ({ cls := "HalfIsle", name := "mend", desc := "(I)I" } : MethodName)) ∈ LW := lw5 76 rfl rfl
theorem u_1037 : (Cond.code ({ cls := "HalfIsle", name := "mend", desc := "(I)I" } : MethodName) prog_1_method_13_code (3 : Nat) (Option.some FieldType.int)) ∈ LW := lw5 77 rfl rfl
theorem u_1038 : (Cond.methodLink "HalfIsle" (215 : Nat) ({ cls := "java/lang/Math", name := "max", desc := "(II)I" } : MethodName)) ∈ LW := lw5 78 rfl rfl
theorem u_1039 : (Cond.methodLink "HalfIsleLaw" (163 : Nat) ({ cls := "HalfIsleLaw", name := "sweep", desc := "(LHalfIsle;I[J)I" } : MethodName)) ∈ LW := lw5 79 rfl rfl
theorem u_1040 : (Cond.static ({ cls := "HalfIsleLaw", name := "sweep", desc := "(LHalfIsle;I[J)I" } : MethodName)) ∈ LW := lw5 80 rfl rfl
theorem u_1041 : (Cond.codeWith ({ cls := "HalfIsleLaw", name := "sweep", desc := "(LHalfIsle;I[J)I" } : MethodName) method_12_code (4 : Nat) (Option.some FieldType.int) [((0 : Nat), (9 : Nat), (12 : Nat), (24 : Nat))]) ∈ LW := lw5 81 rfl rfl
theorem u_1042 : (Cond.methodLink "HalfIsleLaw" (47 : Nat) ({ cls := "HalfIsle", name := "sweep", desc := "(I)I" } : MethodName)) ∈ LW := lw5 82 rfl rfl
theorem u_1043 : (Cond.instanceMethod ({ cls := "HalfIsle", name := "sweep", desc := "(I)I" } : MethodName)) ∈ LW := lw5 83 rfl rfl
theorem u_1044 : (Cond.selects "HalfIsle" ({ cls := "HalfIsle", name := "sweep", desc := "(I)I" } : MethodName) ({ cls := "HalfIsle", name := "sweep", desc := "(I)I" } : MethodName)) ∈ LW := lw5 84 rfl rfl
theorem u_1045 : (Cond.code ({ cls := "HalfIsle", name := "sweep", desc := "(I)I" } : MethodName) prog_1_method_14_code (3 : Nat) (Option.some FieldType.int)) ∈ LW := lw5 85 rfl rfl
theorem u_1046 : (Cond.methodLink "HalfIsleLaw" (166 : Nat) ({ cls := "HalfIsleLaw", name := "pay", desc := "(LHalfIsle;II[J)I" } : MethodName)) ∈ LW := lw5 86 rfl rfl
theorem u_1047 : (Cond.static ({ cls := "HalfIsleLaw", name := "pay", desc := "(LHalfIsle;II[J)I" } : MethodName)) ∈ LW := lw5 87 rfl rfl
theorem u_1048 : (Cond.codeWith ({ cls := "HalfIsleLaw", name := "pay", desc := "(LHalfIsle;II[J)I" } : MethodName) method_13_code (5 : Nat) (Option.some FieldType.int) [((0 : Nat), (10 : Nat), (13 : Nat), (24 : Nat)), ((0 : Nat), (10 : Nat), (17 : Nat), (13 : Nat))]) ∈ LW := lw5 88 rfl rfl
theorem u_1049 : (Cond.methodLink "HalfIsleLaw" (50 : Nat) ({ cls := "HalfIsle", name := "pay", desc := "(II)I" } : MethodName)) ∈ LW := lw5 89 rfl rfl
theorem u_1050 : (Cond.instanceMethod ({ cls := "HalfIsle", name := "pay", desc := "(II)I" } : MethodName)) ∈ LW := lw5 90 rfl rfl
theorem u_1051 : (Cond.selects "HalfIsle" ({ cls := "HalfIsle", name := "pay", desc := "(II)I" } : MethodName) ({ cls := "HalfIsle", name := "pay", desc := "(II)I" } : MethodName)) ∈ LW := lw5 91 rfl rfl
theorem u_1052 : (Cond.code ({ cls := "HalfIsle", name := "pay", desc := "(II)I" } : MethodName) prog_1_method_15_code (4 : Nat) (Option.some FieldType.int)) ∈ LW := lw5 92 rfl rfl
theorem u_1053 : (Cond.methodLink "HalfIsle" (220 : Nat) ({ cls := "HalfIsle", name := "checkNumber", desc := "(III)V" } : MethodName)) ∈ LW := lw5 93 rfl rfl
theorem u_1054 : (Cond.static ({ cls := "HalfIsle", name := "checkNumber", desc := "(III)V" } : MethodName)) ∈ LW := lw5 94 rfl rfl
theorem u_1055 : (Cond.code ({ cls := "HalfIsle", name := "checkNumber", desc := "(III)V" } : MethodName) prog_1_method_63_code (3 : Nat) (Option.none : Option FieldType)) ∈ LW := lw5 95 rfl rfl
theorem u_1057 : (Cond.methodLink "HalfIsleLaw" (173 : Nat) ({ cls := "HalfIsleLaw", name := "days", desc := "(LHalfIsle;I[J)I" } : MethodName)) ∈ LW := lw5 97 rfl rfl
theorem u_1058 : (Cond.static ({ cls := "HalfIsleLaw", name := "days", desc := "(LHalfIsle;I[J)I" } : MethodName)) ∈ LW := lw5 98 rfl rfl
theorem u_1059 : (Cond.codeWith ({ cls := "HalfIsleLaw", name := "days", desc := "(LHalfIsle;I[J)I" } : MethodName) method_14_code (4 : Nat) (Option.some FieldType.int) [((0 : Nat), (9 : Nat), (12 : Nat), (13 : Nat))]) ∈ LW := lw5 99 rfl rfl
theorem u_1060 : (Cond.methodLink "HalfIsleLaw" (53 : Nat) ({ cls := "HalfIsle", name := "days", desc := "(I)I" } : MethodName)) ∈ LW := lw5 100 rfl rfl
theorem u_1061 : (Cond.instanceMethod ({ cls := "HalfIsle", name := "days", desc := "(I)I" } : MethodName)) ∈ LW := lw5 101 rfl rfl
theorem u_1062 : (Cond.selects "HalfIsle" ({ cls := "HalfIsle", name := "days", desc := "(I)I" } : MethodName) ({ cls := "HalfIsle", name := "days", desc := "(I)I" } : MethodName)) ∈ LW := lw5 102 rfl rfl
theorem u_1063 : (Cond.code ({ cls := "HalfIsle", name := "days", desc := "(I)I" } : MethodName) prog_1_method_17_code (4 : Nat) (Option.some FieldType.int)) ∈ LW := lw5 103 rfl rfl
theorem u_1064 : (Cond.methodLink "HalfIsleLaw" (176 : Nat) ({ cls := "HalfIsleLaw", name := "ahead", desc := "(LHalfIsle;III[J)I" } : MethodName)) ∈ LW := lw5 104 rfl rfl
theorem u_1065 : (Cond.static ({ cls := "HalfIsleLaw", name := "ahead", desc := "(LHalfIsle;III[J)I" } : MethodName)) ∈ LW := lw5 105 rfl rfl
theorem u_1066 : (Cond.codeWith ({ cls := "HalfIsleLaw", name := "ahead", desc := "(LHalfIsle;III[J)I" } : MethodName) method_15_code (6 : Nat) (Option.some FieldType.int) [((0 : Nat), (12 : Nat), (15 : Nat), (24 : Nat)), ((0 : Nat), (12 : Nat), (19 : Nat), (13 : Nat)), ((0 : Nat), (12 : Nat), (23 : Nat), (26 : Nat))]) ∈ LW := lw5 106 rfl rfl
theorem u_1067 : (Cond.methodLink "HalfIsleLaw" (56 : Nat) ({ cls := "HalfIsle", name := "ahead", desc := "(III)I" } : MethodName)) ∈ LW := lw5 107 rfl rfl
theorem u_1068 : (Cond.instanceMethod ({ cls := "HalfIsle", name := "ahead", desc := "(III)I" } : MethodName)) ∈ LW := lw5 108 rfl rfl
theorem u_1069 : (Cond.selects "HalfIsle" ({ cls := "HalfIsle", name := "ahead", desc := "(III)I" } : MethodName) ({ cls := "HalfIsle", name := "ahead", desc := "(III)I" } : MethodName)) ∈ LW := lw5 109 rfl rfl
theorem u_1070 : (Cond.code ({ cls := "HalfIsle", name := "ahead", desc := "(III)I" } : MethodName) prog_1_method_18_code (4 : Nat) (Option.some FieldType.int)) ∈ LW := lw5 110 rfl rfl
theorem u_1071 : (Cond.methodLink "HalfIsle" (239 : Nat) ({ cls := "HalfIsle", name := "goAhead", desc := "(I)V" } : MethodName)) ∈ LW := lw5 111 rfl rfl
theorem u_1073 : (Cond.instanceMethod ({ cls := "HalfIsle", name := "goAhead", desc := "(I)V" } : MethodName)) ∈ LW := lw5 113 rfl rfl
theorem u_1074 : (Cond.code ({ cls := "HalfIsle", name := "goAhead", desc := "(I)V" } : MethodName) prog_1_method_68_code (3 : Nat) (Option.none : Option FieldType)) ∈ LW := lw5 114 rfl rfl
theorem u_1075 : (Cond.methodLink "HalfIsleLaw" (204 : Nat) ({ cls := "HalfIsleLaw", name := "worst", desc := "(LHalfIsle;I[J)I" } : MethodName)) ∈ LW := lw5 115 rfl rfl
theorem u_1076 : (Cond.static ({ cls := "HalfIsleLaw", name := "worst", desc := "(LHalfIsle;I[J)I" } : MethodName)) ∈ LW := lw5 116 rfl rfl
theorem u_1077 : (Cond.codeWith ({ cls := "HalfIsleLaw", name := "worst", desc := "(LHalfIsle;I[J)I" } : MethodName) method_16_code (4 : Nat) (Option.some FieldType.int) [((0 : Nat), (9 : Nat), (12 : Nat), (13 : Nat))]) ∈ LW := lw5 117 rfl rfl
theorem u_1078 : (Cond.methodLink "HalfIsleLaw" (60 : Nat) ({ cls := "HalfIsle", name := "worst", desc := "(I)I" } : MethodName)) ∈ LW := lw5 118 rfl rfl
theorem u_1079 : (Cond.instanceMethod ({ cls := "HalfIsle", name := "worst", desc := "(I)I" } : MethodName)) ∈ LW := lw5 119 rfl rfl
theorem u_1080 : (Cond.selects "HalfIsle" ({ cls := "HalfIsle", name := "worst", desc := "(I)I" } : MethodName) ({ cls := "HalfIsle", name := "worst", desc := "(I)I" } : MethodName)) ∈ LW := lw5 120 rfl rfl
theorem u_1081 : (Cond.code ({ cls := "HalfIsle", name := "worst", desc := "(I)I" } : MethodName) prog_1_method_25_code (5 : Nat) (Option.some FieldType.int)) ∈ LW := lw5 121 rfl rfl
theorem u_1082 : (Cond.methodLink "HalfIsleLaw" (207 : Nat) ({ cls := "HalfIsleLaw", name := "saves", desc := "(LHalfIsle;IZ[J)I" } : MethodName)) ∈ LW := lw5 122 rfl rfl
theorem u_1083 : (Cond.static ({ cls := "HalfIsleLaw", name := "saves", desc := "(LHalfIsle;IZ[J)I" } : MethodName)) ∈ LW := lw5 123 rfl rfl
theorem u_1084 : (Cond.codeWith ({ cls := "HalfIsleLaw", name := "saves", desc := "(LHalfIsle;IZ[J)I" } : MethodName) method_17_code (5 : Nat) (Option.some FieldType.int) [((0 : Nat), (10 : Nat), (13 : Nat), (13 : Nat))]) ∈ LW := lw5 124 rfl rfl
theorem u_1085 : (Cond.methodLink "HalfIsleLaw" (63 : Nat) ({ cls := "HalfIsle", name := "saves", desc := "(IZ)I" } : MethodName)) ∈ LW := lw5 125 rfl rfl
theorem u_1086 : (Cond.instanceMethod ({ cls := "HalfIsle", name := "saves", desc := "(IZ)I" } : MethodName)) ∈ LW := lw5 126 rfl rfl
theorem u_1087 : (Cond.selects "HalfIsle" ({ cls := "HalfIsle", name := "saves", desc := "(IZ)I" } : MethodName) ({ cls := "HalfIsle", name := "saves", desc := "(IZ)I" } : MethodName)) ∈ LW := lw5 127 rfl rfl
theorem u_1088 : (Cond.code ({ cls := "HalfIsle", name := "saves", desc := "(IZ)I" } : MethodName) prog_1_method_26_code (7 : Nat) (Option.some FieldType.int)) ∈ LW := lw5 128 rfl rfl
theorem u_1089 : (Cond.methodLink "HalfIsleLaw" (219 : Nat) ({ cls := "HalfIsleLaw", name := "calm", desc := "(LHalfIsle;II[J)I" } : MethodName)) ∈ LW := lw5 129 rfl rfl
theorem u_1090 : (Cond.static ({ cls := "HalfIsleLaw", name := "calm", desc := "(LHalfIsle;II[J)I" } : MethodName)) ∈ LW := lw5 130 rfl rfl
theorem u_1091 : (Cond.codeWith ({ cls := "HalfIsleLaw", name := "calm", desc := "(LHalfIsle;II[J)I" } : MethodName) method_18_code (5 : Nat) (Option.some FieldType.int) [((0 : Nat), (10 : Nat), (13 : Nat), (13 : Nat))]) ∈ LW := lw5 131 rfl rfl
theorem u_1092 : (Cond.methodLink "HalfIsleLaw" (67 : Nat) ({ cls := "HalfIsle", name := "calm", desc := "(II)I" } : MethodName)) ∈ LW := lw5 132 rfl rfl
theorem u_1093 : (Cond.instanceMethod ({ cls := "HalfIsle", name := "calm", desc := "(II)I" } : MethodName)) ∈ LW := lw5 133 rfl rfl
theorem u_1094 : (Cond.selects "HalfIsle" ({ cls := "HalfIsle", name := "calm", desc := "(II)I" } : MethodName) ({ cls := "HalfIsle", name := "calm", desc := "(II)I" } : MethodName)) ∈ LW := lw5 134 rfl rfl
theorem u_1095 : (Cond.code ({ cls := "HalfIsle", name := "calm", desc := "(II)I" } : MethodName) prog_1_method_29_code (9 : Nat) (Option.some FieldType.int)) ∈ LW := lw5 135 rfl rfl
theorem u_1096 : (Cond.methodLink "HalfIsle" (274 : Nat) ({ cls := "HalfIsle", name := "power", desc := "(II)J" } : MethodName)) ∈ LW := lw5 136 rfl rfl
theorem u_1097 : (Cond.static ({ cls := "HalfIsle", name := "power", desc := "(II)J" } : MethodName)) ∈ LW := lw5 137 rfl rfl
theorem u_1098 : (Cond.code ({ cls := "HalfIsle", name := "power", desc := "(II)J" } : MethodName) prog_1_method_75_code (5 : Nat) (Option.some FieldType.long)) ∈ LW := lw5 138 rfl rfl
theorem u_1099 : (Cond.constantLong "HalfIsle" (278 : Nat) (10000 : Int64)) ∈ LW := lw5 139 rfl rfl
theorem u_1100 : (Cond.methodLink "HalfIsleLaw" (222 : Nat) ({ cls := "HalfIsleLaw", name := "boats", desc := "(LHalfIsle;III[J)I" } : MethodName)) ∈ LW := lw5 140 rfl rfl
theorem u_1101 : (Cond.static ({ cls := "HalfIsleLaw", name := "boats", desc := "(LHalfIsle;III[J)I" } : MethodName)) ∈ LW := lw5 141 rfl rfl
theorem u_1102 : (Cond.codeWith ({ cls := "HalfIsleLaw", name := "boats", desc := "(LHalfIsle;III[J)I" } : MethodName) method_19_code (6 : Nat) (Option.some FieldType.int) [((0 : Nat), (12 : Nat), (15 : Nat), (13 : Nat))]) ∈ LW := lw5 142 rfl rfl
theorem u_1103 : (Cond.methodLink "HalfIsleLaw" (70 : Nat) ({ cls := "HalfIsle", name := "boats", desc := "(III)I" } : MethodName)) ∈ LW := lw5 143 rfl rfl
theorem u_1104 : (Cond.instanceMethod ({ cls := "HalfIsle", name := "boats", desc := "(III)I" } : MethodName)) ∈ LW := lw5 144 rfl rfl
theorem u_1105 : (Cond.selects "HalfIsle" ({ cls := "HalfIsle", name := "boats", desc := "(III)I" } : MethodName) ({ cls := "HalfIsle", name := "boats", desc := "(III)I" } : MethodName)) ∈ LW := lw5 145 rfl rfl
theorem u_1106 : (Cond.code ({ cls := "HalfIsle", name := "boats", desc := "(III)I" } : MethodName) prog_1_method_30_code (4 : Nat) (Option.some FieldType.int)) ∈ LW := lw5 146 rfl rfl
theorem u_1107 : (Cond.methodLink "HalfIsleLaw" (233 : Nat) ({ cls := "HalfIsleLaw", name := "lighten", desc := "(LHalfIsle;I[J)I" } : MethodName)) ∈ LW := lw5 147 rfl rfl
theorem u_1108 : (Cond.static ({ cls := "HalfIsleLaw", name := "lighten", desc := "(LHalfIsle;I[J)I" } : MethodName)) ∈ LW := lw5 148 rfl rfl
theorem u_1109 : (Cond.codeWith ({ cls := "HalfIsleLaw", name := "lighten", desc := "(LHalfIsle;I[J)I" } : MethodName) method_20_code (4 : Nat) (Option.some FieldType.int) [((0 : Nat), (9 : Nat), (12 : Nat), (13 : Nat))]) ∈ LW := lw5 149 rfl rfl
theorem u_1110 : (Cond.methodLink "HalfIsleLaw" (73 : Nat) ({ cls := "HalfIsle", name := "lighten", desc := "(I)I" } : MethodName)) ∈ LW := lw5 150 rfl rfl
theorem u_1111 : (Cond.instanceMethod ({ cls := "HalfIsle", name := "lighten", desc := "(I)I" } : MethodName)) ∈ LW := lw5 151 rfl rfl
theorem u_1112 : (Cond.selects "HalfIsle" ({ cls := "HalfIsle", name := "lighten", desc := "(I)I" } : MethodName) ({ cls := "HalfIsle", name := "lighten", desc := "(I)I" } : MethodName)) ∈ LW := lw5 152 rfl rfl
theorem u_1113 : (Cond.code ({ cls := "HalfIsle", name := "lighten", desc := "(I)I" } : MethodName) prog_1_method_33_code (6 : Nat) (Option.some FieldType.int)) ∈ LW := lw5 153 rfl rfl
theorem u_1114 : (Cond.methodLink "HalfIsle" (293 : Nat) ({ cls := "HalfIsle$Island", name := "owedFor", desc := "(I)I" } : MethodName)) ∈ LW := lw5 154 rfl rfl
theorem u_1115 : (Cond.methodLink "HalfIsleLaw" (236 : Nat) ({ cls := "HalfIsleLaw", name := "wearing", desc := "(LHalfIsle;I[J)I" } : MethodName)) ∈ LW := lw5 155 rfl rfl
theorem u_1116 : (Cond.static ({ cls := "HalfIsleLaw", name := "wearing", desc := "(LHalfIsle;I[J)I" } : MethodName)) ∈ LW := lw5 156 rfl rfl
theorem u_1117 : (Cond.codeWith ({ cls := "HalfIsleLaw", name := "wearing", desc := "(LHalfIsle;I[J)I" } : MethodName) method_21_code (4 : Nat) (Option.some FieldType.int) [((0 : Nat), (9 : Nat), (12 : Nat), (24 : Nat))]) ∈ LW := lw5 157 rfl rfl
theorem u_1118 : (Cond.methodLink "HalfIsleLaw" (76 : Nat) ({ cls := "HalfIsle", name := "wearing", desc := "(I)I" } : MethodName)) ∈ LW := lw5 158 rfl rfl
theorem u_1119 : (Cond.instanceMethod ({ cls := "HalfIsle", name := "wearing", desc := "(I)I" } : MethodName)) ∈ LW := lw5 159 rfl rfl
theorem u_1120 : (Cond.selects "HalfIsle" ({ cls := "HalfIsle", name := "wearing", desc := "(I)I" } : MethodName) ({ cls := "HalfIsle", name := "wearing", desc := "(I)I" } : MethodName)) ∈ LW := lw5 160 rfl rfl
theorem u_1121 : (Cond.code ({ cls := "HalfIsle", name := "wearing", desc := "(I)I" } : MethodName) prog_1_method_34_code (2 : Nat) (Option.some FieldType.int)) ∈ LW := lw5 161 rfl rfl
theorem u_1122 : (Cond.methodLink "HalfIsle" (296 : Nat) ({ cls := "HalfIsle$Island", name := "daysLeft", desc := "()I" } : MethodName)) ∈ LW := lw5 162 rfl rfl
theorem u_1123 : (Cond.methodLink "HalfIsleLaw" (239 : Nat) ({ cls := "HalfIsleLaw", name := "meets", desc := "(LHalfIsle;II[J)I" } : MethodName)) ∈ LW := lw5 163 rfl rfl
theorem u_1124 : (Cond.static ({ cls := "HalfIsleLaw", name := "meets", desc := "(LHalfIsle;II[J)I" } : MethodName)) ∈ LW := lw5 164 rfl rfl
theorem u_1125 : (Cond.codeWith ({ cls := "HalfIsleLaw", name := "meets", desc := "(LHalfIsle;II[J)I" } : MethodName) method_22_code (5 : Nat) (Option.some FieldType.int) [((0 : Nat), (10 : Nat), (13 : Nat), (24 : Nat)), ((0 : Nat), (10 : Nat), (17 : Nat), (13 : Nat))]) ∈ LW := lw5 165 rfl rfl
theorem u_1126 : (Cond.methodLink "HalfIsleLaw" (79 : Nat) ({ cls := "HalfIsle", name := "meets", desc := "(II)I" } : MethodName)) ∈ LW := lw5 166 rfl rfl
theorem u_1127 : (Cond.instanceMethod ({ cls := "HalfIsle", name := "meets", desc := "(II)I" } : MethodName)) ∈ LW := lw5 167 rfl rfl
theorem u_1128 : (Cond.selects "HalfIsle" ({ cls := "HalfIsle", name := "meets", desc := "(II)I" } : MethodName) ({ cls := "HalfIsle", name := "meets", desc := "(II)I" } : MethodName)) ∈ LW := lw5 168 rfl rfl
theorem u_1129 : (Cond.code ({ cls := "HalfIsle", name := "meets", desc := "(II)I" } : MethodName) prog_1_method_35_code (3 : Nat) (Option.some FieldType.int)) ∈ LW := lw5 169 rfl rfl
theorem u_1131 : (Cond.methodLink "HalfIsle" (301 : Nat) ({ cls := "HalfIsle", name := "firstMeeting", desc := "(II)I" } : MethodName)) ∈ LW := lw5 171 rfl rfl
theorem u_1133 : (Cond.instanceMethod ({ cls := "HalfIsle", name := "firstMeeting", desc := "(II)I" } : MethodName)) ∈ LW := lw5 173 rfl rfl
theorem u_1134 : (Cond.code ({ cls := "HalfIsle", name := "firstMeeting", desc := "(II)I" } : MethodName) prog_1_method_71_code (4 : Nat) (Option.some FieldType.int)) ∈ LW := lw5 174 rfl rfl
theorem u_1135 : (Cond.methodLink "HalfIsleLaw" (242 : Nat) ({ cls := "HalfIsleLaw", name := "visits", desc := "(LHalfIsle;II[J)I" } : MethodName)) ∈ LW := lw5 175 rfl rfl
theorem u_1136 : (Cond.static ({ cls := "HalfIsleLaw", name := "visits", desc := "(LHalfIsle;II[J)I" } : MethodName)) ∈ LW := lw5 176 rfl rfl
theorem u_1137 : (Cond.codeWith ({ cls := "HalfIsleLaw", name := "visits", desc := "(LHalfIsle;II[J)I" } : MethodName) method_23_code (5 : Nat) (Option.some FieldType.int) [((0 : Nat), (10 : Nat), (13 : Nat), (24 : Nat)), ((0 : Nat), (10 : Nat), (17 : Nat), (13 : Nat))]) ∈ LW := lw5 177 rfl rfl
theorem u_1138 : (Cond.methodLink "HalfIsleLaw" (82 : Nat) ({ cls := "HalfIsle", name := "visits", desc := "(II)I" } : MethodName)) ∈ LW := lw5 178 rfl rfl
theorem u_1139 : (Cond.instanceMethod ({ cls := "HalfIsle", name := "visits", desc := "(II)I" } : MethodName)) ∈ LW := lw5 179 rfl rfl
theorem u_1140 : (Cond.selects "HalfIsle" ({ cls := "HalfIsle", name := "visits", desc := "(II)I" } : MethodName) ({ cls := "HalfIsle", name := "visits", desc := "(II)I" } : MethodName)) ∈ LW := lw5 180 rfl rfl
theorem u_1141 : (Cond.code ({ cls := "HalfIsle", name := "visits", desc := "(II)I" } : MethodName) prog_1_method_36_code (5 : Nat) (Option.some FieldType.int)) ∈ LW := lw5 181 rfl rfl
theorem u_1142 : (Cond.methodLink "HalfIsleLaw" (245 : Nat) ({ cls := "HalfIsleLaw", name := "crowd", desc := "(LHalfIsle;I[J)I" } : MethodName)) ∈ LW := lw5 182 rfl rfl
theorem u_1143 : (Cond.static ({ cls := "HalfIsleLaw", name := "crowd", desc := "(LHalfIsle;I[J)I" } : MethodName)) ∈ LW := lw5 183 rfl rfl
theorem u_1144 : (Cond.codeWith ({ cls := "HalfIsleLaw", name := "crowd", desc := "(LHalfIsle;I[J)I" } : MethodName) method_24_code (4 : Nat) (Option.some FieldType.int) [((0 : Nat), (9 : Nat), (12 : Nat), (13 : Nat))]) ∈ LW := lw5 184 rfl rfl
theorem u_1145 : (Cond.methodLink "HalfIsleLaw" (85 : Nat) ({ cls := "HalfIsle", name := "crowd", desc := "(I)I" } : MethodName)) ∈ LW := lw5 185 rfl rfl
theorem u_1146 : (Cond.instanceMethod ({ cls := "HalfIsle", name := "crowd", desc := "(I)I" } : MethodName)) ∈ LW := lw5 186 rfl rfl
theorem u_1147 : (Cond.selects "HalfIsle" ({ cls := "HalfIsle", name := "crowd", desc := "(I)I" } : MethodName) ({ cls := "HalfIsle", name := "crowd", desc := "(I)I" } : MethodName)) ∈ LW := lw5 187 rfl rfl
theorem u_1148 : (Cond.code ({ cls := "HalfIsle", name := "crowd", desc := "(I)I" } : MethodName) prog_1_method_37_code (4 : Nat) (Option.some FieldType.int)) ∈ LW := lw5 188 rfl rfl
theorem u_1149 : (Cond.methodLink "HalfIsleLaw" (248 : Nat) ({ cls := "HalfIsleLaw", name := "stays", desc := "(LHalfIsle;I[J)I" } : MethodName)) ∈ LW := lw5 189 rfl rfl
theorem u_1150 : (Cond.static ({ cls := "HalfIsleLaw", name := "stays", desc := "(LHalfIsle;I[J)I" } : MethodName)) ∈ LW := lw5 190 rfl rfl
theorem u_1151 : (Cond.codeWith ({ cls := "HalfIsleLaw", name := "stays", desc := "(LHalfIsle;I[J)I" } : MethodName) method_25_code (4 : Nat) (Option.some FieldType.int) [((0 : Nat), (9 : Nat), (12 : Nat), (24 : Nat))]) ∈ LW := lw5 191 rfl rfl
theorem u_1152 : (Cond.methodLink "HalfIsleLaw" (88 : Nat) ({ cls := "HalfIsle", name := "stays", desc := "(I)I" } : MethodName)) ∈ LW := lw5 192 rfl rfl
theorem u_1153 : (Cond.instanceMethod ({ cls := "HalfIsle", name := "stays", desc := "(I)I" } : MethodName)) ∈ LW := lw5 193 rfl rfl
theorem u_1154 : (Cond.selects "HalfIsle" ({ cls := "HalfIsle", name := "stays", desc := "(I)I" } : MethodName) ({ cls := "HalfIsle", name := "stays", desc := "(I)I" } : MethodName)) ∈ LW := lw5 194 rfl rfl
theorem u_1155 : (Cond.code ({ cls := "HalfIsle", name := "stays", desc := "(I)I" } : MethodName) prog_1_method_38_code (3 : Nat) (Option.some FieldType.int)) ∈ LW := lw5 195 rfl rfl
theorem u_1156 : (Cond.methodLink "HalfIsleLaw" (271 : Nat) ({ cls := "HalfIsleLaw", name := "traces", desc := "(LHalfIsle;Z[J)I" } : MethodName)) ∈ LW := lw5 196 rfl rfl
theorem u_1157 : (Cond.static ({ cls := "HalfIsleLaw", name := "traces", desc := "(LHalfIsle;Z[J)I" } : MethodName)) ∈ LW := lw5 197 rfl rfl
theorem u_1158 : (Cond.codeWith ({ cls := "HalfIsleLaw", name := "traces", desc := "(LHalfIsle;Z[J)I" } : MethodName) method_26_code (4 : Nat) (Option.some FieldType.int) [((0 : Nat), (9 : Nat), (12 : Nat), (13 : Nat))]) ∈ LW := lw5 198 rfl rfl
theorem u_1159 : (Cond.methodLink "HalfIsleLaw" (91 : Nat) ({ cls := "HalfIsle", name := "traces", desc := "(Z)I" } : MethodName)) ∈ LW := lw5 199 rfl rfl
theorem u_1160 : (Cond.instanceMethod ({ cls := "HalfIsle", name := "traces", desc := "(Z)I" } : MethodName)) ∈ LW := lw5 200 rfl rfl
theorem u_1161 : (Cond.selects "HalfIsle" ({ cls := "HalfIsle", name := "traces", desc := "(Z)I" } : MethodName) ({ cls := "HalfIsle", name := "traces", desc := "(Z)I" } : MethodName)) ∈ LW := lw5 201 rfl rfl
theorem u_1162 : (Cond.code ({ cls := "HalfIsle", name := "traces", desc := "(Z)I" } : MethodName) prog_1_method_44_code (5 : Nat) (Option.some FieldType.int)) ∈ LW := lw5 202 rfl rfl
theorem u_1163 : (Cond.methodLink "HalfIsle" (313 : Nat) ({ cls := "HalfIsle", name := "readTraces", desc := "()I" } : MethodName)) ∈ LW := lw5 203 rfl rfl
theorem u_1165 : (Cond.instanceMethod ({ cls := "HalfIsle", name := "readTraces", desc := "()I" } : MethodName)) ∈ LW := lw5 205 rfl rfl
theorem u_1166 : (Cond.code ({ cls := "HalfIsle", name := "readTraces", desc := "()I" } : MethodName) prog_1_method_81_code (6 : Nat) (Option.some FieldType.int)) ∈ LW := lw5 206 rfl rfl
theorem u_1168 : (Cond.methodLink "HalfIsle" (316 : Nat) ({ cls := "HalfIsle", name := "waysThrough", desc := "(II)I" } : MethodName)) ∈ LW := lw5 208 rfl rfl
theorem u_1169 : (Cond.static ({ cls := "HalfIsle", name := "waysThrough", desc := "(II)I" } : MethodName)) ∈ LW := lw5 209 rfl rfl
theorem u_1170 : (Cond.code ({ cls := "HalfIsle", name := "waysThrough", desc := "(II)I" } : MethodName) prog_1_method_84_code (4 : Nat) (Option.some FieldType.int)) ∈ LW := lw5 210 rfl rfl
theorem u_1171 : (Cond.methodLink "HalfIsle" (319 : Nat) ({ cls := "HalfIsle", name := "fits", desc := "(II)Z" } : MethodName)) ∈ LW := lw5 211 rfl rfl
theorem u_1172 : (Cond.static ({ cls := "HalfIsle", name := "fits", desc := "(II)Z" } : MethodName)) ∈ LW := lw5 212 rfl rfl
theorem u_1173 : (Cond.code ({ cls := "HalfIsle", name := "fits", desc := "(II)Z" } : MethodName) prog_1_method_83_code (5 : Nat) (Option.some FieldType.boolean)) ∈ LW := lw5 213 rfl rfl
theorem u_1174 : (Cond.methodLink "HalfIsle" (323 : Nat) ({ cls := "HalfIsle", name := "roomsOf", desc := "(I)I" } : MethodName)) ∈ LW := lw5 214 rfl rfl
theorem u_1175 : (Cond.static ({ cls := "HalfIsle", name := "roomsOf", desc := "(I)I" } : MethodName)) ∈ LW := lw5 215 rfl rfl
theorem u_1176 : (Cond.code ({ cls := "HalfIsle", name := "roomsOf", desc := "(I)I" } : MethodName) prog_1_method_82_code (5 : Nat) (Option.some FieldType.int)) ∈ LW := lw5 216 rfl rfl
theorem u_1177 : (Cond.methodLink "HalfIsleLaw" (275 : Nat) ({ cls := "HalfIsleLaw", name := "look", desc := "(LHalfIsle;[J)I" } : MethodName)) ∈ LW := lw5 217 rfl rfl
theorem u_1178 : (Cond.static ({ cls := "HalfIsleLaw", name := "look", desc := "(LHalfIsle;[J)I" } : MethodName)) ∈ LW := lw5 218 rfl rfl
theorem u_1179 : (Cond.codeWith ({ cls := "HalfIsleLaw", name := "look", desc := "(LHalfIsle;[J)I" } : MethodName) method_27_code (3 : Nat) (Option.some FieldType.int) [((0 : Nat), (8 : Nat), (11 : Nat), (13 : Nat))]) ∈ LW := lw5 219 rfl rfl
theorem u_1180 : (Cond.methodLink "HalfIsleLaw" (95 : Nat) ({ cls := "HalfIsle", name := "look", desc := "()I" } : MethodName)) ∈ LW := lw5 220 rfl rfl
theorem u_1181 : (Cond.instanceMethod ({ cls := "HalfIsle", name := "look", desc := "()I" } : MethodName)) ∈ LW := lw5 221 rfl rfl
theorem u_1182 : (Cond.selects "HalfIsle" ({ cls := "HalfIsle", name := "look", desc := "()I" } : MethodName) ({ cls := "HalfIsle", name := "look", desc := "()I" } : MethodName)) ∈ LW := lw5 222 rfl rfl
theorem u_1183 : (Cond.code ({ cls := "HalfIsle", name := "look", desc := "()I" } : MethodName) prog_1_method_45_code (8 : Nat) (Option.some FieldType.int)) ∈ LW := lw5 223 rfl rfl
theorem u_1184 : (Cond.methodLink "HalfIsleLaw" (282 : Nat) ({ cls := "HalfIsleLaw", name := "trial", desc := "(LHalfIsle;IZ[J)I" } : MethodName)) ∈ LW := lw5 224 rfl rfl
theorem u_1185 : (Cond.static ({ cls := "HalfIsleLaw", name := "trial", desc := "(LHalfIsle;IZ[J)I" } : MethodName)) ∈ LW := lw5 225 rfl rfl
theorem u_1186 : (Cond.codeWith ({ cls := "HalfIsleLaw", name := "trial", desc := "(LHalfIsle;IZ[J)I" } : MethodName) method_28_code (5 : Nat) (Option.some FieldType.int) [((0 : Nat), (10 : Nat), (13 : Nat), (13 : Nat))]) ∈ LW := lw5 226 rfl rfl
theorem u_1187 : (Cond.methodLink "HalfIsleLaw" (98 : Nat) ({ cls := "HalfIsle", name := "trial", desc := "(IZ)I" } : MethodName)) ∈ LW := lw5 227 rfl rfl
theorem u_1188 : (Cond.instanceMethod ({ cls := "HalfIsle", name := "trial", desc := "(IZ)I" } : MethodName)) ∈ LW := lw5 228 rfl rfl
theorem u_1189 : (Cond.selects "HalfIsle" ({ cls := "HalfIsle", name := "trial", desc := "(IZ)I" } : MethodName) ({ cls := "HalfIsle", name := "trial", desc := "(IZ)I" } : MethodName)) ∈ LW := lw5 229 rfl rfl
theorem u_1190 : (Cond.code ({ cls := "HalfIsle", name := "trial", desc := "(IZ)I" } : MethodName) prog_1_method_47_code (3 : Nat) (Option.some FieldType.int)) ∈ LW := lw5 230 rfl rfl
theorem u_1191 : (Cond.methodLink "HalfIsle" (329 : Nat) ({ cls := "HalfIsle", name := "tryDays", desc := "(II)V" } : MethodName)) ∈ LW := lw5 231 rfl rfl
theorem u_1193 : (Cond.instanceMethod ({ cls := "HalfIsle", name := "tryDays", desc := "(II)V" } : MethodName)) ∈ LW := lw5 233 rfl rfl
theorem u_1194 : (Cond.code ({ cls := "HalfIsle", name := "tryDays", desc := "(II)V" } : MethodName) prog_1_method_69_code (4 : Nat) (Option.none : Option FieldType)) ∈ LW := lw5 234 rfl rfl
theorem u_1195 : (Cond.methodLink "HalfIsleLaw" (285 : Nat) ({ cls := "HalfIsleLaw", name := "span", desc := "(LHalfIsle;IZ[J)I" } : MethodName)) ∈ LW := lw5 235 rfl rfl
theorem u_1196 : (Cond.static ({ cls := "HalfIsleLaw", name := "span", desc := "(LHalfIsle;IZ[J)I" } : MethodName)) ∈ LW := lw5 236 rfl rfl
theorem u_1197 : (Cond.codeWith ({ cls := "HalfIsleLaw", name := "span", desc := "(LHalfIsle;IZ[J)I" } : MethodName) method_29_code (5 : Nat) (Option.some FieldType.int) [((0 : Nat), (10 : Nat), (13 : Nat), (13 : Nat))]) ∈ LW := lw5 237 rfl rfl
theorem u_1198 : (Cond.methodLink "HalfIsleLaw" (101 : Nat) ({ cls := "HalfIsle", name := "span", desc := "(IZ)I" } : MethodName)) ∈ LW := lw5 238 rfl rfl
theorem u_1199 : (Cond.instanceMethod ({ cls := "HalfIsle", name := "span", desc := "(IZ)I" } : MethodName)) ∈ LW := lw5 239 rfl rfl
theorem u_1200 : (Cond.selects "HalfIsle" ({ cls := "HalfIsle", name := "span", desc := "(IZ)I" } : MethodName) ({ cls := "HalfIsle", name := "span", desc := "(IZ)I" } : MethodName)) ∈ LW := lw6 0 rfl rfl
theorem u_1201 : (Cond.code ({ cls := "HalfIsle", name := "span", desc := "(IZ)I" } : MethodName) prog_1_method_48_code (6 : Nat) (Option.some FieldType.int)) ∈ LW := lw6 1 rfl rfl
theorem u_1202 : (Cond.methodLink "HalfIsleLaw" (288 : Nat) ({ cls := "HalfIsleLaw", name := "led", desc := "(LHalfIsle;IZ[J)I" } : MethodName)) ∈ LW := lw6 2 rfl rfl
theorem u_1203 : (Cond.static ({ cls := "HalfIsleLaw", name := "led", desc := "(LHalfIsle;IZ[J)I" } : MethodName)) ∈ LW := lw6 3 rfl rfl
theorem u_1204 : (Cond.codeWith ({ cls := "HalfIsleLaw", name := "led", desc := "(LHalfIsle;IZ[J)I" } : MethodName) method_30_code (5 : Nat) (Option.some FieldType.int) [((0 : Nat), (10 : Nat), (13 : Nat), (24 : Nat))]) ∈ LW := lw6 4 rfl rfl
theorem u_1205 : (Cond.methodLink "HalfIsleLaw" (104 : Nat) ({ cls := "HalfIsle", name := "led", desc := "(IZ)I" } : MethodName)) ∈ LW := lw6 5 rfl rfl
theorem u_1206 : (Cond.instanceMethod ({ cls := "HalfIsle", name := "led", desc := "(IZ)I" } : MethodName)) ∈ LW := lw6 6 rfl rfl
theorem u_1207 : (Cond.selects "HalfIsle" ({ cls := "HalfIsle", name := "led", desc := "(IZ)I" } : MethodName) ({ cls := "HalfIsle", name := "led", desc := "(IZ)I" } : MethodName)) ∈ LW := lw6 7 rfl rfl
theorem u_1208 : (Cond.code ({ cls := "HalfIsle", name := "led", desc := "(IZ)I" } : MethodName) prog_1_method_49_code (6 : Nat) (Option.some FieldType.int)) ∈ LW := lw6 8 rfl rfl
theorem u_1209 : (Cond.methodLink "HalfIsle" (344 : Nat) ({ cls := "HalfIsle$Leavings", name := "cell", desc := "(II)I" } : MethodName)) ∈ LW := lw6 9 rfl rfl
theorem u_1210 : (Cond.instanceMethod ({ cls := "HalfIsle$Leavings", name := "cell", desc := "(II)I" } : MethodName)) ∈ LW := lw6 10 rfl rfl
theorem u_1211 : (Cond.selects "HalfIsle$Leavings" ({ cls := "HalfIsle$Leavings", name := "cell", desc := "(II)I" } : MethodName) ({ cls := "HalfIsle$Leavings", name := "cell", desc := "(II)I" } : MethodName)) ∈ LW := lw6 11 rfl rfl
theorem u_1212 : (Cond.code ({ cls := "HalfIsle$Leavings", name := "cell", desc := "(II)I" } : MethodName) prog_6_method_4_code (4 : Nat) (Option.some FieldType.int)) ∈ LW := lw6 12 rfl rfl
theorem u_1213 : (Cond.methodLink "HalfIsle$Leavings" (36 : Nat) ({ cls := "java/lang/Math", name := "floorMod", desc := "(II)I" } : MethodName)) ∈ LW := lw6 13 rfl rfl
theorem u_1214 : (Cond.static ({ cls := "java/lang/Math", name := "floorMod", desc := "(II)I" } : MethodName)) ∈ LW := lw6 14 rfl rfl
theorem u_1215 : (Cond.code ({ cls := "java/lang/Math", name := "floorMod", desc := "(II)I" } : MethodName) prog_18_method_50_code (3 : Nat) (Option.some FieldType.int)) ∈ LW := lw6 15 rfl rfl
theorem un_1216 : (Cond.methodLinkNest "HalfIsle$Leavings" (39 : Nat) ({ cls := "HalfIsle", name := "at", desc := "([II)I" } : MethodName) "HalfIsle") ∈ NW := nw6 16 rfl rfl
theorem u_1217 : (Cond.methodLink "HalfIsleLaw" (291 : Nat) ({ cls := "HalfIsleLaw", name := "log", desc := "(LHalfIsle;II[J)I" } : MethodName)) ∈ LW := lw6 17 rfl rfl
theorem u_1218 : (Cond.static ({ cls := "HalfIsleLaw", name := "log", desc := "(LHalfIsle;II[J)I" } : MethodName)) ∈ LW := lw6 18 rfl rfl
theorem u_1219 : (Cond.codeWith ({ cls := "HalfIsleLaw", name := "log", desc := "(LHalfIsle;II[J)I" } : MethodName) method_31_code (5 : Nat) (Option.some FieldType.int) [((0 : Nat), (10 : Nat), (13 : Nat), (26 : Nat))]) ∈ LW := lw6 19 rfl rfl
theorem u_1220 : (Cond.methodLink "HalfIsleLaw" (107 : Nat) ({ cls := "HalfIsle", name := "log", desc := "(II)I" } : MethodName)) ∈ LW := lw6 20 rfl rfl
theorem u_1221 : (Cond.instanceMethod ({ cls := "HalfIsle", name := "log", desc := "(II)I" } : MethodName)) ∈ LW := lw6 21 rfl rfl
theorem u_1222 : (Cond.selects "HalfIsle" ({ cls := "HalfIsle", name := "log", desc := "(II)I" } : MethodName) ({ cls := "HalfIsle", name := "log", desc := "(II)I" } : MethodName)) ∈ LW := lw6 22 rfl rfl
theorem u_1223 : (Cond.code ({ cls := "HalfIsle", name := "log", desc := "(II)I" } : MethodName) prog_1_method_50_code (3 : Nat) (Option.some FieldType.int)) ∈ LW := lw6 23 rfl rfl
theorem u_1224 : (Cond.classLink "HalfIsleLaw" (111 : Nat) "HalfIsleModel") ∈ LW := lw6 24 rfl rfl
theorem u_1225 : (Cond.instantiable "HalfIsleModel" (22 : Nat)) ∈ LW := lw6 25 rfl rfl
theorem u_1226 : (Cond.methodLink "HalfIsleLaw" (113 : Nat) ({ cls := "HalfIsleModel", name := "<init>", desc := "()V" } : MethodName)) ∈ LW := lw6 26 rfl rfl
theorem u_1227 : (Cond.instanceMethod ({ cls := "HalfIsleModel", name := "<init>", desc := "()V" } : MethodName)) ∈ LW := lw6 27 rfl rfl
theorem u_1228 : (Cond.code ({ cls := "HalfIsleModel", name := "<init>", desc := "()V" } : MethodName) prog_10_method_1_code (2 : Nat) (Option.none : Option FieldType)) ∈ LW := lw6 28 rfl rfl
theorem u_1229 : (Cond.methodLink "HalfIsleModel" (1 : Nat) ({ cls := "java/lang/Object", name := "<init>", desc := "()V" } : MethodName)) ∈ LW := lw6 29 rfl rfl
theorem u_1230 : (Cond.fieldLink "HalfIsleModel" (39 : Nat) "HalfIsleModel" "thrown" "I") ∈ LW := lw6 30 rfl rfl
theorem u_1231 : (Cond.fieldLink "HalfIsleModel" (7 : Nat) "HalfIsleModel" "m" "[I") ∈ LW := lw6 31 rfl rfl
theorem u_1232 : (Cond.fieldLink "HalfIsleModel" (13 : Nat) "HalfIsleModel" "kept" "[I") ∈ LW := lw6 32 rfl rfl
theorem u_1233 : (Cond.fieldLink "HalfIsleModel" (337 : Nat) "HalfIsleModel" "hasImage" "Z") ∈ LW := lw6 33 rfl rfl
theorem u_1234 : (Cond.fieldLink "HalfIsleModel" (16 : Nat) "HalfIsleModel" "aside" "[I") ∈ LW := lw6 34 rfl rfl
theorem u_1235 : (Cond.fieldLink "HalfIsleModel" (19 : Nat) "HalfIsleModel" "acts" "[I") ∈ LW := lw6 35 rfl rfl
theorem u_1236 : (Cond.fieldLink "HalfIsleModel" (158 : Nat) "HalfIsleModel" "acted" "I") ∈ LW := lw6 36 rfl rfl
theorem u_1237 : (Cond.fieldLink "HalfIsleModel" (22 : Nat) "HalfIsleModel" "tape" "[I") ∈ LW := lw6 37 rfl rfl
theorem u_1238 : (Cond.fieldLink "HalfIsleModel" (50 : Nat) "HalfIsleModel" "taped" "I") ∈ LW := lw6 38 rfl rfl
theorem u_1239 : (Cond.fieldLink "HalfIsleModel" (53 : Nat) "HalfIsleModel" "base" "I") ∈ LW := lw6 39 rfl rfl
theorem u_1240 : (Cond.fieldLink "HalfIsleModel" (59 : Nat) "HalfIsleModel" "end" "I") ∈ LW := lw6 40 rfl rfl
theorem u_1241 : (Cond.fieldLink "HalfIsleModel" (56 : Nat) "HalfIsleModel" "at" "I") ∈ LW := lw6 41 rfl rfl
theorem u_1242 : (Cond.fieldLink "HalfIsleModel" (25 : Nat) "HalfIsleModel" "fault" "I") ∈ LW := lw6 42 rfl rfl
theorem u_1243 : (Cond.fieldLink "HalfIsleModel" (132 : Nat) "HalfIsleModel" "deep" "I") ∈ LW := lw6 43 rfl rfl
theorem u_1244 : (Cond.fieldLink "HalfIsleModel" (29 : Nat) "HalfIsleModel" "fact" "[I") ∈ LW := lw6 44 rfl rfl
theorem u_1245 : (Cond.fieldLink "HalfIsleModel" (172 : Nat) "HalfIsleModel" "isOwn" "Z") ∈ LW := lw6 45 rfl rfl
theorem u_1246 : (Cond.fieldLink "HalfIsleModel" (176 : Nat) "HalfIsleModel" "isHome" "Z") ∈ LW := lw6 46 rfl rfl
theorem u_1247 : (Cond.fieldLink "HalfIsleModel" (207 : Nat) "HalfIsleModel" "wears" "I") ∈ LW := lw6 47 rfl rfl
theorem u_1248 : (Cond.fieldLink "HalfIsleModel" (210 : Nat) "HalfIsleModel" "shifts" "I") ∈ LW := lw6 48 rfl rfl
theorem u_1249 : (Cond.fieldLink "HalfIsleModel" (213 : Nat) "HalfIsleModel" "soils" "I") ∈ LW := lw6 49 rfl rfl
theorem u_1250 : (Cond.fieldLink "HalfIsleModel" (32 : Nat) "HalfIsleModel" "least" "[I") ∈ LW := lw6 50 rfl rfl
theorem u_1251 : (Cond.fieldLink "HalfIsleModel" (35 : Nat) "HalfIsleModel" "fits" "[Z") ∈ LW := lw6 51 rfl rfl
theorem u_1252 : (Cond.lays "HalfIsleModel" "HalfIsleModel" "thrown" "I") ∈ LW := lw6 52 rfl rfl
theorem u_1254 : (Cond.laysFinal "HalfIsleModel" "HalfIsleModel" "m" "[I") ∈ LW := lw6 54 rfl rfl
theorem u_1256 : (Cond.laysFinal "HalfIsleModel" "HalfIsleModel" "kept" "[I") ∈ LW := lw6 56 rfl rfl
theorem u_1258 : (Cond.lays "HalfIsleModel" "HalfIsleModel" "hasImage" "Z") ∈ LW := lw6 58 rfl rfl
theorem u_1260 : (Cond.laysFinal "HalfIsleModel" "HalfIsleModel" "aside" "[I") ∈ LW := lw6 60 rfl rfl
theorem u_1262 : (Cond.laysFinal "HalfIsleModel" "HalfIsleModel" "acts" "[I") ∈ LW := lw6 62 rfl rfl
theorem u_1264 : (Cond.lays "HalfIsleModel" "HalfIsleModel" "acted" "I") ∈ LW := lw6 64 rfl rfl
theorem u_1266 : (Cond.laysFinal "HalfIsleModel" "HalfIsleModel" "tape" "[I") ∈ LW := lw6 66 rfl rfl
theorem u_1268 : (Cond.lays "HalfIsleModel" "HalfIsleModel" "taped" "I") ∈ LW := lw6 68 rfl rfl
theorem u_1270 : (Cond.lays "HalfIsleModel" "HalfIsleModel" "base" "I") ∈ LW := lw6 70 rfl rfl
theorem u_1272 : (Cond.lays "HalfIsleModel" "HalfIsleModel" "end" "I") ∈ LW := lw6 72 rfl rfl
theorem u_1274 : (Cond.lays "HalfIsleModel" "HalfIsleModel" "at" "I") ∈ LW := lw6 74 rfl rfl
theorem u_1276 : (Cond.lays "HalfIsleModel" "HalfIsleModel" "fault" "I") ∈ LW := lw6 76 rfl rfl
theorem u_1278 : (Cond.lays "HalfIsleModel" "HalfIsleModel" "deep" "I") ∈ LW := lw6 78 rfl rfl
theorem u_1280 : (Cond.laysFinal "HalfIsleModel" "HalfIsleModel" "fact" "[I") ∈ LW := lw6 80 rfl rfl
theorem u_1282 : (Cond.lays "HalfIsleModel" "HalfIsleModel" "isOwn" "Z") ∈ LW := lw6 82 rfl rfl
theorem u_1284 : (Cond.lays "HalfIsleModel" "HalfIsleModel" "isHome" "Z") ∈ LW := lw6 84 rfl rfl
theorem u_1286 : (Cond.lays "HalfIsleModel" "HalfIsleModel" "wears" "I") ∈ LW := lw6 86 rfl rfl
theorem u_1288 : (Cond.lays "HalfIsleModel" "HalfIsleModel" "shifts" "I") ∈ LW := lw6 88 rfl rfl
theorem u_1290 : (Cond.lays "HalfIsleModel" "HalfIsleModel" "soils" "I") ∈ LW := lw6 90 rfl rfl
theorem u_1292 : (Cond.laysFinal "HalfIsleModel" "HalfIsleModel" "least" "[I") ∈ LW := lw6 92 rfl rfl
theorem u_1294 : (Cond.laysFinal "HalfIsleModel" "HalfIsleModel" "fits" "[Z") ∈ LW := lw6 94 rfl rfl
theorem u_1297 : (Cond.arrayClass FieldType.boolean) ∈ LW := lw6 97 rfl rfl
theorem u_1298 : (Cond.methodLink "HalfIsleLaw" (130 : Nat) ({ cls := "HalfIsleModel", name := "thrown", desc := "()I" } : MethodName)) ∈ LW := lw6 98 rfl rfl
theorem u_1299 : (Cond.instanceMethod ({ cls := "HalfIsleModel", name := "thrown", desc := "()I" } : MethodName)) ∈ LW := lw6 99 rfl rfl
theorem u_1300 : (Cond.selects "HalfIsleModel" ({ cls := "HalfIsleModel", name := "thrown", desc := "()I" } : MethodName) ({ cls := "HalfIsleModel", name := "thrown", desc := "()I" } : MethodName)) ∈ LW := lw6 100 rfl rfl
theorem u_1301 : (Cond.code ({ cls := "HalfIsleModel", name := "thrown", desc := "()I" } : MethodName) prog_10_method_2_code (1 : Nat) (Option.some FieldType.int)) ∈ LW := lw6 101 rfl rfl
theorem u_1302 : (Cond.methodLink "HalfIsleLaw" (118 : Nat) ({ cls := "HalfIsleModel", name := "feed", desc := "(IIIII)I" } : MethodName)) ∈ LW := lw6 102 rfl rfl
theorem u_1303 : (Cond.instanceMethod ({ cls := "HalfIsleModel", name := "feed", desc := "(IIIII)I" } : MethodName)) ∈ LW := lw6 103 rfl rfl
theorem u_1304 : (Cond.selects "HalfIsleModel" ({ cls := "HalfIsleModel", name := "feed", desc := "(IIIII)I" } : MethodName) ({ cls := "HalfIsleModel", name := "feed", desc := "(IIIII)I" } : MethodName)) ∈ LW := lw6 104 rfl rfl
theorem u_1305 : (Cond.code ({ cls := "HalfIsleModel", name := "feed", desc := "(IIIII)I" } : MethodName) prog_10_method_16_code (8 : Nat) (Option.some FieldType.int)) ∈ LW := lw6 105 rfl rfl
theorem u_1306 : (Cond.methodLink "HalfIsleLaw" (123 : Nat) ({ cls := "HalfIsleModel", name := "end", desc := "(I)Z" } : MethodName)) ∈ LW := lw6 106 rfl rfl
theorem u_1307 : (Cond.instanceMethod ({ cls := "HalfIsleModel", name := "end", desc := "(I)Z" } : MethodName)) ∈ LW := lw6 107 rfl rfl
theorem u_1308 : (Cond.selects "HalfIsleModel" ({ cls := "HalfIsleModel", name := "end", desc := "(I)Z" } : MethodName) ({ cls := "HalfIsleModel", name := "end", desc := "(I)Z" } : MethodName)) ∈ LW := lw6 108 rfl rfl
theorem u_1309 : (Cond.code ({ cls := "HalfIsleModel", name := "end", desc := "(I)Z" } : MethodName) prog_10_method_17_code (2 : Nat) (Option.some FieldType.boolean)) ∈ LW := lw6 109 rfl rfl
theorem u_1310 : (Cond.methodLink "HalfIsleModel" (42 : Nat) ({ cls := "HalfIsleModel", name := "isIn", desc := "(III)Z" } : MethodName)) ∈ LW := lw6 110 rfl rfl
theorem u_1311 : (Cond.static ({ cls := "HalfIsleModel", name := "isIn", desc := "(III)Z" } : MethodName)) ∈ LW := lw6 111 rfl rfl
theorem u_1312 : (Cond.code ({ cls := "HalfIsleModel", name := "isIn", desc := "(III)Z" } : MethodName) prog_10_method_3_code (3 : Nat) (Option.some FieldType.boolean)) ∈ LW := lw6 112 rfl rfl
theorem u_1313 : (Cond.methodLink "HalfIsleLaw" (129 : Nat) ({ cls := "HalfIsleModel", name := "deed", desc := "()I" } : MethodName)) ∈ LW := lw6 113 rfl rfl
theorem u_1314 : (Cond.instanceMethod ({ cls := "HalfIsleModel", name := "deed", desc := "()I" } : MethodName)) ∈ LW := lw6 114 rfl rfl
theorem u_1315 : (Cond.selects "HalfIsleModel" ({ cls := "HalfIsleModel", name := "deed", desc := "()I" } : MethodName) ({ cls := "HalfIsleModel", name := "deed", desc := "()I" } : MethodName)) ∈ LW := lw6 115 rfl rfl
theorem u_1316 : (Cond.code ({ cls := "HalfIsleModel", name := "deed", desc := "()I" } : MethodName) prog_10_method_34_code (2 : Nat) (Option.some FieldType.int)) ∈ LW := lw6 116 rfl rfl
theorem u_1317 : (Cond.methodLink "HalfIsleModel" (145 : Nat) ({ cls := "HalfIsleModel", name := "putsAside", desc := "()V" } : MethodName)) ∈ LW := lw6 117 rfl rfl
theorem u_1319 : (Cond.instanceMethod ({ cls := "HalfIsleModel", name := "putsAside", desc := "()V" } : MethodName)) ∈ LW := lw6 119 rfl rfl
theorem u_1320 : (Cond.code ({ cls := "HalfIsleModel", name := "putsAside", desc := "()V" } : MethodName) prog_10_method_32_code (2 : Nat) (Option.none : Option FieldType)) ∈ LW := lw6 120 rfl rfl
theorem u_1321 : (Cond.methodLink "HalfIsleModel" (148 : Nat) ({ cls := "HalfIsleModel", name := "begins", desc := "()V" } : MethodName)) ∈ LW := lw6 121 rfl rfl
theorem u_1323 : (Cond.instanceMethod ({ cls := "HalfIsleModel", name := "begins", desc := "()V" } : MethodName)) ∈ LW := lw6 123 rfl rfl
theorem u_1324 : (Cond.code ({ cls := "HalfIsleModel", name := "begins", desc := "()V" } : MethodName) prog_10_method_30_code (1 : Nat) (Option.none : Option FieldType)) ∈ LW := lw6 124 rfl rfl
theorem u_1325 : (Cond.methodLink "HalfIsleModel" (151 : Nat) ({ cls := "HalfIsleModel", name := "read", desc := "(Z)I" } : MethodName)) ∈ LW := lw6 125 rfl rfl
theorem u_1327 : (Cond.instanceMethod ({ cls := "HalfIsleModel", name := "read", desc := "(Z)I" } : MethodName)) ∈ LW := lw6 127 rfl rfl
theorem u_1328 : (Cond.code ({ cls := "HalfIsleModel", name := "read", desc := "(Z)I" } : MethodName) prog_10_method_31_code (4 : Nat) (Option.some FieldType.int)) ∈ LW := lw6 128 rfl rfl
theorem u_1329 : (Cond.methodLink "HalfIsleModel" (66 : Nat) ({ cls := "HalfIsleModel", name := "skip", desc := "()V" } : MethodName)) ∈ LW := lw6 129 rfl rfl
theorem u_1331 : (Cond.instanceMethod ({ cls := "HalfIsleModel", name := "skip", desc := "()V" } : MethodName)) ∈ LW := lw6 131 rfl rfl
theorem u_1332 : (Cond.code ({ cls := "HalfIsleModel", name := "skip", desc := "()V" } : MethodName) prog_10_method_19_code (1 : Nat) (Option.none : Option FieldType)) ∈ LW := lw6 132 rfl rfl
theorem u_1333 : (Cond.methodLink "HalfIsleModel" (62 : Nat) ({ cls := "HalfIsleModel", name := "letter", desc := "(I)I" } : MethodName)) ∈ LW := lw6 133 rfl rfl
theorem u_1335 : (Cond.instanceMethod ({ cls := "HalfIsleModel", name := "letter", desc := "(I)I" } : MethodName)) ∈ LW := lw6 135 rfl rfl
theorem u_1336 : (Cond.code ({ cls := "HalfIsleModel", name := "letter", desc := "(I)I" } : MethodName) prog_10_method_18_code (2 : Nat) (Option.some FieldType.int)) ∈ LW := lw6 136 rfl rfl
theorem u_1337 : (Cond.methodLink "HalfIsleModel" (82 : Nat) ({ cls := "HalfIsleModel", name := "wrong", desc := "(I)V" } : MethodName)) ∈ LW := lw6 137 rfl rfl
theorem u_1339 : (Cond.instanceMethod ({ cls := "HalfIsleModel", name := "wrong", desc := "(I)V" } : MethodName)) ∈ LW := lw6 139 rfl rfl
theorem u_1340 : (Cond.code ({ cls := "HalfIsleModel", name := "wrong", desc := "(I)V" } : MethodName) prog_10_method_22_code (2 : Nat) (Option.none : Option FieldType)) ∈ LW := lw6 140 rfl rfl
theorem u_1341 : (Cond.methodLink "HalfIsleModel" (135 : Nat) ({ cls := "HalfIsleModel", name := "lawLine", desc := "()V" } : MethodName)) ∈ LW := lw6 141 rfl rfl
theorem u_1343 : (Cond.instanceMethod ({ cls := "HalfIsleModel", name := "lawLine", desc := "()V" } : MethodName)) ∈ LW := lw6 143 rfl rfl
theorem u_1344 : (Cond.code ({ cls := "HalfIsleModel", name := "lawLine", desc := "()V" } : MethodName) prog_10_method_41_code (4 : Nat) (Option.none : Option FieldType)) ∈ LW := lw6 144 rfl rfl
theorem u_1346 : (Cond.methodLink "HalfIsleModel" (86 : Nat) ({ cls := "HalfIsleModel", name := "has", desc := "(Ljava/lang/String;)Z" } : MethodName)) ∈ LW := lw6 146 rfl rfl
theorem u_1348 : (Cond.instanceMethod ({ cls := "HalfIsleModel", name := "has", desc := "(Ljava/lang/String;)Z" } : MethodName)) ∈ LW := lw6 148 rfl rfl
theorem u_1349 : (Cond.code ({ cls := "HalfIsleModel", name := "has", desc := "(Ljava/lang/String;)Z" } : MethodName) prog_10_method_21_code (4 : Nat) (Option.some FieldType.boolean)) ∈ LW := lw6 149 rfl rfl
theorem u_1350 : (Cond.methodLink "HalfIsleModel" (69 : Nat) ({ cls := "java/lang/String", name := "length", desc := "()I" } : MethodName)) ∈ LW := lw6 150 rfl rfl
theorem u_1351 : (Cond.methodLink "HalfIsleModel" (75 : Nat) ({ cls := "java/lang/String", name := "charAt", desc := "(I)C" } : MethodName)) ∈ LW := lw6 151 rfl rfl
theorem u_1354 : (Cond.methodLink "HalfIsleModel" (90 : Nat) ({ cls := "HalfIsleModel", name := "figures", desc := "(II)I" } : MethodName)) ∈ LW := lw6 154 rfl rfl
theorem u_1356 : (Cond.instanceMethod ({ cls := "HalfIsleModel", name := "figures", desc := "(II)I" } : MethodName)) ∈ LW := lw6 156 rfl rfl
theorem u_1357 : (Cond.code ({ cls := "HalfIsleModel", name := "figures", desc := "(II)I" } : MethodName) prog_10_method_24_code (5 : Nat) (Option.some FieldType.int)) ∈ LW := lw6 157 rfl rfl
theorem u_1358 : (Cond.methodLink "HalfIsleModel" (79 : Nat) ({ cls := "HalfIsleModel", name := "place", desc := "()I" } : MethodName)) ∈ LW := lw6 158 rfl rfl
theorem u_1360 : (Cond.instanceMethod ({ cls := "HalfIsleModel", name := "place", desc := "()I" } : MethodName)) ∈ LW := lw6 160 rfl rfl
theorem u_1361 : (Cond.code ({ cls := "HalfIsleModel", name := "place", desc := "()I" } : MethodName) prog_10_method_23_code (1 : Nat) (Option.some FieldType.int)) ∈ LW := lw6 161 rfl rfl
theorem u_1363 : (Cond.methodLink "HalfIsleModel" (191 : Nat) ({ cls := "HalfIsleModel", name := "some", desc := "()Z" } : MethodName)) ∈ LW := lw6 163 rfl rfl
theorem u_1365 : (Cond.instanceMethod ({ cls := "HalfIsleModel", name := "some", desc := "()Z" } : MethodName)) ∈ LW := lw6 165 rfl rfl
theorem u_1366 : (Cond.code ({ cls := "HalfIsleModel", name := "some", desc := "()Z" } : MethodName) prog_10_method_40_code (3 : Nat) (Option.some FieldType.boolean)) ∈ LW := lw6 166 rfl rfl
theorem u_1367 : (Cond.methodLink "HalfIsleModel" (196 : Nat) ({ cls := "HalfIsleModel", name := "every", desc := "()Z" } : MethodName)) ∈ LW := lw6 167 rfl rfl
theorem u_1369 : (Cond.instanceMethod ({ cls := "HalfIsleModel", name := "every", desc := "()Z" } : MethodName)) ∈ LW := lw6 169 rfl rfl
theorem u_1370 : (Cond.code ({ cls := "HalfIsleModel", name := "every", desc := "()Z" } : MethodName) prog_10_method_39_code (3 : Nat) (Option.some FieldType.boolean)) ∈ LW := lw6 170 rfl rfl
theorem u_1371 : (Cond.methodLink "HalfIsleModel" (188 : Nat) ({ cls := "HalfIsleModel", name := "atom", desc := "()Z" } : MethodName)) ∈ LW := lw6 171 rfl rfl
theorem u_1373 : (Cond.instanceMethod ({ cls := "HalfIsleModel", name := "atom", desc := "()Z" } : MethodName)) ∈ LW := lw6 173 rfl rfl
theorem u_1374 : (Cond.code ({ cls := "HalfIsleModel", name := "atom", desc := "()Z" } : MethodName) prog_10_method_38_code (4 : Nat) (Option.some FieldType.boolean)) ∈ LW := lw6 174 rfl rfl
theorem u_1376 : (Cond.methodLink "HalfIsleModel" (141 : Nat) ({ cls := "HalfIsleModel", name := "isSign", desc := "(I)Z" } : MethodName)) ∈ LW := lw6 176 rfl rfl
theorem u_1378 : (Cond.instanceMethod ({ cls := "HalfIsleModel", name := "isSign", desc := "(I)Z" } : MethodName)) ∈ LW := lw6 178 rfl rfl
theorem u_1379 : (Cond.code ({ cls := "HalfIsleModel", name := "isSign", desc := "(I)Z" } : MethodName) prog_10_method_20_code (2 : Nat) (Option.some FieldType.boolean)) ∈ LW := lw6 179 rfl rfl
theorem u_1380 : (Cond.methodLink "HalfIsleModel" (184 : Nat) ({ cls := "HalfIsleModel", name := "plain", desc := "()Z" } : MethodName)) ∈ LW := lw6 180 rfl rfl
theorem u_1382 : (Cond.instanceMethod ({ cls := "HalfIsleModel", name := "plain", desc := "()Z" } : MethodName)) ∈ LW := lw6 182 rfl rfl
theorem u_1383 : (Cond.code ({ cls := "HalfIsleModel", name := "plain", desc := "()Z" } : MethodName) prog_10_method_37_code (4 : Nat) (Option.some FieldType.boolean)) ∈ LW := lw6 183 rfl rfl
theorem u_1386 : (Cond.methodLink "HalfIsleModel" (179 : Nat) ({ cls := "HalfIsleModel", name := "sum", desc := "()I" } : MethodName)) ∈ LW := lw6 186 rfl rfl
theorem u_1388 : (Cond.instanceMethod ({ cls := "HalfIsleModel", name := "sum", desc := "()I" } : MethodName)) ∈ LW := lw6 188 rfl rfl
theorem u_1389 : (Cond.code ({ cls := "HalfIsleModel", name := "sum", desc := "()I" } : MethodName) prog_10_method_36_code (2 : Nat) (Option.some FieldType.int)) ∈ LW := lw6 189 rfl rfl
theorem u_1390 : (Cond.methodLink "HalfIsleModel" (167 : Nat) ({ cls := "HalfIsleModel", name := "part", desc := "()I" } : MethodName)) ∈ LW := lw6 190 rfl rfl
theorem u_1392 : (Cond.instanceMethod ({ cls := "HalfIsleModel", name := "part", desc := "()I" } : MethodName)) ∈ LW := lw6 192 rfl rfl
theorem u_1393 : (Cond.code ({ cls := "HalfIsleModel", name := "part", desc := "()I" } : MethodName) prog_10_method_35_code (2 : Nat) (Option.some FieldType.int)) ∈ LW := lw6 193 rfl rfl
theorem u_1403 : (Cond.methodLink "HalfIsleModel" (138 : Nat) ({ cls := "HalfIsleModel", name := "deedLine", desc := "()V" } : MethodName)) ∈ LW := lw6 203 rfl rfl
theorem u_1405 : (Cond.instanceMethod ({ cls := "HalfIsleModel", name := "deedLine", desc := "()V" } : MethodName)) ∈ LW := lw6 205 rfl rfl
theorem u_1406 : (Cond.code ({ cls := "HalfIsleModel", name := "deedLine", desc := "()V" } : MethodName) prog_10_method_29_code (2 : Nat) (Option.none : Option FieldType)) ∈ LW := lw6 206 rfl rfl
theorem u_1407 : (Cond.methodLink "HalfIsleModel" (109 : Nat) ({ cls := "HalfIsleModel", name := "itemLine", desc := "(I)V" } : MethodName)) ∈ LW := lw6 207 rfl rfl
theorem u_1409 : (Cond.instanceMethod ({ cls := "HalfIsleModel", name := "itemLine", desc := "(I)V" } : MethodName)) ∈ LW := lw6 209 rfl rfl
theorem u_1410 : (Cond.code ({ cls := "HalfIsleModel", name := "itemLine", desc := "(I)V" } : MethodName) prog_10_method_26_code (7 : Nat) (Option.none : Option FieldType)) ∈ LW := lw6 210 rfl rfl
theorem u_1411 : (Cond.methodLink "HalfIsleModel" (95 : Nat) ({ cls := "HalfIsleModel", name := "after", desc := "(Ljava/lang/String;II)I" } : MethodName)) ∈ LW := lw6 211 rfl rfl
theorem u_1413 : (Cond.instanceMethod ({ cls := "HalfIsleModel", name := "after", desc := "(Ljava/lang/String;II)I" } : MethodName)) ∈ LW := lw6 213 rfl rfl
theorem u_1414 : (Cond.code ({ cls := "HalfIsleModel", name := "after", desc := "(Ljava/lang/String;II)I" } : MethodName) prog_10_method_25_code (4 : Nat) (Option.some FieldType.int)) ∈ LW := lw6 214 rfl rfl
theorem u_1416 : (Cond.methodLink "HalfIsleModel" (103 : Nat) ({ cls := "HalfIsleModel", name := "put", desc := "(III)V" } : MethodName)) ∈ LW := lw6 216 rfl rfl
theorem u_1418 : (Cond.instanceMethod ({ cls := "HalfIsleModel", name := "put", desc := "(III)V" } : MethodName)) ∈ LW := lw6 218 rfl rfl
theorem u_1419 : (Cond.code ({ cls := "HalfIsleModel", name := "put", desc := "(III)V" } : MethodName) prog_10_method_10_code (4 : Nat) (Option.none : Option FieldType)) ∈ LW := lw6 219 rfl rfl
theorem u_1421 : (Cond.methodLink "HalfIsleModel" (114 : Nat) ({ cls := "HalfIsleModel", name := "tellsAt", desc := "(IIII)V" } : MethodName)) ∈ LW := lw6 221 rfl rfl
theorem u_1423 : (Cond.instanceMethod ({ cls := "HalfIsleModel", name := "tellsAt", desc := "(IIII)V" } : MethodName)) ∈ LW := lw6 223 rfl rfl
theorem u_1424 : (Cond.code ({ cls := "HalfIsleModel", name := "tellsAt", desc := "(IIII)V" } : MethodName) prog_10_method_27_code (7 : Nat) (Option.none : Option FieldType)) ∈ LW := lw6 224 rfl rfl
theorem u_1427 : (Cond.methodLink "HalfIsleModel" (124 : Nat) ({ cls := "HalfIsleModel", name := "tells", desc := "(II)V" } : MethodName)) ∈ LW := lw6 227 rfl rfl
theorem u_1429 : (Cond.instanceMethod ({ cls := "HalfIsleModel", name := "tells", desc := "(II)V" } : MethodName)) ∈ LW := lw6 229 rfl rfl
theorem u_1430 : (Cond.code ({ cls := "HalfIsleModel", name := "tells", desc := "(II)V" } : MethodName) prog_10_method_28_code (4 : Nat) (Option.none : Option FieldType)) ∈ LW := lw6 230 rfl rfl
theorem u_1431 : (Cond.methodLink "HalfIsleModel" (155 : Nat) ({ cls := "HalfIsleModel", name := "comesBack", desc := "()V" } : MethodName)) ∈ LW := lw6 231 rfl rfl
theorem u_1433 : (Cond.instanceMethod ({ cls := "HalfIsleModel", name := "comesBack", desc := "()V" } : MethodName)) ∈ LW := lw6 233 rfl rfl
theorem u_1434 : (Cond.code ({ cls := "HalfIsleModel", name := "comesBack", desc := "()V" } : MethodName) prog_10_method_33_code (2 : Nat) (Option.none : Option FieldType)) ∈ LW := lw6 234 rfl rfl
theorem u_1435 : (Cond.methodLink "HalfIsleLaw" (135 : Nat) ({ cls := "HalfIsleModel", name := "law", desc := "()I" } : MethodName)) ∈ LW := lw6 235 rfl rfl
theorem u_1436 : (Cond.instanceMethod ({ cls := "HalfIsleModel", name := "law", desc := "()I" } : MethodName)) ∈ LW := lw6 236 rfl rfl
theorem u_1437 : (Cond.selects "HalfIsleModel" ({ cls := "HalfIsleModel", name := "law", desc := "()I" } : MethodName) ({ cls := "HalfIsleModel", name := "law", desc := "()I" } : MethodName)) ∈ LW := lw6 237 rfl rfl
theorem u_1438 : (Cond.code ({ cls := "HalfIsleModel", name := "law", desc := "()I" } : MethodName) prog_10_method_42_code (3 : Nat) (Option.some FieldType.int)) ∈ LW := lw6 238 rfl rfl
theorem u_1439 : (Cond.methodLink "HalfIsleLaw" (139 : Nat) ({ cls := "HalfIsleModel", name := "fault", desc := "()I" } : MethodName)) ∈ LW := lw6 239 rfl rfl
theorem u_1440 : (Cond.instanceMethod ({ cls := "HalfIsleModel", name := "fault", desc := "()I" } : MethodName)) ∈ LW := lw7 0 rfl rfl
theorem u_1441 : (Cond.selects "HalfIsleModel" ({ cls := "HalfIsleModel", name := "fault", desc := "()I" } : MethodName) ({ cls := "HalfIsleModel", name := "fault", desc := "()I" } : MethodName)) ∈ LW := lw7 1 rfl rfl
theorem u_1442 : (Cond.code ({ cls := "HalfIsleModel", name := "fault", desc := "()I" } : MethodName) prog_10_method_43_code (1 : Nat) (Option.some FieldType.int)) ∈ LW := lw7 2 rfl rfl
theorem u_1443 : (Cond.methodLink "HalfIsleLaw" (143 : Nat) ({ cls := "HalfIsleModel", name := "item", desc := "(II)I" } : MethodName)) ∈ LW := lw7 3 rfl rfl
theorem u_1444 : (Cond.instanceMethod ({ cls := "HalfIsleModel", name := "item", desc := "(II)I" } : MethodName)) ∈ LW := lw7 4 rfl rfl
theorem u_1445 : (Cond.selects "HalfIsleModel" ({ cls := "HalfIsleModel", name := "item", desc := "(II)I" } : MethodName) ({ cls := "HalfIsleModel", name := "item", desc := "(II)I" } : MethodName)) ∈ LW := lw7 5 rfl rfl
theorem u_1446 : (Cond.code ({ cls := "HalfIsleModel", name := "item", desc := "(II)I" } : MethodName) prog_10_method_59_code (3 : Nat) (Option.some FieldType.int)) ∈ LW := lw7 6 rfl rfl
theorem u_1447 : (Cond.methodLink "HalfIsleModel" (277 : Nat) ({ cls := "HalfIsleModel", name := "isItem", desc := "(I)Z" } : MethodName)) ∈ LW := lw7 7 rfl rfl
theorem u_1449 : (Cond.instanceMethod ({ cls := "HalfIsleModel", name := "isItem", desc := "(I)Z" } : MethodName)) ∈ LW := lw7 9 rfl rfl
theorem u_1450 : (Cond.code ({ cls := "HalfIsleModel", name := "isItem", desc := "(I)Z" } : MethodName) prog_10_method_11_code (2 : Nat) (Option.some FieldType.boolean)) ∈ LW := lw7 10 rfl rfl
theorem u_1451 : (Cond.methodLink "HalfIsleModel" (46 : Nat) ({ cls := "HalfIsleModel", name := "of", desc := "(II)I" } : MethodName)) ∈ LW := lw7 11 rfl rfl
theorem u_1453 : (Cond.instanceMethod ({ cls := "HalfIsleModel", name := "of", desc := "(II)I" } : MethodName)) ∈ LW := lw7 13 rfl rfl
theorem u_1454 : (Cond.code ({ cls := "HalfIsleModel", name := "of", desc := "(II)I" } : MethodName) prog_10_method_9_code (3 : Nat) (Option.some FieldType.int)) ∈ LW := lw7 14 rfl rfl
theorem u_1455 : (Cond.methodLink "HalfIsleModel" (237 : Nat) ({ cls := "HalfIsleModel", name := "isMissing", desc := "(I)Z" } : MethodName)) ∈ LW := lw7 15 rfl rfl
theorem u_1457 : (Cond.instanceMethod ({ cls := "HalfIsleModel", name := "isMissing", desc := "(I)Z" } : MethodName)) ∈ LW := lw7 17 rfl rfl
theorem u_1458 : (Cond.code ({ cls := "HalfIsleModel", name := "isMissing", desc := "(I)Z" } : MethodName) prog_10_method_45_code (2 : Nat) (Option.some FieldType.boolean)) ∈ LW := lw7 18 rfl rfl
theorem u_1459 : (Cond.methodLink "HalfIsleModel" (228 : Nat) ({ cls := "HalfIsleModel", name := "worseBy", desc := "(I)I" } : MethodName)) ∈ LW := lw7 19 rfl rfl
theorem u_1461 : (Cond.instanceMethod ({ cls := "HalfIsleModel", name := "worseBy", desc := "(I)I" } : MethodName)) ∈ LW := lw7 21 rfl rfl
theorem u_1462 : (Cond.code ({ cls := "HalfIsleModel", name := "worseBy", desc := "(I)I" } : MethodName) prog_10_method_46_code (2 : Nat) (Option.some FieldType.int)) ∈ LW := lw7 22 rfl rfl
theorem u_1463 : (Cond.methodLink "HalfIsleModel" (219 : Nat) ({ cls := "HalfIsleModel", name := "greater", desc := "(II)I" } : MethodName)) ∈ LW := lw7 23 rfl rfl
theorem u_1464 : (Cond.static ({ cls := "HalfIsleModel", name := "greater", desc := "(II)I" } : MethodName)) ∈ LW := lw7 24 rfl rfl
theorem u_1465 : (Cond.code ({ cls := "HalfIsleModel", name := "greater", desc := "(II)I" } : MethodName) prog_10_method_5_code (2 : Nat) (Option.some FieldType.int)) ∈ LW := lw7 25 rfl rfl
theorem u_1466 : (Cond.methodLink "HalfIsleModel" (234 : Nat) ({ cls := "HalfIsleModel", name := "workOf", desc := "(I)I" } : MethodName)) ∈ LW := lw7 26 rfl rfl
theorem u_1468 : (Cond.instanceMethod ({ cls := "HalfIsleModel", name := "workOf", desc := "(I)I" } : MethodName)) ∈ LW := lw7 28 rfl rfl
theorem u_1469 : (Cond.code ({ cls := "HalfIsleModel", name := "workOf", desc := "(I)I" } : MethodName) prog_10_method_48_code (2 : Nat) (Option.some FieldType.int)) ∈ LW := lw7 29 rfl rfl
theorem u_1470 : (Cond.methodLink "HalfIsleModel" (225 : Nat) ({ cls := "HalfIsleModel", name := "stepsOf", desc := "(II)I" } : MethodName)) ∈ LW := lw7 30 rfl rfl
theorem u_1471 : (Cond.static ({ cls := "HalfIsleModel", name := "stepsOf", desc := "(II)I" } : MethodName)) ∈ LW := lw7 31 rfl rfl
theorem u_1472 : (Cond.code ({ cls := "HalfIsleModel", name := "stepsOf", desc := "(II)I" } : MethodName) prog_10_method_47_code (3 : Nat) (Option.some FieldType.int)) ∈ LW := lw7 32 rfl rfl
theorem u_1473 : (Cond.methodLink "HalfIsleModel" (222 : Nat) ({ cls := "HalfIsleModel", name := "lesser", desc := "(II)I" } : MethodName)) ∈ LW := lw7 33 rfl rfl
theorem u_1474 : (Cond.static ({ cls := "HalfIsleModel", name := "lesser", desc := "(II)I" } : MethodName)) ∈ LW := lw7 34 rfl rfl
theorem u_1475 : (Cond.code ({ cls := "HalfIsleModel", name := "lesser", desc := "(II)I" } : MethodName) prog_10_method_4_code (2 : Nat) (Option.some FieldType.int)) ∈ LW := lw7 35 rfl rfl
theorem u_1476 : (Cond.methodLink "HalfIsleModel" (231 : Nat) ({ cls := "HalfIsleModel", name := "rounded", desc := "(II)I" } : MethodName)) ∈ LW := lw7 36 rfl rfl
theorem u_1477 : (Cond.static ({ cls := "HalfIsleModel", name := "rounded", desc := "(II)I" } : MethodName)) ∈ LW := lw7 37 rfl rfl
theorem u_1478 : (Cond.code ({ cls := "HalfIsleModel", name := "rounded", desc := "(II)I" } : MethodName) prog_10_method_8_code (2 : Nat) (Option.some FieldType.int)) ∈ LW := lw7 38 rfl rfl
theorem u_1479 : (Cond.methodLink "HalfIsleLaw" (146 : Nat) ({ cls := "HalfIsleModel", name := "room", desc := "(II)I" } : MethodName)) ∈ LW := lw7 39 rfl rfl
theorem u_1480 : (Cond.instanceMethod ({ cls := "HalfIsleModel", name := "room", desc := "(II)I" } : MethodName)) ∈ LW := lw7 40 rfl rfl
theorem u_1481 : (Cond.selects "HalfIsleModel" ({ cls := "HalfIsleModel", name := "room", desc := "(II)I" } : MethodName) ({ cls := "HalfIsleModel", name := "room", desc := "(II)I" } : MethodName)) ∈ LW := lw7 41 rfl rfl
theorem u_1482 : (Cond.code ({ cls := "HalfIsleModel", name := "room", desc := "(II)I" } : MethodName) prog_10_method_61_code (3 : Nat) (Option.some FieldType.int)) ∈ LW := lw7 42 rfl rfl
theorem u_1483 : (Cond.methodLink "HalfIsleModel" (280 : Nat) ({ cls := "HalfIsleModel", name := "isRoom", desc := "(I)Z" } : MethodName)) ∈ LW := lw7 43 rfl rfl
theorem u_1484 : (Cond.static ({ cls := "HalfIsleModel", name := "isRoom", desc := "(I)Z" } : MethodName)) ∈ LW := lw7 44 rfl rfl
theorem u_1485 : (Cond.code ({ cls := "HalfIsleModel", name := "isRoom", desc := "(I)Z" } : MethodName) prog_10_method_12_code (1 : Nat) (Option.some FieldType.boolean)) ∈ LW := lw7 45 rfl rfl
theorem u_1486 : (Cond.methodLink "HalfIsleModel" (283 : Nat) ({ cls := "HalfIsleModel", name := "itemsOf", desc := "(II)I" } : MethodName)) ∈ LW := lw7 46 rfl rfl
theorem u_1488 : (Cond.instanceMethod ({ cls := "HalfIsleModel", name := "itemsOf", desc := "(II)I" } : MethodName)) ∈ LW := lw7 48 rfl rfl
theorem u_1489 : (Cond.code ({ cls := "HalfIsleModel", name := "itemsOf", desc := "(II)I" } : MethodName) prog_10_method_60_code (5 : Nat) (Option.some FieldType.int)) ∈ LW := lw7 49 rfl rfl
theorem u_1490 : (Cond.methodLink "HalfIsleLaw" (149 : Nat) ({ cls := "HalfIsleModel", name := "side", desc := "(II)I" } : MethodName)) ∈ LW := lw7 50 rfl rfl
theorem u_1491 : (Cond.instanceMethod ({ cls := "HalfIsleModel", name := "side", desc := "(II)I" } : MethodName)) ∈ LW := lw7 51 rfl rfl
theorem u_1492 : (Cond.selects "HalfIsleModel" ({ cls := "HalfIsleModel", name := "side", desc := "(II)I" } : MethodName) ({ cls := "HalfIsleModel", name := "side", desc := "(II)I" } : MethodName)) ∈ LW := lw7 52 rfl rfl
theorem u_1493 : (Cond.code ({ cls := "HalfIsleModel", name := "side", desc := "(II)I" } : MethodName) prog_10_method_64_code (3 : Nat) (Option.some FieldType.int)) ∈ LW := lw7 53 rfl rfl
theorem u_1494 : (Cond.methodLink "HalfIsleModel" (289 : Nat) ({ cls := "HalfIsleModel", name := "needs", desc := "(I)I" } : MethodName)) ∈ LW := lw7 54 rfl rfl
theorem u_1496 : (Cond.instanceMethod ({ cls := "HalfIsleModel", name := "needs", desc := "(I)I" } : MethodName)) ∈ LW := lw7 56 rfl rfl
theorem u_1497 : (Cond.code ({ cls := "HalfIsleModel", name := "needs", desc := "(I)I" } : MethodName) prog_10_method_62_code (3 : Nat) (Option.some FieldType.int)) ∈ LW := lw7 57 rfl rfl
theorem u_1498 : (Cond.methodLink "HalfIsleModel" (286 : Nat) ({ cls := "HalfIsleModel", name := "workOfAll", desc := "()I" } : MethodName)) ∈ LW := lw7 58 rfl rfl
theorem u_1500 : (Cond.instanceMethod ({ cls := "HalfIsleModel", name := "workOfAll", desc := "()I" } : MethodName)) ∈ LW := lw7 60 rfl rfl
theorem u_1501 : (Cond.code ({ cls := "HalfIsleModel", name := "workOfAll", desc := "()I" } : MethodName) prog_10_method_49_code (3 : Nat) (Option.some FieldType.int)) ∈ LW := lw7 61 rfl rfl
theorem u_1502 : (Cond.methodLink "HalfIsleModel" (292 : Nat) ({ cls := "HalfIsleModel", name := "latest", desc := "(I)I" } : MethodName)) ∈ LW := lw7 62 rfl rfl
theorem u_1504 : (Cond.instanceMethod ({ cls := "HalfIsleModel", name := "latest", desc := "(I)I" } : MethodName)) ∈ LW := lw7 64 rfl rfl
theorem u_1505 : (Cond.code ({ cls := "HalfIsleModel", name := "latest", desc := "(I)I" } : MethodName) prog_10_method_63_code (4 : Nat) (Option.some FieldType.int)) ∈ LW := lw7 65 rfl rfl
theorem u_1506 : (Cond.methodLink "HalfIsleLaw" (152 : Nat) ({ cls := "HalfIsleModel", name := "does", desc := "(II)I" } : MethodName)) ∈ LW := lw7 66 rfl rfl
theorem u_1507 : (Cond.instanceMethod ({ cls := "HalfIsleModel", name := "does", desc := "(II)I" } : MethodName)) ∈ LW := lw7 67 rfl rfl
theorem u_1508 : (Cond.selects "HalfIsleModel" ({ cls := "HalfIsleModel", name := "does", desc := "(II)I" } : MethodName) ({ cls := "HalfIsleModel", name := "does", desc := "(II)I" } : MethodName)) ∈ LW := lw7 68 rfl rfl
theorem u_1509 : (Cond.code ({ cls := "HalfIsleModel", name := "does", desc := "(II)I" } : MethodName) prog_10_method_65_code (3 : Nat) (Option.some FieldType.int)) ∈ LW := lw7 69 rfl rfl
theorem u_1510 : (Cond.methodLink "HalfIsleModel" (247 : Nat) ({ cls := "HalfIsleModel", name := "asks", desc := "(I)V" } : MethodName)) ∈ LW := lw7 70 rfl rfl
theorem u_1512 : (Cond.instanceMethod ({ cls := "HalfIsleModel", name := "asks", desc := "(I)V" } : MethodName)) ∈ LW := lw7 72 rfl rfl
theorem u_1513 : (Cond.code ({ cls := "HalfIsleModel", name := "asks", desc := "(I)V" } : MethodName) prog_10_method_44_code (4 : Nat) (Option.none : Option FieldType)) ∈ LW := lw7 73 rfl rfl
theorem u_1514 : (Cond.methodLink "HalfIsleModel" (216 : Nat) ({ cls := "HalfIsleModel", name := "there", desc := "()I" } : MethodName)) ∈ LW := lw7 74 rfl rfl
theorem u_1516 : (Cond.instanceMethod ({ cls := "HalfIsleModel", name := "there", desc := "()I" } : MethodName)) ∈ LW := lw7 76 rfl rfl
theorem u_1517 : (Cond.code ({ cls := "HalfIsleModel", name := "there", desc := "()I" } : MethodName) prog_10_method_13_code (1 : Nat) (Option.some FieldType.int)) ∈ LW := lw7 77 rfl rfl
theorem u_1518 : (Cond.methodLink "HalfIsleLaw" (155 : Nat) ({ cls := "HalfIsleModel", name := "steps", desc := "(II)I" } : MethodName)) ∈ LW := lw7 78 rfl rfl
theorem u_1519 : (Cond.instanceMethod ({ cls := "HalfIsleModel", name := "steps", desc := "(II)I" } : MethodName)) ∈ LW := lw7 79 rfl rfl
theorem u_1520 : (Cond.selects "HalfIsleModel" ({ cls := "HalfIsleModel", name := "steps", desc := "(II)I" } : MethodName) ({ cls := "HalfIsleModel", name := "steps", desc := "(II)I" } : MethodName)) ∈ LW := lw7 80 rfl rfl
theorem u_1521 : (Cond.code ({ cls := "HalfIsleModel", name := "steps", desc := "(II)I" } : MethodName) prog_10_method_66_code (3 : Nat) (Option.some FieldType.int)) ∈ LW := lw7 81 rfl rfl
theorem u_1522 : (Cond.methodLink "HalfIsleLaw" (158 : Nat) ({ cls := "HalfIsleModel", name := "carry", desc := "(II)I" } : MethodName)) ∈ LW := lw7 82 rfl rfl
theorem u_1523 : (Cond.instanceMethod ({ cls := "HalfIsleModel", name := "carry", desc := "(II)I" } : MethodName)) ∈ LW := lw7 83 rfl rfl
theorem u_1524 : (Cond.selects "HalfIsleModel" ({ cls := "HalfIsleModel", name := "carry", desc := "(II)I" } : MethodName) ({ cls := "HalfIsleModel", name := "carry", desc := "(II)I" } : MethodName)) ∈ LW := lw7 84 rfl rfl
theorem u_1525 : (Cond.code ({ cls := "HalfIsleModel", name := "carry", desc := "(II)I" } : MethodName) prog_10_method_68_code (4 : Nat) (Option.some FieldType.int)) ∈ LW := lw7 85 rfl rfl
theorem u_1526 : (Cond.methodLink "HalfIsleModel" (295 : Nat) ({ cls := "HalfIsleModel", name := "remembers", desc := "()V" } : MethodName)) ∈ LW := lw7 86 rfl rfl
theorem u_1528 : (Cond.instanceMethod ({ cls := "HalfIsleModel", name := "remembers", desc := "()V" } : MethodName)) ∈ LW := lw7 88 rfl rfl
theorem u_1529 : (Cond.code ({ cls := "HalfIsleModel", name := "remembers", desc := "()V" } : MethodName) prog_10_method_67_code (2 : Nat) (Option.none : Option FieldType)) ∈ LW := lw7 89 rfl rfl
theorem u_1530 : (Cond.methodLink "HalfIsleLaw" (162 : Nat) ({ cls := "HalfIsleModel", name := "mend", desc := "(I)I" } : MethodName)) ∈ LW := lw7 90 rfl rfl
theorem u_1531 : (Cond.instanceMethod ({ cls := "HalfIsleModel", name := "mend", desc := "(I)I" } : MethodName)) ∈ LW := lw7 91 rfl rfl
theorem u_1532 : (Cond.selects "HalfIsleModel" ({ cls := "HalfIsleModel", name := "mend", desc := "(I)I" } : MethodName) ({ cls := "HalfIsleModel", name := "mend", desc := "(I)I" } : MethodName)) ∈ LW := lw7 92 rfl rfl
theorem u_1533 : (Cond.code ({ cls := "HalfIsleModel", name := "mend", desc := "(I)I" } : MethodName) prog_10_method_69_code (2 : Nat) (Option.some FieldType.int)) ∈ LW := lw7 93 rfl rfl
theorem u_1534 : (Cond.methodLink "HalfIsleLaw" (165 : Nat) ({ cls := "HalfIsleModel", name := "sweep", desc := "(I)I" } : MethodName)) ∈ LW := lw7 94 rfl rfl
theorem u_1535 : (Cond.instanceMethod ({ cls := "HalfIsleModel", name := "sweep", desc := "(I)I" } : MethodName)) ∈ LW := lw7 95 rfl rfl
theorem u_1536 : (Cond.selects "HalfIsleModel" ({ cls := "HalfIsleModel", name := "sweep", desc := "(I)I" } : MethodName) ({ cls := "HalfIsleModel", name := "sweep", desc := "(I)I" } : MethodName)) ∈ LW := lw7 96 rfl rfl
theorem u_1537 : (Cond.code ({ cls := "HalfIsleModel", name := "sweep", desc := "(I)I" } : MethodName) prog_10_method_70_code (3 : Nat) (Option.some FieldType.int)) ∈ LW := lw7 97 rfl rfl
theorem u_1538 : (Cond.methodLink "HalfIsleLaw" (168 : Nat) ({ cls := "HalfIsleModel", name := "pay", desc := "(II)I" } : MethodName)) ∈ LW := lw7 98 rfl rfl
theorem u_1539 : (Cond.instanceMethod ({ cls := "HalfIsleModel", name := "pay", desc := "(II)I" } : MethodName)) ∈ LW := lw7 99 rfl rfl
theorem u_1540 : (Cond.selects "HalfIsleModel" ({ cls := "HalfIsleModel", name := "pay", desc := "(II)I" } : MethodName) ({ cls := "HalfIsleModel", name := "pay", desc := "(II)I" } : MethodName)) ∈ LW := lw7 100 rfl rfl
theorem u_1541 : (Cond.code ({ cls := "HalfIsleModel", name := "pay", desc := "(II)I" } : MethodName) prog_10_method_71_code (3 : Nat) (Option.some FieldType.int)) ∈ LW := lw7 101 rfl rfl
theorem u_1542 : (Cond.methodLink "HalfIsleLaw" (172 : Nat) ({ cls := "HalfIsleModel", name := "take", desc := "()I" } : MethodName)) ∈ LW := lw7 102 rfl rfl
theorem u_1543 : (Cond.instanceMethod ({ cls := "HalfIsleModel", name := "take", desc := "()I" } : MethodName)) ∈ LW := lw7 103 rfl rfl
theorem u_1544 : (Cond.selects "HalfIsleModel" ({ cls := "HalfIsleModel", name := "take", desc := "()I" } : MethodName) ({ cls := "HalfIsleModel", name := "take", desc := "()I" } : MethodName)) ∈ LW := lw7 104 rfl rfl
theorem u_1545 : (Cond.code ({ cls := "HalfIsleModel", name := "take", desc := "()I" } : MethodName) prog_10_method_72_code (2 : Nat) (Option.some FieldType.int)) ∈ LW := lw7 105 rfl rfl
theorem u_1546 : (Cond.methodLink "HalfIsleModel" (253 : Nat) ({ cls := "HalfIsleModel", name := "missingOnes", desc := "()I" } : MethodName)) ∈ LW := lw7 106 rfl rfl
theorem u_1548 : (Cond.instanceMethod ({ cls := "HalfIsleModel", name := "missingOnes", desc := "()I" } : MethodName)) ∈ LW := lw7 108 rfl rfl
theorem u_1549 : (Cond.code ({ cls := "HalfIsleModel", name := "missingOnes", desc := "()I" } : MethodName) prog_10_method_50_code (3 : Nat) (Option.some FieldType.int)) ∈ LW := lw7 109 rfl rfl
theorem u_1550 : (Cond.methodLink "HalfIsleModel" (262 : Nat) ({ cls := "HalfIsleModel", name := "bits", desc := "(I)I" } : MethodName)) ∈ LW := lw7 110 rfl rfl
theorem u_1551 : (Cond.static ({ cls := "HalfIsleModel", name := "bits", desc := "(I)I" } : MethodName)) ∈ LW := lw7 111 rfl rfl
theorem u_1552 : (Cond.code ({ cls := "HalfIsleModel", name := "bits", desc := "(I)I" } : MethodName) prog_10_method_7_code (3 : Nat) (Option.some FieldType.int)) ∈ LW := lw7 112 rfl rfl
theorem u_1553 : (Cond.methodLink "HalfIsleModel" (265 : Nat) ({ cls := "HalfIsleModel", name := "inventory", desc := "()V" } : MethodName)) ∈ LW := lw7 113 rfl rfl
theorem u_1555 : (Cond.instanceMethod ({ cls := "HalfIsleModel", name := "inventory", desc := "()V" } : MethodName)) ∈ LW := lw7 115 rfl rfl
theorem u_1556 : (Cond.code ({ cls := "HalfIsleModel", name := "inventory", desc := "()V" } : MethodName) prog_10_method_52_code (2 : Nat) (Option.none : Option FieldType)) ∈ LW := lw7 116 rfl rfl
theorem u_1557 : (Cond.methodLink "HalfIsleModel" (244 : Nat) ({ cls := "HalfIsleModel", name := "soils", desc := "()I" } : MethodName)) ∈ LW := lw7 117 rfl rfl
theorem u_1559 : (Cond.instanceMethod ({ cls := "HalfIsleModel", name := "soils", desc := "()I" } : MethodName)) ∈ LW := lw7 119 rfl rfl
theorem u_1560 : (Cond.code ({ cls := "HalfIsleModel", name := "soils", desc := "()I" } : MethodName) prog_10_method_14_code (3 : Nat) (Option.some FieldType.int)) ∈ LW := lw7 120 rfl rfl
theorem u_1561 : (Cond.methodLink "HalfIsleLaw" (175 : Nat) ({ cls := "HalfIsleModel", name := "days", desc := "(I)I" } : MethodName)) ∈ LW := lw7 121 rfl rfl
theorem u_1562 : (Cond.instanceMethod ({ cls := "HalfIsleModel", name := "days", desc := "(I)I" } : MethodName)) ∈ LW := lw7 122 rfl rfl
theorem u_1563 : (Cond.selects "HalfIsleModel" ({ cls := "HalfIsleModel", name := "days", desc := "(I)I" } : MethodName) ({ cls := "HalfIsleModel", name := "days", desc := "(I)I" } : MethodName)) ∈ LW := lw7 123 rfl rfl
theorem u_1564 : (Cond.code ({ cls := "HalfIsleModel", name := "days", desc := "(I)I" } : MethodName) prog_10_method_73_code (2 : Nat) (Option.some FieldType.int)) ∈ LW := lw7 124 rfl rfl
theorem u_1565 : (Cond.methodLink "HalfIsleModel" (298 : Nat) ({ cls := "HalfIsleModel", name := "goes", desc := "(IZ)I" } : MethodName)) ∈ LW := lw7 125 rfl rfl
theorem u_1567 : (Cond.instanceMethod ({ cls := "HalfIsleModel", name := "goes", desc := "(IZ)I" } : MethodName)) ∈ LW := lw7 127 rfl rfl
theorem u_1568 : (Cond.code ({ cls := "HalfIsleModel", name := "goes", desc := "(IZ)I" } : MethodName) prog_10_method_58_code (5 : Nat) (Option.some FieldType.int)) ∈ LW := lw7 128 rfl rfl
theorem u_1569 : (Cond.methodLink "HalfIsleModel" (268 : Nat) ({ cls := "HalfIsleModel", name := "moves", desc := "()V" } : MethodName)) ∈ LW := lw7 129 rfl rfl
theorem u_1571 : (Cond.instanceMethod ({ cls := "HalfIsleModel", name := "moves", desc := "()V" } : MethodName)) ∈ LW := lw7 131 rfl rfl
theorem u_1572 : (Cond.code ({ cls := "HalfIsleModel", name := "moves", desc := "()V" } : MethodName) prog_10_method_54_code (3 : Nat) (Option.none : Option FieldType)) ∈ LW := lw7 132 rfl rfl
theorem u_1573 : (Cond.methodLink "HalfIsleModel" (271 : Nat) ({ cls := "HalfIsleModel", name := "storms", desc := "()V" } : MethodName)) ∈ LW := lw7 133 rfl rfl
theorem u_1575 : (Cond.instanceMethod ({ cls := "HalfIsleModel", name := "storms", desc := "()V" } : MethodName)) ∈ LW := lw7 135 rfl rfl
theorem u_1576 : (Cond.code ({ cls := "HalfIsleModel", name := "storms", desc := "()V" } : MethodName) prog_10_method_55_code (3 : Nat) (Option.none : Option FieldType)) ∈ LW := lw7 136 rfl rfl
theorem u_1577 : (Cond.methodLink "HalfIsleModel" (250 : Nat) ({ cls := "HalfIsleModel", name := "draw", desc := "(I)I" } : MethodName)) ∈ LW := lw7 137 rfl rfl
theorem u_1579 : (Cond.instanceMethod ({ cls := "HalfIsleModel", name := "draw", desc := "(I)I" } : MethodName)) ∈ LW := lw7 139 rfl rfl
theorem u_1580 : (Cond.code ({ cls := "HalfIsleModel", name := "draw", desc := "(I)I" } : MethodName) prog_10_method_53_code (2 : Nat) (Option.some FieldType.int)) ∈ LW := lw7 140 rfl rfl
theorem u_1581 : (Cond.constant "HalfIsleModel" (246 : Nat) (1103515245 : Int32)) ∈ LW := lw7 141 rfl rfl
theorem u_1582 : (Cond.methodLink "HalfIsleModel" (274 : Nat) ({ cls := "HalfIsleModel", name := "leaves", desc := "()V" } : MethodName)) ∈ LW := lw7 142 rfl rfl
theorem u_1584 : (Cond.instanceMethod ({ cls := "HalfIsleModel", name := "leaves", desc := "()V" } : MethodName)) ∈ LW := lw7 144 rfl rfl
theorem u_1585 : (Cond.code ({ cls := "HalfIsleModel", name := "leaves", desc := "()V" } : MethodName) prog_10_method_57_code (5 : Nat) (Option.none : Option FieldType)) ∈ LW := lw7 145 rfl rfl
theorem u_1586 : (Cond.methodLink "HalfIsleModel" (259 : Nat) ({ cls := "HalfIsleModel", name := "owedNow", desc := "()I" } : MethodName)) ∈ LW := lw7 146 rfl rfl
theorem u_1588 : (Cond.instanceMethod ({ cls := "HalfIsleModel", name := "owedNow", desc := "()I" } : MethodName)) ∈ LW := lw7 148 rfl rfl
theorem u_1589 : (Cond.code ({ cls := "HalfIsleModel", name := "owedNow", desc := "()I" } : MethodName) prog_10_method_56_code (3 : Nat) (Option.some FieldType.int)) ∈ LW := lw7 149 rfl rfl
theorem u_1590 : (Cond.methodLink "HalfIsleModel" (256 : Nat) ({ cls := "HalfIsleModel", name := "valueOf", desc := "(I)I" } : MethodName)) ∈ LW := lw7 150 rfl rfl
theorem u_1592 : (Cond.instanceMethod ({ cls := "HalfIsleModel", name := "valueOf", desc := "(I)I" } : MethodName)) ∈ LW := lw7 152 rfl rfl
theorem u_1593 : (Cond.code ({ cls := "HalfIsleModel", name := "valueOf", desc := "(I)I" } : MethodName) prog_10_method_51_code (4 : Nat) (Option.some FieldType.int)) ∈ LW := lw7 153 rfl rfl
theorem u_1594 : (Cond.methodLink "HalfIsleModel" (240 : Nat) ({ cls := "HalfIsleModel", name := "isOf", desc := "(II)Z" } : MethodName)) ∈ LW := lw7 154 rfl rfl
theorem u_1595 : (Cond.static ({ cls := "HalfIsleModel", name := "isOf", desc := "(II)Z" } : MethodName)) ∈ LW := lw7 155 rfl rfl
theorem u_1596 : (Cond.code ({ cls := "HalfIsleModel", name := "isOf", desc := "(II)Z" } : MethodName) prog_10_method_6_code (2 : Nat) (Option.some FieldType.boolean)) ∈ LW := lw7 156 rfl rfl
theorem u_1597 : (Cond.methodLink "HalfIsleLaw" (179 : Nat) ({ cls := "HalfIsleModel", name := "ahead", desc := "(III)I" } : MethodName)) ∈ LW := lw7 157 rfl rfl
theorem u_1598 : (Cond.instanceMethod ({ cls := "HalfIsleModel", name := "ahead", desc := "(III)I" } : MethodName)) ∈ LW := lw7 158 rfl rfl
theorem u_1599 : (Cond.selects "HalfIsleModel" ({ cls := "HalfIsleModel", name := "ahead", desc := "(III)I" } : MethodName) ({ cls := "HalfIsleModel", name := "ahead", desc := "(III)I" } : MethodName)) ∈ LW := lw7 159 rfl rfl
theorem u_1600 : (Cond.code ({ cls := "HalfIsleModel", name := "ahead", desc := "(III)I" } : MethodName) prog_10_method_74_code (6 : Nat) (Option.some FieldType.int)) ∈ LW := lw7 160 rfl rfl
theorem u_1601 : (Cond.methodLink "HalfIsleLaw" (183 : Nat) ({ cls := "HalfIsleModel", name := "missing", desc := "()I" } : MethodName)) ∈ LW := lw7 161 rfl rfl
theorem u_1602 : (Cond.instanceMethod ({ cls := "HalfIsleModel", name := "missing", desc := "()I" } : MethodName)) ∈ LW := lw7 162 rfl rfl
theorem u_1603 : (Cond.selects "HalfIsleModel" ({ cls := "HalfIsleModel", name := "missing", desc := "()I" } : MethodName) ({ cls := "HalfIsleModel", name := "missing", desc := "()I" } : MethodName)) ∈ LW := lw7 163 rfl rfl
theorem u_1604 : (Cond.code ({ cls := "HalfIsleModel", name := "missing", desc := "()I" } : MethodName) prog_10_method_75_code (1 : Nat) (Option.some FieldType.int)) ∈ LW := lw7 164 rfl rfl
theorem u_1605 : (Cond.methodLink "HalfIsleLaw" (187 : Nat) ({ cls := "HalfIsleModel", name := "worse", desc := "()I" } : MethodName)) ∈ LW := lw7 165 rfl rfl
theorem u_1606 : (Cond.instanceMethod ({ cls := "HalfIsleModel", name := "worse", desc := "()I" } : MethodName)) ∈ LW := lw7 166 rfl rfl
theorem u_1607 : (Cond.selects "HalfIsleModel" ({ cls := "HalfIsleModel", name := "worse", desc := "()I" } : MethodName) ({ cls := "HalfIsleModel", name := "worse", desc := "()I" } : MethodName)) ∈ LW := lw7 167 rfl rfl
theorem u_1608 : (Cond.code ({ cls := "HalfIsleModel", name := "worse", desc := "()I" } : MethodName) prog_10_method_76_code (3 : Nat) (Option.some FieldType.int)) ∈ LW := lw7 168 rfl rfl
theorem u_1609 : (Cond.methodLink "HalfIsleLaw" (191 : Nat) ({ cls := "HalfIsleModel", name := "mislaid", desc := "()I" } : MethodName)) ∈ LW := lw7 169 rfl rfl
theorem u_1610 : (Cond.instanceMethod ({ cls := "HalfIsleModel", name := "mislaid", desc := "()I" } : MethodName)) ∈ LW := lw7 170 rfl rfl
theorem u_1611 : (Cond.selects "HalfIsleModel" ({ cls := "HalfIsleModel", name := "mislaid", desc := "()I" } : MethodName) ({ cls := "HalfIsleModel", name := "mislaid", desc := "()I" } : MethodName)) ∈ LW := lw7 171 rfl rfl
theorem u_1612 : (Cond.code ({ cls := "HalfIsleModel", name := "mislaid", desc := "()I" } : MethodName) prog_10_method_77_code (3 : Nat) (Option.some FieldType.int)) ∈ LW := lw7 172 rfl rfl
theorem u_1613 : (Cond.methodLink "HalfIsleLaw" (195 : Nat) ({ cls := "HalfIsleModel", name := "work", desc := "()I" } : MethodName)) ∈ LW := lw7 173 rfl rfl
theorem u_1614 : (Cond.instanceMethod ({ cls := "HalfIsleModel", name := "work", desc := "()I" } : MethodName)) ∈ LW := lw7 174 rfl rfl
theorem u_1615 : (Cond.selects "HalfIsleModel" ({ cls := "HalfIsleModel", name := "work", desc := "()I" } : MethodName) ({ cls := "HalfIsleModel", name := "work", desc := "()I" } : MethodName)) ∈ LW := lw7 175 rfl rfl
theorem u_1616 : (Cond.code ({ cls := "HalfIsleModel", name := "work", desc := "()I" } : MethodName) prog_10_method_78_code (1 : Nat) (Option.some FieldType.int)) ∈ LW := lw7 176 rfl rfl
theorem u_1617 : (Cond.methodLink "HalfIsleLaw" (199 : Nat) ({ cls := "HalfIsleModel", name := "first", desc := "(Z)I" } : MethodName)) ∈ LW := lw7 177 rfl rfl
theorem u_1618 : (Cond.instanceMethod ({ cls := "HalfIsleModel", name := "first", desc := "(Z)I" } : MethodName)) ∈ LW := lw7 178 rfl rfl
theorem u_1619 : (Cond.selects "HalfIsleModel" ({ cls := "HalfIsleModel", name := "first", desc := "(Z)I" } : MethodName) ({ cls := "HalfIsleModel", name := "first", desc := "(Z)I" } : MethodName)) ∈ LW := lw7 179 rfl rfl
theorem u_1620 : (Cond.code ({ cls := "HalfIsleModel", name := "first", desc := "(Z)I" } : MethodName) prog_10_method_79_code (5 : Nat) (Option.some FieldType.int)) ∈ LW := lw7 180 rfl rfl
theorem u_1621 : (Cond.methodLink "HalfIsleModel" (302 : Nat) ({ cls := "HalfIsleModel", name := "leastOf", desc := "(I)I" } : MethodName)) ∈ LW := lw7 181 rfl rfl
theorem u_1622 : (Cond.static ({ cls := "HalfIsleModel", name := "leastOf", desc := "(I)I" } : MethodName)) ∈ LW := lw7 182 rfl rfl
theorem u_1623 : (Cond.code ({ cls := "HalfIsleModel", name := "leastOf", desc := "(I)I" } : MethodName) prog_10_method_80_code (2 : Nat) (Option.some FieldType.int)) ∈ LW := lw7 183 rfl rfl
theorem u_1624 : (Cond.methodLink "HalfIsleLaw" (203 : Nat) ({ cls := "HalfIsleModel", name := "round", desc := "()I" } : MethodName)) ∈ LW := lw7 184 rfl rfl
theorem u_1625 : (Cond.instanceMethod ({ cls := "HalfIsleModel", name := "round", desc := "()I" } : MethodName)) ∈ LW := lw7 185 rfl rfl
theorem u_1626 : (Cond.selects "HalfIsleModel" ({ cls := "HalfIsleModel", name := "round", desc := "()I" } : MethodName) ({ cls := "HalfIsleModel", name := "round", desc := "()I" } : MethodName)) ∈ LW := lw7 186 rfl rfl
theorem u_1627 : (Cond.code ({ cls := "HalfIsleModel", name := "round", desc := "()I" } : MethodName) prog_10_method_82_code (4 : Nat) (Option.some FieldType.int)) ∈ LW := lw7 187 rfl rfl
theorem u_1628 : (Cond.methodLink "HalfIsleModel" (305 : Nat) ({ cls := "HalfIsleModel", name := "areThere", desc := "()Z" } : MethodName)) ∈ LW := lw7 188 rfl rfl
theorem u_1630 : (Cond.instanceMethod ({ cls := "HalfIsleModel", name := "areThere", desc := "()Z" } : MethodName)) ∈ LW := lw7 190 rfl rfl
theorem u_1631 : (Cond.code ({ cls := "HalfIsleModel", name := "areThere", desc := "()Z" } : MethodName) prog_10_method_81_code (2 : Nat) (Option.some FieldType.boolean)) ∈ LW := lw7 191 rfl rfl
theorem u_1632 : (Cond.methodLink "HalfIsleLaw" (206 : Nat) ({ cls := "HalfIsleModel", name := "worst", desc := "(I)I" } : MethodName)) ∈ LW := lw7 192 rfl rfl
theorem u_1633 : (Cond.instanceMethod ({ cls := "HalfIsleModel", name := "worst", desc := "(I)I" } : MethodName)) ∈ LW := lw7 193 rfl rfl
theorem u_1634 : (Cond.selects "HalfIsleModel" ({ cls := "HalfIsleModel", name := "worst", desc := "(I)I" } : MethodName) ({ cls := "HalfIsleModel", name := "worst", desc := "(I)I" } : MethodName)) ∈ LW := lw7 194 rfl rfl
theorem u_1635 : (Cond.code ({ cls := "HalfIsleModel", name := "worst", desc := "(I)I" } : MethodName) prog_10_method_83_code (5 : Nat) (Option.some FieldType.int)) ∈ LW := lw7 195 rfl rfl
theorem u_1636 : (Cond.methodLink "HalfIsleLaw" (210 : Nat) ({ cls := "HalfIsleModel", name := "saves", desc := "(IZ)I" } : MethodName)) ∈ LW := lw7 196 rfl rfl
theorem u_1637 : (Cond.instanceMethod ({ cls := "HalfIsleModel", name := "saves", desc := "(IZ)I" } : MethodName)) ∈ LW := lw7 197 rfl rfl
theorem u_1638 : (Cond.selects "HalfIsleModel" ({ cls := "HalfIsleModel", name := "saves", desc := "(IZ)I" } : MethodName) ({ cls := "HalfIsleModel", name := "saves", desc := "(IZ)I" } : MethodName)) ∈ LW := lw7 198 rfl rfl
theorem u_1639 : (Cond.code ({ cls := "HalfIsleModel", name := "saves", desc := "(IZ)I" } : MethodName) prog_10_method_84_code (8 : Nat) (Option.some FieldType.int)) ∈ LW := lw7 199 rfl rfl
theorem u_1640 : (Cond.methodLink "HalfIsleLaw" (214 : Nat) ({ cls := "HalfIsleModel", name := "search", desc := "(I)I" } : MethodName)) ∈ LW := lw7 200 rfl rfl
theorem u_1641 : (Cond.instanceMethod ({ cls := "HalfIsleModel", name := "search", desc := "(I)I" } : MethodName)) ∈ LW := lw7 201 rfl rfl
theorem u_1642 : (Cond.selects "HalfIsleModel" ({ cls := "HalfIsleModel", name := "search", desc := "(I)I" } : MethodName) ({ cls := "HalfIsleModel", name := "search", desc := "(I)I" } : MethodName)) ∈ LW := lw7 202 rfl rfl
theorem u_1643 : (Cond.code ({ cls := "HalfIsleModel", name := "search", desc := "(I)I" } : MethodName) prog_10_method_88_code (5 : Nat) (Option.some FieldType.int)) ∈ LW := lw7 203 rfl rfl
theorem u_1644 : (Cond.methodLink "HalfIsleModel" (315 : Nat) ({ cls := "HalfIsleModel", name := "searches", desc := "()V" } : MethodName)) ∈ LW := lw7 204 rfl rfl
theorem u_1646 : (Cond.instanceMethod ({ cls := "HalfIsleModel", name := "searches", desc := "()V" } : MethodName)) ∈ LW := lw7 206 rfl rfl
theorem u_1647 : (Cond.code ({ cls := "HalfIsleModel", name := "searches", desc := "()V" } : MethodName) prog_10_method_87_code (3 : Nat) (Option.none : Option FieldType)) ∈ LW := lw7 207 rfl rfl
theorem u_1648 : (Cond.constant "HalfIsleModel" (311 : Nat) (2000000000 : Int32)) ∈ LW := lw7 208 rfl rfl
theorem u_1649 : (Cond.methodLink "HalfIsleModel" (312 : Nat) ({ cls := "HalfIsleModel", name := "by", desc := "(II)I" } : MethodName)) ∈ LW := lw7 209 rfl rfl
theorem u_1651 : (Cond.instanceMethod ({ cls := "HalfIsleModel", name := "by", desc := "(II)I" } : MethodName)) ∈ LW := lw7 211 rfl rfl
theorem u_1652 : (Cond.code ({ cls := "HalfIsleModel", name := "by", desc := "(II)I" } : MethodName) prog_10_method_86_code (3 : Nat) (Option.some FieldType.int)) ∈ LW := lw7 212 rfl rfl
theorem u_1653 : (Cond.methodLink "HalfIsleModel" (308 : Nat) ({ cls := "HalfIsleModel", name := "costsOf", desc := "(I)I" } : MethodName)) ∈ LW := lw7 213 rfl rfl
theorem u_1655 : (Cond.instanceMethod ({ cls := "HalfIsleModel", name := "costsOf", desc := "(I)I" } : MethodName)) ∈ LW := lw7 215 rfl rfl
theorem u_1656 : (Cond.code ({ cls := "HalfIsleModel", name := "costsOf", desc := "(I)I" } : MethodName) prog_10_method_85_code (4 : Nat) (Option.some FieldType.int)) ∈ LW := lw7 216 rfl rfl
theorem u_1657 : (Cond.methodLink "HalfIsleLaw" (218 : Nat) ({ cls := "HalfIsleModel", name := "costs", desc := "()I" } : MethodName)) ∈ LW := lw7 217 rfl rfl
theorem u_1658 : (Cond.instanceMethod ({ cls := "HalfIsleModel", name := "costs", desc := "()I" } : MethodName)) ∈ LW := lw7 218 rfl rfl
theorem u_1659 : (Cond.selects "HalfIsleModel" ({ cls := "HalfIsleModel", name := "costs", desc := "()I" } : MethodName) ({ cls := "HalfIsleModel", name := "costs", desc := "()I" } : MethodName)) ∈ LW := lw7 219 rfl rfl
theorem u_1660 : (Cond.code ({ cls := "HalfIsleModel", name := "costs", desc := "()I" } : MethodName) prog_10_method_89_code (1 : Nat) (Option.some FieldType.int)) ∈ LW := lw7 220 rfl rfl
theorem u_1661 : (Cond.methodLink "HalfIsleLaw" (221 : Nat) ({ cls := "HalfIsleModel", name := "calm", desc := "(II)I" } : MethodName)) ∈ LW := lw7 221 rfl rfl
theorem u_1662 : (Cond.instanceMethod ({ cls := "HalfIsleModel", name := "calm", desc := "(II)I" } : MethodName)) ∈ LW := lw7 222 rfl rfl
theorem u_1663 : (Cond.selects "HalfIsleModel" ({ cls := "HalfIsleModel", name := "calm", desc := "(II)I" } : MethodName) ({ cls := "HalfIsleModel", name := "calm", desc := "(II)I" } : MethodName)) ∈ LW := lw7 223 rfl rfl
theorem u_1664 : (Cond.code ({ cls := "HalfIsleModel", name := "calm", desc := "(II)I" } : MethodName) prog_10_method_90_code (11 : Nat) (Option.some FieldType.int)) ∈ LW := lw7 224 rfl rfl
theorem u_1665 : (Cond.constantLong "HalfIsleModel" (318 : Nat) (100 : Int64)) ∈ LW := lw7 225 rfl rfl
theorem u_1666 : (Cond.constantLong "HalfIsleModel" (320 : Nat) (10000 : Int64)) ∈ LW := lw7 226 rfl rfl
theorem u_1667 : (Cond.methodLink "HalfIsleLaw" (224 : Nat) ({ cls := "HalfIsleModel", name := "boats", desc := "(III)I" } : MethodName)) ∈ LW := lw7 227 rfl rfl
theorem u_1668 : (Cond.instanceMethod ({ cls := "HalfIsleModel", name := "boats", desc := "(III)I" } : MethodName)) ∈ LW := lw7 228 rfl rfl
theorem u_1669 : (Cond.selects "HalfIsleModel" ({ cls := "HalfIsleModel", name := "boats", desc := "(III)I" } : MethodName) ({ cls := "HalfIsleModel", name := "boats", desc := "(III)I" } : MethodName)) ∈ LW := lw7 229 rfl rfl
theorem u_1670 : (Cond.code ({ cls := "HalfIsleModel", name := "boats", desc := "(III)I" } : MethodName) prog_10_method_91_code (4 : Nat) (Option.some FieldType.int)) ∈ LW := lw7 230 rfl rfl
theorem u_1671 : (Cond.methodLink "HalfIsleLaw" (228 : Nat) ({ cls := "HalfIsleModel", name := "rests", desc := "()I" } : MethodName)) ∈ LW := lw7 231 rfl rfl
theorem u_1672 : (Cond.instanceMethod ({ cls := "HalfIsleModel", name := "rests", desc := "()I" } : MethodName)) ∈ LW := lw7 232 rfl rfl
theorem u_1673 : (Cond.selects "HalfIsleModel" ({ cls := "HalfIsleModel", name := "rests", desc := "()I" } : MethodName) ({ cls := "HalfIsleModel", name := "rests", desc := "()I" } : MethodName)) ∈ LW := lw7 233 rfl rfl
theorem u_1674 : (Cond.code ({ cls := "HalfIsleModel", name := "rests", desc := "()I" } : MethodName) prog_10_method_93_code (5 : Nat) (Option.some FieldType.int)) ∈ LW := lw7 234 rfl rfl
theorem u_1675 : (Cond.methodLink "HalfIsleModel" (322 : Nat) ({ cls := "HalfIsleModel", name := "pays", desc := "(II)I" } : MethodName)) ∈ LW := lw7 235 rfl rfl
theorem u_1677 : (Cond.instanceMethod ({ cls := "HalfIsleModel", name := "pays", desc := "(II)I" } : MethodName)) ∈ LW := lw7 237 rfl rfl
theorem u_1678 : (Cond.code ({ cls := "HalfIsleModel", name := "pays", desc := "(II)I" } : MethodName) prog_10_method_92_code (3 : Nat) (Option.some FieldType.int)) ∈ LW := lw7 238 rfl rfl
theorem u_1679 : (Cond.methodLink "HalfIsleLaw" (232 : Nat) ({ cls := "HalfIsleModel", name := "due", desc := "()I" } : MethodName)) ∈ LW := lw7 239 rfl rfl
theorem u_1680 : (Cond.instanceMethod ({ cls := "HalfIsleModel", name := "due", desc := "()I" } : MethodName)) ∈ LW := lw8 0 rfl rfl
theorem u_1681 : (Cond.selects "HalfIsleModel" ({ cls := "HalfIsleModel", name := "due", desc := "()I" } : MethodName) ({ cls := "HalfIsleModel", name := "due", desc := "()I" } : MethodName)) ∈ LW := lw8 1 rfl rfl
theorem u_1682 : (Cond.code ({ cls := "HalfIsleModel", name := "due", desc := "()I" } : MethodName) prog_10_method_94_code (1 : Nat) (Option.some FieldType.int)) ∈ LW := lw8 2 rfl rfl
theorem u_1683 : (Cond.methodLink "HalfIsleLaw" (235 : Nat) ({ cls := "HalfIsleModel", name := "lighten", desc := "(I)I" } : MethodName)) ∈ LW := lw8 3 rfl rfl
theorem u_1684 : (Cond.instanceMethod ({ cls := "HalfIsleModel", name := "lighten", desc := "(I)I" } : MethodName)) ∈ LW := lw8 4 rfl rfl
theorem u_1685 : (Cond.selects "HalfIsleModel" ({ cls := "HalfIsleModel", name := "lighten", desc := "(I)I" } : MethodName) ({ cls := "HalfIsleModel", name := "lighten", desc := "(I)I" } : MethodName)) ∈ LW := lw8 5 rfl rfl
theorem u_1686 : (Cond.code ({ cls := "HalfIsleModel", name := "lighten", desc := "(I)I" } : MethodName) prog_10_method_95_code (7 : Nat) (Option.some FieldType.int)) ∈ LW := lw8 6 rfl rfl
theorem u_1687 : (Cond.methodLink "HalfIsleLaw" (238 : Nat) ({ cls := "HalfIsleModel", name := "wearing", desc := "(I)I" } : MethodName)) ∈ LW := lw8 7 rfl rfl
theorem u_1688 : (Cond.instanceMethod ({ cls := "HalfIsleModel", name := "wearing", desc := "(I)I" } : MethodName)) ∈ LW := lw8 8 rfl rfl
theorem u_1689 : (Cond.selects "HalfIsleModel" ({ cls := "HalfIsleModel", name := "wearing", desc := "(I)I" } : MethodName) ({ cls := "HalfIsleModel", name := "wearing", desc := "(I)I" } : MethodName)) ∈ LW := lw8 9 rfl rfl
theorem u_1690 : (Cond.code ({ cls := "HalfIsleModel", name := "wearing", desc := "(I)I" } : MethodName) prog_10_method_96_code (5 : Nat) (Option.some FieldType.int)) ∈ LW := lw8 10 rfl rfl
theorem u_1691 : (Cond.methodLink "HalfIsleLaw" (241 : Nat) ({ cls := "HalfIsleModel", name := "meets", desc := "(II)I" } : MethodName)) ∈ LW := lw8 11 rfl rfl
theorem u_1692 : (Cond.instanceMethod ({ cls := "HalfIsleModel", name := "meets", desc := "(II)I" } : MethodName)) ∈ LW := lw8 12 rfl rfl
theorem u_1693 : (Cond.selects "HalfIsleModel" ({ cls := "HalfIsleModel", name := "meets", desc := "(II)I" } : MethodName) ({ cls := "HalfIsleModel", name := "meets", desc := "(II)I" } : MethodName)) ∈ LW := lw8 13 rfl rfl
theorem u_1694 : (Cond.code ({ cls := "HalfIsleModel", name := "meets", desc := "(II)I" } : MethodName) prog_10_method_97_code (6 : Nat) (Option.some FieldType.int)) ∈ LW := lw8 14 rfl rfl
theorem u_1695 : (Cond.methodLink "HalfIsleLaw" (244 : Nat) ({ cls := "HalfIsleModel", name := "visits", desc := "(II)I" } : MethodName)) ∈ LW := lw8 15 rfl rfl
theorem u_1696 : (Cond.instanceMethod ({ cls := "HalfIsleModel", name := "visits", desc := "(II)I" } : MethodName)) ∈ LW := lw8 16 rfl rfl
theorem u_1697 : (Cond.selects "HalfIsleModel" ({ cls := "HalfIsleModel", name := "visits", desc := "(II)I" } : MethodName) ({ cls := "HalfIsleModel", name := "visits", desc := "(II)I" } : MethodName)) ∈ LW := lw8 17 rfl rfl
theorem u_1698 : (Cond.code ({ cls := "HalfIsleModel", name := "visits", desc := "(II)I" } : MethodName) prog_10_method_98_code (6 : Nat) (Option.some FieldType.int)) ∈ LW := lw8 18 rfl rfl
theorem u_1699 : (Cond.methodLink "HalfIsleLaw" (250 : Nat) ({ cls := "HalfIsleModel", name := "stays", desc := "(I)I" } : MethodName)) ∈ LW := lw8 19 rfl rfl
theorem u_1700 : (Cond.instanceMethod ({ cls := "HalfIsleModel", name := "stays", desc := "(I)I" } : MethodName)) ∈ LW := lw8 20 rfl rfl
theorem u_1701 : (Cond.selects "HalfIsleModel" ({ cls := "HalfIsleModel", name := "stays", desc := "(I)I" } : MethodName) ({ cls := "HalfIsleModel", name := "stays", desc := "(I)I" } : MethodName)) ∈ LW := lw8 21 rfl rfl
theorem u_1702 : (Cond.code ({ cls := "HalfIsleModel", name := "stays", desc := "(I)I" } : MethodName) prog_10_method_99_code (6 : Nat) (Option.some FieldType.int)) ∈ LW := lw8 22 rfl rfl
theorem u_1703 : (Cond.methodLink "HalfIsleLaw" (247 : Nat) ({ cls := "HalfIsleModel", name := "crowd", desc := "(I)I" } : MethodName)) ∈ LW := lw8 23 rfl rfl
theorem u_1704 : (Cond.instanceMethod ({ cls := "HalfIsleModel", name := "crowd", desc := "(I)I" } : MethodName)) ∈ LW := lw8 24 rfl rfl
theorem u_1705 : (Cond.selects "HalfIsleModel" ({ cls := "HalfIsleModel", name := "crowd", desc := "(I)I" } : MethodName) ({ cls := "HalfIsleModel", name := "crowd", desc := "(I)I" } : MethodName)) ∈ LW := lw8 25 rfl rfl
theorem u_1706 : (Cond.code ({ cls := "HalfIsleModel", name := "crowd", desc := "(I)I" } : MethodName) prog_10_method_100_code (5 : Nat) (Option.some FieldType.int)) ∈ LW := lw8 26 rfl rfl
theorem u_1707 : (Cond.methodLink "HalfIsleLaw" (254 : Nat) ({ cls := "HalfIsleModel", name := "parted", desc := "(Z)I" } : MethodName)) ∈ LW := lw8 27 rfl rfl
theorem u_1708 : (Cond.instanceMethod ({ cls := "HalfIsleModel", name := "parted", desc := "(Z)I" } : MethodName)) ∈ LW := lw8 28 rfl rfl
theorem u_1709 : (Cond.selects "HalfIsleModel" ({ cls := "HalfIsleModel", name := "parted", desc := "(Z)I" } : MethodName) ({ cls := "HalfIsleModel", name := "parted", desc := "(Z)I" } : MethodName)) ∈ LW := lw8 29 rfl rfl
theorem u_1710 : (Cond.code ({ cls := "HalfIsleModel", name := "parted", desc := "(Z)I" } : MethodName) prog_10_method_101_code (7 : Nat) (Option.some FieldType.int)) ∈ LW := lw8 30 rfl rfl
theorem u_1711 : (Cond.methodLink "HalfIsleModel" (325 : Nat) ({ cls := "HalfIsleModel", name := "together", desc := "(I)I" } : MethodName)) ∈ LW := lw8 31 rfl rfl
theorem u_1713 : (Cond.instanceMethod ({ cls := "HalfIsleModel", name := "together", desc := "(I)I" } : MethodName)) ∈ LW := lw8 33 rfl rfl
theorem u_1714 : (Cond.code ({ cls := "HalfIsleModel", name := "together", desc := "(I)I" } : MethodName) prog_10_method_15_code (4 : Nat) (Option.some FieldType.int)) ∈ LW := lw8 34 rfl rfl
theorem u_1715 : (Cond.methodLink "HalfIsleLaw" (258 : Nat) ({ cls := "HalfIsleModel", name := "clash", desc := "()I" } : MethodName)) ∈ LW := lw8 35 rfl rfl
theorem u_1716 : (Cond.instanceMethod ({ cls := "HalfIsleModel", name := "clash", desc := "()I" } : MethodName)) ∈ LW := lw8 36 rfl rfl
theorem u_1717 : (Cond.selects "HalfIsleModel" ({ cls := "HalfIsleModel", name := "clash", desc := "()I" } : MethodName) ({ cls := "HalfIsleModel", name := "clash", desc := "()I" } : MethodName)) ∈ LW := lw8 37 rfl rfl
theorem u_1718 : (Cond.code ({ cls := "HalfIsleModel", name := "clash", desc := "()I" } : MethodName) prog_10_method_102_code (3 : Nat) (Option.some FieldType.int)) ∈ LW := lw8 38 rfl rfl
theorem u_1719 : (Cond.methodLink "HalfIsleLaw" (262 : Nat) ({ cls := "HalfIsleModel", name := "full", desc := "()I" } : MethodName)) ∈ LW := lw8 39 rfl rfl
theorem u_1720 : (Cond.instanceMethod ({ cls := "HalfIsleModel", name := "full", desc := "()I" } : MethodName)) ∈ LW := lw8 40 rfl rfl
theorem u_1721 : (Cond.selects "HalfIsleModel" ({ cls := "HalfIsleModel", name := "full", desc := "()I" } : MethodName) ({ cls := "HalfIsleModel", name := "full", desc := "()I" } : MethodName)) ∈ LW := lw8 41 rfl rfl
theorem u_1722 : (Cond.code ({ cls := "HalfIsleModel", name := "full", desc := "()I" } : MethodName) prog_10_method_103_code (3 : Nat) (Option.some FieldType.int)) ∈ LW := lw8 42 rfl rfl
theorem u_1723 : (Cond.methodLink "HalfIsleLaw" (266 : Nat) ({ cls := "HalfIsleModel", name := "settles", desc := "()I" } : MethodName)) ∈ LW := lw8 43 rfl rfl
theorem u_1724 : (Cond.instanceMethod ({ cls := "HalfIsleModel", name := "settles", desc := "()I" } : MethodName)) ∈ LW := lw8 44 rfl rfl
theorem u_1725 : (Cond.selects "HalfIsleModel" ({ cls := "HalfIsleModel", name := "settles", desc := "()I" } : MethodName) ({ cls := "HalfIsleModel", name := "settles", desc := "()I" } : MethodName)) ∈ LW := lw8 45 rfl rfl
theorem u_1726 : (Cond.code ({ cls := "HalfIsleModel", name := "settles", desc := "()I" } : MethodName) prog_10_method_104_code (1 : Nat) (Option.some FieldType.int)) ∈ LW := lw8 46 rfl rfl
theorem u_1727 : (Cond.methodLink "HalfIsleLaw" (270 : Nat) ({ cls := "HalfIsleModel", name := "richest", desc := "()I" } : MethodName)) ∈ LW := lw8 47 rfl rfl
theorem u_1728 : (Cond.instanceMethod ({ cls := "HalfIsleModel", name := "richest", desc := "()I" } : MethodName)) ∈ LW := lw8 48 rfl rfl
theorem u_1729 : (Cond.selects "HalfIsleModel" ({ cls := "HalfIsleModel", name := "richest", desc := "()I" } : MethodName) ({ cls := "HalfIsleModel", name := "richest", desc := "()I" } : MethodName)) ∈ LW := lw8 49 rfl rfl
theorem u_1730 : (Cond.code ({ cls := "HalfIsleModel", name := "richest", desc := "()I" } : MethodName) prog_10_method_105_code (3 : Nat) (Option.some FieldType.int)) ∈ LW := lw8 50 rfl rfl
theorem u_1731 : (Cond.methodLink "HalfIsleLaw" (274 : Nat) ({ cls := "HalfIsleModel", name := "traces", desc := "(Z)I" } : MethodName)) ∈ LW := lw8 51 rfl rfl
theorem u_1732 : (Cond.instanceMethod ({ cls := "HalfIsleModel", name := "traces", desc := "(Z)I" } : MethodName)) ∈ LW := lw8 52 rfl rfl
theorem u_1733 : (Cond.selects "HalfIsleModel" ({ cls := "HalfIsleModel", name := "traces", desc := "(Z)I" } : MethodName) ({ cls := "HalfIsleModel", name := "traces", desc := "(Z)I" } : MethodName)) ∈ LW := lw8 53 rfl rfl
theorem u_1734 : (Cond.code ({ cls := "HalfIsleModel", name := "traces", desc := "(Z)I" } : MethodName) prog_10_method_109_code (5 : Nat) (Option.some FieldType.int)) ∈ LW := lw8 54 rfl rfl
theorem u_1735 : (Cond.methodLink "HalfIsleModel" (331 : Nat) ({ cls := "HalfIsleModel", name := "told", desc := "()I" } : MethodName)) ∈ LW := lw8 55 rfl rfl
theorem u_1737 : (Cond.instanceMethod ({ cls := "HalfIsleModel", name := "told", desc := "()I" } : MethodName)) ∈ LW := lw8 57 rfl rfl
theorem u_1738 : (Cond.code ({ cls := "HalfIsleModel", name := "told", desc := "()I" } : MethodName) prog_10_method_107_code (6 : Nat) (Option.some FieldType.int)) ∈ LW := lw8 58 rfl rfl
theorem u_1739 : (Cond.methodLink "HalfIsleModel" (328 : Nat) ({ cls := "HalfIsleModel", name := "passes", desc := "(II)Z" } : MethodName)) ∈ LW := lw8 59 rfl rfl
theorem u_1740 : (Cond.static ({ cls := "HalfIsleModel", name := "passes", desc := "(II)Z" } : MethodName)) ∈ LW := lw8 60 rfl rfl
theorem u_1741 : (Cond.code ({ cls := "HalfIsleModel", name := "passes", desc := "(II)Z" } : MethodName) prog_10_method_106_code (4 : Nat) (Option.some FieldType.boolean)) ∈ LW := lw8 61 rfl rfl
theorem u_1742 : (Cond.methodLink "HalfIsleModel" (334 : Nat) ({ cls := "HalfIsleModel", name := "passing", desc := "(I)I" } : MethodName)) ∈ LW := lw8 62 rfl rfl
theorem u_1744 : (Cond.instanceMethod ({ cls := "HalfIsleModel", name := "passing", desc := "(I)I" } : MethodName)) ∈ LW := lw8 64 rfl rfl
theorem u_1745 : (Cond.code ({ cls := "HalfIsleModel", name := "passing", desc := "(I)I" } : MethodName) prog_10_method_108_code (4 : Nat) (Option.some FieldType.int)) ∈ LW := lw8 65 rfl rfl
theorem u_1746 : (Cond.methodLink "HalfIsleLaw" (277 : Nat) ({ cls := "HalfIsleModel", name := "look", desc := "()I" } : MethodName)) ∈ LW := lw8 66 rfl rfl
theorem u_1747 : (Cond.instanceMethod ({ cls := "HalfIsleModel", name := "look", desc := "()I" } : MethodName)) ∈ LW := lw8 67 rfl rfl
theorem u_1748 : (Cond.selects "HalfIsleModel" ({ cls := "HalfIsleModel", name := "look", desc := "()I" } : MethodName) ({ cls := "HalfIsleModel", name := "look", desc := "()I" } : MethodName)) ∈ LW := lw8 68 rfl rfl
theorem u_1749 : (Cond.code ({ cls := "HalfIsleModel", name := "look", desc := "()I" } : MethodName) prog_10_method_110_code (6 : Nat) (Option.some FieldType.int)) ∈ LW := lw8 69 rfl rfl
theorem u_1750 : (Cond.methodLink "HalfIsleLaw" (281 : Nat) ({ cls := "HalfIsleModel", name := "like", desc := "()I" } : MethodName)) ∈ LW := lw8 70 rfl rfl
theorem u_1751 : (Cond.instanceMethod ({ cls := "HalfIsleModel", name := "like", desc := "()I" } : MethodName)) ∈ LW := lw8 71 rfl rfl
theorem u_1752 : (Cond.selects "HalfIsleModel" ({ cls := "HalfIsleModel", name := "like", desc := "()I" } : MethodName) ({ cls := "HalfIsleModel", name := "like", desc := "()I" } : MethodName)) ∈ LW := lw8 72 rfl rfl
theorem u_1753 : (Cond.code ({ cls := "HalfIsleModel", name := "like", desc := "()I" } : MethodName) prog_10_method_111_code (3 : Nat) (Option.some FieldType.int)) ∈ LW := lw8 73 rfl rfl
theorem u_1754 : (Cond.methodLink "HalfIsleLaw" (284 : Nat) ({ cls := "HalfIsleModel", name := "trial", desc := "(IZ)I" } : MethodName)) ∈ LW := lw8 74 rfl rfl
theorem u_1755 : (Cond.instanceMethod ({ cls := "HalfIsleModel", name := "trial", desc := "(IZ)I" } : MethodName)) ∈ LW := lw8 75 rfl rfl
theorem u_1756 : (Cond.selects "HalfIsleModel" ({ cls := "HalfIsleModel", name := "trial", desc := "(IZ)I" } : MethodName) ({ cls := "HalfIsleModel", name := "trial", desc := "(IZ)I" } : MethodName)) ∈ LW := lw8 76 rfl rfl
theorem u_1757 : (Cond.code ({ cls := "HalfIsleModel", name := "trial", desc := "(IZ)I" } : MethodName) prog_10_method_112_code (5 : Nat) (Option.some FieldType.int)) ∈ LW := lw8 77 rfl rfl
theorem u_1758 : (Cond.methodLink "HalfIsleLaw" (287 : Nat) ({ cls := "HalfIsleModel", name := "span", desc := "(IZ)I" } : MethodName)) ∈ LW := lw8 78 rfl rfl
theorem u_1759 : (Cond.instanceMethod ({ cls := "HalfIsleModel", name := "span", desc := "(IZ)I" } : MethodName)) ∈ LW := lw8 79 rfl rfl
theorem u_1760 : (Cond.selects "HalfIsleModel" ({ cls := "HalfIsleModel", name := "span", desc := "(IZ)I" } : MethodName) ({ cls := "HalfIsleModel", name := "span", desc := "(IZ)I" } : MethodName)) ∈ LW := lw8 80 rfl rfl
theorem u_1761 : (Cond.code ({ cls := "HalfIsleModel", name := "span", desc := "(IZ)I" } : MethodName) prog_10_method_113_code (7 : Nat) (Option.some FieldType.int)) ∈ LW := lw8 81 rfl rfl
theorem u_1762 : (Cond.methodLink "HalfIsleLaw" (290 : Nat) ({ cls := "HalfIsleModel", name := "led", desc := "(IZ)I" } : MethodName)) ∈ LW := lw8 82 rfl rfl
theorem u_1763 : (Cond.instanceMethod ({ cls := "HalfIsleModel", name := "led", desc := "(IZ)I" } : MethodName)) ∈ LW := lw8 83 rfl rfl
theorem u_1764 : (Cond.selects "HalfIsleModel" ({ cls := "HalfIsleModel", name := "led", desc := "(IZ)I" } : MethodName) ({ cls := "HalfIsleModel", name := "led", desc := "(IZ)I" } : MethodName)) ∈ LW := lw8 84 rfl rfl
theorem u_1765 : (Cond.code ({ cls := "HalfIsleModel", name := "led", desc := "(IZ)I" } : MethodName) prog_10_method_115_code (5 : Nat) (Option.some FieldType.int)) ∈ LW := lw8 85 rfl rfl
theorem u_1766 : (Cond.methodLink "HalfIsleModel" (340 : Nat) ({ cls := "HalfIsleModel", name := "logged", desc := "(II)I" } : MethodName)) ∈ LW := lw8 86 rfl rfl
theorem u_1768 : (Cond.instanceMethod ({ cls := "HalfIsleModel", name := "logged", desc := "(II)I" } : MethodName)) ∈ LW := lw8 88 rfl rfl
theorem u_1769 : (Cond.code ({ cls := "HalfIsleModel", name := "logged", desc := "(II)I" } : MethodName) prog_10_method_114_code (3 : Nat) (Option.some FieldType.int)) ∈ LW := lw8 89 rfl rfl
theorem u_1770 : (Cond.methodLink "HalfIsleLaw" (293 : Nat) ({ cls := "HalfIsleModel", name := "log", desc := "(II)I" } : MethodName)) ∈ LW := lw8 90 rfl rfl
theorem u_1771 : (Cond.instanceMethod ({ cls := "HalfIsleModel", name := "log", desc := "(II)I" } : MethodName)) ∈ LW := lw8 91 rfl rfl
theorem u_1772 : (Cond.selects "HalfIsleModel" ({ cls := "HalfIsleModel", name := "log", desc := "(II)I" } : MethodName) ({ cls := "HalfIsleModel", name := "log", desc := "(II)I" } : MethodName)) ∈ LW := lw8 92 rfl rfl
theorem u_1773 : (Cond.code ({ cls := "HalfIsleModel", name := "log", desc := "(II)I" } : MethodName) prog_10_method_116_code (3 : Nat) (Option.some FieldType.int)) ∈ LW := lw8 93 rfl rfl
theorem u_1774 : (Cond.methodLink "HalfIsleLaw" (297 : Nat) ({ cls := "HalfIsleModel", name := "seed", desc := "(I)I" } : MethodName)) ∈ LW := lw8 94 rfl rfl
theorem u_1775 : (Cond.instanceMethod ({ cls := "HalfIsleModel", name := "seed", desc := "(I)I" } : MethodName)) ∈ LW := lw8 95 rfl rfl
theorem u_1776 : (Cond.selects "HalfIsleModel" ({ cls := "HalfIsleModel", name := "seed", desc := "(I)I" } : MethodName) ({ cls := "HalfIsleModel", name := "seed", desc := "(I)I" } : MethodName)) ∈ LW := lw8 96 rfl rfl
theorem u_1777 : (Cond.code ({ cls := "HalfIsleModel", name := "seed", desc := "(I)I" } : MethodName) prog_10_method_117_code (3 : Nat) (Option.some FieldType.int)) ∈ LW := lw8 97 rfl rfl
theorem u_1778 : (Cond.methodLink "HalfIsleLaw" (302 : Nat) ({ cls := "HalfIsleModel", name := "undo", desc := "()Z" } : MethodName)) ∈ LW := lw8 98 rfl rfl
theorem u_1779 : (Cond.instanceMethod ({ cls := "HalfIsleModel", name := "undo", desc := "()Z" } : MethodName)) ∈ LW := lw8 99 rfl rfl
theorem u_1780 : (Cond.selects "HalfIsleModel" ({ cls := "HalfIsleModel", name := "undo", desc := "()Z" } : MethodName) ({ cls := "HalfIsleModel", name := "undo", desc := "()Z" } : MethodName)) ∈ LW := lw8 100 rfl rfl
theorem u_1781 : (Cond.code ({ cls := "HalfIsleModel", name := "undo", desc := "()Z" } : MethodName) prog_10_method_118_code (2 : Nat) (Option.some FieldType.boolean)) ∈ LW := lw8 101 rfl rfl
theorem u_1782 : (Cond.methodLink "HalfIsleLaw" (306 : Nat) ({ cls := "HalfIsleModel", name := "image", desc := "()V" } : MethodName)) ∈ LW := lw8 102 rfl rfl
theorem u_1783 : (Cond.instanceMethod ({ cls := "HalfIsleModel", name := "image", desc := "()V" } : MethodName)) ∈ LW := lw8 103 rfl rfl
theorem u_1784 : (Cond.selects "HalfIsleModel" ({ cls := "HalfIsleModel", name := "image", desc := "()V" } : MethodName) ({ cls := "HalfIsleModel", name := "image", desc := "()V" } : MethodName)) ∈ LW := lw8 104 rfl rfl
theorem u_1785 : (Cond.code ({ cls := "HalfIsleModel", name := "image", desc := "()V" } : MethodName) prog_10_method_119_code (2 : Nat) (Option.none : Option FieldType)) ∈ LW := lw8 105 rfl rfl
theorem u_1786 : (Cond.methodLink "HalfIsleLaw" (310 : Nat) ({ cls := "HalfIsleModel", name := "back", desc := "()Z" } : MethodName)) ∈ LW := lw8 106 rfl rfl
theorem u_1787 : (Cond.instanceMethod ({ cls := "HalfIsleModel", name := "back", desc := "()Z" } : MethodName)) ∈ LW := lw8 107 rfl rfl
theorem u_1788 : (Cond.selects "HalfIsleModel" ({ cls := "HalfIsleModel", name := "back", desc := "()Z" } : MethodName) ({ cls := "HalfIsleModel", name := "back", desc := "()Z" } : MethodName)) ∈ LW := lw8 108 rfl rfl
theorem u_1789 : (Cond.code ({ cls := "HalfIsleModel", name := "back", desc := "()Z" } : MethodName) prog_10_method_120_code (2 : Nat) (Option.some FieldType.boolean)) ∈ LW := lw8 109 rfl rfl
theorem u_1790 : (Cond.methodLink "HalfIsleLaw" (314 : Nat) ({ cls := "HalfIsleModel", name := "count", desc := "(I)I" } : MethodName)) ∈ LW := lw8 110 rfl rfl
theorem u_1791 : (Cond.instanceMethod ({ cls := "HalfIsleModel", name := "count", desc := "(I)I" } : MethodName)) ∈ LW := lw8 111 rfl rfl
theorem u_1792 : (Cond.selects "HalfIsleModel" ({ cls := "HalfIsleModel", name := "count", desc := "(I)I" } : MethodName) ({ cls := "HalfIsleModel", name := "count", desc := "(I)I" } : MethodName)) ∈ LW := lw8 112 rfl rfl
theorem u_1793 : (Cond.code ({ cls := "HalfIsleModel", name := "count", desc := "(I)I" } : MethodName) prog_10_method_121_code (2 : Nat) (Option.some FieldType.int)) ∈ LW := lw8 113 rfl rfl
theorem u_1794 : (Cond.arrayClass FieldType.long) ∈ LW := lw8 114 rfl rfl
theorem un_1796 : (Cond.castable "HalfIsle" "java/lang/Object") ∈ NW := nw8 116 rfl rfl
theorem un_1797 : (Cond.castable "HalfIsle$DeedReader" "java/lang/Object") ∈ NW := nw8 117 rfl rfl
theorem un_1798 : (Cond.castable "HalfIsle$Reader" "java/lang/Object") ∈ NW := nw8 118 rfl rfl
theorem un_1799 : (Cond.castable "HalfIsle$LawReader" "java/lang/Object") ∈ NW := nw8 119 rfl rfl
theorem un_1800 : (Cond.castable "HalfIsle$Island" "java/lang/Object") ∈ NW := nw8 120 rfl rfl
theorem un_1801 : (Cond.castable "HalfIsle$Leavings" "java/lang/Object") ∈ NW := nw8 121 rfl rfl
theorem un_1802 : (Cond.castable "HalfIsle$Law" "java/lang/Object") ∈ NW := nw8 122 rfl rfl
theorem un_1803 : (Cond.castable "HalfIsle$Sums" "java/lang/Object") ∈ NW := nw8 123 rfl rfl
theorem un_1804 : (Cond.castable "HalfIsleModel" "java/lang/Object") ∈ NW := nw8 124 rfl rfl
theorem un_1805 : (Cond.castable "java/lang/IllegalArgumentException" "java/lang/Object") ∈ NW := nw8 125 rfl rfl
theorem un_1806 : (Cond.castable "java/lang/UnsupportedOperationException" "java/lang/Object") ∈ NW := nw8 126 rfl rfl
theorem un_1807 : (Cond.castable "java/lang/IndexOutOfBoundsException" "java/lang/Object") ∈ NW := nw8 127 rfl rfl
theorem un_1808 : (Cond.castable "java/util/NoSuchElementException" "java/lang/Object") ∈ NW := nw8 128 rfl rfl
theorem un_1809 : (Cond.castable "java/lang/Throwable" "java/lang/Object") ∈ NW := nw8 129 rfl rfl
theorem un_1810 : (Cond.castable "java/lang/String" "java/lang/Object") ∈ NW := nw8 130 rfl rfl
theorem u_1811 : (Cond.fieldLink "java/lang/String" (9 : Nat) "java/lang/String" "value" "[B") ∈ LW := lw8 131 rfl rfl
theorem u_1812 : (Cond.fieldLink "java/lang/String" (15 : Nat) "java/lang/String" "coder" "B") ∈ LW := lw8 132 rfl rfl
theorem us_0 : Cond.selects "HalfIsle" ⟨"HalfIsle", "tapeNumber", "(I)V"⟩ ⟨"HalfIsle", "tapeNumber", "(I)V"⟩ ∈ LW := lwsel 0 rfl rfl
theorem us_1 : Cond.selects "HalfIsle" ⟨"HalfIsle", "remember", "()V"⟩ ⟨"HalfIsle", "remember", "()V"⟩ ∈ LW := lwsel 1 rfl rfl
theorem us_2 : Cond.selects "HalfIsle$Island" ⟨"HalfIsle$Island", "passItem", "(LHalfIsle$Law;I)V"⟩ ⟨"HalfIsle$Island", "passItem", "(LHalfIsle$Law;I)V"⟩ ∈ LW := lwsel 2 rfl rfl
theorem us_3 : Cond.selects "HalfIsle$Law" ⟨"HalfIsle$Law", "holds", "(LHalfIsle$Island;III)Z"⟩ ⟨"HalfIsle$Law", "holds", "(LHalfIsle$Island;III)Z"⟩ ∈ LW := lwsel 3 rfl rfl
theorem us_4 : Cond.selects "HalfIsle$Island" ⟨"HalfIsle$Island", "passWeather", "()V"⟩ ⟨"HalfIsle$Island", "passWeather", "()V"⟩ ∈ LW := lwsel 4 rfl rfl
theorem us_5 : Cond.selects "HalfIsle$Island" ⟨"HalfIsle$Island", "draw", "()I"⟩ ⟨"HalfIsle$Island", "draw", "()I"⟩ ∈ LW := lwsel 5 rfl rfl
theorem us_6 : Cond.selects "HalfIsle$Island" ⟨"HalfIsle$Island", "leave", "()V"⟩ ⟨"HalfIsle$Island", "leave", "()V"⟩ ∈ LW := lwsel 6 rfl rfl
theorem us_7 : Cond.selects "HalfIsle" ⟨"HalfIsle", "sameRooms", "()Z"⟩ ⟨"HalfIsle", "sameRooms", "()Z"⟩ ∈ LW := lwsel 7 rfl rfl
theorem us_8 : Cond.selects "HalfIsle" ⟨"HalfIsle", "orderRooms", "()V"⟩ ⟨"HalfIsle", "orderRooms", "()V"⟩ ∈ LW := lwsel 8 rfl rfl
theorem us_9 : Cond.selects "HalfIsle" ⟨"HalfIsle", "goesAhead", "(II)Z"⟩ ⟨"HalfIsle", "goesAhead", "(II)Z"⟩ ∈ LW := lwsel 9 rfl rfl
theorem us_10 : Cond.selects "HalfIsle" ⟨"HalfIsle", "lookCost", "(I)I"⟩ ⟨"HalfIsle", "lookCost", "(I)I"⟩ ∈ LW := lwsel 10 rfl rfl
theorem us_11 : Cond.selects "HalfIsle" ⟨"HalfIsle", "likelihood", "(I)I"⟩ ⟨"HalfIsle", "likelihood", "(I)I"⟩ ∈ LW := lwsel 11 rfl rfl
theorem us_12 : Cond.selects "HalfIsle" ⟨"HalfIsle", "usedTape", "()I"⟩ ⟨"HalfIsle", "usedTape", "()I"⟩ ∈ LW := lwsel 12 rfl rfl
theorem us_13 : Cond.selects "HalfIsle$DeedReader" ⟨"HalfIsle$DeedReader", "readLine", "(LHalfIsle$Island;)V"⟩ ⟨"HalfIsle$DeedReader", "readLine", "(LHalfIsle$Island;)V"⟩ ∈ LW := lwsel 13 rfl rfl
theorem us_14 : Cond.selects "HalfIsle$DeedReader" ⟨"HalfIsle$DeedReader", "readItem", "(LHalfIsle$Island;)V"⟩ ⟨"HalfIsle$DeedReader", "readItem", "(LHalfIsle$Island;)V"⟩ ∈ LW := lwsel 14 rfl rfl
theorem us_15 : Cond.selects "HalfIsle$DeedReader" ⟨"HalfIsle$DeedReader", "readCell", "([III)V"⟩ ⟨"HalfIsle$DeedReader", "readCell", "([III)V"⟩ ∈ LW := lwsel 15 rfl rfl
theorem us_16 : Cond.selects "java/lang/Throwable" ⟨"java/lang/Throwable", "fillInStackTrace", "(I)Ljava/lang/Throwable;"⟩ ⟨"java/lang/Throwable", "fillInStackTrace", "(I)Ljava/lang/Throwable;"⟩ ∈ LW := lwsel 16 rfl rfl
theorem us_17 : Cond.selects "HalfIsle$LawReader" ⟨"HalfIsle$LawReader", "readLine", "(LHalfIsle$Law;)V"⟩ ⟨"HalfIsle$LawReader", "readLine", "(LHalfIsle$Law;)V"⟩ ∈ LW := lwsel 17 rfl rfl
theorem us_18 : Cond.selects "HalfIsle$LawReader" ⟨"HalfIsle$LawReader", "readCondition", "(LHalfIsle$Law;)V"⟩ ⟨"HalfIsle$LawReader", "readCondition", "(LHalfIsle$Law;)V"⟩ ∈ LW := lwsel 18 rfl rfl
theorem us_19 : Cond.selects "HalfIsle$LawReader" ⟨"HalfIsle$LawReader", "readAtom", "(LHalfIsle$Law;)V"⟩ ⟨"HalfIsle$LawReader", "readAtom", "(LHalfIsle$Law;)V"⟩ ∈ LW := lwsel 19 rfl rfl
theorem us_20 : Cond.selects "HalfIsle$LawReader" ⟨"HalfIsle$LawReader", "hold", "(I)V"⟩ ⟨"HalfIsle$LawReader", "hold", "(I)V"⟩ ∈ LW := lwsel 20 rfl rfl
theorem us_21 : Cond.selects "HalfIsle$LawReader" ⟨"HalfIsle$LawReader", "readSum", "(LHalfIsle$Law;)V"⟩ ⟨"HalfIsle$LawReader", "readSum", "(LHalfIsle$Law;)V"⟩ ∈ LW := lwsel 21 rfl rfl
theorem us_22 : Cond.selects "HalfIsle$LawReader" ⟨"HalfIsle$LawReader", "partCode", "()I"⟩ ⟨"HalfIsle$LawReader", "partCode", "()I"⟩ ∈ LW := lwsel 22 rfl rfl
theorem us_23 : Cond.selects "HalfIsle$LawReader" ⟨"HalfIsle$LawReader", "closeAtom", "(LHalfIsle$Law;)V"⟩ ⟨"HalfIsle$LawReader", "closeAtom", "(LHalfIsle$Law;)V"⟩ ∈ LW := lwsel 23 rfl rfl
theorem us_24 : Cond.selects "HalfIsle$LawReader" ⟨"HalfIsle$LawReader", "release", "(LHalfIsle$Law;I)V"⟩ ⟨"HalfIsle$LawReader", "release", "(LHalfIsle$Law;I)V"⟩ ∈ LW := lwsel 24 rfl rfl
theorem us_25 : Cond.selects "HalfIsle$LawReader" ⟨"HalfIsle$LawReader", "joins", "(LHalfIsle$Law;)Z"⟩ ⟨"HalfIsle$LawReader", "joins", "(LHalfIsle$Law;)Z"⟩ ∈ LW := lwsel 25 rfl rfl
theorem us_26 : Cond.selects "HalfIsle" ⟨"HalfIsle", "checkItem", "(I)V"⟩ ⟨"HalfIsle", "checkItem", "(I)V"⟩ ∈ LW := lwsel 26 rfl rfl
theorem us_27 : Cond.selects "HalfIsle" ⟨"HalfIsle", "goAhead", "(I)V"⟩ ⟨"HalfIsle", "goAhead", "(I)V"⟩ ∈ LW := lwsel 27 rfl rfl
theorem us_28 : Cond.selects "HalfIsle" ⟨"HalfIsle", "firstMeeting", "(II)I"⟩ ⟨"HalfIsle", "firstMeeting", "(II)I"⟩ ∈ LW := lwsel 28 rfl rfl
theorem us_29 : Cond.selects "HalfIsle" ⟨"HalfIsle", "readTraces", "()I"⟩ ⟨"HalfIsle", "readTraces", "()I"⟩ ∈ LW := lwsel 29 rfl rfl
theorem us_30 : Cond.selects "HalfIsle" ⟨"HalfIsle", "tryDays", "(II)V"⟩ ⟨"HalfIsle", "tryDays", "(II)V"⟩ ∈ LW := lwsel 30 rfl rfl
theorem us_31 : Cond.selects "HalfIsleModel" ⟨"HalfIsleModel", "putsAside", "()V"⟩ ⟨"HalfIsleModel", "putsAside", "()V"⟩ ∈ LW := lwsel 31 rfl rfl
theorem us_32 : Cond.selects "HalfIsleModel" ⟨"HalfIsleModel", "begins", "()V"⟩ ⟨"HalfIsleModel", "begins", "()V"⟩ ∈ LW := lwsel 32 rfl rfl
theorem us_33 : Cond.selects "HalfIsleModel" ⟨"HalfIsleModel", "read", "(Z)I"⟩ ⟨"HalfIsleModel", "read", "(Z)I"⟩ ∈ LW := lwsel 33 rfl rfl
theorem us_34 : Cond.selects "HalfIsleModel" ⟨"HalfIsleModel", "skip", "()V"⟩ ⟨"HalfIsleModel", "skip", "()V"⟩ ∈ LW := lwsel 34 rfl rfl
theorem us_35 : Cond.selects "HalfIsleModel" ⟨"HalfIsleModel", "letter", "(I)I"⟩ ⟨"HalfIsleModel", "letter", "(I)I"⟩ ∈ LW := lwsel 35 rfl rfl
theorem us_36 : Cond.selects "HalfIsleModel" ⟨"HalfIsleModel", "wrong", "(I)V"⟩ ⟨"HalfIsleModel", "wrong", "(I)V"⟩ ∈ LW := lwsel 36 rfl rfl
theorem us_37 : Cond.selects "HalfIsleModel" ⟨"HalfIsleModel", "lawLine", "()V"⟩ ⟨"HalfIsleModel", "lawLine", "()V"⟩ ∈ LW := lwsel 37 rfl rfl
theorem us_38 : Cond.selects "HalfIsleModel" ⟨"HalfIsleModel", "has", "(Ljava/lang/String;)Z"⟩ ⟨"HalfIsleModel", "has", "(Ljava/lang/String;)Z"⟩ ∈ LW := lwsel 38 rfl rfl
theorem us_39 : Cond.selects "HalfIsleModel" ⟨"HalfIsleModel", "figures", "(II)I"⟩ ⟨"HalfIsleModel", "figures", "(II)I"⟩ ∈ LW := lwsel 39 rfl rfl
theorem us_40 : Cond.selects "HalfIsleModel" ⟨"HalfIsleModel", "place", "()I"⟩ ⟨"HalfIsleModel", "place", "()I"⟩ ∈ LW := lwsel 40 rfl rfl
theorem us_41 : Cond.selects "HalfIsleModel" ⟨"HalfIsleModel", "some", "()Z"⟩ ⟨"HalfIsleModel", "some", "()Z"⟩ ∈ LW := lwsel 41 rfl rfl
theorem us_42 : Cond.selects "HalfIsleModel" ⟨"HalfIsleModel", "every", "()Z"⟩ ⟨"HalfIsleModel", "every", "()Z"⟩ ∈ LW := lwsel 42 rfl rfl
theorem us_43 : Cond.selects "HalfIsleModel" ⟨"HalfIsleModel", "atom", "()Z"⟩ ⟨"HalfIsleModel", "atom", "()Z"⟩ ∈ LW := lwsel 43 rfl rfl
theorem us_44 : Cond.selects "HalfIsleModel" ⟨"HalfIsleModel", "isSign", "(I)Z"⟩ ⟨"HalfIsleModel", "isSign", "(I)Z"⟩ ∈ LW := lwsel 44 rfl rfl
theorem us_45 : Cond.selects "HalfIsleModel" ⟨"HalfIsleModel", "plain", "()Z"⟩ ⟨"HalfIsleModel", "plain", "()Z"⟩ ∈ LW := lwsel 45 rfl rfl
theorem us_46 : Cond.selects "HalfIsleModel" ⟨"HalfIsleModel", "sum", "()I"⟩ ⟨"HalfIsleModel", "sum", "()I"⟩ ∈ LW := lwsel 46 rfl rfl
theorem us_47 : Cond.selects "HalfIsleModel" ⟨"HalfIsleModel", "part", "()I"⟩ ⟨"HalfIsleModel", "part", "()I"⟩ ∈ LW := lwsel 47 rfl rfl
theorem us_48 : Cond.selects "HalfIsleModel" ⟨"HalfIsleModel", "deedLine", "()V"⟩ ⟨"HalfIsleModel", "deedLine", "()V"⟩ ∈ LW := lwsel 48 rfl rfl
theorem us_49 : Cond.selects "HalfIsleModel" ⟨"HalfIsleModel", "itemLine", "(I)V"⟩ ⟨"HalfIsleModel", "itemLine", "(I)V"⟩ ∈ LW := lwsel 49 rfl rfl
theorem us_50 : Cond.selects "HalfIsleModel" ⟨"HalfIsleModel", "after", "(Ljava/lang/String;II)I"⟩ ⟨"HalfIsleModel", "after", "(Ljava/lang/String;II)I"⟩ ∈ LW := lwsel 50 rfl rfl
theorem us_51 : Cond.selects "HalfIsleModel" ⟨"HalfIsleModel", "put", "(III)V"⟩ ⟨"HalfIsleModel", "put", "(III)V"⟩ ∈ LW := lwsel 51 rfl rfl
theorem us_52 : Cond.selects "HalfIsleModel" ⟨"HalfIsleModel", "tellsAt", "(IIII)V"⟩ ⟨"HalfIsleModel", "tellsAt", "(IIII)V"⟩ ∈ LW := lwsel 52 rfl rfl
theorem us_53 : Cond.selects "HalfIsleModel" ⟨"HalfIsleModel", "tells", "(II)V"⟩ ⟨"HalfIsleModel", "tells", "(II)V"⟩ ∈ LW := lwsel 53 rfl rfl
theorem us_54 : Cond.selects "HalfIsleModel" ⟨"HalfIsleModel", "comesBack", "()V"⟩ ⟨"HalfIsleModel", "comesBack", "()V"⟩ ∈ LW := lwsel 54 rfl rfl
theorem us_55 : Cond.selects "HalfIsleModel" ⟨"HalfIsleModel", "isItem", "(I)Z"⟩ ⟨"HalfIsleModel", "isItem", "(I)Z"⟩ ∈ LW := lwsel 55 rfl rfl
theorem us_56 : Cond.selects "HalfIsleModel" ⟨"HalfIsleModel", "of", "(II)I"⟩ ⟨"HalfIsleModel", "of", "(II)I"⟩ ∈ LW := lwsel 56 rfl rfl
theorem us_57 : Cond.selects "HalfIsleModel" ⟨"HalfIsleModel", "isMissing", "(I)Z"⟩ ⟨"HalfIsleModel", "isMissing", "(I)Z"⟩ ∈ LW := lwsel 57 rfl rfl
theorem us_58 : Cond.selects "HalfIsleModel" ⟨"HalfIsleModel", "worseBy", "(I)I"⟩ ⟨"HalfIsleModel", "worseBy", "(I)I"⟩ ∈ LW := lwsel 58 rfl rfl
theorem us_59 : Cond.selects "HalfIsleModel" ⟨"HalfIsleModel", "workOf", "(I)I"⟩ ⟨"HalfIsleModel", "workOf", "(I)I"⟩ ∈ LW := lwsel 59 rfl rfl
theorem us_60 : Cond.selects "HalfIsleModel" ⟨"HalfIsleModel", "itemsOf", "(II)I"⟩ ⟨"HalfIsleModel", "itemsOf", "(II)I"⟩ ∈ LW := lwsel 60 rfl rfl
theorem us_61 : Cond.selects "HalfIsleModel" ⟨"HalfIsleModel", "needs", "(I)I"⟩ ⟨"HalfIsleModel", "needs", "(I)I"⟩ ∈ LW := lwsel 61 rfl rfl
theorem us_62 : Cond.selects "HalfIsleModel" ⟨"HalfIsleModel", "workOfAll", "()I"⟩ ⟨"HalfIsleModel", "workOfAll", "()I"⟩ ∈ LW := lwsel 62 rfl rfl
theorem us_63 : Cond.selects "HalfIsleModel" ⟨"HalfIsleModel", "latest", "(I)I"⟩ ⟨"HalfIsleModel", "latest", "(I)I"⟩ ∈ LW := lwsel 63 rfl rfl
theorem us_64 : Cond.selects "HalfIsleModel" ⟨"HalfIsleModel", "asks", "(I)V"⟩ ⟨"HalfIsleModel", "asks", "(I)V"⟩ ∈ LW := lwsel 64 rfl rfl
theorem us_65 : Cond.selects "HalfIsleModel" ⟨"HalfIsleModel", "there", "()I"⟩ ⟨"HalfIsleModel", "there", "()I"⟩ ∈ LW := lwsel 65 rfl rfl
theorem us_66 : Cond.selects "HalfIsleModel" ⟨"HalfIsleModel", "remembers", "()V"⟩ ⟨"HalfIsleModel", "remembers", "()V"⟩ ∈ LW := lwsel 66 rfl rfl
theorem us_67 : Cond.selects "HalfIsleModel" ⟨"HalfIsleModel", "missingOnes", "()I"⟩ ⟨"HalfIsleModel", "missingOnes", "()I"⟩ ∈ LW := lwsel 67 rfl rfl
theorem us_68 : Cond.selects "HalfIsleModel" ⟨"HalfIsleModel", "inventory", "()V"⟩ ⟨"HalfIsleModel", "inventory", "()V"⟩ ∈ LW := lwsel 68 rfl rfl
theorem us_69 : Cond.selects "HalfIsleModel" ⟨"HalfIsleModel", "soils", "()I"⟩ ⟨"HalfIsleModel", "soils", "()I"⟩ ∈ LW := lwsel 69 rfl rfl
theorem us_70 : Cond.selects "HalfIsleModel" ⟨"HalfIsleModel", "goes", "(IZ)I"⟩ ⟨"HalfIsleModel", "goes", "(IZ)I"⟩ ∈ LW := lwsel 70 rfl rfl
theorem us_71 : Cond.selects "HalfIsleModel" ⟨"HalfIsleModel", "moves", "()V"⟩ ⟨"HalfIsleModel", "moves", "()V"⟩ ∈ LW := lwsel 71 rfl rfl
theorem us_72 : Cond.selects "HalfIsleModel" ⟨"HalfIsleModel", "storms", "()V"⟩ ⟨"HalfIsleModel", "storms", "()V"⟩ ∈ LW := lwsel 72 rfl rfl
theorem us_73 : Cond.selects "HalfIsleModel" ⟨"HalfIsleModel", "draw", "(I)I"⟩ ⟨"HalfIsleModel", "draw", "(I)I"⟩ ∈ LW := lwsel 73 rfl rfl
theorem us_74 : Cond.selects "HalfIsleModel" ⟨"HalfIsleModel", "leaves", "()V"⟩ ⟨"HalfIsleModel", "leaves", "()V"⟩ ∈ LW := lwsel 74 rfl rfl
theorem us_75 : Cond.selects "HalfIsleModel" ⟨"HalfIsleModel", "owedNow", "()I"⟩ ⟨"HalfIsleModel", "owedNow", "()I"⟩ ∈ LW := lwsel 75 rfl rfl
theorem us_76 : Cond.selects "HalfIsleModel" ⟨"HalfIsleModel", "valueOf", "(I)I"⟩ ⟨"HalfIsleModel", "valueOf", "(I)I"⟩ ∈ LW := lwsel 76 rfl rfl
theorem us_77 : Cond.selects "HalfIsleModel" ⟨"HalfIsleModel", "areThere", "()Z"⟩ ⟨"HalfIsleModel", "areThere", "()Z"⟩ ∈ LW := lwsel 77 rfl rfl
theorem us_78 : Cond.selects "HalfIsleModel" ⟨"HalfIsleModel", "searches", "()V"⟩ ⟨"HalfIsleModel", "searches", "()V"⟩ ∈ LW := lwsel 78 rfl rfl
theorem us_79 : Cond.selects "HalfIsleModel" ⟨"HalfIsleModel", "by", "(II)I"⟩ ⟨"HalfIsleModel", "by", "(II)I"⟩ ∈ LW := lwsel 79 rfl rfl
theorem us_80 : Cond.selects "HalfIsleModel" ⟨"HalfIsleModel", "costsOf", "(I)I"⟩ ⟨"HalfIsleModel", "costsOf", "(I)I"⟩ ∈ LW := lwsel 80 rfl rfl
theorem us_81 : Cond.selects "HalfIsleModel" ⟨"HalfIsleModel", "pays", "(II)I"⟩ ⟨"HalfIsleModel", "pays", "(II)I"⟩ ∈ LW := lwsel 81 rfl rfl
theorem us_82 : Cond.selects "HalfIsleModel" ⟨"HalfIsleModel", "together", "(I)I"⟩ ⟨"HalfIsleModel", "together", "(I)I"⟩ ∈ LW := lwsel 82 rfl rfl
theorem us_83 : Cond.selects "HalfIsleModel" ⟨"HalfIsleModel", "told", "()I"⟩ ⟨"HalfIsleModel", "told", "()I"⟩ ∈ LW := lwsel 83 rfl rfl
theorem us_84 : Cond.selects "HalfIsleModel" ⟨"HalfIsleModel", "passing", "(I)I"⟩ ⟨"HalfIsleModel", "passing", "(I)I"⟩ ∈ LW := lwsel 84 rfl rfl
theorem us_85 : Cond.selects "HalfIsleModel" ⟨"HalfIsleModel", "logged", "(II)I"⟩ ⟨"HalfIsleModel", "logged", "(II)I"⟩ ∈ LW := lwsel 85 rfl rfl
def cwK (K : MR) : Cond := match K.2.2.2.2 with | [] => .code K.1 K.2.1 K.2.2.1 K.2.2.2.1 | hh => .codeWith K.1 K.2.1 K.2.2.1 K.2.2.2.1 hh
