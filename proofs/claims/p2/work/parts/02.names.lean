/-! ===== BEGIN words of one list among another's, by their places ===== -/
theorem goodIn_r {big : List Cond} (ws : List Cond) (ps : List Nat) (hp : ws = ps.filterMap (fun i => big[i]?)) (h : ws.all goodWord = true) : GoodIn big ws := by
  intro w hw
  have h1 := List.all_eq_true.mp h w hw
  rw [hp] at hw
  obtain ⟨i, -, hi⟩ := List.mem_filterMap.mp hw
  have hm : w ∈ big := by first | exact List.mem_of_getElem? hi | exact List.getElem?_mem hi
  exact ⟨hm, good_of_word h1⟩
theorem goodIn_app {big a b : List Cond} (ha : GoodIn big a) (hb : GoodIn big b) : GoodIn big (a ++ b) := fun w h => (List.mem_append.mp h).elim (ha w) (hb w)
theorem goodIn_ca {big a b : List Cond} {c : Cond} (ha : GoodIn big (c :: a)) (hb : GoodIn big b) : GoodIn big (c :: (a ++ b)) := fun w h => (List.mem_cons.mp h).elim (fun e => ha w (List.mem_cons.mpr (Or.inl e))) (fun h => (List.mem_append.mp h).elim (fun h => ha w (List.mem_cons.mpr (Or.inr h))) (hb w))
theorem goodIn_sub {big ws : List Cond} (hm : ∀ w ∈ ws, w ∈ big) (h : ws.all goodWord = true) : GoodIn big ws := fun w hw => ⟨hm w hw, good_of_word (List.all_eq_true.mp h w hw)⟩
/-! ===== END ===== -/

/-! ===== BEGIN printed: names, fields, word lists, decode rows ===== -/
def RX0 : String := "LitmusHall$Cure"
def TX0 : u_T := fun k => match k with
  | 0 => ("LitmusHall$Cure", "fenced", "LLitmusHall$Program;", true)
  | 1 => ("LitmusHall$Cure", "lookedSizes", "I", false)
  | 2 => ("LitmusHall$Cure", "answer", "I", false)
  | 3 => ("LitmusHall$Cure", "looked", "[I", true)
  | 4 => ("LitmusHall$Cure", "toldSize", "I", false)
  | _ => ("LitmusHall$Cure", "told", "[I", true)
def tyX0 : Nat → FieldType := fun k => match k with
  | 0 => .object "LitmusHall$Program"
  | 1 => .int
  | 2 => .int
  | 3 => .array .int
  | 4 => .int
  | _ => .array .int
abbrev wsX00 : List Cond := u_ws RX0 TX0 6
theorem nmX0 : ∀ a, a < 6 → ∀ b, b < 6 → a ≠ b → (TX0 a).2.1 ≠ (TX0 b).2.1 := by decide +kernel
theorem tyX0_ok : ∀ k, k < 6 → parseFieldDescriptor (TX0 k).2.2.1 = some (tyX0 k) := by decide +kernel
abbrev cX0_init : ByteArray := prog_2_method_1_code
def yX0_init : MethodName := ⟨RX0, "<init>", "()V"⟩
abbrev cX0_forgetSearch : ByteArray := prog_2_method_2_code
def yX0_forgetSearch : MethodName := ⟨RX0, "forgetSearch", "()V"⟩
abbrev cX0_least : ByteArray := prog_2_method_3_code
def yX0_least : MethodName := ⟨RX0, "least", "(LLitmusHall$Program;LLitmusHall$Findings;LLitmusHall$Explorer;I)I"⟩
abbrev cX0_lookAtSize : ByteArray := prog_2_method_4_code
def yX0_lookAtSize : MethodName := ⟨RX0, "lookAtSize", "(LLitmusHall$Program;LLitmusHall$Findings;LLitmusHall$Explorer;I)I"⟩
abbrev cX0_toldPlace : ByteArray := prog_2_method_5_code
def yX0_toldPlace : MethodName := ⟨RX0, "toldPlace", "(I)I"⟩
def RX1 : String := "LitmusHall$Explorer"
def TX1 : u_T := fun k => match k with
  | 0 => ("LitmusHall$Explorer", "size", "I", false)
  | 1 => ("LitmusHall$Explorer", "endSize", "I", false)
  | 2 => ("LitmusHall$Explorer", "ends", "[I", true)
  | 3 => ("LitmusHall$Explorer", "path", "[I", true)
  | 4 => ("LitmusHall$Explorer", "state", "LLitmusHall$State;", true)
  | 5 => ("LitmusHall$Explorer", "moved", "LLitmusHall$State;", true)
  | 6 => ("LitmusHall$Explorer", "width", "I", false)
  | 7 => ("LitmusHall$Explorer", "rows", "[I", false)
  | 8 => ("LitmusHall$Explorer", "slots", "[I", true)
  | _ => ("LitmusHall$Explorer", "came", "[I", true)
def tyX1 : Nat → FieldType := fun k => match k with
  | 0 => .int
  | 1 => .int
  | 2 => .array .int
  | 3 => .array .int
  | 4 => .object "LitmusHall$State"
  | 5 => .object "LitmusHall$State"
  | 6 => .int
  | 7 => .array .int
  | 8 => .array .int
  | _ => .array .int
abbrev wsX10 : List Cond := u_ws RX1 TX1 10
theorem nmX1 : ∀ a, a < 10 → ∀ b, b < 10 → a ≠ b → (TX1 a).2.1 ≠ (TX1 b).2.1 := by decide +kernel
theorem tyX1_ok : ∀ k, k < 10 → parseFieldDescriptor (TX1 k).2.2.1 = some (tyX1 k) := by decide +kernel
abbrev cX1_init : ByteArray := prog_3_method_1_code
def yX1_init : MethodName := ⟨RX1, "<init>", "()V"⟩
abbrev cX1_explore : ByteArray := prog_3_method_2_code
def yX1_explore : MethodName := ⟨RX1, "explore", "(LLitmusHall$Program;I)Z"⟩
abbrev cX1_fetch : ByteArray := prog_3_method_3_code
def yX1_fetch : MethodName := ⟨RX1, "fetch", "(I)V"⟩
abbrev cX1_keep : ByteArray := prog_3_method_4_code
def yX1_keep : MethodName := ⟨RX1, "keep", "([II)Z"⟩
abbrev cX1_hashOf : ByteArray := prog_3_method_5_code
def yX1_hashOf : MethodName := ⟨RX1, "hashOf", "([I)I"⟩
abbrev cX1_isSame : ByteArray := prog_3_method_6_code
def yX1_isSame : MethodName := ⟨RX1, "isSame", "(I[I)Z"⟩
abbrev cX1_add : ByteArray := prog_3_method_7_code
def yX1_add : MethodName := ⟨RX1, "add", "([IIII)Z"⟩
abbrev cX1_addEnd : ByteArray := prog_3_method_8_code
def yX1_addEnd : MethodName := ⟨RX1, "addEnd", "(I)V"⟩
abbrev cX1_isBefore : ByteArray := prog_3_method_9_code
def yX1_isBefore : MethodName := ⟨RX1, "isBefore", "(II)Z"⟩
abbrev cX1_intOf : ByteArray := prog_3_method_10_code
def yX1_intOf : MethodName := ⟨RX1, "intOf", "(II)I"⟩
abbrev cX1_pathTo : ByteArray := prog_3_method_11_code
def yX1_pathTo : MethodName := ⟨RX1, "pathTo", "(I)I"⟩
def RX2 : String := "LitmusHall$Findings"
def TX2 : u_T := fun k => match k with
  | 0 => ("LitmusHall$Findings", "known", "Z", false)
  | 1 => ("LitmusHall$Findings", "full", "Z", false)
  | 2 => ("LitmusHall$Findings", "states", "I", false)
  | 3 => ("LitmusHall$Findings", "size", "I", false)
  | _ => ("LitmusHall$Findings", "records", "[I", false)
def tyX2 : Nat → FieldType := fun k => match k with
  | 0 => .boolean
  | 1 => .boolean
  | 2 => .int
  | 3 => .int
  | _ => .array .int
abbrev wsX20 : List Cond := u_ws RX2 TX2 5
theorem nmX2 : ∀ a, a < 5 → ∀ b, b < 5 → a ≠ b → (TX2 a).2.1 ≠ (TX2 b).2.1 := by decide +kernel
theorem tyX2_ok : ∀ k, k < 5 → parseFieldDescriptor (TX2 k).2.2.1 = some (tyX2 k) := by decide +kernel
abbrev cX2_init : ByteArray := prog_4_method_1_code
def yX2_init : MethodName := ⟨RX2, "<init>", "()V"⟩
abbrev cX2_fill : ByteArray := prog_4_method_2_code
def yX2_fill : MethodName := ⟨RX2, "fill", "(LLitmusHall$Explorer;Z)V"⟩
abbrev cX2_record : ByteArray := prog_4_method_3_code
def yX2_record : MethodName := ⟨RX2, "record", "(LLitmusHall$Explorer;I)V"⟩
abbrev cX2_has : ByteArray := prog_4_method_4_code
def yX2_has : MethodName := ⟨RX2, "has", "(I)Z"⟩
abbrev cX2_intOf : ByteArray := prog_4_method_5_code
def yX2_intOf : MethodName := ⟨RX2, "intOf", "(II)I"⟩
abbrev cX2_stepOf : ByteArray := prog_4_method_6_code
def yX2_stepOf : MethodName := ⟨RX2, "stepOf", "(II)I"⟩
abbrev cX2_statesOrNone : ByteArray := prog_4_method_7_code
def yX2_statesOrNone : MethodName := ⟨RX2, "statesOrNone", "()I"⟩
abbrev cX2_sizeOrNone : ByteArray := prog_4_method_8_code
def yX2_sizeOrNone : MethodName := ⟨RX2, "sizeOrNone", "()I"⟩
abbrev cX2_numberOfOther : ByteArray := prog_4_method_9_code
def yX2_numberOfOther : MethodName := ⟨RX2, "numberOfOther", "(LLitmusHall$Findings;I)I"⟩
abbrev cX2_compare : ByteArray := prog_4_method_10_code
def yX2_compare : MethodName := ⟨RX2, "compare", "(ILLitmusHall$Findings;I)I"⟩
abbrev cX2_isSame : ByteArray := prog_4_method_11_code
def yX2_isSame : MethodName := ⟨RX2, "isSame", "(LLitmusHall$Explorer;)Z"⟩
def RX3 : String := "LitmusHall$Machine"
def TX3 : u_T := fun k => match k with
  | 0 => ("LitmusHall$Machine", "state", "LLitmusHall$State;", true)
  | 1 => ("LitmusHall$Machine", "stands", "Z", false)
  | 2 => ("LitmusHall$Machine", "steps", "I", false)
  | 3 => ("LitmusHall$Machine", "mode", "I", false)
  | _ => ("LitmusHall$Machine", "done", "[I", true)
def tyX3 : Nat → FieldType := fun k => match k with
  | 0 => .object "LitmusHall$State"
  | 1 => .boolean
  | 2 => .int
  | 3 => .int
  | _ => .array .int
abbrev wsX30 : List Cond := u_ws RX3 TX3 5
theorem nmX3 : ∀ a, a < 5 → ∀ b, b < 5 → a ≠ b → (TX3 a).2.1 ≠ (TX3 b).2.1 := by decide +kernel
theorem tyX3_ok : ∀ k, k < 5 → parseFieldDescriptor (TX3 k).2.2.1 = some (tyX3 k) := by decide +kernel
abbrev cX3_init : ByteArray := prog_5_method_1_code
def yX3_init : MethodName := ⟨RX3, "<init>", "()V"⟩
abbrev cX3_start : ByteArray := prog_5_method_2_code
def yX3_start : MethodName := ⟨RX3, "start", "(LLitmusHall$Program;I)V"⟩
abbrev cX3_go : ByteArray := prog_5_method_3_code
def yX3_go : MethodName := ⟨RX3, "go", "(LLitmusHall$Program;I)Z"⟩
abbrev cX3_takeBack : ByteArray := prog_5_method_4_code
def yX3_takeBack : MethodName := ⟨RX3, "takeBack", "(LLitmusHall$Program;)Z"⟩
def RX4 : String := "LitmusHall$Program"
def TX4 : u_T := fun k => match k with
  | 0 => ("LitmusHall$Program", "cores", "I", false)
  | 1 => ("LitmusHall$Program", "lengths", "[I", true)
  | 2 => ("LitmusHall$Program", "cells", "[I", true)
  | _ => ("LitmusHall$Program", "parts", "[I", true)
def tyX4 : Nat → FieldType := fun k => match k with
  | 0 => .int
  | 1 => .array .int
  | 2 => .array .int
  | _ => .array .int
abbrev wsX40 : List Cond := u_ws RX4 TX4 4
theorem nmX4 : ∀ a, a < 4 → ∀ b, b < 4 → a ≠ b → (TX4 a).2.1 ≠ (TX4 b).2.1 := by decide +kernel
theorem tyX4_ok : ∀ k, k < 4 → parseFieldDescriptor (TX4 k).2.2.1 = some (tyX4 k) := by decide +kernel
abbrev cX4_init : ByteArray := prog_6_method_1_code
def yX4_init : MethodName := ⟨RX4, "<init>", "()V"⟩
abbrev cX4_clear : ByteArray := prog_6_method_2_code
def yX4_clear : MethodName := ⟨RX4, "clear", "()V"⟩
abbrev cX4_partsAt : ByteArray := prog_6_method_3_code
def yX4_partsAt : MethodName := ⟨RX4, "partsAt", "(II)I"⟩
abbrev cX4_part : ByteArray := prog_6_method_4_code
def yX4_part : MethodName := ⟨RX4, "part", "(III)I"⟩
abbrev cX4_hasRoom : ByteArray := prog_6_method_5_code
def yX4_hasRoom : MethodName := ⟨RX4, "hasRoom", "(I)Z"⟩
abbrev cX4_addBlank : ByteArray := prog_6_method_6_code
def yX4_addBlank : MethodName := ⟨RX4, "addBlank", "(II)I"⟩
abbrev cX4_insInAll : ByteArray := prog_6_method_7_code
def yX4_insInAll : MethodName := ⟨RX4, "insInAll", "()I"⟩
abbrev cX4_placesInAll : ByteArray := prog_6_method_8_code
def yX4_placesInAll : MethodName := ⟨RX4, "placesInAll", "()I"⟩
abbrev cX4_placeOf : ByteArray := prog_6_method_9_code
def yX4_placeOf : MethodName := ⟨RX4, "placeOf", "(I)I"⟩
abbrev cX4_becomeFenced : ByteArray := prog_6_method_10_code
def yX4_becomeFenced : MethodName := ⟨RX4, "becomeFenced", "(LLitmusHall$Program;II)V"⟩
abbrev cX4_copyIns : ByteArray := prog_6_method_11_code
def yX4_copyIns : MethodName := ⟨RX4, "copyIns", "(LLitmusHall$Program;III)V"⟩
abbrev cX4_within : ByteArray := prog_6_method_12_code
def yX4_within : MethodName := ⟨RX4, "within", "(III)I"⟩
def RX5 : String := "LitmusHall$Race"
def TX5 : u_T := fun k => match k with
  | 0 => ("LitmusHall$Race", "known", "Z", false)
  | 1 => ("LitmusHall$Race", "answer", "I", false)
  | 2 => ("LitmusHall$Race", "loader", "I", false)
  | 3 => ("LitmusHall$Race", "writer", "I", false)
  | 4 => ("LitmusHall$Race", "cell", "I", false)
  | 5 => ("LitmusHall$Race", "steps", "I", false)
  | _ => ("LitmusHall$Race", "path", "[I", true)
def tyX5 : Nat → FieldType := fun k => match k with
  | 0 => .boolean
  | 1 => .int
  | 2 => .int
  | 3 => .int
  | 4 => .int
  | 5 => .int
  | _ => .array .int
abbrev wsX50 : List Cond := u_ws RX5 TX5 7
theorem nmX5 : ∀ a, a < 7 → ∀ b, b < 7 → a ≠ b → (TX5 a).2.1 ≠ (TX5 b).2.1 := by decide +kernel
theorem tyX5_ok : ∀ k, k < 7 → parseFieldDescriptor (TX5 k).2.2.1 = some (tyX5 k) := by decide +kernel
abbrev cX5_init : ByteArray := prog_7_method_1_code
def yX5_init : MethodName := ⟨RX5, "<init>", "()V"⟩
abbrev cX5_search : ByteArray := prog_7_method_2_code
def yX5_search : MethodName := ⟨RX5, "search", "(LLitmusHall$Program;LLitmusHall$Explorer;)V"⟩
abbrev cX5_isRace : ByteArray := prog_7_method_3_code
def yX5_isRace : MethodName := ⟨RX5, "isRace", "(LLitmusHall$Program;LLitmusHall$State;)Z"⟩
abbrev cX5_loadedCell : ByteArray := prog_7_method_4_code
def yX5_loadedCell : MethodName := ⟨RX5, "loadedCell", "(LLitmusHall$Program;LLitmusHall$State;I)I"⟩
abbrev cX5_writes : ByteArray := prog_7_method_5_code
def yX5_writes : MethodName := ⟨RX5, "writes", "(LLitmusHall$Program;LLitmusHall$State;II)Z"⟩
abbrev cX5_tell : ByteArray := prog_7_method_6_code
def yX5_tell : MethodName := ⟨RX5, "tell", "(I)I"⟩
def RX6 : String := "LitmusHall$Reader"
def TX6 : u_T := fun k => match k with
  | 0 => ("LitmusHall$Reader", "draft", "LLitmusHall$Program;", false)
  | 1 => ("LitmusHall$Reader", "place", "I", false)
  | 2 => ("LitmusHall$Reader", "fault", "I", false)
  | 3 => ("LitmusHall$Reader", "latePlace", "I", false)
  | 4 => ("LitmusHall$Reader", "kinds", "[I", true)
  | 5 => ("LitmusHall$Reader", "starts", "[I", true)
  | 6 => ("LitmusHall$Reader", "numbers", "[I", true)
  | 7 => ("LitmusHall$Reader", "skipTokens", "[I", true)
  | 8 => ("LitmusHall$Reader", "at", "I", false)
  | 9 => ("LitmusHall$Reader", "told", "I", false)
  | 10 => ("LitmusHall$Reader", "valueReg", "I", false)
  | _ => ("LitmusHall$Reader", "value", "I", false)
def tyX6 : Nat → FieldType := fun k => match k with
  | 0 => .object "LitmusHall$Program"
  | 1 => .int
  | 2 => .int
  | 3 => .int
  | 4 => .array .int
  | 5 => .array .int
  | 6 => .array .int
  | 7 => .array .int
  | 8 => .int
  | 9 => .int
  | 10 => .int
  | _ => .int
abbrev wsX60 : List Cond := u_ws RX6 TX6 12
theorem nmX6 : ∀ a, a < 12 → ∀ b, b < 12 → a ≠ b → (TX6 a).2.1 ≠ (TX6 b).2.1 := by decide +kernel
theorem tyX6_ok : ∀ k, k < 12 → parseFieldDescriptor (TX6 k).2.2.1 = some (tyX6 k) := by decide +kernel
abbrev cX6_init : ByteArray := prog_8_method_1_code
def yX6_init : MethodName := ⟨RX6, "<init>", "()V"⟩
abbrev cX6_readText : ByteArray := prog_8_method_2_code
def yX6_readText : MethodName := ⟨RX6, "readText", "([BI)I"⟩
abbrev cX6_scan : ByteArray := prog_8_method_3_code
def yX6_scan : MethodName := ⟨RX6, "scan", "([BI)V"⟩
abbrev cX6_behindBlanks : ByteArray := prog_8_method_4_code
def yX6_behindBlanks : MethodName := ⟨RX6, "behindBlanks", "([BII)I"⟩
abbrev cX6_behindRun : ByteArray := prog_8_method_5_code
def yX6_behindRun : MethodName := ⟨RX6, "behindRun", "([BII)I"⟩
abbrev cX6_isLetter : ByteArray := prog_8_method_6_code
def yX6_isLetter : MethodName := ⟨RX6, "isLetter", "(I)Z"⟩
abbrev cX6_isDigit : ByteArray := prog_8_method_7_code
def yX6_isDigit : MethodName := ⟨RX6, "isDigit", "(I)Z"⟩
abbrev cX6_kindOf : ByteArray := prog_8_method_8_code
def yX6_kindOf : MethodName := ⟨RX6, "kindOf", "([BII)I"⟩
abbrev cX6_wordKind : ByteArray := prog_8_method_9_code
def yX6_wordKind : MethodName := ⟨RX6, "wordKind", "([BII)I"⟩
abbrev cX6_isWord : ByteArray := prog_8_method_10_code
def yX6_isWord : MethodName := ⟨RX6, "isWord", "([BIII)Z"⟩
abbrev cX6_numberOf : ByteArray := prog_8_method_11_code
def yX6_numberOf : MethodName := ⟨RX6, "numberOf", "([BII)I"⟩
abbrev cX6_fail : ByteArray := prog_8_method_12_code
def yX6_fail : MethodName := ⟨RX6, "fail", "(I)Z"⟩
abbrev cX6_take : ByteArray := prog_8_method_13_code
def yX6_take : MethodName := ⟨RX6, "take", "(I)Z"⟩
abbrev cX6_noteLate : ByteArray := prog_8_method_14_code
def yX6_noteLate : MethodName := ⟨RX6, "noteLate", "(I)V"⟩
abbrev cX6_readCells : ByteArray := prog_8_method_15_code
def yX6_readCells : MethodName := ⟨RX6, "readCells", "()Z"⟩
abbrev cX6_readCellLine : ByteArray := prog_8_method_16_code
def yX6_readCellLine : MethodName := ⟨RX6, "readCellLine", "()Z"⟩
abbrev cX6_takeReg : ByteArray := prog_8_method_17_code
def yX6_takeReg : MethodName := ⟨RX6, "takeReg", "()Z"⟩
abbrev cX6_takeCell : ByteArray := prog_8_method_18_code
def yX6_takeCell : MethodName := ⟨RX6, "takeCell", "()Z"⟩
abbrev cX6_takeVal : ByteArray := prog_8_method_19_code
def yX6_takeVal : MethodName := ⟨RX6, "takeVal", "(Z)Z"⟩
abbrev cX6_takeSkip : ByteArray := prog_8_method_20_code
def yX6_takeSkip : MethodName := ⟨RX6, "takeSkip", "()Z"⟩
abbrev cX6_readCores : ByteArray := prog_8_method_21_code
def yX6_readCores : MethodName := ⟨RX6, "readCores", "()Z"⟩
abbrev cX6_readIns : ByteArray := prog_8_method_22_code
def yX6_readIns : MethodName := ⟨RX6, "readIns", "(II)Z"⟩
abbrev cX6_shapeOf : ByteArray := prog_8_method_23_code
def yX6_shapeOf : MethodName := ⟨RX6, "shapeOf", "(I)Ljava/lang/String;"⟩
abbrev cX6_readPart : ByteArray := prog_8_method_24_code
def yX6_readPart : MethodName := ⟨RX6, "readPart", "(IC)Z"⟩
abbrev cX6_checkSkips : ByteArray := prog_8_method_25_code
def yX6_checkSkips : MethodName := ⟨RX6, "checkSkips", "(I)V"⟩
def RX7 : String := "LitmusHall$State"
def TX7 : u_T := fun k => match k with
  | _ => ("LitmusHall$State", "words", "[I", true)
def tyX7 : Nat → FieldType := fun k => match k with
  | _ => .array .int
abbrev wsX70 : List Cond := u_ws RX7 TX7 1
theorem nmX7 : ∀ a, a < 1 → ∀ b, b < 1 → a ≠ b → (TX7 a).2.1 ≠ (TX7 b).2.1 := by decide +kernel
theorem tyX7_ok : ∀ k, k < 1 → parseFieldDescriptor (TX7 k).2.2.1 = some (tyX7 k) := by decide +kernel
abbrev cX7_init : ByteArray := prog_9_method_1_code
def yX7_init : MethodName := ⟨RX7, "<init>", "()V"⟩
abbrev cX7_widthOf : ByteArray := prog_9_method_2_code
def yX7_widthOf : MethodName := ⟨RX7, "widthOf", "(LLitmusHall$Program;I)I"⟩
abbrev cX7_start : ByteArray := prog_9_method_3_code
def yX7_start : MethodName := ⟨RX7, "start", "(LLitmusHall$Program;)V"⟩
abbrev cX7_nextOf : ByteArray := prog_9_method_4_code
def yX7_nextOf : MethodName := ⟨RX7, "nextOf", "(I)I"⟩
abbrev cX7_rowSize : ByteArray := prog_9_method_5_code
def yX7_rowSize : MethodName := ⟨RX7, "rowSize", "(I)I"⟩
abbrev cX7_rowCell : ByteArray := prog_9_method_6_code
def yX7_rowCell : MethodName := ⟨RX7, "rowCell", "(II)I"⟩
abbrev cX7_rowInt : ByteArray := prog_9_method_7_code
def yX7_rowInt : MethodName := ⟨RX7, "rowInt", "(II)I"⟩
abbrev cX7_storedTo : ByteArray := prog_9_method_8_code
def yX7_storedTo : MethodName := ⟨RX7, "storedTo", "(I)I"⟩
abbrev cX7_hasEnded : ByteArray := prog_9_method_9_code
def yX7_hasEnded : MethodName := ⟨RX7, "hasEnded", "(LLitmusHall$Program;)Z"⟩
abbrev cX7_can : ByteArray := prog_9_method_10_code
def yX7_can : MethodName := ⟨RX7, "can", "(LLitmusHall$Program;I)Z"⟩
abbrev cX7_waits : ByteArray := prog_9_method_11_code
def yX7_waits : MethodName := ⟨RX7, "waits", "(I)Z"⟩
abbrev cX7_isLocked : ByteArray := prog_9_method_12_code
def yX7_isLocked : MethodName := ⟨RX7, "isLocked", "(I)Z"⟩
abbrev cX7_move : ByteArray := prog_9_method_13_code
def yX7_move : MethodName := ⟨RX7, "move", "(LLitmusHall$Program;II)V"⟩
abbrev cX7_letGo : ByteArray := prog_9_method_14_code
def yX7_letGo : MethodName := ⟨RX7, "letGo", "(I)V"⟩
abbrev cX7_seen : ByteArray := prog_9_method_15_code
def yX7_seen : MethodName := ⟨RX7, "seen", "(II)I"⟩
abbrev cX7_put : ByteArray := prog_9_method_16_code
def yX7_put : MethodName := ⟨RX7, "put", "(IIII)V"⟩
abbrev cX7_valueOf : ByteArray := prog_9_method_17_code
def yX7_valueOf : MethodName := ⟨RX7, "valueOf", "([III)I"⟩
abbrev cX7_lock : ByteArray := prog_9_method_18_code
def yX7_lock : MethodName := ⟨RX7, "lock", "([III)V"⟩
abbrev cX7_forgetStored : ByteArray := prog_9_method_19_code
def yX7_forgetStored : MethodName := ⟨RX7, "forgetStored", "(I)V"⟩
def RX8 : String := "LitmusHall"
def TX8 : u_T := fun k => match k with
  | 0 => ("LitmusHall", "tape", "[B", true)
  | 1 => ("LitmusHall", "tapeSize", "I", false)
  | 2 => ("LitmusHall", "reader", "LLitmusHall$Reader;", true)
  | 3 => ("LitmusHall", "faultPlace", "I", false)
  | 4 => ("LitmusHall", "loaded", "Z", false)
  | 5 => ("LitmusHall", "program", "LLitmusHall$Program;", false)
  | 6 => ("LitmusHall", "machine", "LLitmusHall$Machine;", true)
  | 7 => ("LitmusHall", "explorer", "LLitmusHall$Explorer;", false)
  | 8 => ("LitmusHall", "withRows", "LLitmusHall$Findings;", true)
  | 9 => ("LitmusHall", "withoutRows", "LLitmusHall$Findings;", true)
  | 10 => ("LitmusHall", "theRace", "LLitmusHall$Race;", true)
  | _ => ("LitmusHall", "theCure", "LLitmusHall$Cure;", true)
def tyX8 : Nat → FieldType := fun k => match k with
  | 0 => .array .byte
  | 1 => .int
  | 2 => .object "LitmusHall$Reader"
  | 3 => .int
  | 4 => .boolean
  | 5 => .object "LitmusHall$Program"
  | 6 => .object "LitmusHall$Machine"
  | 7 => .object "LitmusHall$Explorer"
  | 8 => .object "LitmusHall$Findings"
  | 9 => .object "LitmusHall$Findings"
  | 10 => .object "LitmusHall$Race"
  | _ => .object "LitmusHall$Cure"
abbrev wsX80 : List Cond := u_ws RX8 TX8 12
theorem nmX8 : ∀ a, a < 12 → ∀ b, b < 12 → a ≠ b → (TX8 a).2.1 ≠ (TX8 b).2.1 := by decide +kernel
theorem tyX8_ok : ∀ k, k < 12 → parseFieldDescriptor (TX8 k).2.2.1 = some (tyX8 k) := by decide +kernel
abbrev cX8_init : ByteArray := prog_1_method_1_code
def yX8_init : MethodName := ⟨RX8, "<init>", "()V"⟩
abbrev cX8_feed : ByteArray := prog_1_method_2_code
def yX8_feed : MethodName := ⟨RX8, "feed", "(IIIII)I"⟩
abbrev cX8_feedWord : ByteArray := prog_1_method_3_code
def yX8_feedWord : MethodName := ⟨RX8, "feedWord", "(I)V"⟩
abbrev cX8_back : ByteArray := prog_1_method_4_code
def yX8_back : MethodName := ⟨RX8, "back", "(I)I"⟩
abbrev cX8_read : ByteArray := prog_1_method_5_code
def yX8_read : MethodName := ⟨RX8, "read", "()I"⟩
abbrev cX8_forgetFindings : ByteArray := prog_1_method_6_code
def yX8_forgetFindings : MethodName := ⟨RX8, "forgetFindings", "()V"⟩
abbrev cX8_place : ByteArray := prog_1_method_7_code
def yX8_place : MethodName := ⟨RX8, "place", "()I"⟩
abbrev cX8_ins : ByteArray := prog_1_method_8_code
def yX8_ins : MethodName := ⟨RX8, "ins", "(III)I"⟩
abbrev cX8_hasCore : ByteArray := prog_1_method_9_code
def yX8_hasCore : MethodName := ⟨RX8, "hasCore", "(I)Z"⟩
abbrev cX8_begin : ByteArray := prog_1_method_10_code
def yX8_begin : MethodName := ⟨RX8, "begin", "(I)Z"⟩
abbrev cX8_isMode : ByteArray := prog_1_method_11_code
def yX8_isMode : MethodName := ⟨RX8, "isMode", "(I)Z"⟩
abbrev cX8_step : ByteArray := prog_1_method_12_code
def yX8_step : MethodName := ⟨RX8, "step", "(I)Z"⟩
abbrev cX8_undo : ByteArray := prog_1_method_13_code
def yX8_undo : MethodName := ⟨RX8, "undo", "()Z"⟩
abbrev cX8_register : ByteArray := prog_1_method_14_code
def yX8_register : MethodName := ⟨RX8, "register", "(II)I"⟩
abbrev cX8_memory : ByteArray := prog_1_method_15_code
def yX8_memory : MethodName := ⟨RX8, "memory", "(I)I"⟩
abbrev cX8_next : ByteArray := prog_1_method_16_code
def yX8_next : MethodName := ⟨RX8, "next", "(I)I"⟩
abbrev cX8_store : ByteArray := prog_1_method_17_code
def yX8_store : MethodName := ⟨RX8, "store", "(III)I"⟩
abbrev cX8_outcomes : ByteArray := prog_1_method_18_code
def yX8_outcomes : MethodName := ⟨RX8, "outcomes", "(I)I"⟩
abbrev cX8_outcome : ByteArray := prog_1_method_19_code
def yX8_outcome : MethodName := ⟨RX8, "outcome", "(III)I"⟩
abbrev cX8_schedule : ByteArray := prog_1_method_20_code
def yX8_schedule : MethodName := ⟨RX8, "schedule", "(III)I"⟩
abbrev cX8_more : ByteArray := prog_1_method_21_code
def yX8_more : MethodName := ⟨RX8, "more", "(I)I"⟩
abbrev cX8_race : ByteArray := prog_1_method_22_code
def yX8_race : MethodName := ⟨RX8, "race", "()I"⟩
abbrev cX8_racer : ByteArray := prog_1_method_23_code
def yX8_racer : MethodName := ⟨RX8, "racer", "(I)I"⟩
abbrev cX8_findRace : ByteArray := prog_1_method_24_code
def yX8_findRace : MethodName := ⟨RX8, "findRace", "()V"⟩
abbrev cX8_cure : ByteArray := prog_1_method_25_code
def yX8_cure : MethodName := ⟨RX8, "cure", "(I)I"⟩
abbrev cX8_cured : ByteArray := prog_1_method_26_code
def yX8_cured : MethodName := ⟨RX8, "cured", "(I)I"⟩
abbrev cX8_count : ByteArray := prog_1_method_27_code
def yX8_count : MethodName := ⟨RX8, "count", "(I)I"⟩
abbrev cX8_countOfProgram : ByteArray := prog_1_method_28_code
def yX8_countOfProgram : MethodName := ⟨RX8, "countOfProgram", "(I)I"⟩
abbrev cX8_found : ByteArray := prog_1_method_29_code
def yX8_found : MethodName := ⟨RX8, "found", "(I)LLitmusHall$Findings;"⟩
abbrev cX8_explorerAtHand : ByteArray := prog_1_method_30_code
def yX8_explorerAtHand : MethodName := ⟨RX8, "explorerAtHand", "()LLitmusHall$Explorer;"⟩
def RX9 : String := "LitmusHallModel"
def TX9 : u_T := fun k => match k with
  | 0 => ("LitmusHallModel", "cores", "[I", true)
  | 1 => ("LitmusHallModel", "many", "[I", true)
  | 2 => ("LitmusHallModel", "kind", "[I", true)
  | 3 => ("LitmusHallModel", "cellOf", "[I", true)
  | 4 => ("LitmusHallModel", "regOf", "[I", true)
  | 5 => ("LitmusHallModel", "valReg", "[I", true)
  | 6 => ("LitmusHallModel", "valInt", "[I", true)
  | 7 => ("LitmusHallModel", "val2Reg", "[I", true)
  | 8 => ("LitmusHallModel", "val2Int", "[I", true)
  | 9 => ("LitmusHallModel", "skip", "[I", true)
  | 10 => ("LitmusHallModel", "cellInt", "[I", true)
  | 11 => ("LitmusHallModel", "isProgram", "Z", false)
  | 12 => ("LitmusHallModel", "state", "[I", true)
  | 13 => ("LitmusHallModel", "from", "[I", true)
  | 14 => ("LitmusHallModel", "by", "[I", true)
  | 15 => ("LitmusHallModel", "next", "[I", true)
  | 16 => ("LitmusHallModel", "head", "[I", true)
  | 17 => ("LitmusHallModel", "states", "[I", true)
  | 18 => ("LitmusHallModel", "isFull", "[Z", true)
  | 19 => ("LitmusHallModel", "isDone", "[Z", true)
  | 20 => ("LitmusHallModel", "ends", "[I", true)
  | 21 => ("LitmusHallModel", "endMany", "[I", true)
  | 22 => ("LitmusHallModel", "now", "[I", true)
  | 23 => ("LitmusHallModel", "machine", "[I", true)
  | 24 => ("LitmusHallModel", "history", "[I", true)
  | 25 => ("LitmusHallModel", "done", "I", false)
  | 26 => ("LitmusHallModel", "machineMode", "I", false)
  | 27 => ("LitmusHallModel", "tape", "[B", true)
  | 28 => ("LitmusHallModel", "taped", "I", false)
  | 29 => ("LitmusHallModel", "faultKind", "I", false)
  | 30 => ("LitmusHallModel", "faultPlace", "I", false)
  | 31 => ("LitmusHallModel", "sort", "I", false)
  | 32 => ("LitmusHallModel", "begin", "I", false)
  | 33 => ("LitmusHallModel", "end", "I", false)
  | 34 => ("LitmusHallModel", "word", "J", false)
  | 35 => ("LitmusHallModel", "tokens", "I", false)
  | 36 => ("LitmusHallModel", "stopped", "Z", false)
  | 37 => ("LitmusHallModel", "number", "I", false)
  | 38 => ("LitmusHallModel", "numberPlace", "I", false)
  | 39 => ("LitmusHallModel", "place", "I", false)
  | 40 => ("LitmusHallModel", "skipPlace", "[I", true)
  | 41 => ("LitmusHallModel", "racing", "I", false)
  | 42 => ("LitmusHallModel", "raceR", "I", false)
  | 43 => ("LitmusHallModel", "raceW", "I", false)
  | 44 => ("LitmusHallModel", "raceX", "I", false)
  | 45 => ("LitmusHallModel", "raceStep", "[I", true)
  | 46 => ("LitmusHallModel", "raceSteps", "I", false)
  | 47 => ("LitmusHallModel", "cureMany", "I", false)
  | 48 => ("LitmusHallModel", "cure", "[I", true)
  | 49 => ("LitmusHallModel", "spot", "[I", true)
  | 50 => ("LitmusHallModel", "spots", "I", false)
  | _ => ("LitmusHallModel", "moved", "[I", true)
def tyX9 : Nat → FieldType := fun k => match k with
  | 0 => .array .int
  | 1 => .array .int
  | 2 => .array .int
  | 3 => .array .int
  | 4 => .array .int
  | 5 => .array .int
  | 6 => .array .int
  | 7 => .array .int
  | 8 => .array .int
  | 9 => .array .int
  | 10 => .array .int
  | 11 => .boolean
  | 12 => .array .int
  | 13 => .array .int
  | 14 => .array .int
  | 15 => .array .int
  | 16 => .array .int
  | 17 => .array .int
  | 18 => .array .boolean
  | 19 => .array .boolean
  | 20 => .array .int
  | 21 => .array .int
  | 22 => .array .int
  | 23 => .array .int
  | 24 => .array .int
  | 25 => .int
  | 26 => .int
  | 27 => .array .byte
  | 28 => .int
  | 29 => .int
  | 30 => .int
  | 31 => .int
  | 32 => .int
  | 33 => .int
  | 34 => .long
  | 35 => .int
  | 36 => .boolean
  | 37 => .int
  | 38 => .int
  | 39 => .int
  | 40 => .array .int
  | 41 => .int
  | 42 => .int
  | 43 => .int
  | 44 => .int
  | 45 => .array .int
  | 46 => .int
  | 47 => .int
  | 48 => .array .int
  | 49 => .array .int
  | 50 => .int
  | _ => .array .int
abbrev wsX90 : List Cond := u_ws RX9 TX9 52
theorem nmX9 : ∀ a, a < 52 → ∀ b, b < 52 → a ≠ b → (TX9 a).2.1 ≠ (TX9 b).2.1 := by decide +kernel
theorem tyX9_ok : ∀ k, k < 52 → parseFieldDescriptor (TX9 k).2.2.1 = some (tyX9 k) := by decide +kernel
abbrev cX9_init : ByteArray := prog_11_method_1_code
def yX9_init : MethodName := ⟨RX9, "<init>", "()V"⟩
abbrev cX9_feed : ByteArray := prog_11_method_2_code
def yX9_feed : MethodName := ⟨RX9, "feed", "(IIIII)I"⟩
abbrev cX9_byteRow : ByteArray := prog_11_method_3_code
def yX9_byteRow : MethodName := ⟨RX9, "byteRow", "(I)V"⟩
abbrev cX9_back : ByteArray := prog_11_method_4_code
def yX9_back : MethodName := ⟨RX9, "back", "(I)I"⟩
abbrev cX9_seen : ByteArray := prog_11_method_5_code
def yX9_seen : MethodName := ⟨RX9, "seen", "(I)I"⟩
abbrev cX9_isLetter : ByteArray := prog_11_method_6_code
def yX9_isLetter : MethodName := ⟨RX9, "isLetter", "(I)Z"⟩
abbrev cX9_isDigit : ByteArray := prog_11_method_7_code
def yX9_isDigit : MethodName := ⟨RX9, "isDigit", "(I)Z"⟩
abbrev cX9_token : ByteArray := prog_11_method_8_code
def yX9_token : MethodName := ⟨RX9, "token", "()V"⟩
abbrev cX9_stop : ByteArray := prog_11_method_9_code
def yX9_stop : MethodName := ⟨RX9, "stop", "(II)Z"⟩
abbrev cX9_tell : ByteArray := prog_11_method_10_code
def yX9_tell : MethodName := ⟨RX9, "tell", "(I)V"⟩
abbrev cX9_pass : ByteArray := prog_11_method_11_code
def yX9_pass : MethodName := ⟨RX9, "pass", "()Z"⟩
abbrev cX9_isWord : ByteArray := prog_11_method_12_code
def yX9_isWord : MethodName := ⟨RX9, "isWord", "(J)Z"⟩
abbrev cX9_sign : ByteArray := prog_11_method_13_code
def yX9_sign : MethodName := ⟨RX9, "sign", "(I)Z"⟩
abbrev cX9_words : ByteArray := prog_11_method_14_code
def yX9_words : MethodName := ⟨RX9, "words", "(J)Z"⟩
abbrev cX9_whole : ByteArray := prog_11_method_15_code
def yX9_whole : MethodName := ⟨RX9, "whole", "()Z"⟩
abbrev cX9_integer : ByteArray := prog_11_method_16_code
def yX9_integer : MethodName := ⟨RX9, "integer", "()Z"⟩
abbrev cX9_cell : ByteArray := prog_11_method_17_code
def yX9_cell : MethodName := ⟨RX9, "cell", "()Z"⟩
abbrev cX9_isRegister : ByteArray := prog_11_method_18_code
def yX9_isRegister : MethodName := ⟨RX9, "isRegister", "()Z"⟩
abbrev cX9_register : ByteArray := prog_11_method_19_code
def yX9_register : MethodName := ⟨RX9, "register", "()Z"⟩
abbrev cX9_value : ByteArray := prog_11_method_20_code
def yX9_value : MethodName := ⟨RX9, "value", "(Z)Z"⟩
abbrev cX9_began : ByteArray := prog_11_method_21_code
def yX9_began : MethodName := ⟨RX9, "began", "(J)I"⟩
abbrev cX9_read : ByteArray := prog_11_method_22_code
def yX9_read : MethodName := ⟨RX9, "read", "()I"⟩
abbrev cX9_text : ByteArray := prog_11_method_23_code
def yX9_text : MethodName := ⟨RX9, "text", "()Z"⟩
abbrev cX9_core : ByteArray := prog_11_method_24_code
def yX9_core : MethodName := ⟨RX9, "core", "()Z"⟩
abbrev cX9_instruction : ByteArray := prog_11_method_25_code
def yX9_instruction : MethodName := ⟨RX9, "instruction", "(I)Z"⟩
abbrev cX9_place : ByteArray := prog_11_method_26_code
def yX9_place : MethodName := ⟨RX9, "place", "()I"⟩
abbrev cX9_copyProgram : ByteArray := prog_11_method_27_code
def yX9_copyProgram : MethodName := ⟨RX9, "copyProgram", "(II)V"⟩
abbrev cX9_copyIns : ByteArray := prog_11_method_28_code
def yX9_copyIns : MethodName := ⟨RX9, "copyIns", "(II)V"⟩
abbrev cX9_ins : ByteArray := prog_11_method_29_code
def yX9_ins : MethodName := ⟨RX9, "ins", "(III)I"⟩
abbrev cX9_rowAt : ByteArray := prog_11_method_30_code
def yX9_rowAt : MethodName := ⟨RX9, "rowAt", "(I)I"⟩
abbrev cX9_can : ByteArray := prog_11_method_31_code
def yX9_can : MethodName := ⟨RX9, "can", "(III)Z"⟩
abbrev cX9_taken : ByteArray := prog_11_method_32_code
def yX9_taken : MethodName := ⟨RX9, "taken", "(III)I"⟩
abbrev cX9_loaded : ByteArray := prog_11_method_33_code
def yX9_loaded : MethodName := ⟨RX9, "loaded", "(II)I"⟩
abbrev cX9_goes : ByteArray := prog_11_method_34_code
def yX9_goes : MethodName := ⟨RX9, "goes", "(I)V"⟩
abbrev cX9_put : ByteArray := prog_11_method_35_code
def yX9_put : MethodName := ⟨RX9, "put", "(IIII)V"⟩
abbrev cX9_does : ByteArray := prog_11_method_36_code
def yX9_does : MethodName := ⟨RX9, "does", "(IIIZ)V"⟩
abbrev cX9_locked : ByteArray := prog_11_method_37_code
def yX9_locked : MethodName := ⟨RX9, "locked", "(IIIII)V"⟩
abbrev cX9_isEnd : ByteArray := prog_11_method_38_code
def yX9_isEnd : MethodName := ⟨RX9, "isEnd", "(I[II)Z"⟩
abbrev cX9_sum : ByteArray := prog_11_method_39_code
def yX9_sum : MethodName := ⟨RX9, "sum", "([II)I"⟩
abbrev cX9_isNow : ByteArray := prog_11_method_40_code
def yX9_isNow : MethodName := ⟨RX9, "isNow", "(II)Z"⟩
abbrev cX9_comes : ByteArray := prog_11_method_41_code
def yX9_comes : MethodName := ⟨RX9, "comes", "(III)Z"⟩
abbrev cX9_first : ByteArray := prog_11_method_42_code
def yX9_first : MethodName := ⟨RX9, "first", "()V"⟩
abbrev cX9_at : ByteArray := prog_11_method_43_code
def yX9_at : MethodName := ⟨RX9, "at", "(II)V"⟩
abbrev cX9_explore : ByteArray := prog_11_method_44_code
def yX9_explore : MethodName := ⟨RX9, "explore", "(IIIZ)V"⟩
abbrev cX9_told : ByteArray := prog_11_method_45_code
def yX9_told : MethodName := ⟨RX9, "told", "(III)I"⟩
abbrev cX9_compare : ByteArray := prog_11_method_46_code
def yX9_compare : MethodName := ⟨RX9, "compare", "(IIII)I"⟩
abbrev cX9_sink : ByteArray := prog_11_method_47_code
def yX9_sink : MethodName := ⟨RX9, "sink", "(III)V"⟩
abbrev cX9_sortEnds : ByteArray := prog_11_method_48_code
def yX9_sortEnds : MethodName := ⟨RX9, "sortEnds", "(I)V"⟩
abbrev cX9_explored : ByteArray := prog_11_method_49_code
def yX9_explored : MethodName := ⟨RX9, "explored", "(I)Z"⟩
abbrev cX9_begin : ByteArray := prog_11_method_50_code
def yX9_begin : MethodName := ⟨RX9, "begin", "(I)Z"⟩
abbrev cX9_keepMachine : ByteArray := prog_11_method_51_code
def yX9_keepMachine : MethodName := ⟨RX9, "keepMachine", "()V"⟩
abbrev cX9_takeMachine : ByteArray := prog_11_method_52_code
def yX9_takeMachine : MethodName := ⟨RX9, "takeMachine", "()V"⟩
abbrev cX9_step : ByteArray := prog_11_method_53_code
def yX9_step : MethodName := ⟨RX9, "step", "(I)Z"⟩
abbrev cX9_undo : ByteArray := prog_11_method_54_code
def yX9_undo : MethodName := ⟨RX9, "undo", "()Z"⟩
abbrev cX9_isCore : ByteArray := prog_11_method_55_code
def yX9_isCore : MethodName := ⟨RX9, "isCore", "(I)Z"⟩
abbrev cX9_register_ : ByteArray := prog_11_method_56_code
def yX9_register_ : MethodName := ⟨RX9, "register", "(II)I"⟩
abbrev cX9_memory : ByteArray := prog_11_method_57_code
def yX9_memory : MethodName := ⟨RX9, "memory", "(I)I"⟩
abbrev cX9_next : ByteArray := prog_11_method_58_code
def yX9_next : MethodName := ⟨RX9, "next", "(I)I"⟩
abbrev cX9_store : ByteArray := prog_11_method_59_code
def yX9_store : MethodName := ⟨RX9, "store", "(III)I"⟩
abbrev cX9_outcomes : ByteArray := prog_11_method_60_code
def yX9_outcomes : MethodName := ⟨RX9, "outcomes", "(I)I"⟩
abbrev cX9_isOutcome : ByteArray := prog_11_method_61_code
def yX9_isOutcome : MethodName := ⟨RX9, "isOutcome", "(II)Z"⟩
abbrev cX9_outcome : ByteArray := prog_11_method_62_code
def yX9_outcome : MethodName := ⟨RX9, "outcome", "(III)I"⟩
abbrev cX9_stepOf : ByteArray := prog_11_method_63_code
def yX9_stepOf : MethodName := ⟨RX9, "stepOf", "(III)I"⟩
abbrev cX9_schedule : ByteArray := prog_11_method_64_code
def yX9_schedule : MethodName := ⟨RX9, "schedule", "(III)I"⟩
abbrev cX9_isWithout : ByteArray := prog_11_method_65_code
def yX9_isWithout : MethodName := ⟨RX9, "isWithout", "(I)Z"⟩
abbrev cX9_more : ByteArray := prog_11_method_66_code
def yX9_more : MethodName := ⟨RX9, "more", "(I)I"⟩
abbrev cX9_nextOf : ByteArray := prog_11_method_67_code
def yX9_nextOf : MethodName := ⟨RX9, "nextOf", "(II)I"⟩
abbrev cX9_isRace : ByteArray := prog_11_method_68_code
def yX9_isRace : MethodName := ⟨RX9, "isRace", "(I)Z"⟩
abbrev cX9_race : ByteArray := prog_11_method_69_code
def yX9_race : MethodName := ⟨RX9, "race", "()I"⟩
abbrev cX9_racer : ByteArray := prog_11_method_70_code
def yX9_racer : MethodName := ⟨RX9, "racer", "(I)I"⟩
abbrev cX9_findSpots : ByteArray := prog_11_method_71_code
def yX9_findSpots : MethodName := ⟨RX9, "findSpots", "()V"⟩
abbrev cX9_isPut : ByteArray := prog_11_method_72_code
def yX9_isPut : MethodName := ⟨RX9, "isPut", "(III)Z"⟩
abbrev cX9_fenced : ByteArray := prog_11_method_73_code
def yX9_fenced : MethodName := ⟨RX9, "fenced", "(II)V"⟩
abbrev cX9_leadsTo : ByteArray := prog_11_method_74_code
def yX9_leadsTo : MethodName := ⟨RX9, "leadsTo", "(IIII)V"⟩
abbrev cX9_cures : ByteArray := prog_11_method_75_code
def yX9_cures : MethodName := ⟨RX9, "cures", "(II)I"⟩
abbrev cX9_cure : ByteArray := prog_11_method_76_code
def yX9_cure : MethodName := ⟨RX9, "cure", "(I)I"⟩
abbrev cX9_cured : ByteArray := prog_11_method_77_code
def yX9_cured : MethodName := ⟨RX9, "cured", "(I)I"⟩
abbrev cX9_count : ByteArray := prog_11_method_78_code
def yX9_count : MethodName := ⟨RX9, "count", "(I)I"⟩
def RJx8e188 : String := "java/lang/Cloneable"
def TJx8e188 : u_T := fun k => match k with
  | _ => ("", "", "", false)
def tyJx8e188 : Nat → FieldType := fun k => match k with
  | _ => .int
abbrev wsJx8e1880 : List Cond := u_ws RJx8e188 TJx8e188 0
theorem nmJx8e188 : ∀ a, a < 0 → ∀ b, b < 0 → a ≠ b → (TJx8e188 a).2.1 ≠ (TJx8e188 b).2.1 := by decide +kernel
theorem tyJx8e188_ok : ∀ k, k < 0 → parseFieldDescriptor (TJx8e188 k).2.2.1 = some (tyJx8e188 k) := by decide +kernel
def RJ6 : String := "java/lang/Integer"
def TJ6 : u_T := fun k => match k with
  | _ => ("", "", "", false)
def tyJ6 : Nat → FieldType := fun k => match k with
  | _ => .int
abbrev wsJ60 : List Cond := u_ws RJ6 TJ6 0
theorem nmJ6 : ∀ a, a < 0 → ∀ b, b < 0 → a ≠ b → (TJ6 a).2.1 ≠ (TJ6 b).2.1 := by decide +kernel
theorem tyJ6_ok : ∀ k, k < 0 → parseFieldDescriptor (TJ6 k).2.2.1 = some (tyJ6 k) := by decide +kernel
abbrev cJ6_compare_7cf53 : ByteArray := prog_13_method_40_code
def yJ6_compare_7cf53 : MethodName := ⟨RJ6, "compare", "(II)I"⟩
def RJ9 : String := "java/lang/Math"
def TJ9 : u_T := fun k => match k with
  | _ => ("", "", "", false)
def tyJ9 : Nat → FieldType := fun k => match k with
  | _ => .int
abbrev wsJ90 : List Cond := u_ws RJ9 TJ9 0
theorem nmJ9 : ∀ a, a < 0 → ∀ b, b < 0 → a ≠ b → (TJ9 a).2.1 ≠ (TJ9 b).2.1 := by decide +kernel
theorem tyJ9_ok : ∀ k, k < 0 → parseFieldDescriptor (TJ9 k).2.2.1 = some (tyJ9 k) := by decide +kernel
abbrev cJ9_max_7cf53 : ByteArray := prog_14_method_65_code
def yJ9_max_7cf53 : MethodName := ⟨RJ9, "max", "(II)I"⟩
abbrev cJ9_min_7cf53 : ByteArray := prog_14_method_69_code
def yJ9_min_7cf53 : MethodName := ⟨RJ9, "min", "(II)I"⟩
def RJ0 : String := "java/lang/String"
def TJ0 : u_T := fun k => match k with
  | _ => ("", "", "", false)
def tyJ0 : Nat → FieldType := fun k => match k with
  | _ => .int
abbrev wsJ00 : List Cond := u_ws RJ0 TJ0 0
theorem nmJ0 : ∀ a, a < 0 → ∀ b, b < 0 → a ≠ b → (TJ0 a).2.1 ≠ (TJ0 b).2.1 := by decide +kernel
theorem tyJ0_ok : ∀ k, k < 0 → parseFieldDescriptor (TJ0 k).2.2.1 = some (tyJ0 k) := by decide +kernel
abbrev cJ0_length_8abf5 : ByteArray := prog_15_method_54_code
def yJ0_length_8abf5 : MethodName := ⟨RJ0, "length", "()I"⟩
abbrev cJ0_charAt_5068e : ByteArray := prog_15_method_56_code
def yJ0_charAt_5068e : MethodName := ⟨RJ0, "charAt", "(I)C"⟩
abbrev cJ0_coder_7d493 : ByteArray := prog_15_method_152_code
def yJ0_coder_7d493 : MethodName := ⟨RJ0, "coder", "()B"⟩
abbrev cJ0_isLatin1_aae02 : ByteArray := prog_15_method_154_code
def yJ0_isLatin1_aae02 : MethodName := ⟨RJ0, "isLatin1", "()Z"⟩
abbrev cJ0_checkIndex_df160 : ByteArray := prog_15_method_155_code
def yJ0_checkIndex_df160 : MethodName := ⟨RJ0, "checkIndex", "(II)V"⟩
def RJ1 : String := "java/lang/StringLatin1"
def TJ1 : u_T := fun k => match k with
  | _ => ("", "", "", false)
def tyJ1 : Nat → FieldType := fun k => match k with
  | _ => .int
abbrev wsJ10 : List Cond := u_ws RJ1 TJ1 0
theorem nmJ1 : ∀ a, a < 0 → ∀ b, b < 0 → a ≠ b → (TJ1 a).2.1 ≠ (TJ1 b).2.1 := by decide +kernel
theorem tyJ1_ok : ∀ k, k < 0 → parseFieldDescriptor (TJ1 k).2.2.1 = some (tyJ1 k) := by decide +kernel
abbrev cJ1_charAt_3b067 : ByteArray := prog_16_method_2_code
def yJ1_charAt_3b067 : MethodName := ⟨RJ1, "charAt", "([BI)C"⟩
def RJ2 : String := "java/lang/StringUTF16"
def TJ2 : u_T := fun k => match k with
  | _ => ("", "", "", false)
def tyJ2 : Nat → FieldType := fun k => match k with
  | _ => .int
abbrev wsJ20 : List Cond := u_ws RJ2 TJ2 0
theorem nmJ2 : ∀ a, a < 0 → ∀ b, b < 0 → a ≠ b → (TJ2 a).2.1 ≠ (TJ2 b).2.1 := by decide +kernel
theorem tyJ2_ok : ∀ k, k < 0 → parseFieldDescriptor (TJ2 k).2.2.1 = some (tyJ2 k) := by decide +kernel
abbrev cJ2_getChar_3b067 : ByteArray := prog_17_method_5_code
def yJ2_getChar_3b067 : MethodName := ⟨RJ2, "getChar", "([BI)C"⟩
abbrev cJ2_length_9d52b : ByteArray := prog_17_method_6_code
def yJ2_length_9d52b : MethodName := ⟨RJ2, "length", "([B)I"⟩
abbrev cJ2_charAt_3b067 : ByteArray := prog_17_method_83_code
def yJ2_charAt_3b067 : MethodName := ⟨RJ2, "charAt", "([BI)C"⟩
abbrev cJ2_checkIndex_2214a : ByteArray := prog_17_method_91_code
def yJ2_checkIndex_2214a : MethodName := ⟨RJ2, "checkIndex", "(I[B)V"⟩
def RJ10 : String := "java/lang/System"
def TJ10 : u_T := fun k => match k with
  | _ => ("", "", "", false)
def tyJ10 : Nat → FieldType := fun k => match k with
  | _ => .int
abbrev wsJ100 : List Cond := u_ws RJ10 TJ10 0
theorem nmJ10 : ∀ a, a < 0 → ∀ b, b < 0 → a ≠ b → (TJ10 a).2.1 ≠ (TJ10 b).2.1 := by decide +kernel
theorem tyJ10_ok : ∀ k, k < 0 → parseFieldDescriptor (TJ10 k).2.2.1 = some (tyJ10 k) := by decide +kernel
def RJ7 : String := "java/util/Arrays"
def TJ7 : u_T := fun k => match k with
  | _ => ("", "", "", false)
def tyJ7 : Nat → FieldType := fun k => match k with
  | _ => .int
abbrev wsJ70 : List Cond := u_ws RJ7 TJ7 0
theorem nmJ7 : ∀ a, a < 0 → ∀ b, b < 0 → a ≠ b → (TJ7 a).2.1 ≠ (TJ7 b).2.1 := by decide +kernel
theorem tyJ7_ok : ∀ k, k < 0 → parseFieldDescriptor (TJ7 k).2.2.1 = some (tyJ7 k) := by decide +kernel
abbrev cJ7_rangeCheck_23922 : ByteArray := prog_19_method_30_code
def yJ7_rangeCheck_23922 : MethodName := ⟨RJ7, "rangeCheck", "(III)V"⟩
abbrev cJ7_fill_53178 : ByteArray := prog_19_method_103_code
def yJ7_fill_53178 : MethodName := ⟨RJ7, "fill", "([II)V"⟩
abbrev cJ7_fill_fda19 : ByteArray := prog_19_method_104_code
def yJ7_fill_fda19 : MethodName := ⟨RJ7, "fill", "([IIII)V"⟩
abbrev cJ7_copyOf_59c91 : ByteArray := prog_19_method_123_code
def yJ7_copyOf_59c91 : MethodName := ⟨RJ7, "copyOf", "([II)[I"⟩
def RJ3 : String := "jdk/internal/util/Preconditions"
def TJ3 : u_T := fun k => match k with
  | _ => ("", "", "", false)
def tyJ3 : Nat → FieldType := fun k => match k with
  | _ => .int
abbrev wsJ30 : List Cond := u_ws RJ3 TJ3 0
theorem nmJ3 : ∀ a, a < 0 → ∀ b, b < 0 → a ≠ b → (TJ3 a).2.1 ≠ (TJ3 b).2.1 := by decide +kernel
theorem tyJ3_ok : ∀ k, k < 0 → parseFieldDescriptor (TJ3 k).2.2.1 = some (tyJ3 k) := by decide +kernel
abbrev cJ3_checkIndex_8e157 : ByteArray := prog_20_method_11_code
def yJ3_checkIndex_8e157 : MethodName := ⟨RJ3, "checkIndex", "(IILjava/util/function/BiFunction;)I"⟩
def RL : String := "LitmusHallLaw"
abbrev cL_law : ByteArray := code
def yL_law : MethodName := ⟨RL, "law", "([I)Z"⟩
/-- the objects of LitmusHall$Cure, kind 0: what each holds, by its address -/
/-- the objects of LitmusHall$Explorer, kind 1: what each holds, by its address -/
/-- the objects of LitmusHall$Findings, kind 2: what each holds, by its address -/
/-- the objects of LitmusHall$Machine, kind 3: what each holds, by its address -/
/-- the objects of LitmusHall$Program, kind 4: what each holds, by its address -/
/-- the objects of LitmusHall$Race, kind 5: what each holds, by its address -/
/-- the objects of LitmusHall$Reader, kind 6: what each holds, by its address -/
/-- the objects of LitmusHall$State, kind 7: what each holds, by its address -/
/-- the objects of LitmusHall, kind 8: what each holds, by its address -/
/-- the objects of LitmusHallModel, kind 9: what each holds, by its address -/
/-- the arrays of kind 10: what each holds, by its address -/
/-- the arrays of kind 11: what each holds, by its address -/
/-- the arrays of kind 12: what each holds, by its address -/
/-- the pool: the addresses, the kind of each, and the kinds -/
/-- the empty pool -/
/-- the pool's rows by their kinds -/
/-! ===== END printed: names ===== -/

abbrev vwCl : List vw_C := [(RX0, TX0, 6), (RX1, TX1, 10), (RX2, TX2, 5), (RX3, TX3, 5), (RX4, TX4, 4), (RX5, TX5, 7), (RX6, TX6, 12), (RX7, TX7, 1), (RX8, TX8, 12), (RX9, TX9, 52)]
