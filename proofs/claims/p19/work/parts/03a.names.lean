/-! ===== BEGIN printed: names, fields, word lists, decode rows ===== -/
def RX0 : String := "StampSheets$Machine"
def TX0 : u_T := fun k => match k with
  | 0 => ("StampSheets$Machine", "pins", "[LStampSheets$Pin;", true)
  | 1 => ("StampSheets$Machine", "feed", "I", false)
  | 2 => ("StampSheets$Machine", "drift", "I", false)
  | 3 => ("StampSheets$Machine", "error", "I", false)
  | 4 => ("StampSheets$Machine", "rowsLeft", "I", false)
  | 5 => ("StampSheets$Machine", "rowsRun", "I", false)
  | _ => ("StampSheets$Machine", "step", "I", false)
def tyX0 : Nat → FieldType := fun k => match k with
  | 0 => .array (.object "StampSheets$Pin")
  | 1 => .int
  | 2 => .int
  | 3 => .int
  | 4 => .int
  | 5 => .int
  | _ => .int
abbrev wsX00 : List Cond := u_ws RX0 TX0 7
theorem nmX0 : ∀ a, a < 7 → ∀ b, b < 7 → a ≠ b → (TX0 a).2.1 ≠ (TX0 b).2.1 := by decide +kernel
theorem tyX0_ok : ∀ k, k < 7 → parseFieldDescriptor (TX0 k).2.2.1 = some (tyX0 k) := by decide +kernel
abbrev cX0_init : ByteArray := prog_2_method_1_code
def yX0_init : MethodName := ⟨RX0, "<init>", "()V"⟩
abbrev cX0_becomeLike : ByteArray := prog_2_method_2_code
def yX0_becomeLike : MethodName := ⟨RX0, "becomeLike", "(LStampSheets$Machine;)V"⟩
abbrev cX0_perforate : ByteArray := prog_2_method_3_code
def yX0_perforate : MethodName := ⟨RX0, "perforate", "([ZLStampSheets$Sheet;)V"⟩
abbrev cX0_markRow : ByteArray := prog_2_method_4_code
def yX0_markRow : MethodName := ⟨RX0, "markRow", "(I[ZLStampSheets$Sheet;)V"⟩
abbrev cX0_holeFaults : ByteArray := prog_2_method_5_code
def yX0_holeFaults : MethodName := ⟨RX0, "holeFaults", "(I)I"⟩
abbrev cX0_hasWatermark : ByteArray := prog_2_method_6_code
def yX0_hasWatermark : MethodName := ⟨RX0, "hasWatermark", "(I)Z"⟩
abbrev cX0_strikeAll : ByteArray := prog_2_method_7_code
def yX0_strikeAll : MethodName := ⟨RX0, "strikeAll", "()V"⟩
abbrev cX0_brokenPins : ByteArray := prog_2_method_8_code
def yX0_brokenPins : MethodName := ⟨RX0, "brokenPins", "()I"⟩
def RX1 : String := "StampSheets$Pin"
def TX1 : u_T := fun k => match k with
  | 0 => ("StampSheets$Pin", "strength", "I", false)
  | _ => ("StampSheets$Pin", "wear", "I", false)
def tyX1 : Nat → FieldType := fun k => match k with
  | 0 => .int
  | _ => .int
abbrev wsX10 : List Cond := u_ws RX1 TX1 2
theorem nmX1 : ∀ a, a < 2 → ∀ b, b < 2 → a ≠ b → (TX1 a).2.1 ≠ (TX1 b).2.1 := by decide +kernel
theorem tyX1_ok : ∀ k, k < 2 → parseFieldDescriptor (TX1 k).2.2.1 = some (tyX1 k) := by decide +kernel
abbrev cX1_init : ByteArray := prog_3_method_1_code
def yX1_init : MethodName := ⟨RX1, "<init>", "()V"⟩
abbrev cX1_isWhole : ByteArray := prog_3_method_2_code
def yX1_isWhole : MethodName := ⟨RX1, "isWhole", "()Z"⟩
abbrev cX1_strike : ByteArray := prog_3_method_3_code
def yX1_strike : MethodName := ⟨RX1, "strike", "()V"⟩
abbrev cX1_becomeLike : ByteArray := prog_3_method_4_code
def yX1_becomeLike : MethodName := ⟨RX1, "becomeLike", "(LStampSheets$Pin;)V"⟩
abbrev cX1_answer : ByteArray := prog_3_method_5_code
def yX1_answer : MethodName := ⟨RX1, "answer", "(I)I"⟩
def RX2 : String := "StampSheets$Sheet"
def TX2 : u_T := fun k => match k with
  | 0 => ("StampSheets$Sheet", "faultSets", "[I", true)
  | _ => ("StampSheets$Sheet", "tornOff", "[Z", true)
def tyX2 : Nat → FieldType := fun k => match k with
  | 0 => .array .int
  | _ => .array .boolean
abbrev wsX20 : List Cond := u_ws RX2 TX2 2
theorem nmX2 : ∀ a, a < 2 → ∀ b, b < 2 → a ≠ b → (TX2 a).2.1 ≠ (TX2 b).2.1 := by decide +kernel
theorem tyX2_ok : ∀ k, k < 2 → parseFieldDescriptor (TX2 k).2.2.1 = some (tyX2 k) := by decide +kernel
abbrev cX2_init : ByteArray := prog_4_method_1_code
def yX2_init : MethodName := ⟨RX2, "<init>", "()V"⟩
abbrev cX2_answer : ByteArray := prog_4_method_2_code
def yX2_answer : MethodName := ⟨RX2, "answer", "(I)I"⟩
abbrev cX2_worthOf : ByteArray := prog_4_method_3_code
def yX2_worthOf : MethodName := ⟨RX2, "worthOf", "(I)I"⟩
abbrev cX2_worth : ByteArray := prog_4_method_4_code
def yX2_worth : MethodName := ⟨RX2, "worth", "()I"⟩
abbrev cX2_left : ByteArray := prog_4_method_5_code
def yX2_left : MethodName := ⟨RX2, "left", "()I"⟩
abbrev cX2_isLeftWith : ByteArray := prog_4_method_6_code
def yX2_isLeftWith : MethodName := ⟨RX2, "isLeftWith", "(II)Z"⟩
abbrev cX2_leftWith : ByteArray := prog_4_method_7_code
def yX2_leftWith : MethodName := ⟨RX2, "leftWith", "(I)I"⟩
abbrev cX2_invertedPairs : ByteArray := prog_4_method_8_code
def yX2_invertedPairs : MethodName := ⟨RX2, "invertedPairs", "()I"⟩
abbrev cX2_isInvertedPair : ByteArray := prog_4_method_9_code
def yX2_isInvertedPair : MethodName := ⟨RX2, "isInvertedPair", "(I)Z"⟩
abbrev cX2_rowsOff : ByteArray := prog_4_method_10_code
def yX2_rowsOff : MethodName := ⟨RX2, "rowsOff", "()I"⟩
abbrev cX2_greatestBlock : ByteArray := prog_4_method_11_code
def yX2_greatestBlock : MethodName := ⟨RX2, "greatestBlock", "()I"⟩
abbrev cX2_goodColumns : ByteArray := prog_4_method_12_code
def yX2_goodColumns : MethodName := ⟨RX2, "goodColumns", "(I)I"⟩
abbrev cX2_longestRun : ByteArray := prog_4_method_13_code
def yX2_longestRun : MethodName := ⟨RX2, "longestRun", "(I)I"⟩
def RX3 : String := "StampSheets$Trial"
def TX3 : u_T := fun k => match k with
  | 0 => ("StampSheets$Trial", "machine", "LStampSheets$Machine;", true)
  | 1 => ("StampSheets$Trial", "sheet", "LStampSheets$Sheet;", true)
  | 2 => ("StampSheets$Trial", "faultless", "I", false)
  | _ => ("StampSheets$Trial", "worth", "I", false)
def tyX3 : Nat → FieldType := fun k => match k with
  | 0 => .object "StampSheets$Machine"
  | 1 => .object "StampSheets$Sheet"
  | 2 => .int
  | _ => .int
abbrev wsX30 : List Cond := u_ws RX3 TX3 4
theorem nmX3 : ∀ a, a < 4 → ∀ b, b < 4 → a ≠ b → (TX3 a).2.1 ≠ (TX3 b).2.1 := by decide +kernel
theorem tyX3_ok : ∀ k, k < 4 → parseFieldDescriptor (TX3 k).2.2.1 = some (tyX3 k) := by decide +kernel
abbrev cX3_init : ByteArray := prog_5_method_1_code
def yX3_init : MethodName := ⟨RX3, "<init>", "()V"⟩
abbrev cX3_perforateFrom : ByteArray := prog_5_method_2_code
def yX3_perforateFrom : MethodName := ⟨RX3, "perforateFrom", "(LStampSheets$Machine;I[ZI)V"⟩
abbrev cX3_answer : ByteArray := prog_5_method_3_code
def yX3_answer : MethodName := ⟨RX3, "answer", "(I)I"⟩
def RX4 : String := "StampSheets"
def TX4 : u_T := fun k => match k with
  | 0 => ("StampSheets", "machine", "LStampSheets$Machine;", true)
  | 1 => ("StampSheets", "trial", "LStampSheets$Trial;", true)
  | 2 => ("StampSheets", "plateInverted", "[Z", true)
  | 3 => ("StampSheets", "sheetStore", "[LStampSheets$Sheet;", true)
  | _ => ("StampSheets", "sheetCount", "I", false)
def tyX4 : Nat → FieldType := fun k => match k with
  | 0 => .object "StampSheets$Machine"
  | 1 => .object "StampSheets$Trial"
  | 2 => .array .boolean
  | 3 => .array (.object "StampSheets$Sheet")
  | _ => .int
abbrev wsX40 : List Cond := u_ws RX4 TX4 5
theorem nmX4 : ∀ a, a < 5 → ∀ b, b < 5 → a ≠ b → (TX4 a).2.1 ≠ (TX4 b).2.1 := by decide +kernel
theorem tyX4_ok : ∀ k, k < 5 → parseFieldDescriptor (TX4 k).2.2.1 = some (tyX4 k) := by decide +kernel
abbrev cX4_init : ByteArray := prog_1_method_1_code
def yX4_init : MethodName := ⟨RX4, "<init>", "()V"⟩
abbrev cX4_setFeed : ByteArray := prog_1_method_2_code
def yX4_setFeed : MethodName := ⟨RX4, "setFeed", "(II)I"⟩
abbrev cX4_align : ByteArray := prog_1_method_3_code
def yX4_align : MethodName := ⟨RX4, "align", "()I"⟩
abbrev cX4_roll : ByteArray := prog_1_method_4_code
def yX4_roll : MethodName := ⟨RX4, "roll", "(II)I"⟩
abbrev cX4_fit : ByteArray := prog_1_method_5_code
def yX4_fit : MethodName := ⟨RX4, "fit", "(II)I"⟩
abbrev cX4_turn : ByteArray := prog_1_method_6_code
def yX4_turn : MethodName := ⟨RX4, "turn", "(II)Z"⟩
abbrev cX4_run : ByteArray := prog_1_method_7_code
def yX4_run : MethodName := ⟨RX4, "run", "()I"⟩
abbrev cX4_faults : ByteArray := prog_1_method_8_code
def yX4_faults : MethodName := ⟨RX4, "faults", "(III)I"⟩
abbrev cX4_tear : ByteArray := prog_1_method_9_code
def yX4_tear : MethodName := ⟨RX4, "tear", "(III)I"⟩
abbrev cX4_sheet : ByteArray := prog_1_method_10_code
def yX4_sheet : MethodName := ⟨RX4, "sheet", "(II)I"⟩
abbrev cX4_pin : ByteArray := prog_1_method_11_code
def yX4_pin : MethodName := ⟨RX4, "pin", "(II)I"⟩
abbrev cX4_count : ByteArray := prog_1_method_12_code
def yX4_count : MethodName := ⟨RX4, "count", "(I)I"⟩
abbrev cX4_foresee : ByteArray := prog_1_method_13_code
def yX4_foresee : MethodName := ⟨RX4, "foresee", "(II)I"⟩
abbrev cX4_like : ByteArray := prog_1_method_15_code
def yX4_like : MethodName := ⟨RX4, "like", "(I)I"⟩
abbrev cX4_share : ByteArray := prog_1_method_16_code
def yX4_share : MethodName := ⟨RX4, "share", "()D"⟩
abbrev cX4_isWithin : ByteArray := prog_1_method_18_code
def yX4_isWithin : MethodName := ⟨RX4, "isWithin", "(III)Z"⟩
abbrev cX4_checkPin : ByteArray := prog_1_method_19_code
def yX4_checkPin : MethodName := ⟨RX4, "checkPin", "(I)V"⟩
abbrev cX4_checkPlace : ByteArray := prog_1_method_20_code
def yX4_checkPlace : MethodName := ⟨RX4, "checkPlace", "(II)V"⟩
abbrev cX4_checkSheet : ByteArray := prog_1_method_21_code
def yX4_checkSheet : MethodName := ⟨RX4, "checkSheet", "(I)V"⟩
abbrev cX4_checkWhat : ByteArray := prog_1_method_22_code
def yX4_checkWhat : MethodName := ⟨RX4, "checkWhat", "(II)V"⟩
abbrev cX4_checkSheetsToRun : ByteArray := prog_1_method_23_code
def yX4_checkSheetsToRun : MethodName := ⟨RX4, "checkSheetsToRun", "(I)V"⟩
abbrev cX4_countAnswer : ByteArray := prog_1_method_24_code
def yX4_countAnswer : MethodName := ⟨RX4, "countAnswer", "(I)I"⟩
abbrev cX4_invertedPlaces : ByteArray := prog_1_method_25_code
def yX4_invertedPlaces : MethodName := ⟨RX4, "invertedPlaces", "()I"⟩
abbrev cX4_worthOfSheets : ByteArray := prog_1_method_26_code
def yX4_worthOfSheets : MethodName := ⟨RX4, "worthOfSheets", "()I"⟩
abbrev cX4_stampsWith : ByteArray := prog_1_method_27_code
def yX4_stampsWith : MethodName := ⟨RX4, "stampsWith", "(I)I"⟩
def RX5 : String := "StampSheetsLaw$Sim"
def TX5 : u_T := fun k => match k with
  | 0 => ("StampSheetsLaw$Sim", "feed", "I", false)
  | 1 => ("StampSheetsLaw$Sim", "drift", "I", false)
  | 2 => ("StampSheetsLaw$Sim", "error", "I", false)
  | 3 => ("StampSheetsLaw$Sim", "left", "I", false)
  | 4 => ("StampSheetsLaw$Sim", "step", "I", false)
  | 5 => ("StampSheetsLaw$Sim", "ran", "I", false)
  | 6 => ("StampSheetsLaw$Sim", "strength", "[I", false)
  | 7 => ("StampSheetsLaw$Sim", "wear", "[I", false)
  | 8 => ("StampSheetsLaw$Sim", "broken", "[Z", false)
  | 9 => ("StampSheetsLaw$Sim", "plate", "[[Z", false)
  | 10 => ("StampSheetsLaw$Sim", "sheets", "[[[I", false)
  | _ => ("StampSheetsLaw$Sim", "torn", "[[[Z", false)
def tyX5 : Nat → FieldType := fun k => match k with
  | 0 => .int
  | 1 => .int
  | 2 => .int
  | 3 => .int
  | 4 => .int
  | 5 => .int
  | 6 => .array .int
  | 7 => .array .int
  | 8 => .array .boolean
  | 9 => .array (.array .boolean)
  | 10 => .array (.array (.array .int))
  | _ => .array (.array (.array .boolean))
abbrev wsX50 : List Cond := u_ws RX5 TX5 12
theorem nmX5 : ∀ a, a < 12 → ∀ b, b < 12 → a ≠ b → (TX5 a).2.1 ≠ (TX5 b).2.1 := by decide +kernel
theorem tyX5_ok : ∀ k, k < 12 → parseFieldDescriptor (TX5 k).2.2.1 = some (tyX5 k) := by decide +kernel
abbrev cX5_init : ByteArray := prog_7_method_1_code
def yX5_init : MethodName := ⟨RX5, "<init>", "()V"⟩
abbrev cX5_sheet : ByteArray := prog_7_method_3_code
def yX5_sheet : MethodName := ⟨RX5, "sheet", "()[[I"⟩
abbrev cX5_run : ByteArray := prog_7_method_4_code
def yX5_run : MethodName := ⟨RX5, "run", "()I"⟩
abbrev cX5_worth : ByteArray := prog_7_method_5_code
def yX5_worth : MethodName := ⟨RX5, "worth", "(IZ)I"⟩
abbrev cX5_told : ByteArray := prog_7_method_6_code
def yX5_told : MethodName := ⟨RX5, "told", "(II)I"⟩
abbrev cX5_broken : ByteArray := prog_7_method_7_code
def yX5_broken : MethodName := ⟨RX5, "broken", "()I"⟩
abbrev cX5_isSame : ByteArray := prog_7_method_8_code
def yX5_isSame : MethodName := ⟨RX5, "isSame", "(LStampSheets;)Z"⟩
def RX6 : String := "StampSheetsModel"
def TX6 : u_T := fun k => match k with
  | _ => ("", "", "", false)
def tyX6 : Nat → FieldType := fun k => match k with
  | _ => .int
abbrev wsX60 : List Cond := u_ws RX6 TX6 0
theorem nmX6 : ∀ a, a < 0 → ∀ b, b < 0 → a ≠ b → (TX6 a).2.1 ≠ (TX6 b).2.1 := by decide +kernel
theorem tyX6_ok : ∀ k, k < 0 → parseFieldDescriptor (TX6 k).2.2.1 = some (tyX6 k) := by decide +kernel
def RJx8e188 : String := "java/lang/Cloneable"
def TJx8e188 : u_T := fun k => match k with
  | _ => ("", "", "", false)
def tyJx8e188 : Nat → FieldType := fun k => match k with
  | _ => .int
abbrev wsJx8e1880 : List Cond := u_ws RJx8e188 TJx8e188 0
theorem nmJx8e188 : ∀ a, a < 0 → ∀ b, b < 0 → a ≠ b → (TJx8e188 a).2.1 ≠ (TJx8e188 b).2.1 := by decide +kernel
theorem tyJx8e188_ok : ∀ k, k < 0 → parseFieldDescriptor (TJx8e188 k).2.2.1 = some (tyJx8e188 k) := by decide +kernel
def RJ9 : String := "java/lang/Math"
def TJ9 : u_T := fun k => match k with
  | _ => ("", "", "", false)
def tyJ9 : Nat → FieldType := fun k => match k with
  | _ => .int
abbrev wsJ90 : List Cond := u_ws RJ9 TJ9 0
theorem nmJ9 : ∀ a, a < 0 → ∀ b, b < 0 → a ≠ b → (TJ9 a).2.1 ≠ (TJ9 b).2.1 := by decide +kernel
theorem tyJ9_ok : ∀ k, k < 0 → parseFieldDescriptor (TJ9 k).2.2.1 = some (tyJ9 k) := by decide +kernel
abbrev cJ9_max_7cf53 : ByteArray := prog_14_method_65_code
def yJ9_max_7cf53 : MethodName := ⟨RJ9, "max", "(II)I"⟩
abbrev cJ9_min_7cf53 : ByteArray := prog_14_method_69_code
def yJ9_min_7cf53 : MethodName := ⟨RJ9, "min", "(II)I"⟩
def RJ0 : String := "java/lang/String"
def TJ0 : u_T := fun k => match k with
  | _ => ("", "", "", false)
def tyJ0 : Nat → FieldType := fun k => match k with
  | _ => .int
abbrev wsJ00 : List Cond := u_ws RJ0 TJ0 0
theorem nmJ0 : ∀ a, a < 0 → ∀ b, b < 0 → a ≠ b → (TJ0 a).2.1 ≠ (TJ0 b).2.1 := by decide +kernel
theorem tyJ0_ok : ∀ k, k < 0 → parseFieldDescriptor (TJ0 k).2.2.1 = some (tyJ0 k) := by decide +kernel
def RL : String := "StampSheetsLaw"
abbrev cL_below : ByteArray := method_2_code
def yL_below : MethodName := ⟨RL, "below", "(II)I"⟩
abbrev cL_cell : ByteArray := method_3_code
def yL_cell : MethodName := ⟨RL, "cell", "([II)I"⟩
abbrev cL_act : ByteArray := method_4_code
def yL_act : MethodName := ⟨RL, "act", "(LStampSheets;LStampSheetsLaw$Sim;I)Z"⟩
abbrev cL_build : ByteArray := method_5_code
def yL_build : MethodName := ⟨RL, "build", "(LStampSheets;[I)LStampSheetsLaw$Sim;"⟩
abbrev cL_law : ByteArray := code
def yL_law : MethodName := ⟨RL, "law", "([I)Z"⟩
def wsX1_init : List Cond := .code yX1_init cX1_init 1 none :: ([.methodLink RX1 3 objectInit, .instanceMethod objectInit, .code objectInit ⟨#[0xb1]⟩ 1 none, .fieldLink RX1 9 "StampSheets$Pin" "strength" "I"] ++ wsX10)
def wsX0_init : List Cond := .code yX0_init cX0_init 2 none :: ([.methodLink RX0 3 objectInit, .instanceMethod objectInit, .code objectInit ⟨#[0xb1]⟩ 1 none, .fieldLink RX0 9 "StampSheets$Machine" "feed" "I", .fieldLink RX0 15 "StampSheets$Machine" "step" "I", .classLink RX0 18 RX1, .fieldLink RX0 20 "StampSheets$Machine" "pins" "[LStampSheets$Pin;", .instantiable RX1 2, .initialized RX1, .instanceMethod yX1_init, .code yX1_init cX1_init 1 none, .methodLink RX1 3 objectInit, .fieldLink RX1 9 "StampSheets$Pin" "strength" "I"] ++ wsX00 ++ wsX10)
def wsX1_becomeLike : List Cond := .code yX1_becomeLike cX1_becomeLike 2 none :: ([.fieldLink RX1 9 "StampSheets$Pin" "strength" "I", .fieldLink RX1 15 "StampSheets$Pin" "wear" "I"] ++ wsX10)
def wsX0_becomeLike : List Cond := .code yX0_becomeLike cX0_becomeLike 3 none :: ([.fieldLink RX0 20 "StampSheets$Machine" "pins" "[LStampSheets$Pin;", .fieldLink RX0 9 "StampSheets$Machine" "feed" "I", .fieldLink RX0 29 "StampSheets$Machine" "drift" "I", .fieldLink RX0 32 "StampSheets$Machine" "error" "I", .fieldLink RX0 35 "StampSheets$Machine" "rowsLeft" "I", .fieldLink RX0 38 "StampSheets$Machine" "rowsRun" "I", .fieldLink RX0 15 "StampSheets$Machine" "step" "I", .methodLink RX0 25 yX1_becomeLike, .instanceMethod yX1_becomeLike, .selects RX1 yX1_becomeLike yX1_becomeLike, .initialized RX1, .code yX1_becomeLike cX1_becomeLike 2 none, .fieldLink RX1 9 "StampSheets$Pin" "strength" "I", .fieldLink RX1 15 "StampSheets$Pin" "wear" "I"] ++ wsX00 ++ wsX10)
def wsX4_isWithin : List Cond := .code yX4_isWithin cX4_isWithin 3 (some .boolean) :: ([])
def wsX1_isWhole : List Cond := .code yX1_isWhole cX1_isWhole 1 (some .boolean) :: ([.fieldLink RX1 15 "StampSheets$Pin" "wear" "I", .fieldLink RX1 9 "StampSheets$Pin" "strength" "I"] ++ wsX10)
def wsX0_holeFaults : List Cond := .code yX0_holeFaults cX0_holeFaults 3 (some .int) :: ([.fieldLink RX0 20 "StampSheets$Machine" "pins" "[LStampSheets$Pin;", .methodLink RX0 75 yX1_isWhole, .instanceMethod yX1_isWhole, .selects RX1 yX1_isWhole yX1_isWhole, .initialized RX1, .code yX1_isWhole cX1_isWhole 1 (some .boolean), .fieldLink RX1 15 "StampSheets$Pin" "wear" "I", .fieldLink RX1 9 "StampSheets$Pin" "strength" "I"] ++ wsX00 ++ wsX10)
def wsX0_hasWatermark : List Cond := .code yX0_hasWatermark cX0_hasWatermark 2 (some .boolean) :: ([.fieldLink RX0 15 "StampSheets$Machine" "step" "I", .fieldLink RX0 38 "StampSheets$Machine" "rowsRun" "I"] ++ wsX00)
def wsX0_markRow : List Cond := .code yX0_markRow cX0_markRow 8 none :: ([.fieldLink RX0 32 "StampSheets$Machine" "error" "I", .static yX4_isWithin, .initialized RX4, .code yX4_isWithin cX4_isWithin 3 (some .boolean), .methodLink RX0 61 yX0_holeFaults, .instanceMethod yX0_holeFaults, .selects RX0 yX0_holeFaults yX0_holeFaults, .initialized RX0, .code yX0_holeFaults cX0_holeFaults 3 (some .int), .fieldLink RX0 20 "StampSheets$Machine" "pins" "[LStampSheets$Pin;", .methodLink RX0 75 yX1_isWhole, .instanceMethod yX1_isWhole, .selects RX1 yX1_isWhole yX1_isWhole, .initialized RX1, .code yX1_isWhole cX1_isWhole 1 (some .boolean), .fieldLink RX1 15 "StampSheets$Pin" "wear" "I", .fieldLink RX1 9 "StampSheets$Pin" "strength" "I", .methodLink RX0 65 yX0_hasWatermark, .instanceMethod yX0_hasWatermark, .selects RX0 yX0_hasWatermark yX0_hasWatermark, .code yX0_hasWatermark cX0_hasWatermark 2 (some .boolean), .fieldLink RX0 15 "StampSheets$Machine" "step" "I", .fieldLink RX0 38 "StampSheets$Machine" "rowsRun" "I"] ++ wsX00 ++ wsX20 ++ wsX10)
def wsX1_strike : List Cond := .code yX1_strike cX1_strike 1 none :: ([.fieldLink RX1 15 "StampSheets$Pin" "wear" "I", .methodLink RX1 18 yX1_isWhole, .instanceMethod yX1_isWhole, .selects RX1 yX1_isWhole yX1_isWhole, .initialized RX1, .code yX1_isWhole cX1_isWhole 1 (some .boolean), .fieldLink RX1 9 "StampSheets$Pin" "strength" "I"] ++ wsX10)
def wsX0_strikeAll : List Cond := .code yX0_strikeAll cX0_strikeAll 2 none :: ([.fieldLink RX0 20 "StampSheets$Machine" "pins" "[LStampSheets$Pin;", .methodLink RX0 79 yX1_strike, .instanceMethod yX1_strike, .selects RX1 yX1_strike yX1_strike, .initialized RX1, .code yX1_strike cX1_strike 1 none, .fieldLink RX1 15 "StampSheets$Pin" "wear" "I", .methodLink RX1 18 yX1_isWhole, .instanceMethod yX1_isWhole, .selects RX1 yX1_isWhole yX1_isWhole, .code yX1_isWhole cX1_isWhole 1 (some .boolean), .fieldLink RX1 9 "StampSheets$Pin" "strength" "I"] ++ wsX00 ++ wsX10)
def wsX0_perforate_r1 : List Cond := [Cond.fieldLink RX0 32 "StampSheets$Machine" "error" "I", Cond.fieldLink RX0 9 "StampSheets$Machine" "feed" "I", Cond.fieldLink RX0 35 "StampSheets$Machine" "rowsLeft" "I", Cond.fieldLink RX0 38 "StampSheets$Machine" "rowsRun" "I", Cond.fieldLink RX0 29 "StampSheets$Machine" "drift" "I", Cond.methodLink RX0 48 Lib.Math.min.name, Cond.static Lib.Math.min.name, Cond.initialized "java/lang/Math", Cond.code Lib.Math.min.name Lib.Math.min.code 2 (some .int), Cond.methodLink RX0 54 Lib.Math.max.name, Cond.static Lib.Math.max.name, Cond.code Lib.Math.max.name Lib.Math.max.code 2 (some .int), Cond.methodLink RX0 41 yX0_markRow, Cond.instanceMethod yX0_markRow, Cond.selects RX0 yX0_markRow yX0_markRow, Cond.initialized RX0, Cond.code yX0_markRow cX0_markRow 8 none, Cond.static yX4_isWithin, Cond.initialized RX4, Cond.code yX4_isWithin cX4_isWithin 3 (some .boolean), Cond.methodLink RX0 61 yX0_holeFaults, Cond.instanceMethod yX0_holeFaults, Cond.selects RX0 yX0_holeFaults yX0_holeFaults, Cond.code yX0_holeFaults cX0_holeFaults 3 (some .int)]
def wsX0_perforate_r2 : List Cond := [Cond.fieldLink RX0 20 "StampSheets$Machine" "pins" "[LStampSheets$Pin;", Cond.methodLink RX0 75 yX1_isWhole, Cond.instanceMethod yX1_isWhole, Cond.selects RX1 yX1_isWhole yX1_isWhole, Cond.initialized RX1, Cond.code yX1_isWhole cX1_isWhole 1 (some .boolean), Cond.fieldLink RX1 15 "StampSheets$Pin" "wear" "I", Cond.fieldLink RX1 9 "StampSheets$Pin" "strength" "I", Cond.methodLink RX0 65 yX0_hasWatermark, Cond.instanceMethod yX0_hasWatermark, Cond.selects RX0 yX0_hasWatermark yX0_hasWatermark, Cond.code yX0_hasWatermark cX0_hasWatermark 2 (some .boolean), Cond.fieldLink RX0 15 "StampSheets$Machine" "step" "I", Cond.methodLink RX0 45 yX0_strikeAll, Cond.instanceMethod yX0_strikeAll, Cond.selects RX0 yX0_strikeAll yX0_strikeAll, Cond.code yX0_strikeAll cX0_strikeAll 2 none, Cond.methodLink RX0 79 yX1_strike, Cond.instanceMethod yX1_strike, Cond.selects RX1 yX1_strike yX1_strike, Cond.code yX1_strike cX1_strike 1 none, Cond.methodLink RX1 18 yX1_isWhole]
def wsX0_perforate : List Cond := .code yX0_perforate cX0_perforate 4 none :: ((wsX0_perforate_r1 ++ wsX0_perforate_r2) ++ wsX00 ++ wsX20 ++ wsX10)
def wsX0_brokenPins : List Cond := .code yX0_brokenPins cX0_brokenPins 3 (some .int) :: ([.fieldLink RX0 20 "StampSheets$Machine" "pins" "[LStampSheets$Pin;", .methodLink RX0 75 yX1_isWhole, .instanceMethod yX1_isWhole, .selects RX1 yX1_isWhole yX1_isWhole, .initialized RX1, .code yX1_isWhole cX1_isWhole 1 (some .boolean), .fieldLink RX1 15 "StampSheets$Pin" "wear" "I", .fieldLink RX1 9 "StampSheets$Pin" "strength" "I"] ++ wsX00 ++ wsX10)
def wsX1_answer : List Cond := .code yX1_answer cX1_answer 2 (some .int) :: ([.fieldLink RX1 9 "StampSheets$Pin" "strength" "I", .fieldLink RX1 15 "StampSheets$Pin" "wear" "I", .methodLink RX1 18 yX1_isWhole, .instanceMethod yX1_isWhole, .selects RX1 yX1_isWhole yX1_isWhole, .initialized RX1, .code yX1_isWhole cX1_isWhole 1 (some .boolean)] ++ wsX10)
def wsX2_init : List Cond := .code yX2_init cX2_init 1 none :: ([.methodLink RX2 3 objectInit, .instanceMethod objectInit, .code objectInit ⟨#[0xb1]⟩ 1 none, .arrayClass .int, .fieldLink RX2 9 "StampSheets$Sheet" "faultSets" "[I", .arrayClass .boolean, .fieldLink RX2 15 "StampSheets$Sheet" "tornOff" "[Z"] ++ wsX20)
def wsX2_left : List Cond := .code yX2_left cX2_left 3 (some .int) :: ([.fieldLink RX2 15 "StampSheets$Sheet" "tornOff" "[Z"] ++ wsX20)
def wsX2_isLeftWith : List Cond := .code yX2_isLeftWith cX2_isLeftWith 3 (some .boolean) :: ([.fieldLink RX2 15 "StampSheets$Sheet" "tornOff" "[Z", .fieldLink RX2 9 "StampSheets$Sheet" "faultSets" "[I"] ++ wsX20)
def wsX2_leftWith : List Cond := .code yX2_leftWith cX2_leftWith 4 (some .int) :: ([.methodLink RX2 42 yX2_isLeftWith, .instanceMethod yX2_isLeftWith, .selects RX2 yX2_isLeftWith yX2_isLeftWith, .initialized RX2, .code yX2_isLeftWith cX2_isLeftWith 3 (some .boolean), .fieldLink RX2 15 "StampSheets$Sheet" "tornOff" "[Z", .fieldLink RX2 9 "StampSheets$Sheet" "faultSets" "[I"] ++ wsX20)
def wsX2_worthOf : List Cond := .code yX2_worthOf cX2_worthOf 4 (some .int) :: ([.fieldLink RX2 9 "StampSheets$Sheet" "faultSets" "[I", .fieldLink RX2 15 "StampSheets$Sheet" "tornOff" "[Z"] ++ wsX20)
def wsX2_worth : List Cond := .code yX2_worth cX2_worth 3 (some .int) :: ([.methodLink RX2 39 yX2_worthOf, .instanceMethod yX2_worthOf, .selects RX2 yX2_worthOf yX2_worthOf, .initialized RX2, .code yX2_worthOf cX2_worthOf 4 (some .int), .fieldLink RX2 9 "StampSheets$Sheet" "faultSets" "[I", .fieldLink RX2 15 "StampSheets$Sheet" "tornOff" "[Z"] ++ wsX20)
def wsX2_isInvertedPair : List Cond := .code yX2_isInvertedPair cX2_isInvertedPair 3 (some .boolean) :: ([.fieldLink RX2 15 "StampSheets$Sheet" "tornOff" "[Z", .fieldLink RX2 9 "StampSheets$Sheet" "faultSets" "[I"] ++ wsX20)
def wsX2_invertedPairs : List Cond := .code yX2_invertedPairs cX2_invertedPairs 4 (some .int) :: ([.methodLink RX2 46 yX2_isInvertedPair, .instanceMethod yX2_isInvertedPair, .selects RX2 yX2_isInvertedPair yX2_isInvertedPair, .initialized RX2, .code yX2_isInvertedPair cX2_isInvertedPair 3 (some .boolean), .fieldLink RX2 15 "StampSheets$Sheet" "tornOff" "[Z", .fieldLink RX2 9 "StampSheets$Sheet" "faultSets" "[I"] ++ wsX20)
def wsX2_rowsOff : List Cond := .code yX2_rowsOff cX2_rowsOff 3 (some .int) :: ([.fieldLink RX2 9 "StampSheets$Sheet" "faultSets" "[I"] ++ wsX20)
def wsX2_goodColumns : List Cond := .code yX2_goodColumns cX2_goodColumns 4 (some .int) :: ([.methodLink RX2 42 yX2_isLeftWith, .instanceMethod yX2_isLeftWith, .selects RX2 yX2_isLeftWith yX2_isLeftWith, .initialized RX2, .code yX2_isLeftWith cX2_isLeftWith 3 (some .boolean), .fieldLink RX2 15 "StampSheets$Sheet" "tornOff" "[Z", .fieldLink RX2 9 "StampSheets$Sheet" "faultSets" "[I"] ++ wsX20)
def wsX2_longestRun : List Cond := .code yX2_longestRun cX2_longestRun 4 (some .int) :: ([.methodLink RX2 56 Lib.Math.max.name, .static Lib.Math.max.name, .initialized "java/lang/Math", .code Lib.Math.max.name Lib.Math.max.code 2 (some .int)])
def wsX2_greatestBlock : List Cond := .code yX2_greatestBlock cX2_greatestBlock 5 (some .int) :: ([.methodLink RX2 56 Lib.Math.max.name, .static Lib.Math.max.name, .initialized "java/lang/Math", .code Lib.Math.max.name Lib.Math.max.code 2 (some .int), .methodLink RX2 50 yX2_goodColumns, .instanceMethod yX2_goodColumns, .selects RX2 yX2_goodColumns yX2_goodColumns, .initialized RX2, .code yX2_goodColumns cX2_goodColumns 4 (some .int), .methodLink RX2 42 yX2_isLeftWith, .instanceMethod yX2_isLeftWith, .selects RX2 yX2_isLeftWith yX2_isLeftWith, .code yX2_isLeftWith cX2_isLeftWith 3 (some .boolean), .fieldLink RX2 15 "StampSheets$Sheet" "tornOff" "[Z", .fieldLink RX2 9 "StampSheets$Sheet" "faultSets" "[I", .methodLink RX2 53 yX2_longestRun, .static yX2_longestRun, .code yX2_longestRun cX2_longestRun 4 (some .int)] ++ wsX20)
def wsX2_answer_r1 : List Cond := [Cond.methodLink RX2 19 yX2_left, Cond.instanceMethod yX2_left, Cond.selects RX2 yX2_left yX2_left, Cond.initialized RX2, Cond.code yX2_left cX2_left 3 (some .int), Cond.fieldLink RX2 15 "StampSheets$Sheet" "tornOff" "[Z", Cond.methodLink RX2 23 yX2_leftWith, Cond.instanceMethod yX2_leftWith, Cond.selects RX2 yX2_leftWith yX2_leftWith, Cond.code yX2_leftWith cX2_leftWith 4 (some .int), Cond.methodLink RX2 42 yX2_isLeftWith, Cond.instanceMethod yX2_isLeftWith, Cond.selects RX2 yX2_isLeftWith yX2_isLeftWith, Cond.code yX2_isLeftWith cX2_isLeftWith 3 (some .boolean), Cond.fieldLink RX2 9 "StampSheets$Sheet" "faultSets" "[I", Cond.methodLink RX2 27 yX2_worth, Cond.instanceMethod yX2_worth, Cond.selects RX2 yX2_worth yX2_worth, Cond.code yX2_worth cX2_worth 3 (some .int), Cond.methodLink RX2 39 yX2_worthOf, Cond.instanceMethod yX2_worthOf, Cond.selects RX2 yX2_worthOf yX2_worthOf, Cond.code yX2_worthOf cX2_worthOf 4 (some .int), Cond.methodLink RX2 30 yX2_invertedPairs]
def wsX2_answer_r2 : List Cond := [Cond.instanceMethod yX2_invertedPairs, Cond.selects RX2 yX2_invertedPairs yX2_invertedPairs, Cond.code yX2_invertedPairs cX2_invertedPairs 4 (some .int), Cond.methodLink RX2 46 yX2_isInvertedPair, Cond.instanceMethod yX2_isInvertedPair, Cond.selects RX2 yX2_isInvertedPair yX2_isInvertedPair, Cond.code yX2_isInvertedPair cX2_isInvertedPair 3 (some .boolean), Cond.methodLink RX2 33 yX2_rowsOff, Cond.instanceMethod yX2_rowsOff, Cond.selects RX2 yX2_rowsOff yX2_rowsOff, Cond.code yX2_rowsOff cX2_rowsOff 3 (some .int), Cond.methodLink RX2 36 yX2_greatestBlock, Cond.instanceMethod yX2_greatestBlock, Cond.selects RX2 yX2_greatestBlock yX2_greatestBlock, Cond.code yX2_greatestBlock cX2_greatestBlock 5 (some .int), Cond.methodLink RX2 56 Lib.Math.max.name, Cond.static Lib.Math.max.name, Cond.initialized "java/lang/Math", Cond.code Lib.Math.max.name Lib.Math.max.code 2 (some .int), Cond.methodLink RX2 50 yX2_goodColumns, Cond.instanceMethod yX2_goodColumns, Cond.selects RX2 yX2_goodColumns yX2_goodColumns, Cond.code yX2_goodColumns cX2_goodColumns 4 (some .int), Cond.methodLink RX2 53 yX2_longestRun]
def wsX2_answer_r3 : List Cond := [Cond.static yX2_longestRun, Cond.code yX2_longestRun cX2_longestRun 4 (some .int)]
def wsX2_answer : List Cond := .code yX2_answer cX2_answer 2 (some .int) :: ((wsX2_answer_r1 ++ (wsX2_answer_r2 ++ wsX2_answer_r3)) ++ wsX20)
def wsX3_init_r1 : List Cond := [Cond.methodLink RX3 1 objectInit, Cond.instanceMethod objectInit, Cond.code objectInit ⟨#[0xb1]⟩ 1 none, Cond.classLink RX3 7 RX0, Cond.instantiable RX0 7, Cond.initialized RX0, Cond.fieldLink RX3 10 "StampSheets$Trial" "machine" "LStampSheets$Machine;", Cond.classLink RX3 16 RX2, Cond.instantiable RX2 2, Cond.initialized RX2, Cond.fieldLink RX3 19 "StampSheets$Trial" "sheet" "LStampSheets$Sheet;", Cond.methodLink RX3 9 yX0_init, Cond.instanceMethod yX0_init, Cond.code yX0_init cX0_init 2 none, Cond.methodLink RX0 3 objectInit, Cond.fieldLink RX0 9 "StampSheets$Machine" "feed" "I", Cond.fieldLink RX0 15 "StampSheets$Machine" "step" "I", Cond.classLink RX0 18 RX1, Cond.fieldLink RX0 20 "StampSheets$Machine" "pins" "[LStampSheets$Pin;", Cond.instantiable RX1 2, Cond.initialized RX1, Cond.instanceMethod yX1_init, Cond.code yX1_init cX1_init 1 none, Cond.methodLink RX1 3 objectInit]
def wsX3_init_r2 : List Cond := [Cond.fieldLink RX1 9 "StampSheets$Pin" "strength" "I", Cond.methodLink RX3 18 yX2_init, Cond.instanceMethod yX2_init, Cond.code yX2_init cX2_init 1 none, Cond.methodLink RX2 3 objectInit, Cond.arrayClass .int, Cond.fieldLink RX2 9 "StampSheets$Sheet" "faultSets" "[I", Cond.arrayClass .boolean, Cond.fieldLink RX2 15 "StampSheets$Sheet" "tornOff" "[Z"]
def wsX3_init : List Cond := .code yX3_init cX3_init 1 none :: ((wsX3_init_r1 ++ wsX3_init_r2) ++ wsX00 ++ wsX30 ++ wsX20 ++ wsX10)
def wsX3_perforateFrom_r1 : List Cond := [Cond.fieldLink RX3 10 "StampSheets$Trial" "machine" "LStampSheets$Machine;", Cond.fieldLink RX3 31 "StampSheets$Trial" "faultless" "I", Cond.fieldLink RX3 34 "StampSheets$Trial" "worth" "I", Cond.fieldLink RX3 19 "StampSheets$Trial" "sheet" "LStampSheets$Sheet;", Cond.methodLink RX3 23 yX0_becomeLike, Cond.instanceMethod yX0_becomeLike, Cond.selects RX0 yX0_becomeLike yX0_becomeLike, Cond.initialized RX0, Cond.code yX0_becomeLike cX0_becomeLike 3 none, Cond.fieldLink RX0 20 "StampSheets$Machine" "pins" "[LStampSheets$Pin;", Cond.fieldLink RX0 9 "StampSheets$Machine" "feed" "I", Cond.fieldLink RX0 29 "StampSheets$Machine" "drift" "I", Cond.fieldLink RX0 32 "StampSheets$Machine" "error" "I", Cond.fieldLink RX0 35 "StampSheets$Machine" "rowsLeft" "I", Cond.fieldLink RX0 38 "StampSheets$Machine" "rowsRun" "I", Cond.fieldLink RX0 15 "StampSheets$Machine" "step" "I", Cond.methodLink RX0 25 yX1_becomeLike, Cond.instanceMethod yX1_becomeLike, Cond.selects RX1 yX1_becomeLike yX1_becomeLike, Cond.initialized RX1, Cond.code yX1_becomeLike cX1_becomeLike 2 none, Cond.fieldLink RX1 9 "StampSheets$Pin" "strength" "I", Cond.fieldLink RX1 15 "StampSheets$Pin" "wear" "I", Cond.methodLink RX3 37 yX0_perforate]
def wsX3_perforateFrom_r2 : List Cond := [Cond.instanceMethod yX0_perforate, Cond.selects RX0 yX0_perforate yX0_perforate, Cond.code yX0_perforate cX0_perforate 4 none, Cond.methodLink RX0 48 Lib.Math.min.name, Cond.static Lib.Math.min.name, Cond.initialized "java/lang/Math", Cond.code Lib.Math.min.name Lib.Math.min.code 2 (some .int), Cond.methodLink RX0 54 Lib.Math.max.name, Cond.static Lib.Math.max.name, Cond.code Lib.Math.max.name Lib.Math.max.code 2 (some .int), Cond.methodLink RX0 41 yX0_markRow, Cond.instanceMethod yX0_markRow, Cond.selects RX0 yX0_markRow yX0_markRow, Cond.code yX0_markRow cX0_markRow 8 none, Cond.static yX4_isWithin, Cond.initialized RX4, Cond.code yX4_isWithin cX4_isWithin 3 (some .boolean), Cond.methodLink RX0 61 yX0_holeFaults, Cond.instanceMethod yX0_holeFaults, Cond.selects RX0 yX0_holeFaults yX0_holeFaults, Cond.code yX0_holeFaults cX0_holeFaults 3 (some .int), Cond.methodLink RX0 75 yX1_isWhole, Cond.instanceMethod yX1_isWhole, Cond.selects RX1 yX1_isWhole yX1_isWhole]
def wsX3_perforateFrom_r3 : List Cond := [Cond.code yX1_isWhole cX1_isWhole 1 (some .boolean), Cond.methodLink RX0 65 yX0_hasWatermark, Cond.instanceMethod yX0_hasWatermark, Cond.selects RX0 yX0_hasWatermark yX0_hasWatermark, Cond.code yX0_hasWatermark cX0_hasWatermark 2 (some .boolean), Cond.methodLink RX0 45 yX0_strikeAll, Cond.instanceMethod yX0_strikeAll, Cond.selects RX0 yX0_strikeAll yX0_strikeAll, Cond.code yX0_strikeAll cX0_strikeAll 2 none, Cond.methodLink RX0 79 yX1_strike, Cond.instanceMethod yX1_strike, Cond.selects RX1 yX1_strike yX1_strike, Cond.code yX1_strike cX1_strike 1 none, Cond.methodLink RX1 18 yX1_isWhole, Cond.methodLink RX3 41 yX2_leftWith, Cond.instanceMethod yX2_leftWith, Cond.selects RX2 yX2_leftWith yX2_leftWith, Cond.initialized RX2, Cond.code yX2_leftWith cX2_leftWith 4 (some .int), Cond.methodLink RX2 42 yX2_isLeftWith, Cond.instanceMethod yX2_isLeftWith, Cond.selects RX2 yX2_isLeftWith yX2_isLeftWith, Cond.code yX2_isLeftWith cX2_isLeftWith 3 (some .boolean), Cond.fieldLink RX2 15 "StampSheets$Sheet" "tornOff" "[Z"]
def wsX3_perforateFrom_r4 : List Cond := [Cond.fieldLink RX2 9 "StampSheets$Sheet" "faultSets" "[I", Cond.methodLink RX3 45 yX2_worth, Cond.instanceMethod yX2_worth, Cond.selects RX2 yX2_worth yX2_worth, Cond.code yX2_worth cX2_worth 3 (some .int), Cond.methodLink RX2 39 yX2_worthOf, Cond.instanceMethod yX2_worthOf, Cond.selects RX2 yX2_worthOf yX2_worthOf, Cond.code yX2_worthOf cX2_worthOf 4 (some .int)]
def wsX3_perforateFrom : List Cond := .code yX3_perforateFrom cX3_perforateFrom 6 none :: ((wsX3_perforateFrom_r1 ++ (wsX3_perforateFrom_r2 ++ (wsX3_perforateFrom_r3 ++ wsX3_perforateFrom_r4))) ++ wsX30 ++ wsX00 ++ wsX10 ++ wsX20)
def wsX3_answer : List Cond := .code yX3_answer cX3_answer 2 (some .int) :: ([.fieldLink RX3 31 "StampSheets$Trial" "faultless" "I", .fieldLink RX3 34 "StampSheets$Trial" "worth" "I", .fieldLink RX3 10 "StampSheets$Trial" "machine" "LStampSheets$Machine;", .methodLink RX3 48 yX0_brokenPins, .instanceMethod yX0_brokenPins, .selects RX0 yX0_brokenPins yX0_brokenPins, .initialized RX0, .code yX0_brokenPins cX0_brokenPins 3 (some .int), .fieldLink RX0 20 "StampSheets$Machine" "pins" "[LStampSheets$Pin;", .methodLink RX0 75 yX1_isWhole, .instanceMethod yX1_isWhole, .selects RX1 yX1_isWhole yX1_isWhole, .initialized RX1, .code yX1_isWhole cX1_isWhole 1 (some .boolean), .fieldLink RX1 15 "StampSheets$Pin" "wear" "I", .fieldLink RX1 9 "StampSheets$Pin" "strength" "I"] ++ wsX30 ++ wsX00 ++ wsX10)
def wsX4_init_r1 : List Cond := [Cond.methodLink RX4 3 objectInit, Cond.instanceMethod objectInit, Cond.code objectInit ⟨#[0xb1]⟩ 1 none, Cond.classLink RX4 9 RX0, Cond.instantiable RX0 7, Cond.initialized RX0, Cond.fieldLink RX4 12 "StampSheets" "machine" "LStampSheets$Machine;", Cond.classLink RX4 16 RX3, Cond.instantiable RX3 4, Cond.initialized RX3, Cond.fieldLink RX4 19 "StampSheets" "trial" "LStampSheets$Trial;", Cond.arrayClass .boolean, Cond.fieldLink RX4 23 "StampSheets" "plateInverted" "[Z", Cond.classLink RX4 27 RX2, Cond.fieldLink RX4 29 "StampSheets" "sheetStore" "[LStampSheets$Sheet;", Cond.instantiable RX2 2, Cond.initialized RX2, Cond.methodLink RX4 11 yX0_init, Cond.instanceMethod yX0_init, Cond.code yX0_init cX0_init 2 none, Cond.methodLink RX0 3 objectInit, Cond.fieldLink RX0 9 "StampSheets$Machine" "feed" "I", Cond.fieldLink RX0 15 "StampSheets$Machine" "step" "I", Cond.classLink RX0 18 RX1]
def wsX4_init_r2 : List Cond := [Cond.fieldLink RX0 20 "StampSheets$Machine" "pins" "[LStampSheets$Pin;", Cond.instantiable RX1 2, Cond.initialized RX1, Cond.instanceMethod yX1_init, Cond.code yX1_init cX1_init 1 none, Cond.methodLink RX1 3 objectInit, Cond.fieldLink RX1 9 "StampSheets$Pin" "strength" "I", Cond.methodLink RX4 18 yX3_init, Cond.instanceMethod yX3_init, Cond.code yX3_init cX3_init 1 none, Cond.methodLink RX3 1 objectInit, Cond.classLink RX3 7 RX0, Cond.fieldLink RX3 10 "StampSheets$Trial" "machine" "LStampSheets$Machine;", Cond.classLink RX3 16 RX2, Cond.fieldLink RX3 19 "StampSheets$Trial" "sheet" "LStampSheets$Sheet;", Cond.methodLink RX3 9 yX0_init, Cond.methodLink RX3 18 yX2_init, Cond.instanceMethod yX2_init, Cond.code yX2_init cX2_init 1 none, Cond.methodLink RX2 3 objectInit, Cond.arrayClass .int, Cond.fieldLink RX2 9 "StampSheets$Sheet" "faultSets" "[I", Cond.fieldLink RX2 15 "StampSheets$Sheet" "tornOff" "[Z", Cond.methodLink RX4 33 yX2_init]
def wsX4_init : List Cond := .code yX4_init cX4_init 2 none :: ((wsX4_init_r1 ++ wsX4_init_r2) ++ wsX00 ++ wsX40 ++ wsX30 ++ wsX20 ++ wsX10)
def wsX4_setFeed : List Cond := .code yX4_setFeed cX4_setFeed 4 (some .int) :: ([.classLink RX4 38 "java/lang/IllegalArgumentException", .initialized "java/lang/IllegalArgumentException", .fieldLink RX4 12 "StampSheets" "machine" "LStampSheets$Machine;", .methodLink RX4 34 yX4_isWithin, .static yX4_isWithin, .initialized RX4, .code yX4_isWithin cX4_isWithin 3 (some .boolean)] ++ wsX40 ++ wsX00 ++ (vx_atS RX4 42 "java/lang/IllegalArgumentException" ["java/lang/RuntimeException", "java/lang/Exception"]).filter goodWord)
def wsX4_align : List Cond := .code yX4_align cX4_align 2 (some .int) :: ([.fieldLink RX4 12 "StampSheets" "machine" "LStampSheets$Machine;"] ++ wsX40 ++ wsX00)
def wsX4_roll : List Cond := .code yX4_roll cX4_roll 4 (some .int) :: ([.classLink RX4 38 "java/lang/IllegalArgumentException", .initialized "java/lang/IllegalArgumentException", .fieldLink RX4 12 "StampSheets" "machine" "LStampSheets$Machine;", .methodLink RX4 34 yX4_isWithin, .static yX4_isWithin, .initialized RX4, .code yX4_isWithin cX4_isWithin 3 (some .boolean)] ++ wsX40 ++ wsX00 ++ (vx_atS RX4 42 "java/lang/IllegalArgumentException" ["java/lang/RuntimeException", "java/lang/Exception"]).filter goodWord)
def wsX4_checkPin : List Cond := .code yX4_checkPin cX4_checkPin 1 none :: ([.classLink RX4 150 "java/lang/IndexOutOfBoundsException", .initialized "java/lang/IndexOutOfBoundsException", .methodLink RX4 34 yX4_isWithin, .static yX4_isWithin, .initialized RX4, .code yX4_isWithin cX4_isWithin 3 (some .boolean)] ++ (vx_atS RX4 154 "java/lang/IndexOutOfBoundsException" ["java/lang/RuntimeException", "java/lang/Exception"]).filter goodWord)
def wsX4_fit : List Cond := .code yX4_fit cX4_fit 5 (some .int) :: ([.classLink RX4 38 "java/lang/IllegalArgumentException", .initialized "java/lang/IllegalArgumentException", .fieldLink RX4 12 "StampSheets" "machine" "LStampSheets$Machine;", .methodLink RX4 66 yX4_checkPin, .static yX4_checkPin, .initialized RX4, .code yX4_checkPin cX4_checkPin 1 none, .classLink RX4 150 "java/lang/IndexOutOfBoundsException", .initialized "java/lang/IndexOutOfBoundsException", .methodLink RX4 34 yX4_isWithin, .static yX4_isWithin, .code yX4_isWithin cX4_isWithin 3 (some .boolean)] ++ wsX40 ++ wsX00 ++ wsX10 ++ (vx_atS RX4 42 "java/lang/IllegalArgumentException" ["java/lang/RuntimeException", "java/lang/Exception"]).filter goodWord ++ (vx_atS RX4 154 "java/lang/IndexOutOfBoundsException" ["java/lang/RuntimeException", "java/lang/Exception"]).filter goodWord)
def wsX4_checkPlace : List Cond := .code yX4_checkPlace cX4_checkPlace 2 none :: ([.classLink RX4 150 "java/lang/IndexOutOfBoundsException", .initialized "java/lang/IndexOutOfBoundsException", .methodLink RX4 34 yX4_isWithin, .static yX4_isWithin, .initialized RX4, .code yX4_isWithin cX4_isWithin 3 (some .boolean)] ++ (vx_atS RX4 154 "java/lang/IndexOutOfBoundsException" ["java/lang/RuntimeException", "java/lang/Exception"]).filter goodWord)
def wsX4_turn : List Cond := .code yX4_turn cX4_turn 4 (some .boolean) :: ([.fieldLink RX4 23 "StampSheets" "plateInverted" "[Z", .methodLink RX4 84 yX4_checkPlace, .static yX4_checkPlace, .initialized RX4, .code yX4_checkPlace cX4_checkPlace 2 none, .classLink RX4 150 "java/lang/IndexOutOfBoundsException", .initialized "java/lang/IndexOutOfBoundsException", .methodLink RX4 34 yX4_isWithin, .static yX4_isWithin, .code yX4_isWithin cX4_isWithin 3 (some .boolean)] ++ wsX40 ++ (vx_atS RX4 154 "java/lang/IndexOutOfBoundsException" ["java/lang/RuntimeException", "java/lang/Exception"]).filter goodWord)
def wsX4_run_r1 : List Cond := [Cond.classLink RX4 91 "java/lang/IllegalStateException", Cond.initialized "java/lang/IllegalStateException", Cond.fieldLink RX4 88 "StampSheets" "sheetCount" "I", Cond.fieldLink RX4 12 "StampSheets" "machine" "LStampSheets$Machine;", Cond.fieldLink RX4 23 "StampSheets" "plateInverted" "[Z", Cond.fieldLink RX4 29 "StampSheets" "sheetStore" "[LStampSheets$Sheet;", Cond.methodLink RX4 96 yX0_perforate, Cond.instanceMethod yX0_perforate, Cond.selects RX0 yX0_perforate yX0_perforate, Cond.initialized RX0, Cond.code yX0_perforate cX0_perforate 4 none, Cond.fieldLink RX0 32 "StampSheets$Machine" "error" "I", Cond.fieldLink RX0 9 "StampSheets$Machine" "feed" "I", Cond.fieldLink RX0 35 "StampSheets$Machine" "rowsLeft" "I", Cond.fieldLink RX0 38 "StampSheets$Machine" "rowsRun" "I", Cond.fieldLink RX0 29 "StampSheets$Machine" "drift" "I", Cond.methodLink RX0 48 Lib.Math.min.name, Cond.static Lib.Math.min.name, Cond.initialized "java/lang/Math", Cond.code Lib.Math.min.name Lib.Math.min.code 2 (some .int), Cond.methodLink RX0 54 Lib.Math.max.name, Cond.static Lib.Math.max.name, Cond.code Lib.Math.max.name Lib.Math.max.code 2 (some .int), Cond.methodLink RX0 41 yX0_markRow]
def wsX4_run_r2 : List Cond := [Cond.instanceMethod yX0_markRow, Cond.selects RX0 yX0_markRow yX0_markRow, Cond.code yX0_markRow cX0_markRow 8 none, Cond.static yX4_isWithin, Cond.initialized RX4, Cond.code yX4_isWithin cX4_isWithin 3 (some .boolean), Cond.methodLink RX0 61 yX0_holeFaults, Cond.instanceMethod yX0_holeFaults, Cond.selects RX0 yX0_holeFaults yX0_holeFaults, Cond.code yX0_holeFaults cX0_holeFaults 3 (some .int), Cond.fieldLink RX0 20 "StampSheets$Machine" "pins" "[LStampSheets$Pin;", Cond.methodLink RX0 75 yX1_isWhole, Cond.instanceMethod yX1_isWhole, Cond.selects RX1 yX1_isWhole yX1_isWhole, Cond.initialized RX1, Cond.code yX1_isWhole cX1_isWhole 1 (some .boolean), Cond.fieldLink RX1 15 "StampSheets$Pin" "wear" "I", Cond.fieldLink RX1 9 "StampSheets$Pin" "strength" "I", Cond.methodLink RX0 65 yX0_hasWatermark, Cond.instanceMethod yX0_hasWatermark, Cond.selects RX0 yX0_hasWatermark yX0_hasWatermark, Cond.code yX0_hasWatermark cX0_hasWatermark 2 (some .boolean), Cond.fieldLink RX0 15 "StampSheets$Machine" "step" "I", Cond.methodLink RX0 45 yX0_strikeAll]
def wsX4_run_r3 : List Cond := [Cond.instanceMethod yX0_strikeAll, Cond.selects RX0 yX0_strikeAll yX0_strikeAll, Cond.code yX0_strikeAll cX0_strikeAll 2 none, Cond.methodLink RX0 79 yX1_strike, Cond.instanceMethod yX1_strike, Cond.selects RX1 yX1_strike yX1_strike, Cond.code yX1_strike cX1_strike 1 none, Cond.methodLink RX1 18 yX1_isWhole]
def wsX4_run : List Cond := .code yX4_run cX4_run 1 (some .int) :: ((wsX4_run_r1 ++ (wsX4_run_r2 ++ wsX4_run_r3)) ++ wsX40 ++ wsX00 ++ wsX20 ++ wsX10 ++ (vx_atS RX4 95 "java/lang/IllegalStateException" ["java/lang/RuntimeException", "java/lang/Exception"]).filter goodWord)
def wsX4_checkSheet : List Cond := .code yX4_checkSheet cX4_checkSheet 2 none :: ([.classLink RX4 150 "java/lang/IndexOutOfBoundsException", .initialized "java/lang/IndexOutOfBoundsException", .fieldLink RX4 88 "StampSheets" "sheetCount" "I", .methodLink RX4 34 yX4_isWithin, .static yX4_isWithin, .initialized RX4, .code yX4_isWithin cX4_isWithin 3 (some .boolean)] ++ wsX40 ++ (vx_atS RX4 154 "java/lang/IndexOutOfBoundsException" ["java/lang/RuntimeException", "java/lang/Exception"]).filter goodWord)
def wsX4_faults : List Cond := .code yX4_faults cX4_faults 4 (some .int) :: ([.fieldLink RX4 29 "StampSheets" "sheetStore" "[LStampSheets$Sheet;", .methodLink RX4 100 yX4_checkSheet, .instanceMethod yX4_checkSheet, .selects RX4 yX4_checkSheet yX4_checkSheet, .initialized RX4, .code yX4_checkSheet cX4_checkSheet 2 none, .classLink RX4 150 "java/lang/IndexOutOfBoundsException", .initialized "java/lang/IndexOutOfBoundsException", .fieldLink RX4 88 "StampSheets" "sheetCount" "I", .methodLink RX4 34 yX4_isWithin, .static yX4_isWithin, .code yX4_isWithin cX4_isWithin 3 (some .boolean), .methodLink RX4 84 yX4_checkPlace, .static yX4_checkPlace, .code yX4_checkPlace cX4_checkPlace 2 none] ++ wsX40 ++ wsX20 ++ (vx_atS RX4 154 "java/lang/IndexOutOfBoundsException" ["java/lang/RuntimeException", "java/lang/Exception"]).filter goodWord)
def wsX4_tear : List Cond := .code yX4_tear cX4_tear 7 (some .int) :: ([.classLink RX4 91 "java/lang/IllegalStateException", .initialized "java/lang/IllegalStateException", .fieldLink RX4 29 "StampSheets" "sheetStore" "[LStampSheets$Sheet;", .methodLink RX4 100 yX4_checkSheet, .instanceMethod yX4_checkSheet, .selects RX4 yX4_checkSheet yX4_checkSheet, .initialized RX4, .code yX4_checkSheet cX4_checkSheet 2 none, .classLink RX4 150 "java/lang/IndexOutOfBoundsException", .initialized "java/lang/IndexOutOfBoundsException", .fieldLink RX4 88 "StampSheets" "sheetCount" "I", .methodLink RX4 34 yX4_isWithin, .static yX4_isWithin, .code yX4_isWithin cX4_isWithin 3 (some .boolean), .methodLink RX4 84 yX4_checkPlace, .static yX4_checkPlace, .code yX4_checkPlace cX4_checkPlace 2 none, .methodLink RX4 112 yX2_worthOf, .instanceMethod yX2_worthOf, .selects RX2 yX2_worthOf yX2_worthOf, .initialized RX2, .code yX2_worthOf cX2_worthOf 4 (some .int), .fieldLink RX2 9 "StampSheets$Sheet" "faultSets" "[I", .fieldLink RX2 15 "StampSheets$Sheet" "tornOff" "[Z"] ++ wsX40 ++ wsX20 ++ (vx_atS RX4 95 "java/lang/IllegalStateException" ["java/lang/RuntimeException", "java/lang/Exception"]).filter goodWord ++ (vx_atS RX4 154 "java/lang/IndexOutOfBoundsException" ["java/lang/RuntimeException", "java/lang/Exception"]).filter goodWord)
def wsX4_checkWhat : List Cond := .code yX4_checkWhat cX4_checkWhat 2 none :: ([.classLink RX4 150 "java/lang/IndexOutOfBoundsException", .initialized "java/lang/IndexOutOfBoundsException", .methodLink RX4 34 yX4_isWithin, .static yX4_isWithin, .initialized RX4, .code yX4_isWithin cX4_isWithin 3 (some .boolean)] ++ (vx_atS RX4 154 "java/lang/IndexOutOfBoundsException" ["java/lang/RuntimeException", "java/lang/Exception"]).filter goodWord)
def wsX4_sheet_r1 : List Cond := [Cond.fieldLink RX4 29 "StampSheets" "sheetStore" "[LStampSheets$Sheet;", Cond.methodLink RX4 100 yX4_checkSheet, Cond.instanceMethod yX4_checkSheet, Cond.selects RX4 yX4_checkSheet yX4_checkSheet, Cond.initialized RX4, Cond.code yX4_checkSheet cX4_checkSheet 2 none, Cond.classLink RX4 150 "java/lang/IndexOutOfBoundsException", Cond.initialized "java/lang/IndexOutOfBoundsException", Cond.fieldLink RX4 88 "StampSheets" "sheetCount" "I", Cond.methodLink RX4 34 yX4_isWithin, Cond.static yX4_isWithin, Cond.code yX4_isWithin cX4_isWithin 3 (some .boolean), Cond.methodLink RX4 116 yX4_checkWhat, Cond.static yX4_checkWhat, Cond.code yX4_checkWhat cX4_checkWhat 2 none, Cond.methodLink RX4 119 yX2_answer, Cond.instanceMethod yX2_answer, Cond.selects RX2 yX2_answer yX2_answer, Cond.initialized RX2, Cond.code yX2_answer cX2_answer 2 (some .int), Cond.methodLink RX2 19 yX2_left, Cond.instanceMethod yX2_left, Cond.selects RX2 yX2_left yX2_left, Cond.code yX2_left cX2_left 3 (some .int)]
def wsX4_sheet_r2 : List Cond := [Cond.fieldLink RX2 15 "StampSheets$Sheet" "tornOff" "[Z", Cond.methodLink RX2 23 yX2_leftWith, Cond.instanceMethod yX2_leftWith, Cond.selects RX2 yX2_leftWith yX2_leftWith, Cond.code yX2_leftWith cX2_leftWith 4 (some .int), Cond.methodLink RX2 42 yX2_isLeftWith, Cond.instanceMethod yX2_isLeftWith, Cond.selects RX2 yX2_isLeftWith yX2_isLeftWith, Cond.code yX2_isLeftWith cX2_isLeftWith 3 (some .boolean), Cond.fieldLink RX2 9 "StampSheets$Sheet" "faultSets" "[I", Cond.methodLink RX2 27 yX2_worth, Cond.instanceMethod yX2_worth, Cond.selects RX2 yX2_worth yX2_worth, Cond.code yX2_worth cX2_worth 3 (some .int), Cond.methodLink RX2 39 yX2_worthOf, Cond.instanceMethod yX2_worthOf, Cond.selects RX2 yX2_worthOf yX2_worthOf, Cond.code yX2_worthOf cX2_worthOf 4 (some .int), Cond.methodLink RX2 30 yX2_invertedPairs, Cond.instanceMethod yX2_invertedPairs, Cond.selects RX2 yX2_invertedPairs yX2_invertedPairs, Cond.code yX2_invertedPairs cX2_invertedPairs 4 (some .int), Cond.methodLink RX2 46 yX2_isInvertedPair, Cond.instanceMethod yX2_isInvertedPair]
def wsX4_sheet_r3 : List Cond := [Cond.selects RX2 yX2_isInvertedPair yX2_isInvertedPair, Cond.code yX2_isInvertedPair cX2_isInvertedPair 3 (some .boolean), Cond.methodLink RX2 33 yX2_rowsOff, Cond.instanceMethod yX2_rowsOff, Cond.selects RX2 yX2_rowsOff yX2_rowsOff, Cond.code yX2_rowsOff cX2_rowsOff 3 (some .int), Cond.methodLink RX2 36 yX2_greatestBlock, Cond.instanceMethod yX2_greatestBlock, Cond.selects RX2 yX2_greatestBlock yX2_greatestBlock, Cond.code yX2_greatestBlock cX2_greatestBlock 5 (some .int), Cond.methodLink RX2 56 Lib.Math.max.name, Cond.static Lib.Math.max.name, Cond.initialized "java/lang/Math", Cond.code Lib.Math.max.name Lib.Math.max.code 2 (some .int), Cond.methodLink RX2 50 yX2_goodColumns, Cond.instanceMethod yX2_goodColumns, Cond.selects RX2 yX2_goodColumns yX2_goodColumns, Cond.code yX2_goodColumns cX2_goodColumns 4 (some .int), Cond.methodLink RX2 53 yX2_longestRun, Cond.static yX2_longestRun, Cond.code yX2_longestRun cX2_longestRun 4 (some .int)]
def wsX4_sheet : List Cond := .code yX4_sheet cX4_sheet 3 (some .int) :: ((wsX4_sheet_r1 ++ (wsX4_sheet_r2 ++ wsX4_sheet_r3)) ++ wsX40 ++ wsX20 ++ (vx_atS RX4 154 "java/lang/IndexOutOfBoundsException" ["java/lang/RuntimeException", "java/lang/Exception"]).filter goodWord)
def wsX4_pin : List Cond := .code yX4_pin cX4_pin 3 (some .int) :: ([.fieldLink RX4 12 "StampSheets" "machine" "LStampSheets$Machine;", .methodLink RX4 66 yX4_checkPin, .static yX4_checkPin, .initialized RX4, .code yX4_checkPin cX4_checkPin 1 none, .classLink RX4 150 "java/lang/IndexOutOfBoundsException", .initialized "java/lang/IndexOutOfBoundsException", .methodLink RX4 34 yX4_isWithin, .static yX4_isWithin, .code yX4_isWithin cX4_isWithin 3 (some .boolean), .methodLink RX4 116 yX4_checkWhat, .static yX4_checkWhat, .code yX4_checkWhat cX4_checkWhat 2 none, .methodLink RX4 122 yX1_answer, .instanceMethod yX1_answer, .selects RX1 yX1_answer yX1_answer, .initialized RX1, .code yX1_answer cX1_answer 2 (some .int), .fieldLink RX1 9 "StampSheets$Pin" "strength" "I", .fieldLink RX1 15 "StampSheets$Pin" "wear" "I", .methodLink RX1 18 yX1_isWhole, .instanceMethod yX1_isWhole, .selects RX1 yX1_isWhole yX1_isWhole, .code yX1_isWhole cX1_isWhole 1 (some .boolean)] ++ wsX40 ++ wsX00 ++ wsX10 ++ (vx_atS RX4 154 "java/lang/IndexOutOfBoundsException" ["java/lang/RuntimeException", "java/lang/Exception"]).filter goodWord)
def wsX4_invertedPlaces : List Cond := .code yX4_invertedPlaces cX4_invertedPlaces 3 (some .int) :: ([.fieldLink RX4 23 "StampSheets" "plateInverted" "[Z"] ++ wsX40)
def wsX4_worthOfSheets : List Cond := .code yX4_worthOfSheets cX4_worthOfSheets 3 (some .int) :: ([.fieldLink RX4 88 "StampSheets" "sheetCount" "I", .fieldLink RX4 29 "StampSheets" "sheetStore" "[LStampSheets$Sheet;", .methodLink RX4 173 yX2_worth, .instanceMethod yX2_worth, .selects RX2 yX2_worth yX2_worth, .initialized RX2, .code yX2_worth cX2_worth 3 (some .int), .methodLink RX2 39 yX2_worthOf, .instanceMethod yX2_worthOf, .selects RX2 yX2_worthOf yX2_worthOf, .code yX2_worthOf cX2_worthOf 4 (some .int), .fieldLink RX2 9 "StampSheets$Sheet" "faultSets" "[I", .fieldLink RX2 15 "StampSheets$Sheet" "tornOff" "[Z"] ++ wsX40 ++ wsX20)
def wsX4_countAnswer_r1 : List Cond := [Cond.fieldLink RX4 88 "StampSheets" "sheetCount" "I", Cond.fieldLink RX4 12 "StampSheets" "machine" "LStampSheets$Machine;", Cond.methodLink RX4 163 yX0_brokenPins, Cond.instanceMethod yX0_brokenPins, Cond.selects RX0 yX0_brokenPins yX0_brokenPins, Cond.initialized RX0, Cond.code yX0_brokenPins cX0_brokenPins 3 (some .int), Cond.fieldLink RX0 20 "StampSheets$Machine" "pins" "[LStampSheets$Pin;", Cond.methodLink RX0 75 yX1_isWhole, Cond.instanceMethod yX1_isWhole, Cond.selects RX1 yX1_isWhole yX1_isWhole, Cond.initialized RX1, Cond.code yX1_isWhole cX1_isWhole 1 (some .boolean), Cond.fieldLink RX1 15 "StampSheets$Pin" "wear" "I", Cond.fieldLink RX1 9 "StampSheets$Pin" "strength" "I", Cond.methodLink RX4 167 yX4_invertedPlaces, Cond.instanceMethod yX4_invertedPlaces, Cond.selects RX4 yX4_invertedPlaces yX4_invertedPlaces, Cond.initialized RX4, Cond.code yX4_invertedPlaces cX4_invertedPlaces 3 (some .int), Cond.fieldLink RX4 23 "StampSheets" "plateInverted" "[Z", Cond.methodLink RX4 170 yX4_worthOfSheets, Cond.instanceMethod yX4_worthOfSheets, Cond.selects RX4 yX4_worthOfSheets yX4_worthOfSheets]
def wsX4_countAnswer_r2 : List Cond := [Cond.code yX4_worthOfSheets cX4_worthOfSheets 3 (some .int), Cond.fieldLink RX4 29 "StampSheets" "sheetStore" "[LStampSheets$Sheet;", Cond.methodLink RX4 173 yX2_worth, Cond.instanceMethod yX2_worth, Cond.selects RX2 yX2_worth yX2_worth, Cond.initialized RX2, Cond.code yX2_worth cX2_worth 3 (some .int), Cond.methodLink RX2 39 yX2_worthOf, Cond.instanceMethod yX2_worthOf, Cond.selects RX2 yX2_worthOf yX2_worthOf, Cond.code yX2_worthOf cX2_worthOf 4 (some .int), Cond.fieldLink RX2 9 "StampSheets$Sheet" "faultSets" "[I", Cond.fieldLink RX2 15 "StampSheets$Sheet" "tornOff" "[Z"]
def wsX4_countAnswer : List Cond := .code yX4_countAnswer cX4_countAnswer 2 (some .int) :: ((wsX4_countAnswer_r1 ++ wsX4_countAnswer_r2) ++ wsX40 ++ wsX00 ++ wsX10 ++ wsX20)
def wsX4_count_r1 : List Cond := [Cond.methodLink RX4 116 yX4_checkWhat, Cond.static yX4_checkWhat, Cond.initialized RX4, Cond.code yX4_checkWhat cX4_checkWhat 2 none, Cond.classLink RX4 150 "java/lang/IndexOutOfBoundsException", Cond.initialized "java/lang/IndexOutOfBoundsException", Cond.methodLink RX4 34 yX4_isWithin, Cond.static yX4_isWithin, Cond.code yX4_isWithin cX4_isWithin 3 (some .boolean), Cond.methodLink RX4 123 yX4_countAnswer, Cond.instanceMethod yX4_countAnswer, Cond.selects RX4 yX4_countAnswer yX4_countAnswer, Cond.code yX4_countAnswer cX4_countAnswer 2 (some .int), Cond.fieldLink RX4 88 "StampSheets" "sheetCount" "I", Cond.fieldLink RX4 12 "StampSheets" "machine" "LStampSheets$Machine;", Cond.methodLink RX4 163 yX0_brokenPins, Cond.instanceMethod yX0_brokenPins, Cond.selects RX0 yX0_brokenPins yX0_brokenPins, Cond.initialized RX0, Cond.code yX0_brokenPins cX0_brokenPins 3 (some .int), Cond.fieldLink RX0 20 "StampSheets$Machine" "pins" "[LStampSheets$Pin;", Cond.methodLink RX0 75 yX1_isWhole, Cond.instanceMethod yX1_isWhole, Cond.selects RX1 yX1_isWhole yX1_isWhole]
def wsX4_count_r2 : List Cond := [Cond.initialized RX1, Cond.code yX1_isWhole cX1_isWhole 1 (some .boolean), Cond.fieldLink RX1 15 "StampSheets$Pin" "wear" "I", Cond.fieldLink RX1 9 "StampSheets$Pin" "strength" "I", Cond.methodLink RX4 167 yX4_invertedPlaces, Cond.instanceMethod yX4_invertedPlaces, Cond.selects RX4 yX4_invertedPlaces yX4_invertedPlaces, Cond.code yX4_invertedPlaces cX4_invertedPlaces 3 (some .int), Cond.fieldLink RX4 23 "StampSheets" "plateInverted" "[Z", Cond.methodLink RX4 170 yX4_worthOfSheets, Cond.instanceMethod yX4_worthOfSheets, Cond.selects RX4 yX4_worthOfSheets yX4_worthOfSheets, Cond.code yX4_worthOfSheets cX4_worthOfSheets 3 (some .int), Cond.fieldLink RX4 29 "StampSheets" "sheetStore" "[LStampSheets$Sheet;", Cond.methodLink RX4 173 yX2_worth, Cond.instanceMethod yX2_worth, Cond.selects RX2 yX2_worth yX2_worth, Cond.initialized RX2, Cond.code yX2_worth cX2_worth 3 (some .int), Cond.methodLink RX2 39 yX2_worthOf, Cond.instanceMethod yX2_worthOf, Cond.selects RX2 yX2_worthOf yX2_worthOf, Cond.code yX2_worthOf cX2_worthOf 4 (some .int), Cond.fieldLink RX2 9 "StampSheets$Sheet" "faultSets" "[I"]
def wsX4_count_r3 : List Cond := [Cond.fieldLink RX2 15 "StampSheets$Sheet" "tornOff" "[Z"]
def wsX4_count : List Cond := .code yX4_count cX4_count 2 (some .int) :: ((wsX4_count_r1 ++ (wsX4_count_r2 ++ wsX4_count_r3)) ++ wsX40 ++ wsX00 ++ wsX10 ++ wsX20 ++ (vx_atS RX4 154 "java/lang/IndexOutOfBoundsException" ["java/lang/RuntimeException", "java/lang/Exception"]).filter goodWord)
def wsX4_checkSheetsToRun : List Cond := .code yX4_checkSheetsToRun cX4_checkSheetsToRun 1 none :: ([.classLink RX4 38 "java/lang/IllegalArgumentException", .initialized "java/lang/IllegalArgumentException", .methodLink RX4 34 yX4_isWithin, .static yX4_isWithin, .initialized RX4, .code yX4_isWithin cX4_isWithin 3 (some .boolean)] ++ (vx_atS RX4 42 "java/lang/IllegalArgumentException" ["java/lang/RuntimeException", "java/lang/Exception"]).filter goodWord)
def wsX4_foresee_r1 : List Cond := [Cond.fieldLink RX4 19 "StampSheets" "trial" "LStampSheets$Trial;", Cond.fieldLink RX4 12 "StampSheets" "machine" "LStampSheets$Machine;", Cond.fieldLink RX4 23 "StampSheets" "plateInverted" "[Z", Cond.methodLink RX4 126 yX4_checkSheetsToRun, Cond.static yX4_checkSheetsToRun, Cond.initialized RX4, Cond.code yX4_checkSheetsToRun cX4_checkSheetsToRun 1 none, Cond.classLink RX4 38 "java/lang/IllegalArgumentException", Cond.initialized "java/lang/IllegalArgumentException", Cond.methodLink RX4 34 yX4_isWithin, Cond.static yX4_isWithin, Cond.code yX4_isWithin cX4_isWithin 3 (some .boolean), Cond.methodLink RX4 116 yX4_checkWhat, Cond.static yX4_checkWhat, Cond.code yX4_checkWhat cX4_checkWhat 2 none, Cond.classLink RX4 150 "java/lang/IndexOutOfBoundsException", Cond.initialized "java/lang/IndexOutOfBoundsException", Cond.methodLink RX4 129 yX3_perforateFrom, Cond.instanceMethod yX3_perforateFrom, Cond.selects RX3 yX3_perforateFrom yX3_perforateFrom, Cond.initialized RX3, Cond.code yX3_perforateFrom cX3_perforateFrom 6 none, Cond.fieldLink RX3 10 "StampSheets$Trial" "machine" "LStampSheets$Machine;", Cond.fieldLink RX3 31 "StampSheets$Trial" "faultless" "I"]
def wsX4_foresee_r2 : List Cond := [Cond.fieldLink RX3 34 "StampSheets$Trial" "worth" "I", Cond.fieldLink RX3 19 "StampSheets$Trial" "sheet" "LStampSheets$Sheet;", Cond.methodLink RX3 23 yX0_becomeLike, Cond.instanceMethod yX0_becomeLike, Cond.selects RX0 yX0_becomeLike yX0_becomeLike, Cond.initialized RX0, Cond.code yX0_becomeLike cX0_becomeLike 3 none, Cond.fieldLink RX0 20 "StampSheets$Machine" "pins" "[LStampSheets$Pin;", Cond.fieldLink RX0 9 "StampSheets$Machine" "feed" "I", Cond.fieldLink RX0 29 "StampSheets$Machine" "drift" "I", Cond.fieldLink RX0 32 "StampSheets$Machine" "error" "I", Cond.fieldLink RX0 35 "StampSheets$Machine" "rowsLeft" "I", Cond.fieldLink RX0 38 "StampSheets$Machine" "rowsRun" "I", Cond.fieldLink RX0 15 "StampSheets$Machine" "step" "I", Cond.methodLink RX0 25 yX1_becomeLike, Cond.instanceMethod yX1_becomeLike, Cond.selects RX1 yX1_becomeLike yX1_becomeLike, Cond.initialized RX1, Cond.code yX1_becomeLike cX1_becomeLike 2 none, Cond.fieldLink RX1 9 "StampSheets$Pin" "strength" "I", Cond.fieldLink RX1 15 "StampSheets$Pin" "wear" "I", Cond.methodLink RX3 37 yX0_perforate, Cond.instanceMethod yX0_perforate, Cond.selects RX0 yX0_perforate yX0_perforate]
def wsX4_foresee_r3 : List Cond := [Cond.code yX0_perforate cX0_perforate 4 none, Cond.methodLink RX0 48 Lib.Math.min.name, Cond.static Lib.Math.min.name, Cond.initialized "java/lang/Math", Cond.code Lib.Math.min.name Lib.Math.min.code 2 (some .int), Cond.methodLink RX0 54 Lib.Math.max.name, Cond.static Lib.Math.max.name, Cond.code Lib.Math.max.name Lib.Math.max.code 2 (some .int), Cond.methodLink RX0 41 yX0_markRow, Cond.instanceMethod yX0_markRow, Cond.selects RX0 yX0_markRow yX0_markRow, Cond.code yX0_markRow cX0_markRow 8 none, Cond.methodLink RX0 61 yX0_holeFaults, Cond.instanceMethod yX0_holeFaults, Cond.selects RX0 yX0_holeFaults yX0_holeFaults, Cond.code yX0_holeFaults cX0_holeFaults 3 (some .int), Cond.methodLink RX0 75 yX1_isWhole, Cond.instanceMethod yX1_isWhole, Cond.selects RX1 yX1_isWhole yX1_isWhole, Cond.code yX1_isWhole cX1_isWhole 1 (some .boolean), Cond.methodLink RX0 65 yX0_hasWatermark, Cond.instanceMethod yX0_hasWatermark, Cond.selects RX0 yX0_hasWatermark yX0_hasWatermark, Cond.code yX0_hasWatermark cX0_hasWatermark 2 (some .boolean)]
def wsX4_foresee_r4 : List Cond := [Cond.methodLink RX0 45 yX0_strikeAll, Cond.instanceMethod yX0_strikeAll, Cond.selects RX0 yX0_strikeAll yX0_strikeAll, Cond.code yX0_strikeAll cX0_strikeAll 2 none, Cond.methodLink RX0 79 yX1_strike, Cond.instanceMethod yX1_strike, Cond.selects RX1 yX1_strike yX1_strike, Cond.code yX1_strike cX1_strike 1 none, Cond.methodLink RX1 18 yX1_isWhole, Cond.methodLink RX3 41 yX2_leftWith, Cond.instanceMethod yX2_leftWith, Cond.selects RX2 yX2_leftWith yX2_leftWith, Cond.initialized RX2, Cond.code yX2_leftWith cX2_leftWith 4 (some .int), Cond.methodLink RX2 42 yX2_isLeftWith, Cond.instanceMethod yX2_isLeftWith, Cond.selects RX2 yX2_isLeftWith yX2_isLeftWith, Cond.code yX2_isLeftWith cX2_isLeftWith 3 (some .boolean), Cond.fieldLink RX2 15 "StampSheets$Sheet" "tornOff" "[Z", Cond.fieldLink RX2 9 "StampSheets$Sheet" "faultSets" "[I", Cond.methodLink RX3 45 yX2_worth, Cond.instanceMethod yX2_worth, Cond.selects RX2 yX2_worth yX2_worth, Cond.code yX2_worth cX2_worth 3 (some .int)]
def wsX4_foresee_r5 : List Cond := [Cond.methodLink RX2 39 yX2_worthOf, Cond.instanceMethod yX2_worthOf, Cond.selects RX2 yX2_worthOf yX2_worthOf, Cond.code yX2_worthOf cX2_worthOf 4 (some .int), Cond.methodLink RX4 133 yX3_answer, Cond.instanceMethod yX3_answer, Cond.selects RX3 yX3_answer yX3_answer, Cond.code yX3_answer cX3_answer 2 (some .int), Cond.methodLink RX3 48 yX0_brokenPins, Cond.instanceMethod yX0_brokenPins, Cond.selects RX0 yX0_brokenPins yX0_brokenPins, Cond.code yX0_brokenPins cX0_brokenPins 3 (some .int)]
def wsX4_foresee : List Cond := .code yX4_foresee cX4_foresee 3 (some .int) :: ((wsX4_foresee_r1 ++ (wsX4_foresee_r2 ++ (wsX4_foresee_r3 ++ (wsX4_foresee_r4 ++ wsX4_foresee_r5)))) ++ wsX40 ++ wsX00 ++ wsX30 ++ wsX10 ++ wsX20 ++ (vx_atS RX4 42 "java/lang/IllegalArgumentException" ["java/lang/RuntimeException", "java/lang/Exception"]).filter goodWord ++ (vx_atS RX4 154 "java/lang/IndexOutOfBoundsException" ["java/lang/RuntimeException", "java/lang/Exception"]).filter goodWord)
def wsX4_stampsWith : List Cond := .code yX4_stampsWith cX4_stampsWith 4 (some .int) :: ([.fieldLink RX4 88 "StampSheets" "sheetCount" "I", .fieldLink RX4 29 "StampSheets" "sheetStore" "[LStampSheets$Sheet;", .methodLink RX4 176 yX2_leftWith, .instanceMethod yX2_leftWith, .selects RX2 yX2_leftWith yX2_leftWith, .initialized RX2, .code yX2_leftWith cX2_leftWith 4 (some .int), .methodLink RX2 42 yX2_isLeftWith, .instanceMethod yX2_isLeftWith, .selects RX2 yX2_isLeftWith yX2_isLeftWith, .code yX2_isLeftWith cX2_isLeftWith 3 (some .boolean), .fieldLink RX2 15 "StampSheets$Sheet" "tornOff" "[Z", .fieldLink RX2 9 "StampSheets$Sheet" "faultSets" "[I"] ++ wsX40 ++ wsX20)
def wsX4_like : List Cond := .code yX4_like cX4_like 2 (some .int) :: ([.classLink RX4 38 "java/lang/IllegalArgumentException", .initialized "java/lang/IllegalArgumentException", .methodLink RX4 34 yX4_isWithin, .static yX4_isWithin, .initialized RX4, .code yX4_isWithin cX4_isWithin 3 (some .boolean), .methodLink RX4 139 yX4_stampsWith, .instanceMethod yX4_stampsWith, .selects RX4 yX4_stampsWith yX4_stampsWith, .code yX4_stampsWith cX4_stampsWith 4 (some .int), .fieldLink RX4 88 "StampSheets" "sheetCount" "I", .fieldLink RX4 29 "StampSheets" "sheetStore" "[LStampSheets$Sheet;", .methodLink RX4 176 yX2_leftWith, .instanceMethod yX2_leftWith, .selects RX2 yX2_leftWith yX2_leftWith, .initialized RX2, .code yX2_leftWith cX2_leftWith 4 (some .int), .methodLink RX2 42 yX2_isLeftWith, .instanceMethod yX2_isLeftWith, .selects RX2 yX2_isLeftWith yX2_isLeftWith, .code yX2_isLeftWith cX2_isLeftWith 3 (some .boolean), .fieldLink RX2 15 "StampSheets$Sheet" "tornOff" "[Z", .fieldLink RX2 9 "StampSheets$Sheet" "faultSets" "[I"] ++ wsX40 ++ wsX20 ++ (vx_atS RX4 42 "java/lang/IllegalArgumentException" ["java/lang/RuntimeException", "java/lang/Exception"]).filter goodWord)
def wsX4_share : List Cond := .code yX4_share cX4_share 2 (some .double) :: ([.fieldLink RX4 88 "StampSheets" "sheetCount" "I", .methodLink RX4 139 yX4_stampsWith, .instanceMethod yX4_stampsWith, .selects RX4 yX4_stampsWith yX4_stampsWith, .initialized RX4, .code yX4_stampsWith cX4_stampsWith 4 (some .int), .fieldLink RX4 29 "StampSheets" "sheetStore" "[LStampSheets$Sheet;", .methodLink RX4 176 yX2_leftWith, .instanceMethod yX2_leftWith, .selects RX2 yX2_leftWith yX2_leftWith, .initialized RX2, .code yX2_leftWith cX2_leftWith 4 (some .int), .methodLink RX2 42 yX2_isLeftWith, .instanceMethod yX2_isLeftWith, .selects RX2 yX2_isLeftWith yX2_isLeftWith, .code yX2_isLeftWith cX2_isLeftWith 3 (some .boolean), .fieldLink RX2 15 "StampSheets$Sheet" "tornOff" "[Z", .fieldLink RX2 9 "StampSheets$Sheet" "faultSets" "[I"] ++ wsX40 ++ wsX20)
def wsX5_init : List Cond := .code yX5_init cX5_init 1 none :: ([.methodLink RX5 1 objectInit, .instanceMethod objectInit, .code objectInit ⟨#[0xb1]⟩ 1 none, .fieldLink RX5 7 "StampSheetsLaw$Sim" "feed" "I", .fieldLink RX5 13 "StampSheetsLaw$Sim" "step" "I", .arrayClass .int, .fieldLink RX5 16 "StampSheetsLaw$Sim" "strength" "[I", .fieldLink RX5 20 "StampSheetsLaw$Sim" "wear" "[I", .arrayClass .boolean, .fieldLink RX5 23 "StampSheetsLaw$Sim" "broken" "[Z", .classLink RX5 27 "[[Z", .fieldLink RX5 29 "StampSheetsLaw$Sim" "plate" "[[Z", .classLink RX5 32 "[[I", .fieldLink RX5 34 "StampSheetsLaw$Sim" "sheets" "[[[I", .fieldLink RX5 38 "StampSheetsLaw$Sim" "torn" "[[[Z"] ++ wsX50)
def wsX5_sheet : List Cond := .code yX5_sheet cX5_sheet 5 (some (.array (.array .int))) :: ([.classLink RX5 32 "[[I", .arrayClass .int, .fieldLink RX5 46 "StampSheetsLaw$Sim" "error" "I", .fieldLink RX5 7 "StampSheetsLaw$Sim" "feed" "I", .fieldLink RX5 23 "StampSheetsLaw$Sim" "broken" "[Z", .fieldLink RX5 29 "StampSheetsLaw$Sim" "plate" "[[Z", .fieldLink RX5 49 "StampSheetsLaw$Sim" "ran" "I", .fieldLink RX5 13 "StampSheetsLaw$Sim" "step" "I", .fieldLink RX5 20 "StampSheetsLaw$Sim" "wear" "[I", .fieldLink RX5 16 "StampSheetsLaw$Sim" "strength" "[I", .fieldLink RX5 52 "StampSheetsLaw$Sim" "left" "I", .fieldLink RX5 43 "StampSheetsLaw$Sim" "drift" "I"] ++ wsX50)
def wsX5_run : List Cond := .code yX5_run cX5_run 5 (some .int) :: ([.fieldLink RX5 34 "StampSheetsLaw$Sim" "sheets" "[[[I", .classLink RX5 32 "[[I", .fieldLink RX5 38 "StampSheetsLaw$Sim" "torn" "[[[Z", .classLink RX5 27 "[[Z", .arrayClass .boolean, .methodLink RX5 55 yX5_sheet, .instanceMethod yX5_sheet, .selects RX5 yX5_sheet yX5_sheet, .initialized RX5, .code yX5_sheet cX5_sheet 5 (some (.array (.array .int))), .arrayClass .int, .fieldLink RX5 46 "StampSheetsLaw$Sim" "error" "I", .fieldLink RX5 7 "StampSheetsLaw$Sim" "feed" "I", .fieldLink RX5 23 "StampSheetsLaw$Sim" "broken" "[Z", .fieldLink RX5 29 "StampSheetsLaw$Sim" "plate" "[[Z", .fieldLink RX5 49 "StampSheetsLaw$Sim" "ran" "I", .fieldLink RX5 13 "StampSheetsLaw$Sim" "step" "I", .fieldLink RX5 20 "StampSheetsLaw$Sim" "wear" "[I", .fieldLink RX5 16 "StampSheetsLaw$Sim" "strength" "[I", .fieldLink RX5 52 "StampSheetsLaw$Sim" "left" "I", .fieldLink RX5 43 "StampSheetsLaw$Sim" "drift" "I"] ++ wsX50)
def wsX5_worth : List Cond := .code yX5_worth cX5_worth 2 (some .int) :: ([])
def wsX5_told : List Cond := .code yX5_told cX5_told 10 (some .int) :: ([.fieldLink RX5 34 "StampSheetsLaw$Sim" "sheets" "[[[I", .fieldLink RX5 38 "StampSheetsLaw$Sim" "torn" "[[[Z", .arrayClass .boolean, .methodLink RX5 63 Lib.Math.max.name, .static Lib.Math.max.name, .initialized "java/lang/Math", .code Lib.Math.max.name Lib.Math.max.code 2 (some .int), .methodLink RX5 59 yX5_worth, .static yX5_worth, .initialized RX5, .code yX5_worth cX5_worth 2 (some .int)] ++ wsX50)
def wsX5_broken : List Cond := .code yX5_broken cX5_broken 6 (some .int) :: ([.fieldLink RX5 23 "StampSheetsLaw$Sim" "broken" "[Z"] ++ wsX50)
def wsX5_isSame_r1 : List Cond := [Cond.fieldLink RX5 34 "StampSheetsLaw$Sim" "sheets" "[[[I", Cond.arrayClass .int, Cond.fieldLink RX5 16 "StampSheetsLaw$Sim" "strength" "[I", Cond.fieldLink RX5 20 "StampSheetsLaw$Sim" "wear" "[I", Cond.fieldLink RX5 23 "StampSheetsLaw$Sim" "broken" "[Z", Cond.fieldLink RX5 29 "StampSheetsLaw$Sim" "plate" "[[Z", Cond.fieldLink RX5 7 "StampSheetsLaw$Sim" "feed" "I", Cond.fieldLink RX5 43 "StampSheetsLaw$Sim" "drift" "I", Cond.fieldLink RX5 46 "StampSheetsLaw$Sim" "error" "I", Cond.fieldLink RX5 52 "StampSheetsLaw$Sim" "left" "I", Cond.fieldLink RX5 13 "StampSheetsLaw$Sim" "step" "I", Cond.fieldLink RX5 49 "StampSheetsLaw$Sim" "ran" "I", Cond.methodLink RX5 69 yX4_sheet, Cond.instanceMethod yX4_sheet, Cond.selects RX4 yX4_sheet yX4_sheet, Cond.initialized RX4, Cond.code yX4_sheet cX4_sheet 3 (some .int), Cond.fieldLink RX4 29 "StampSheets" "sheetStore" "[LStampSheets$Sheet;", Cond.methodLink RX4 100 yX4_checkSheet, Cond.instanceMethod yX4_checkSheet, Cond.selects RX4 yX4_checkSheet yX4_checkSheet, Cond.code yX4_checkSheet cX4_checkSheet 2 none, Cond.classLink RX4 150 "java/lang/IndexOutOfBoundsException", Cond.initialized "java/lang/IndexOutOfBoundsException"]
def wsX5_isSame_r2 : List Cond := [Cond.fieldLink RX4 88 "StampSheets" "sheetCount" "I", Cond.methodLink RX4 34 yX4_isWithin, Cond.static yX4_isWithin, Cond.code yX4_isWithin cX4_isWithin 3 (some .boolean), Cond.methodLink RX4 116 yX4_checkWhat, Cond.static yX4_checkWhat, Cond.code yX4_checkWhat cX4_checkWhat 2 none, Cond.methodLink RX4 119 yX2_answer, Cond.instanceMethod yX2_answer, Cond.selects RX2 yX2_answer yX2_answer, Cond.initialized RX2, Cond.code yX2_answer cX2_answer 2 (some .int), Cond.methodLink RX2 19 yX2_left, Cond.instanceMethod yX2_left, Cond.selects RX2 yX2_left yX2_left, Cond.code yX2_left cX2_left 3 (some .int), Cond.fieldLink RX2 15 "StampSheets$Sheet" "tornOff" "[Z", Cond.methodLink RX2 23 yX2_leftWith, Cond.instanceMethod yX2_leftWith, Cond.selects RX2 yX2_leftWith yX2_leftWith, Cond.code yX2_leftWith cX2_leftWith 4 (some .int), Cond.methodLink RX2 42 yX2_isLeftWith, Cond.instanceMethod yX2_isLeftWith, Cond.selects RX2 yX2_isLeftWith yX2_isLeftWith]
def wsX5_isSame_r3 : List Cond := [Cond.code yX2_isLeftWith cX2_isLeftWith 3 (some .boolean), Cond.fieldLink RX2 9 "StampSheets$Sheet" "faultSets" "[I", Cond.methodLink RX2 27 yX2_worth, Cond.instanceMethod yX2_worth, Cond.selects RX2 yX2_worth yX2_worth, Cond.code yX2_worth cX2_worth 3 (some .int), Cond.methodLink RX2 39 yX2_worthOf, Cond.instanceMethod yX2_worthOf, Cond.selects RX2 yX2_worthOf yX2_worthOf, Cond.code yX2_worthOf cX2_worthOf 4 (some .int), Cond.methodLink RX2 30 yX2_invertedPairs, Cond.instanceMethod yX2_invertedPairs, Cond.selects RX2 yX2_invertedPairs yX2_invertedPairs, Cond.code yX2_invertedPairs cX2_invertedPairs 4 (some .int), Cond.methodLink RX2 46 yX2_isInvertedPair, Cond.instanceMethod yX2_isInvertedPair, Cond.selects RX2 yX2_isInvertedPair yX2_isInvertedPair, Cond.code yX2_isInvertedPair cX2_isInvertedPair 3 (some .boolean), Cond.methodLink RX2 33 yX2_rowsOff, Cond.instanceMethod yX2_rowsOff, Cond.selects RX2 yX2_rowsOff yX2_rowsOff, Cond.code yX2_rowsOff cX2_rowsOff 3 (some .int), Cond.methodLink RX2 36 yX2_greatestBlock, Cond.instanceMethod yX2_greatestBlock]
def wsX5_isSame_r4 : List Cond := [Cond.selects RX2 yX2_greatestBlock yX2_greatestBlock, Cond.code yX2_greatestBlock cX2_greatestBlock 5 (some .int), Cond.methodLink RX2 56 Lib.Math.max.name, Cond.static Lib.Math.max.name, Cond.initialized "java/lang/Math", Cond.code Lib.Math.max.name Lib.Math.max.code 2 (some .int), Cond.methodLink RX2 50 yX2_goodColumns, Cond.instanceMethod yX2_goodColumns, Cond.selects RX2 yX2_goodColumns yX2_goodColumns, Cond.code yX2_goodColumns cX2_goodColumns 4 (some .int), Cond.methodLink RX2 53 yX2_longestRun, Cond.static yX2_longestRun, Cond.code yX2_longestRun cX2_longestRun 4 (some .int), Cond.methodLink RX5 73 yX5_told, Cond.instanceMethod yX5_told, Cond.selects RX5 yX5_told yX5_told, Cond.initialized RX5, Cond.code yX5_told cX5_told 10 (some .int), Cond.fieldLink RX5 38 "StampSheetsLaw$Sim" "torn" "[[[Z", Cond.arrayClass .boolean, Cond.methodLink RX5 63 Lib.Math.max.name, Cond.methodLink RX5 59 yX5_worth, Cond.static yX5_worth, Cond.code yX5_worth cX5_worth 2 (some .int)]
def wsX5_isSame_r5 : List Cond := [Cond.methodLink RX5 76 yX4_faults, Cond.instanceMethod yX4_faults, Cond.selects RX4 yX4_faults yX4_faults, Cond.code yX4_faults cX4_faults 4 (some .int), Cond.methodLink RX4 84 yX4_checkPlace, Cond.static yX4_checkPlace, Cond.code yX4_checkPlace cX4_checkPlace 2 none, Cond.methodLink RX5 80 yX4_pin, Cond.instanceMethod yX4_pin, Cond.selects RX4 yX4_pin yX4_pin, Cond.code yX4_pin cX4_pin 3 (some .int), Cond.fieldLink RX4 12 "StampSheets" "machine" "LStampSheets$Machine;", Cond.methodLink RX4 66 yX4_checkPin, Cond.static yX4_checkPin, Cond.code yX4_checkPin cX4_checkPin 1 none, Cond.methodLink RX4 122 yX1_answer, Cond.instanceMethod yX1_answer, Cond.selects RX1 yX1_answer yX1_answer, Cond.initialized RX1, Cond.code yX1_answer cX1_answer 2 (some .int), Cond.fieldLink RX1 9 "StampSheets$Pin" "strength" "I", Cond.fieldLink RX1 15 "StampSheets$Pin" "wear" "I", Cond.methodLink RX1 18 yX1_isWhole, Cond.instanceMethod yX1_isWhole]
def wsX5_isSame_r6 : List Cond := [Cond.selects RX1 yX1_isWhole yX1_isWhole, Cond.code yX1_isWhole cX1_isWhole 1 (some .boolean), Cond.methodLink RX5 83 yX5_broken, Cond.instanceMethod yX5_broken, Cond.selects RX5 yX5_broken yX5_broken, Cond.code yX5_broken cX5_broken 6 (some .int), Cond.methodLink RX5 86 yX4_count, Cond.instanceMethod yX4_count, Cond.selects RX4 yX4_count yX4_count, Cond.code yX4_count cX4_count 2 (some .int), Cond.methodLink RX4 123 yX4_countAnswer, Cond.instanceMethod yX4_countAnswer, Cond.selects RX4 yX4_countAnswer yX4_countAnswer, Cond.code yX4_countAnswer cX4_countAnswer 2 (some .int), Cond.methodLink RX4 163 yX0_brokenPins, Cond.instanceMethod yX0_brokenPins, Cond.selects RX0 yX0_brokenPins yX0_brokenPins, Cond.initialized RX0, Cond.code yX0_brokenPins cX0_brokenPins 3 (some .int), Cond.fieldLink RX0 20 "StampSheets$Machine" "pins" "[LStampSheets$Pin;", Cond.methodLink RX0 75 yX1_isWhole, Cond.methodLink RX4 167 yX4_invertedPlaces, Cond.instanceMethod yX4_invertedPlaces, Cond.selects RX4 yX4_invertedPlaces yX4_invertedPlaces]
def wsX5_isSame_r7 : List Cond := [Cond.code yX4_invertedPlaces cX4_invertedPlaces 3 (some .int), Cond.fieldLink RX4 23 "StampSheets" "plateInverted" "[Z", Cond.methodLink RX4 170 yX4_worthOfSheets, Cond.instanceMethod yX4_worthOfSheets, Cond.selects RX4 yX4_worthOfSheets yX4_worthOfSheets, Cond.code yX4_worthOfSheets cX4_worthOfSheets 3 (some .int), Cond.methodLink RX4 173 yX2_worth, Cond.methodLink RX5 90 yX4_share, Cond.instanceMethod yX4_share, Cond.selects RX4 yX4_share yX4_share, Cond.code yX4_share cX4_share 2 (some .double), Cond.methodLink RX4 139 yX4_stampsWith, Cond.instanceMethod yX4_stampsWith, Cond.selects RX4 yX4_stampsWith yX4_stampsWith, Cond.code yX4_stampsWith cX4_stampsWith 4 (some .int), Cond.methodLink RX4 176 yX2_leftWith]
def wsX5_isSame : List Cond := .code yX5_isSame cX5_isSame 13 (some .boolean) :: ((wsX5_isSame_r1 ++ (wsX5_isSame_r2 ++ (wsX5_isSame_r3 ++ (wsX5_isSame_r4 ++ (wsX5_isSame_r5 ++ (wsX5_isSame_r6 ++ wsX5_isSame_r7)))))) ++ wsX50 ++ wsX40 ++ wsX20 ++ wsX00 ++ wsX10 ++ (vx_atS RX4 154 "java/lang/IndexOutOfBoundsException" ["java/lang/RuntimeException", "java/lang/Exception"]).filter goodWord)
def wsJ9_max_7cf53 : List Cond := .code yJ9_max_7cf53 cJ9_max_7cf53 2 (some .int) :: ([])
def wsJ9_min_7cf53 : List Cond := .code yJ9_min_7cf53 cJ9_min_7cf53 2 (some .int) :: ([])
def wsL_below : List Cond := .code yL_below cL_below 2 (some .int) :: ([.constant RL 7 (2147483647)])
def wsL_cell : List Cond := .code yL_cell cL_cell 2 (some .int) :: ([.constant RL 8 (790386105)])
def wsL_act_r1 : List Cond := [Cond.fieldLink RL 9 "StampSheetsLaw$Sim" "sheets" "[[[I", Cond.fieldLink RL 21 "StampSheetsLaw$Sim" "feed" "I", Cond.fieldLink RL 25 "StampSheetsLaw$Sim" "drift" "I", Cond.fieldLink RL 33 "StampSheetsLaw$Sim" "error" "I", Cond.fieldLink RL 40 "StampSheetsLaw$Sim" "left" "I", Cond.fieldLink RL 43 "StampSheetsLaw$Sim" "step" "I", Cond.fieldLink RL 46 "StampSheetsLaw$Sim" "ran" "I", Cond.fieldLink RL 52 "StampSheetsLaw$Sim" "wear" "[I", Cond.fieldLink RL 56 "StampSheetsLaw$Sim" "strength" "[I", Cond.methodLink RL 59 ⟨"[I", "clone", "()Ljava/lang/Object;"⟩, Cond.sameMethod "[I" "java/lang/Object" "clone" "()Ljava/lang/Object;", Cond.native ⟨"java/lang/Object", "clone", "()Ljava/lang/Object;"⟩, Cond.instanceMethod ⟨"java/lang/Object", "clone", "()Ljava/lang/Object;"⟩, Cond.selects "[I" ⟨"[I", "clone", "()Ljava/lang/Object;"⟩ ⟨"java/lang/Object", "clone", "()Ljava/lang/Object;"⟩, Cond.classLink RL 60 "[I", Cond.fieldLink RL 64 "StampSheetsLaw$Sim" "broken" "[Z", Cond.fieldLink RL 71 "StampSheetsLaw$Sim" "plate" "[[Z", Cond.fieldLink RL 83 "StampSheetsLaw$Sim" "torn" "[[[Z", Cond.methodLink RL 15 yL_below, Cond.static yL_below, Cond.initialized RL, Cond.code yL_below cL_below 2 (some .int), Cond.constant RL 7 (2147483647), Cond.methodLink RL 28 yX4_setFeed]
def wsL_act_r2 : List Cond := [Cond.instanceMethod yX4_setFeed, Cond.selects RX4 yX4_setFeed yX4_setFeed, Cond.initialized RX4, Cond.code yX4_setFeed cX4_setFeed 4 (some .int), Cond.classLink RX4 38 "java/lang/IllegalArgumentException", Cond.initialized "java/lang/IllegalArgumentException", Cond.fieldLink RX4 12 "StampSheets" "machine" "LStampSheets$Machine;", Cond.methodLink RX4 34 yX4_isWithin, Cond.static yX4_isWithin, Cond.code yX4_isWithin cX4_isWithin 3 (some .boolean), Cond.methodLink RL 36 yX4_align, Cond.instanceMethod yX4_align, Cond.selects RX4 yX4_align yX4_align, Cond.code yX4_align cX4_align 2 (some .int), Cond.methodLink RL 49 yX4_roll, Cond.instanceMethod yX4_roll, Cond.selects RX4 yX4_roll yX4_roll, Cond.code yX4_roll cX4_roll 4 (some .int), Cond.methodLink RL 68 yX4_fit, Cond.instanceMethod yX4_fit, Cond.selects RX4 yX4_fit yX4_fit, Cond.code yX4_fit cX4_fit 5 (some .int), Cond.methodLink RX4 66 yX4_checkPin, Cond.static yX4_checkPin]
def wsL_act_r3 : List Cond := [Cond.code yX4_checkPin cX4_checkPin 1 none, Cond.classLink RX4 150 "java/lang/IndexOutOfBoundsException", Cond.initialized "java/lang/IndexOutOfBoundsException", Cond.methodLink RL 75 yX4_turn, Cond.instanceMethod yX4_turn, Cond.selects RX4 yX4_turn yX4_turn, Cond.code yX4_turn cX4_turn 4 (some .boolean), Cond.fieldLink RX4 23 "StampSheets" "plateInverted" "[Z", Cond.methodLink RX4 84 yX4_checkPlace, Cond.static yX4_checkPlace, Cond.code yX4_checkPlace cX4_checkPlace 2 none, Cond.methodLink RL 79 yX4_run, Cond.instanceMethod yX4_run, Cond.selects RX4 yX4_run yX4_run, Cond.code yX4_run cX4_run 1 (some .int), Cond.classLink RX4 91 "java/lang/IllegalStateException", Cond.initialized "java/lang/IllegalStateException", Cond.fieldLink RX4 88 "StampSheets" "sheetCount" "I", Cond.fieldLink RX4 29 "StampSheets" "sheetStore" "[LStampSheets$Sheet;", Cond.methodLink RX4 96 yX0_perforate, Cond.instanceMethod yX0_perforate, Cond.selects RX0 yX0_perforate yX0_perforate, Cond.initialized RX0, Cond.code yX0_perforate cX0_perforate 4 none]
def wsL_act_r4 : List Cond := [Cond.fieldLink RX0 32 "StampSheets$Machine" "error" "I", Cond.fieldLink RX0 9 "StampSheets$Machine" "feed" "I", Cond.fieldLink RX0 35 "StampSheets$Machine" "rowsLeft" "I", Cond.fieldLink RX0 38 "StampSheets$Machine" "rowsRun" "I", Cond.fieldLink RX0 29 "StampSheets$Machine" "drift" "I", Cond.methodLink RX0 48 Lib.Math.min.name, Cond.static Lib.Math.min.name, Cond.initialized "java/lang/Math", Cond.code Lib.Math.min.name Lib.Math.min.code 2 (some .int), Cond.methodLink RX0 54 Lib.Math.max.name, Cond.static Lib.Math.max.name, Cond.code Lib.Math.max.name Lib.Math.max.code 2 (some .int), Cond.methodLink RX0 41 yX0_markRow, Cond.instanceMethod yX0_markRow, Cond.selects RX0 yX0_markRow yX0_markRow, Cond.code yX0_markRow cX0_markRow 8 none, Cond.methodLink RX0 61 yX0_holeFaults, Cond.instanceMethod yX0_holeFaults, Cond.selects RX0 yX0_holeFaults yX0_holeFaults, Cond.code yX0_holeFaults cX0_holeFaults 3 (some .int), Cond.fieldLink RX0 20 "StampSheets$Machine" "pins" "[LStampSheets$Pin;", Cond.methodLink RX0 75 yX1_isWhole, Cond.instanceMethod yX1_isWhole, Cond.selects RX1 yX1_isWhole yX1_isWhole]
def wsL_act_r5 : List Cond := [Cond.initialized RX1, Cond.code yX1_isWhole cX1_isWhole 1 (some .boolean), Cond.fieldLink RX1 15 "StampSheets$Pin" "wear" "I", Cond.fieldLink RX1 9 "StampSheets$Pin" "strength" "I", Cond.methodLink RX0 65 yX0_hasWatermark, Cond.instanceMethod yX0_hasWatermark, Cond.selects RX0 yX0_hasWatermark yX0_hasWatermark, Cond.code yX0_hasWatermark cX0_hasWatermark 2 (some .boolean), Cond.fieldLink RX0 15 "StampSheets$Machine" "step" "I", Cond.methodLink RX0 45 yX0_strikeAll, Cond.instanceMethod yX0_strikeAll, Cond.selects RX0 yX0_strikeAll yX0_strikeAll, Cond.code yX0_strikeAll cX0_strikeAll 2 none, Cond.methodLink RX0 79 yX1_strike, Cond.instanceMethod yX1_strike, Cond.selects RX1 yX1_strike yX1_strike, Cond.code yX1_strike cX1_strike 1 none, Cond.methodLink RX1 18 yX1_isWhole, Cond.methodLink RL 82 yX5_run, Cond.instanceMethod yX5_run, Cond.selects RX5 yX5_run yX5_run, Cond.initialized RX5, Cond.code yX5_run cX5_run 5 (some .int), Cond.fieldLink RX5 34 "StampSheetsLaw$Sim" "sheets" "[[[I"]
def wsL_act_r6 : List Cond := [Cond.classLink RX5 32 "[[I", Cond.fieldLink RX5 38 "StampSheetsLaw$Sim" "torn" "[[[Z", Cond.classLink RX5 27 "[[Z", Cond.arrayClass .boolean, Cond.methodLink RX5 55 yX5_sheet, Cond.instanceMethod yX5_sheet, Cond.selects RX5 yX5_sheet yX5_sheet, Cond.code yX5_sheet cX5_sheet 5 (some (.array (.array .int))), Cond.arrayClass .int, Cond.fieldLink RX5 46 "StampSheetsLaw$Sim" "error" "I", Cond.fieldLink RX5 7 "StampSheetsLaw$Sim" "feed" "I", Cond.fieldLink RX5 23 "StampSheetsLaw$Sim" "broken" "[Z", Cond.fieldLink RX5 29 "StampSheetsLaw$Sim" "plate" "[[Z", Cond.fieldLink RX5 49 "StampSheetsLaw$Sim" "ran" "I", Cond.fieldLink RX5 13 "StampSheetsLaw$Sim" "step" "I", Cond.fieldLink RX5 20 "StampSheetsLaw$Sim" "wear" "[I", Cond.fieldLink RX5 16 "StampSheetsLaw$Sim" "strength" "[I", Cond.fieldLink RX5 52 "StampSheetsLaw$Sim" "left" "I", Cond.fieldLink RX5 43 "StampSheetsLaw$Sim" "drift" "I", Cond.methodLink RL 87 yX5_worth, Cond.static yX5_worth, Cond.code yX5_worth cX5_worth 2 (some .int), Cond.methodLink RL 91 yX4_tear, Cond.instanceMethod yX4_tear]
def wsL_act_r7 : List Cond := [Cond.selects RX4 yX4_tear yX4_tear, Cond.code yX4_tear cX4_tear 7 (some .int), Cond.methodLink RX4 100 yX4_checkSheet, Cond.instanceMethod yX4_checkSheet, Cond.selects RX4 yX4_checkSheet yX4_checkSheet, Cond.code yX4_checkSheet cX4_checkSheet 2 none, Cond.methodLink RX4 112 yX2_worthOf, Cond.instanceMethod yX2_worthOf, Cond.selects RX2 yX2_worthOf yX2_worthOf, Cond.initialized RX2, Cond.code yX2_worthOf cX2_worthOf 4 (some .int), Cond.fieldLink RX2 9 "StampSheets$Sheet" "faultSets" "[I", Cond.fieldLink RX2 15 "StampSheets$Sheet" "tornOff" "[Z"]
def wsL_act : List Cond := .code yL_act cL_act 16 (some .boolean) :: ((wsL_act_r1 ++ (wsL_act_r2 ++ (wsL_act_r3 ++ (wsL_act_r4 ++ (wsL_act_r5 ++ (wsL_act_r6 ++ wsL_act_r7)))))) ++ wsX50 ++ wsX40 ++ wsX00 ++ wsX10 ++ wsX20 ++ (vx_atS RX4 42 "java/lang/IllegalArgumentException" ["java/lang/RuntimeException", "java/lang/Exception"]).filter goodWord ++ (vx_atS RX4 154 "java/lang/IndexOutOfBoundsException" ["java/lang/RuntimeException", "java/lang/Exception"]).filter goodWord ++ (vx_atS RX4 95 "java/lang/IllegalStateException" ["java/lang/RuntimeException", "java/lang/Exception"]).filter goodWord)
def wsL_build_r1 : List Cond := [Cond.classLink RL 10 RX5, Cond.instantiable RX5 12, Cond.initialized RX5, Cond.instanceMethod yX5_init, Cond.code yX5_init cX5_init 1 none, Cond.methodLink RX5 1 objectInit, Cond.instanceMethod objectInit, Cond.code objectInit ⟨#[0xb1]⟩ 1 none, Cond.fieldLink RX5 7 "StampSheetsLaw$Sim" "feed" "I", Cond.fieldLink RX5 13 "StampSheetsLaw$Sim" "step" "I", Cond.arrayClass .int, Cond.fieldLink RX5 16 "StampSheetsLaw$Sim" "strength" "[I", Cond.fieldLink RX5 20 "StampSheetsLaw$Sim" "wear" "[I", Cond.arrayClass .boolean, Cond.fieldLink RX5 23 "StampSheetsLaw$Sim" "broken" "[Z", Cond.classLink RX5 27 "[[Z", Cond.fieldLink RX5 29 "StampSheetsLaw$Sim" "plate" "[[Z", Cond.classLink RX5 32 "[[I", Cond.fieldLink RX5 34 "StampSheetsLaw$Sim" "sheets" "[[[I", Cond.fieldLink RX5 38 "StampSheetsLaw$Sim" "torn" "[[[Z", Cond.methodLink RL 96 yL_cell, Cond.static yL_cell, Cond.initialized RL, Cond.code yL_cell cL_cell 2 (some .int)]
def wsL_build_r2 : List Cond := [Cond.constant RL 8 (790386105), Cond.methodLink RL 100 yL_act, Cond.static yL_act, Cond.code yL_act cL_act 16 (some .boolean), Cond.fieldLink RL 9 "StampSheetsLaw$Sim" "sheets" "[[[I", Cond.fieldLink RL 21 "StampSheetsLaw$Sim" "feed" "I", Cond.fieldLink RL 25 "StampSheetsLaw$Sim" "drift" "I", Cond.fieldLink RL 33 "StampSheetsLaw$Sim" "error" "I", Cond.fieldLink RL 40 "StampSheetsLaw$Sim" "left" "I", Cond.fieldLink RL 43 "StampSheetsLaw$Sim" "step" "I", Cond.fieldLink RL 46 "StampSheetsLaw$Sim" "ran" "I", Cond.fieldLink RL 52 "StampSheetsLaw$Sim" "wear" "[I", Cond.fieldLink RL 56 "StampSheetsLaw$Sim" "strength" "[I", Cond.methodLink RL 59 ⟨"[I", "clone", "()Ljava/lang/Object;"⟩, Cond.sameMethod "[I" "java/lang/Object" "clone" "()Ljava/lang/Object;", Cond.native ⟨"java/lang/Object", "clone", "()Ljava/lang/Object;"⟩, Cond.instanceMethod ⟨"java/lang/Object", "clone", "()Ljava/lang/Object;"⟩, Cond.selects "[I" ⟨"[I", "clone", "()Ljava/lang/Object;"⟩ ⟨"java/lang/Object", "clone", "()Ljava/lang/Object;"⟩, Cond.classLink RL 60 "[I", Cond.fieldLink RL 64 "StampSheetsLaw$Sim" "broken" "[Z", Cond.fieldLink RL 71 "StampSheetsLaw$Sim" "plate" "[[Z", Cond.fieldLink RL 83 "StampSheetsLaw$Sim" "torn" "[[[Z", Cond.methodLink RL 15 yL_below, Cond.static yL_below]
def wsL_build_r3 : List Cond := [Cond.code yL_below cL_below 2 (some .int), Cond.constant RL 7 (2147483647), Cond.methodLink RL 28 yX4_setFeed, Cond.instanceMethod yX4_setFeed, Cond.selects RX4 yX4_setFeed yX4_setFeed, Cond.initialized RX4, Cond.code yX4_setFeed cX4_setFeed 4 (some .int), Cond.classLink RX4 38 "java/lang/IllegalArgumentException", Cond.initialized "java/lang/IllegalArgumentException", Cond.fieldLink RX4 12 "StampSheets" "machine" "LStampSheets$Machine;", Cond.methodLink RX4 34 yX4_isWithin, Cond.static yX4_isWithin, Cond.code yX4_isWithin cX4_isWithin 3 (some .boolean), Cond.methodLink RL 36 yX4_align, Cond.instanceMethod yX4_align, Cond.selects RX4 yX4_align yX4_align, Cond.code yX4_align cX4_align 2 (some .int), Cond.methodLink RL 49 yX4_roll, Cond.instanceMethod yX4_roll, Cond.selects RX4 yX4_roll yX4_roll, Cond.code yX4_roll cX4_roll 4 (some .int), Cond.methodLink RL 68 yX4_fit, Cond.instanceMethod yX4_fit, Cond.selects RX4 yX4_fit yX4_fit]
def wsL_build_r4 : List Cond := [Cond.code yX4_fit cX4_fit 5 (some .int), Cond.methodLink RX4 66 yX4_checkPin, Cond.static yX4_checkPin, Cond.code yX4_checkPin cX4_checkPin 1 none, Cond.classLink RX4 150 "java/lang/IndexOutOfBoundsException", Cond.initialized "java/lang/IndexOutOfBoundsException", Cond.methodLink RL 75 yX4_turn, Cond.instanceMethod yX4_turn, Cond.selects RX4 yX4_turn yX4_turn, Cond.code yX4_turn cX4_turn 4 (some .boolean), Cond.fieldLink RX4 23 "StampSheets" "plateInverted" "[Z", Cond.methodLink RX4 84 yX4_checkPlace, Cond.static yX4_checkPlace, Cond.code yX4_checkPlace cX4_checkPlace 2 none, Cond.methodLink RL 79 yX4_run, Cond.instanceMethod yX4_run, Cond.selects RX4 yX4_run yX4_run, Cond.code yX4_run cX4_run 1 (some .int), Cond.classLink RX4 91 "java/lang/IllegalStateException", Cond.initialized "java/lang/IllegalStateException", Cond.fieldLink RX4 88 "StampSheets" "sheetCount" "I", Cond.fieldLink RX4 29 "StampSheets" "sheetStore" "[LStampSheets$Sheet;", Cond.methodLink RX4 96 yX0_perforate, Cond.instanceMethod yX0_perforate]
def wsL_build_r5 : List Cond := [Cond.selects RX0 yX0_perforate yX0_perforate, Cond.initialized RX0, Cond.code yX0_perforate cX0_perforate 4 none, Cond.fieldLink RX0 32 "StampSheets$Machine" "error" "I", Cond.fieldLink RX0 9 "StampSheets$Machine" "feed" "I", Cond.fieldLink RX0 35 "StampSheets$Machine" "rowsLeft" "I", Cond.fieldLink RX0 38 "StampSheets$Machine" "rowsRun" "I", Cond.fieldLink RX0 29 "StampSheets$Machine" "drift" "I", Cond.methodLink RX0 48 Lib.Math.min.name, Cond.static Lib.Math.min.name, Cond.initialized "java/lang/Math", Cond.code Lib.Math.min.name Lib.Math.min.code 2 (some .int), Cond.methodLink RX0 54 Lib.Math.max.name, Cond.static Lib.Math.max.name, Cond.code Lib.Math.max.name Lib.Math.max.code 2 (some .int), Cond.methodLink RX0 41 yX0_markRow, Cond.instanceMethod yX0_markRow, Cond.selects RX0 yX0_markRow yX0_markRow, Cond.code yX0_markRow cX0_markRow 8 none, Cond.methodLink RX0 61 yX0_holeFaults, Cond.instanceMethod yX0_holeFaults, Cond.selects RX0 yX0_holeFaults yX0_holeFaults, Cond.code yX0_holeFaults cX0_holeFaults 3 (some .int), Cond.fieldLink RX0 20 "StampSheets$Machine" "pins" "[LStampSheets$Pin;"]
def wsL_build_r6 : List Cond := [Cond.methodLink RX0 75 yX1_isWhole, Cond.instanceMethod yX1_isWhole, Cond.selects RX1 yX1_isWhole yX1_isWhole, Cond.initialized RX1, Cond.code yX1_isWhole cX1_isWhole 1 (some .boolean), Cond.fieldLink RX1 15 "StampSheets$Pin" "wear" "I", Cond.fieldLink RX1 9 "StampSheets$Pin" "strength" "I", Cond.methodLink RX0 65 yX0_hasWatermark, Cond.instanceMethod yX0_hasWatermark, Cond.selects RX0 yX0_hasWatermark yX0_hasWatermark, Cond.code yX0_hasWatermark cX0_hasWatermark 2 (some .boolean), Cond.fieldLink RX0 15 "StampSheets$Machine" "step" "I", Cond.methodLink RX0 45 yX0_strikeAll, Cond.instanceMethod yX0_strikeAll, Cond.selects RX0 yX0_strikeAll yX0_strikeAll, Cond.code yX0_strikeAll cX0_strikeAll 2 none, Cond.methodLink RX0 79 yX1_strike, Cond.instanceMethod yX1_strike, Cond.selects RX1 yX1_strike yX1_strike, Cond.code yX1_strike cX1_strike 1 none, Cond.methodLink RX1 18 yX1_isWhole, Cond.methodLink RL 82 yX5_run, Cond.instanceMethod yX5_run, Cond.selects RX5 yX5_run yX5_run]
def wsL_build_r7 : List Cond := [Cond.code yX5_run cX5_run 5 (some .int), Cond.methodLink RX5 55 yX5_sheet, Cond.instanceMethod yX5_sheet, Cond.selects RX5 yX5_sheet yX5_sheet, Cond.code yX5_sheet cX5_sheet 5 (some (.array (.array .int))), Cond.fieldLink RX5 46 "StampSheetsLaw$Sim" "error" "I", Cond.fieldLink RX5 49 "StampSheetsLaw$Sim" "ran" "I", Cond.fieldLink RX5 52 "StampSheetsLaw$Sim" "left" "I", Cond.fieldLink RX5 43 "StampSheetsLaw$Sim" "drift" "I", Cond.methodLink RL 87 yX5_worth, Cond.static yX5_worth, Cond.code yX5_worth cX5_worth 2 (some .int), Cond.methodLink RL 91 yX4_tear, Cond.instanceMethod yX4_tear, Cond.selects RX4 yX4_tear yX4_tear, Cond.code yX4_tear cX4_tear 7 (some .int), Cond.methodLink RX4 100 yX4_checkSheet, Cond.instanceMethod yX4_checkSheet, Cond.selects RX4 yX4_checkSheet yX4_checkSheet, Cond.code yX4_checkSheet cX4_checkSheet 2 none, Cond.methodLink RX4 112 yX2_worthOf, Cond.instanceMethod yX2_worthOf, Cond.selects RX2 yX2_worthOf yX2_worthOf, Cond.initialized RX2]
def wsL_build_r8 : List Cond := [Cond.code yX2_worthOf cX2_worthOf 4 (some .int), Cond.fieldLink RX2 9 "StampSheets$Sheet" "faultSets" "[I", Cond.fieldLink RX2 15 "StampSheets$Sheet" "tornOff" "[Z"]
def wsL_build : List Cond := .code yL_build cL_build 4 (some (.object "StampSheetsLaw$Sim")) :: ((wsL_build_r1 ++ (wsL_build_r2 ++ (wsL_build_r3 ++ (wsL_build_r4 ++ (wsL_build_r5 ++ (wsL_build_r6 ++ (wsL_build_r7 ++ wsL_build_r8))))))) ++ wsX50 ++ wsX40 ++ wsX00 ++ wsX10 ++ wsX20 ++ (vx_atS RX4 42 "java/lang/IllegalArgumentException" ["java/lang/RuntimeException", "java/lang/Exception"]).filter goodWord ++ (vx_atS RX4 154 "java/lang/IndexOutOfBoundsException" ["java/lang/RuntimeException", "java/lang/Exception"]).filter goodWord ++ (vx_atS RX4 95 "java/lang/IllegalStateException" ["java/lang/RuntimeException", "java/lang/Exception"]).filter goodWord)
def wsL_law0_r1 : List Cond := [Cond.classLink RL 29 RX4, Cond.instantiable RX4 5, Cond.initialized RX4, Cond.arrayClass .int, Cond.methodLink RL 125 Lib.Math.max.name, Cond.static Lib.Math.max.name, Cond.initialized "java/lang/Math", Cond.code Lib.Math.max.name Lib.Math.max.code 2 (some .int), Cond.methodLink RL 104 yX4_init, Cond.instanceMethod yX4_init, Cond.code yX4_init cX4_init 2 none, Cond.methodLink RX4 3 objectInit, Cond.instanceMethod objectInit, Cond.code objectInit ⟨#[0xb1]⟩ 1 none, Cond.classLink RX4 9 RX0, Cond.instantiable RX0 7, Cond.initialized RX0, Cond.fieldLink RX4 12 "StampSheets" "machine" "LStampSheets$Machine;", Cond.classLink RX4 16 RX3, Cond.instantiable RX3 4, Cond.initialized RX3, Cond.fieldLink RX4 19 "StampSheets" "trial" "LStampSheets$Trial;", Cond.arrayClass .boolean, Cond.fieldLink RX4 23 "StampSheets" "plateInverted" "[Z"]
def wsL_law0_r2 : List Cond := [Cond.classLink RX4 27 RX2, Cond.fieldLink RX4 29 "StampSheets" "sheetStore" "[LStampSheets$Sheet;", Cond.instantiable RX2 2, Cond.initialized RX2, Cond.methodLink RX4 11 yX0_init, Cond.instanceMethod yX0_init, Cond.code yX0_init cX0_init 2 none, Cond.methodLink RX0 3 objectInit, Cond.fieldLink RX0 9 "StampSheets$Machine" "feed" "I", Cond.fieldLink RX0 15 "StampSheets$Machine" "step" "I", Cond.classLink RX0 18 RX1, Cond.fieldLink RX0 20 "StampSheets$Machine" "pins" "[LStampSheets$Pin;", Cond.instantiable RX1 2, Cond.initialized RX1, Cond.instanceMethod yX1_init, Cond.code yX1_init cX1_init 1 none, Cond.methodLink RX1 3 objectInit, Cond.fieldLink RX1 9 "StampSheets$Pin" "strength" "I", Cond.methodLink RX4 18 yX3_init, Cond.instanceMethod yX3_init, Cond.code yX3_init cX3_init 1 none, Cond.methodLink RX3 1 objectInit, Cond.classLink RX3 7 RX0, Cond.fieldLink RX3 10 "StampSheets$Trial" "machine" "LStampSheets$Machine;"]
def wsL_law0_r3 : List Cond := [Cond.classLink RX3 16 RX2, Cond.fieldLink RX3 19 "StampSheets$Trial" "sheet" "LStampSheets$Sheet;", Cond.methodLink RX3 9 yX0_init, Cond.methodLink RX3 18 yX2_init, Cond.instanceMethod yX2_init, Cond.code yX2_init cX2_init 1 none, Cond.methodLink RX2 3 objectInit, Cond.fieldLink RX2 9 "StampSheets$Sheet" "faultSets" "[I", Cond.fieldLink RX2 15 "StampSheets$Sheet" "tornOff" "[Z", Cond.methodLink RX4 33 yX2_init, Cond.methodLink RL 105 yL_build, Cond.static yL_build, Cond.initialized RL, Cond.code yL_build cL_build 4 (some (.object "StampSheetsLaw$Sim")), Cond.classLink RL 10 RX5, Cond.instantiable RX5 12, Cond.initialized RX5, Cond.instanceMethod yX5_init, Cond.code yX5_init cX5_init 1 none, Cond.methodLink RX5 1 objectInit, Cond.fieldLink RX5 7 "StampSheetsLaw$Sim" "feed" "I", Cond.fieldLink RX5 13 "StampSheetsLaw$Sim" "step" "I", Cond.fieldLink RX5 16 "StampSheetsLaw$Sim" "strength" "[I", Cond.fieldLink RX5 20 "StampSheetsLaw$Sim" "wear" "[I"]
def wsL_law0_r4 : List Cond := [Cond.fieldLink RX5 23 "StampSheetsLaw$Sim" "broken" "[Z", Cond.classLink RX5 27 "[[Z", Cond.fieldLink RX5 29 "StampSheetsLaw$Sim" "plate" "[[Z", Cond.classLink RX5 32 "[[I", Cond.fieldLink RX5 34 "StampSheetsLaw$Sim" "sheets" "[[[I", Cond.fieldLink RX5 38 "StampSheetsLaw$Sim" "torn" "[[[Z", Cond.methodLink RL 96 yL_cell, Cond.static yL_cell, Cond.code yL_cell cL_cell 2 (some .int), Cond.constant RL 8 (790386105), Cond.methodLink RL 100 yL_act, Cond.static yL_act, Cond.code yL_act cL_act 16 (some .boolean), Cond.fieldLink RL 9 "StampSheetsLaw$Sim" "sheets" "[[[I", Cond.fieldLink RL 21 "StampSheetsLaw$Sim" "feed" "I", Cond.fieldLink RL 25 "StampSheetsLaw$Sim" "drift" "I", Cond.fieldLink RL 33 "StampSheetsLaw$Sim" "error" "I", Cond.fieldLink RL 40 "StampSheetsLaw$Sim" "left" "I", Cond.fieldLink RL 43 "StampSheetsLaw$Sim" "step" "I", Cond.fieldLink RL 46 "StampSheetsLaw$Sim" "ran" "I", Cond.fieldLink RL 52 "StampSheetsLaw$Sim" "wear" "[I", Cond.fieldLink RL 56 "StampSheetsLaw$Sim" "strength" "[I", Cond.methodLink RL 59 ⟨"[I", "clone", "()Ljava/lang/Object;"⟩, Cond.sameMethod "[I" "java/lang/Object" "clone" "()Ljava/lang/Object;"]
def wsL_law0_r5 : List Cond := [Cond.native ⟨"java/lang/Object", "clone", "()Ljava/lang/Object;"⟩, Cond.instanceMethod ⟨"java/lang/Object", "clone", "()Ljava/lang/Object;"⟩, Cond.selects "[I" ⟨"[I", "clone", "()Ljava/lang/Object;"⟩ ⟨"java/lang/Object", "clone", "()Ljava/lang/Object;"⟩, Cond.classLink RL 60 "[I", Cond.fieldLink RL 64 "StampSheetsLaw$Sim" "broken" "[Z", Cond.fieldLink RL 71 "StampSheetsLaw$Sim" "plate" "[[Z", Cond.fieldLink RL 83 "StampSheetsLaw$Sim" "torn" "[[[Z", Cond.methodLink RL 15 yL_below, Cond.static yL_below, Cond.code yL_below cL_below 2 (some .int), Cond.constant RL 7 (2147483647), Cond.methodLink RL 28 yX4_setFeed, Cond.instanceMethod yX4_setFeed, Cond.selects RX4 yX4_setFeed yX4_setFeed, Cond.code yX4_setFeed cX4_setFeed 4 (some .int), Cond.classLink RX4 38 "java/lang/IllegalArgumentException", Cond.initialized "java/lang/IllegalArgumentException", Cond.methodLink RX4 34 yX4_isWithin, Cond.static yX4_isWithin, Cond.code yX4_isWithin cX4_isWithin 3 (some .boolean), Cond.methodLink RL 36 yX4_align, Cond.instanceMethod yX4_align, Cond.selects RX4 yX4_align yX4_align, Cond.code yX4_align cX4_align 2 (some .int)]
def wsL_law0_r6 : List Cond := [Cond.methodLink RL 49 yX4_roll, Cond.instanceMethod yX4_roll, Cond.selects RX4 yX4_roll yX4_roll, Cond.code yX4_roll cX4_roll 4 (some .int), Cond.methodLink RL 68 yX4_fit, Cond.instanceMethod yX4_fit, Cond.selects RX4 yX4_fit yX4_fit, Cond.code yX4_fit cX4_fit 5 (some .int), Cond.methodLink RX4 66 yX4_checkPin, Cond.static yX4_checkPin, Cond.code yX4_checkPin cX4_checkPin 1 none, Cond.classLink RX4 150 "java/lang/IndexOutOfBoundsException", Cond.initialized "java/lang/IndexOutOfBoundsException", Cond.methodLink RL 75 yX4_turn, Cond.instanceMethod yX4_turn, Cond.selects RX4 yX4_turn yX4_turn, Cond.code yX4_turn cX4_turn 4 (some .boolean), Cond.methodLink RX4 84 yX4_checkPlace, Cond.static yX4_checkPlace, Cond.code yX4_checkPlace cX4_checkPlace 2 none, Cond.methodLink RL 79 yX4_run, Cond.instanceMethod yX4_run, Cond.selects RX4 yX4_run yX4_run, Cond.code yX4_run cX4_run 1 (some .int)]
def wsL_law0_r7 : List Cond := [Cond.classLink RX4 91 "java/lang/IllegalStateException", Cond.initialized "java/lang/IllegalStateException", Cond.fieldLink RX4 88 "StampSheets" "sheetCount" "I", Cond.methodLink RX4 96 yX0_perforate, Cond.instanceMethod yX0_perforate, Cond.selects RX0 yX0_perforate yX0_perforate, Cond.code yX0_perforate cX0_perforate 4 none, Cond.fieldLink RX0 32 "StampSheets$Machine" "error" "I", Cond.fieldLink RX0 35 "StampSheets$Machine" "rowsLeft" "I", Cond.fieldLink RX0 38 "StampSheets$Machine" "rowsRun" "I", Cond.fieldLink RX0 29 "StampSheets$Machine" "drift" "I", Cond.methodLink RX0 48 Lib.Math.min.name, Cond.static Lib.Math.min.name, Cond.code Lib.Math.min.name Lib.Math.min.code 2 (some .int), Cond.methodLink RX0 54 Lib.Math.max.name, Cond.methodLink RX0 41 yX0_markRow, Cond.instanceMethod yX0_markRow, Cond.selects RX0 yX0_markRow yX0_markRow, Cond.code yX0_markRow cX0_markRow 8 none, Cond.methodLink RX0 61 yX0_holeFaults, Cond.instanceMethod yX0_holeFaults, Cond.selects RX0 yX0_holeFaults yX0_holeFaults, Cond.code yX0_holeFaults cX0_holeFaults 3 (some .int), Cond.methodLink RX0 75 yX1_isWhole]
def wsL_law0_r8 : List Cond := [Cond.instanceMethod yX1_isWhole, Cond.selects RX1 yX1_isWhole yX1_isWhole, Cond.code yX1_isWhole cX1_isWhole 1 (some .boolean), Cond.fieldLink RX1 15 "StampSheets$Pin" "wear" "I", Cond.methodLink RX0 65 yX0_hasWatermark, Cond.instanceMethod yX0_hasWatermark, Cond.selects RX0 yX0_hasWatermark yX0_hasWatermark, Cond.code yX0_hasWatermark cX0_hasWatermark 2 (some .boolean), Cond.methodLink RX0 45 yX0_strikeAll, Cond.instanceMethod yX0_strikeAll, Cond.selects RX0 yX0_strikeAll yX0_strikeAll, Cond.code yX0_strikeAll cX0_strikeAll 2 none, Cond.methodLink RX0 79 yX1_strike, Cond.instanceMethod yX1_strike, Cond.selects RX1 yX1_strike yX1_strike, Cond.code yX1_strike cX1_strike 1 none, Cond.methodLink RX1 18 yX1_isWhole, Cond.methodLink RL 82 yX5_run, Cond.instanceMethod yX5_run, Cond.selects RX5 yX5_run yX5_run, Cond.code yX5_run cX5_run 5 (some .int), Cond.methodLink RX5 55 yX5_sheet, Cond.instanceMethod yX5_sheet, Cond.selects RX5 yX5_sheet yX5_sheet]
def wsL_law0_r9 : List Cond := [Cond.code yX5_sheet cX5_sheet 5 (some (.array (.array .int))), Cond.fieldLink RX5 46 "StampSheetsLaw$Sim" "error" "I", Cond.fieldLink RX5 49 "StampSheetsLaw$Sim" "ran" "I", Cond.fieldLink RX5 52 "StampSheetsLaw$Sim" "left" "I", Cond.fieldLink RX5 43 "StampSheetsLaw$Sim" "drift" "I", Cond.methodLink RL 87 yX5_worth, Cond.static yX5_worth, Cond.code yX5_worth cX5_worth 2 (some .int), Cond.methodLink RL 91 yX4_tear, Cond.instanceMethod yX4_tear, Cond.selects RX4 yX4_tear yX4_tear, Cond.code yX4_tear cX4_tear 7 (some .int), Cond.methodLink RX4 100 yX4_checkSheet, Cond.instanceMethod yX4_checkSheet, Cond.selects RX4 yX4_checkSheet yX4_checkSheet, Cond.code yX4_checkSheet cX4_checkSheet 2 none, Cond.methodLink RX4 112 yX2_worthOf, Cond.instanceMethod yX2_worthOf, Cond.selects RX2 yX2_worthOf yX2_worthOf, Cond.code yX2_worthOf cX2_worthOf 4 (some .int), Cond.methodLink RL 109 yX4_count, Cond.instanceMethod yX4_count, Cond.selects RX4 yX4_count yX4_count, Cond.code yX4_count cX4_count 2 (some .int)]
def wsL_law0_r10 : List Cond := [Cond.methodLink RX4 116 yX4_checkWhat, Cond.static yX4_checkWhat, Cond.code yX4_checkWhat cX4_checkWhat 2 none, Cond.methodLink RX4 123 yX4_countAnswer, Cond.instanceMethod yX4_countAnswer, Cond.selects RX4 yX4_countAnswer yX4_countAnswer, Cond.code yX4_countAnswer cX4_countAnswer 2 (some .int), Cond.methodLink RX4 163 yX0_brokenPins, Cond.instanceMethod yX0_brokenPins, Cond.selects RX0 yX0_brokenPins yX0_brokenPins, Cond.code yX0_brokenPins cX0_brokenPins 3 (some .int), Cond.methodLink RX4 167 yX4_invertedPlaces, Cond.instanceMethod yX4_invertedPlaces, Cond.selects RX4 yX4_invertedPlaces yX4_invertedPlaces, Cond.code yX4_invertedPlaces cX4_invertedPlaces 3 (some .int), Cond.methodLink RX4 170 yX4_worthOfSheets, Cond.instanceMethod yX4_worthOfSheets, Cond.selects RX4 yX4_worthOfSheets yX4_worthOfSheets, Cond.code yX4_worthOfSheets cX4_worthOfSheets 3 (some .int), Cond.methodLink RX4 173 yX2_worth, Cond.instanceMethod yX2_worth, Cond.selects RX2 yX2_worth yX2_worth, Cond.code yX2_worth cX2_worth 3 (some .int), Cond.methodLink RX2 39 yX2_worthOf]
def wsL_law0_r11 : List Cond := [Cond.methodLink RL 113 yX4_faults, Cond.instanceMethod yX4_faults, Cond.selects RX4 yX4_faults yX4_faults, Cond.code yX4_faults cX4_faults 4 (some .int), Cond.methodLink RL 116 yX4_pin, Cond.instanceMethod yX4_pin, Cond.selects RX4 yX4_pin yX4_pin, Cond.code yX4_pin cX4_pin 3 (some .int), Cond.methodLink RX4 122 yX1_answer, Cond.instanceMethod yX1_answer, Cond.selects RX1 yX1_answer yX1_answer, Cond.code yX1_answer cX1_answer 2 (some .int), Cond.methodLink RL 119 yX4_foresee, Cond.instanceMethod yX4_foresee, Cond.selects RX4 yX4_foresee yX4_foresee, Cond.code yX4_foresee cX4_foresee 3 (some .int), Cond.methodLink RX4 126 yX4_checkSheetsToRun, Cond.static yX4_checkSheetsToRun, Cond.code yX4_checkSheetsToRun cX4_checkSheetsToRun 1 none, Cond.methodLink RX4 129 yX3_perforateFrom, Cond.instanceMethod yX3_perforateFrom, Cond.selects RX3 yX3_perforateFrom yX3_perforateFrom, Cond.code yX3_perforateFrom cX3_perforateFrom 6 none, Cond.fieldLink RX3 31 "StampSheets$Trial" "faultless" "I"]
def wsL_law0_r12 : List Cond := [Cond.fieldLink RX3 34 "StampSheets$Trial" "worth" "I", Cond.methodLink RX3 23 yX0_becomeLike, Cond.instanceMethod yX0_becomeLike, Cond.selects RX0 yX0_becomeLike yX0_becomeLike, Cond.code yX0_becomeLike cX0_becomeLike 3 none, Cond.methodLink RX0 25 yX1_becomeLike, Cond.instanceMethod yX1_becomeLike, Cond.selects RX1 yX1_becomeLike yX1_becomeLike, Cond.code yX1_becomeLike cX1_becomeLike 2 none, Cond.methodLink RX3 37 yX0_perforate, Cond.methodLink RX3 41 yX2_leftWith, Cond.instanceMethod yX2_leftWith, Cond.selects RX2 yX2_leftWith yX2_leftWith, Cond.code yX2_leftWith cX2_leftWith 4 (some .int), Cond.methodLink RX2 42 yX2_isLeftWith, Cond.instanceMethod yX2_isLeftWith, Cond.selects RX2 yX2_isLeftWith yX2_isLeftWith, Cond.code yX2_isLeftWith cX2_isLeftWith 3 (some .boolean), Cond.methodLink RX3 45 yX2_worth, Cond.methodLink RX4 133 yX3_answer, Cond.instanceMethod yX3_answer, Cond.selects RX3 yX3_answer yX3_answer, Cond.code yX3_answer cX3_answer 2 (some .int), Cond.methodLink RX3 48 yX0_brokenPins]
def wsL_law0_r13 : List Cond := [Cond.methodLink RL 122 yX4_sheet, Cond.instanceMethod yX4_sheet, Cond.selects RX4 yX4_sheet yX4_sheet, Cond.code yX4_sheet cX4_sheet 3 (some .int), Cond.methodLink RX4 119 yX2_answer, Cond.instanceMethod yX2_answer, Cond.selects RX2 yX2_answer yX2_answer, Cond.code yX2_answer cX2_answer 2 (some .int), Cond.methodLink RX2 19 yX2_left, Cond.instanceMethod yX2_left, Cond.selects RX2 yX2_left yX2_left, Cond.code yX2_left cX2_left 3 (some .int), Cond.methodLink RX2 23 yX2_leftWith, Cond.methodLink RX2 27 yX2_worth, Cond.methodLink RX2 30 yX2_invertedPairs, Cond.instanceMethod yX2_invertedPairs, Cond.selects RX2 yX2_invertedPairs yX2_invertedPairs, Cond.code yX2_invertedPairs cX2_invertedPairs 4 (some .int), Cond.methodLink RX2 46 yX2_isInvertedPair, Cond.instanceMethod yX2_isInvertedPair, Cond.selects RX2 yX2_isInvertedPair yX2_isInvertedPair, Cond.code yX2_isInvertedPair cX2_isInvertedPair 3 (some .boolean), Cond.methodLink RX2 33 yX2_rowsOff, Cond.instanceMethod yX2_rowsOff]
def wsL_law0_r14 : List Cond := [Cond.selects RX2 yX2_rowsOff yX2_rowsOff, Cond.code yX2_rowsOff cX2_rowsOff 3 (some .int), Cond.methodLink RX2 36 yX2_greatestBlock, Cond.instanceMethod yX2_greatestBlock, Cond.selects RX2 yX2_greatestBlock yX2_greatestBlock, Cond.code yX2_greatestBlock cX2_greatestBlock 5 (some .int), Cond.methodLink RX2 56 Lib.Math.max.name, Cond.methodLink RX2 50 yX2_goodColumns, Cond.instanceMethod yX2_goodColumns, Cond.selects RX2 yX2_goodColumns yX2_goodColumns, Cond.code yX2_goodColumns cX2_goodColumns 4 (some .int), Cond.methodLink RX2 53 yX2_longestRun, Cond.static yX2_longestRun, Cond.code yX2_longestRun cX2_longestRun 4 (some .int), Cond.methodLink RL 130 yX4_share, Cond.instanceMethod yX4_share, Cond.selects RX4 yX4_share yX4_share, Cond.code yX4_share cX4_share 2 (some .double), Cond.methodLink RX4 139 yX4_stampsWith, Cond.instanceMethod yX4_stampsWith, Cond.selects RX4 yX4_stampsWith yX4_stampsWith, Cond.code yX4_stampsWith cX4_stampsWith 4 (some .int), Cond.methodLink RX4 176 yX2_leftWith, Cond.methodLink RL 134 yX4_like]
def wsL_law0_r15 : List Cond := [Cond.instanceMethod yX4_like, Cond.selects RX4 yX4_like yX4_like, Cond.code yX4_like cX4_like 2 (some .int), Cond.methodLink RL 137 yX5_isSame, Cond.instanceMethod yX5_isSame, Cond.selects RX5 yX5_isSame yX5_isSame, Cond.code yX5_isSame cX5_isSame 13 (some .boolean), Cond.methodLink RX5 69 yX4_sheet, Cond.methodLink RX5 73 yX5_told, Cond.instanceMethod yX5_told, Cond.selects RX5 yX5_told yX5_told, Cond.code yX5_told cX5_told 10 (some .int), Cond.methodLink RX5 63 Lib.Math.max.name, Cond.methodLink RX5 59 yX5_worth, Cond.methodLink RX5 76 yX4_faults, Cond.methodLink RX5 80 yX4_pin, Cond.methodLink RX5 83 yX5_broken, Cond.instanceMethod yX5_broken, Cond.selects RX5 yX5_broken yX5_broken, Cond.code yX5_broken cX5_broken 6 (some .int), Cond.methodLink RX5 86 yX4_count, Cond.methodLink RX5 90 yX4_share]
def wsL_law0 : List Cond := (wsL_law0_r1 ++ (wsL_law0_r2 ++ (wsL_law0_r3 ++ (wsL_law0_r4 ++ (wsL_law0_r5 ++ (wsL_law0_r6 ++ (wsL_law0_r7 ++ (wsL_law0_r8 ++ (wsL_law0_r9 ++ (wsL_law0_r10 ++ (wsL_law0_r11 ++ (wsL_law0_r12 ++ (wsL_law0_r13 ++ (wsL_law0_r14 ++ wsL_law0_r15)))))))))))))) ++ wsX40 ++ wsX00 ++ wsX30 ++ wsX20 ++ wsX10 ++ wsX50 ++ ([] : List Cond)
def wsL_law : List Cond := wsL_law0 ++ (vx_atS RX4 42 "java/lang/IllegalArgumentException" ["java/lang/RuntimeException", "java/lang/Exception"]).filter goodWord ++ (vx_atS RX4 154 "java/lang/IndexOutOfBoundsException" ["java/lang/RuntimeException", "java/lang/Exception"]).filter goodWord ++ (vx_atS RX4 95 "java/lang/IllegalStateException" ["java/lang/RuntimeException", "java/lang/Exception"]).filter goodWord
set_option maxRecDepth 20000 in
set_option maxRecDepth 20000 in
theorem wsL_law0_r1_in : ∀ w ∈ wsL_law0_r1, w ∈ lw_tbl := fun w h => (goodIn_p wsL_law0_r1 [259, 35, 38] (by decide +kernel) (by decide +kernel) w h).1
set_option maxRecDepth 20000 in
theorem wsL_law0_r2_in : ∀ w ∈ wsL_law0_r2, w ∈ lw_tbl := fun w h => (goodIn_p wsL_law0_r2 [43, 50, 96] (by decide +kernel) (by decide +kernel) w h).1
set_option maxRecDepth 20000 in
theorem wsL_law0_r3_in : ∀ w ∈ wsL_law0_r3, w ∈ lw_tbl := fun w h => (goodIn_p wsL_law0_r3 [104, 520, 525] (by decide +kernel) (by decide +kernel) w h).1
set_option maxRecDepth 20000 in
theorem wsL_law0_r4_in : ∀ w ∈ wsL_law0_r4, w ∈ lw_tbl := fun w h => (goodIn_p wsL_law0_r4 [476, 480] (by decide +kernel) (by decide +kernel) w h).1
set_option maxRecDepth 20000 in
theorem wsL_law0_r5_in : ∀ w ∈ wsL_law0_r5, w ∈ lw_tbl := fun w h => (goodIn_p wsL_law0_r5 [472, 484, 232, 489] (by decide +kernel) (by decide +kernel) w h).1
set_option maxRecDepth 20000 in
theorem wsL_law0_r6_in : ∀ w ∈ wsL_law0_r6, w ∈ lw_tbl := fun w h => (goodIn_p wsL_law0_r6 [493, 505, 351, 510, 287, 153] (by decide +kernel) (by decide +kernel) w h).1
set_option maxRecDepth 20000 in
theorem wsL_law0_r7_in : ∀ w ∈ wsL_law0_r7, w ∈ lw_tbl := fun w h => (goodIn_p wsL_law0_r7 [225, 256, 229, 236] (by decide +kernel) (by decide +kernel) w h).1
set_option maxRecDepth 20000 in
theorem wsL_law0_r8_in : ∀ w ∈ wsL_law0_r8, w ∈ lw_tbl := fun w h => (goodIn_p wsL_law0_r8 [240, 244, 248, 252, 438] (by decide +kernel) (by decide +kernel) w h).1
set_option maxRecDepth 20000 in
theorem wsL_law0_r9_in : ∀ w ∈ wsL_law0_r9, w ∈ lw_tbl := fun w h => (goodIn_p wsL_law0_r9 [446, 460, 515, 267, 320, 360] (by decide +kernel) (by decide +kernel) w h).1
set_option maxRecDepth 20000 in
theorem wsL_law0_r10_in : ∀ w ∈ wsL_law0_r10, w ∈ lw_tbl := fun w h => (goodIn_p wsL_law0_r10 [295, 364, 368, 372, 376, 316] (by decide +kernel) (by decide +kernel) w h).1
set_option maxRecDepth 20000 in
theorem wsL_law0_r11_in : ∀ w ∈ wsL_law0_r11, w ∈ lw_tbl := fun w h => (goodIn_p wsL_law0_r11 [263, 348, 356, 381, 384, 404] (by decide +kernel) (by decide +kernel) w h).1
set_option maxRecDepth 20000 in
theorem wsL_law0_r12_in : ∀ w ∈ wsL_law0_r12, w ∈ lw_tbl := fun w h => (goodIn_p wsL_law0_r12 [408, 412, 308, 312, 419] (by decide +kernel) (by decide +kernel) w h).1
set_option maxRecDepth 20000 in
theorem wsL_law0_r13_in : ∀ w ∈ wsL_law0_r13, w ∈ lw_tbl := fun w h => (goodIn_p wsL_law0_r13 [292, 300, 304, 324, 328] (by decide +kernel) (by decide +kernel) w h).1
set_option maxRecDepth 20000 in
theorem wsL_law0_r14_in : ∀ w ∈ wsL_law0_r14, w ∈ lw_tbl := fun w h => (goodIn_p wsL_law0_r14 [332, 336, 340, 343, 434, 429] (by decide +kernel) (by decide +kernel) w h).1
set_option maxRecDepth 20000 in
theorem wsL_law0_r15_in : ∀ w ∈ wsL_law0_r15, w ∈ lw_tbl := fun w h => (goodIn_p wsL_law0_r15 [424, 452, 457, 467] (by decide +kernel) (by decide +kernel) w h).1
set_option maxRecDepth 20000 in
theorem wsL_law0_wsX40_in : ∀ w ∈ wsX40, w ∈ lw_tbl := by decide +kernel
set_option maxRecDepth 20000 in
theorem wsL_law0_wsX00_in : ∀ w ∈ wsX00, w ∈ lw_tbl := by decide +kernel
set_option maxRecDepth 20000 in
theorem wsL_law0_wsX30_in : ∀ w ∈ wsX30, w ∈ lw_tbl := by decide +kernel
set_option maxRecDepth 20000 in
theorem wsL_law0_wsX20_in : ∀ w ∈ wsX20, w ∈ lw_tbl := by decide +kernel
set_option maxRecDepth 20000 in
theorem wsL_law0_wsX10_in : ∀ w ∈ wsX10, w ∈ lw_tbl := by decide +kernel
set_option maxRecDepth 20000 in
theorem wsL_law0_wsX50_in : ∀ w ∈ wsX50, w ∈ lw_tbl := by decide +kernel
theorem wsL_law_in0 : ∀ w ∈ wsL_law0, w ∈ lw_tbl := fun w h => (fun h => (List.mem_append.mp h).elim (fun h => (List.mem_append.mp h).elim (fun h => (List.mem_append.mp h).elim (fun h => (List.mem_append.mp h).elim (fun h => (List.mem_append.mp h).elim (fun h => (List.mem_append.mp h).elim (fun h => (List.mem_append.mp h).elim (fun h => (List.mem_append.mp h).elim (fun h => wsL_law0_r1_in w h) (fun h => (List.mem_append.mp h).elim (fun h => wsL_law0_r2_in w h) (fun h => (List.mem_append.mp h).elim (fun h => wsL_law0_r3_in w h) (fun h => (List.mem_append.mp h).elim (fun h => wsL_law0_r4_in w h) (fun h => (List.mem_append.mp h).elim (fun h => wsL_law0_r5_in w h) (fun h => (List.mem_append.mp h).elim (fun h => wsL_law0_r6_in w h) (fun h => (List.mem_append.mp h).elim (fun h => wsL_law0_r7_in w h) (fun h => (List.mem_append.mp h).elim (fun h => wsL_law0_r8_in w h) (fun h => (List.mem_append.mp h).elim (fun h => wsL_law0_r9_in w h) (fun h => (List.mem_append.mp h).elim (fun h => wsL_law0_r10_in w h) (fun h => (List.mem_append.mp h).elim (fun h => wsL_law0_r11_in w h) (fun h => (List.mem_append.mp h).elim (fun h => wsL_law0_r12_in w h) (fun h => (List.mem_append.mp h).elim (fun h => wsL_law0_r13_in w h) (fun h => (List.mem_append.mp h).elim (fun h => wsL_law0_r14_in w h) (fun h => wsL_law0_r15_in w h))))))))))))))) (fun h => wsL_law0_wsX40_in w h)) (fun h => wsL_law0_wsX00_in w h)) (fun h => wsL_law0_wsX30_in w h)) (fun h => wsL_law0_wsX20_in w h)) (fun h => wsL_law0_wsX10_in w h)) (fun h => wsL_law0_wsX50_in w h)) (fun h => absurd h List.not_mem_nil)) h
theorem wsL_law_x0 : ∀ w ∈ (vx_atS RX4 42 "java/lang/IllegalArgumentException" ["java/lang/RuntimeException", "java/lang/Exception"]).filter goodWord, w ∈ lw_tbl := by decide +kernel
theorem wsL_law_x1 : ∀ w ∈ (vx_atS RX4 154 "java/lang/IndexOutOfBoundsException" ["java/lang/RuntimeException", "java/lang/Exception"]).filter goodWord, w ∈ lw_tbl := by decide +kernel
theorem wsL_law_x2 : ∀ w ∈ (vx_atS RX4 95 "java/lang/IllegalStateException" ["java/lang/RuntimeException", "java/lang/Exception"]).filter goodWord, w ∈ lw_tbl := by decide +kernel
theorem wsL_law_in : ∀ w ∈ wsL_law, w ∈ lw_tbl := fun w h => (List.mem_append.mp h).elim (fun h => (List.mem_append.mp h).elim (fun h => (List.mem_append.mp h).elim (fun h => wsL_law_in0 w h) (fun h => wsL_law_x0 w h)) (fun h => wsL_law_x1 w h)) (fun h => wsL_law_x2 w h)
theorem inlX0 : ∀ w ∈ wsX00, w ∈ wsL_law := fun _ h => List.mem_append_left _ (List.mem_append_left _ (List.mem_append_left _ (List.mem_append_left _ (List.mem_append_left _ (List.mem_append_left _ (List.mem_append_left _ (List.mem_append_left _ (List.mem_append_right _ h))))))))
theorem inX0 : ∀ w ∈ wsX00, w ∈ lw_tbl := fun w h => wsL_law_in w (inlX0 w h)
theorem inlX1 : ∀ w ∈ wsX10, w ∈ wsL_law := fun _ h => List.mem_append_left _ (List.mem_append_left _ (List.mem_append_left _ (List.mem_append_left _ (List.mem_append_left _ (List.mem_append_right _ h)))))
theorem inX1 : ∀ w ∈ wsX10, w ∈ lw_tbl := fun w h => wsL_law_in w (inlX1 w h)
theorem inlX2 : ∀ w ∈ wsX20, w ∈ wsL_law := fun _ h => List.mem_append_left _ (List.mem_append_left _ (List.mem_append_left _ (List.mem_append_left _ (List.mem_append_left _ (List.mem_append_left _ (List.mem_append_right _ h))))))
theorem inX2 : ∀ w ∈ wsX20, w ∈ lw_tbl := fun w h => wsL_law_in w (inlX2 w h)
theorem inlX3 : ∀ w ∈ wsX30, w ∈ wsL_law := fun _ h => List.mem_append_left _ (List.mem_append_left _ (List.mem_append_left _ (List.mem_append_left _ (List.mem_append_left _ (List.mem_append_left _ (List.mem_append_left _ (List.mem_append_right _ h)))))))
theorem inX3 : ∀ w ∈ wsX30, w ∈ lw_tbl := fun w h => wsL_law_in w (inlX3 w h)
theorem inlX4 : ∀ w ∈ wsX40, w ∈ wsL_law := fun _ h => List.mem_append_left _ (List.mem_append_left _ (List.mem_append_left _ (List.mem_append_left _ (List.mem_append_left _ (List.mem_append_left _ (List.mem_append_left _ (List.mem_append_left _ (List.mem_append_left _ (List.mem_append_right _ h)))))))))
theorem inX4 : ∀ w ∈ wsX40, w ∈ lw_tbl := fun w h => wsL_law_in w (inlX4 w h)
theorem inlX5 : ∀ w ∈ wsX50, w ∈ wsL_law := fun _ h => List.mem_append_left _ (List.mem_append_left _ (List.mem_append_left _ (List.mem_append_left _ (List.mem_append_right _ h))))
theorem inX5 : ∀ w ∈ wsX50, w ∈ lw_tbl := fun w h => wsL_law_in w (inlX5 w h)
theorem inX6 : ∀ w ∈ wsX60, w ∈ lw_tbl := by decide +kernel
theorem inJx8e188 : ∀ w ∈ wsJx8e1880, w ∈ lw_tbl := by decide +kernel
theorem inJ9 : ∀ w ∈ wsJ90, w ∈ lw_tbl := by decide +kernel
theorem inJ0 : ∀ w ∈ wsJ00, w ∈ lw_tbl := by decide +kernel
set_option maxRecDepth 20000 in
theorem ggX0_init_X1_init : GoodIn wsX0_init wsX1_init := goodIn_r _ [11, 12, 2, 3, 13, 21, 22] (by decide +kernel) (by decide +kernel)
set_option maxRecDepth 20000 in
theorem gX0_init_X1_init_n24 : GoodIn wsX0_init (wsX1_init) := ggX0_init_X1_init
theorem dX0_init_0 : decode cX0_init 0 = .ok (.aload_n 0, 1) := by decide +kernel
theorem dX0_init_1 : decode cX0_init 1 = .ok (.invokespecial 3, 3) := by decide +kernel
theorem dX0_init_4 : decode cX0_init 4 = .ok (.aload_n 0, 1) := by decide +kernel
theorem dX0_init_5 : decode cX0_init 5 = .ok (.bipush 20, 2) := by decide +kernel
theorem dX0_init_7 : decode cX0_init 7 = .ok (.putfield 9, 3) := by decide +kernel
theorem dX0_init_10 : decode cX0_init 10 = .ok (.aload_n 0, 1) := by decide +kernel
theorem dX0_init_11 : decode cX0_init 11 = .ok (.iconst 1, 1) := by decide +kernel
theorem dX0_init_12 : decode cX0_init 12 = .ok (.putfield 15, 3) := by decide +kernel
theorem dX0_init_15 : decode cX0_init 15 = .ok (.aload_n 0, 1) := by decide +kernel
theorem dX0_init_16 : decode cX0_init 16 = .ok (.bipush 7, 2) := by decide +kernel
theorem dX0_init_18 : decode cX0_init 18 = .ok (.anewarray 18, 3) := by decide +kernel
theorem dX0_init_21 : decode cX0_init 21 = .ok (.putfield 20, 3) := by decide +kernel
theorem dX0_init_24 : decode cX0_init 24 = .ok (.iconst 0, 1) := by decide +kernel
theorem dX0_init_25 : decode cX0_init 25 = .ok (.istore_n 1, 1) := by decide +kernel
theorem dX0_init_26 : decode cX0_init 26 = .ok (.iload_n 1, 1) := by decide +kernel
theorem dX0_init_27 : decode cX0_init 27 = .ok (.bipush 7, 2) := by decide +kernel
theorem dX0_init_29 : decode cX0_init 29 = .ok (.if_icmp .ge 22, 3) := by decide +kernel
theorem dX0_init_32 : decode cX0_init 32 = .ok (.aload_n 0, 1) := by decide +kernel
theorem dX0_init_33 : decode cX0_init 33 = .ok (.getfield 20, 3) := by decide +kernel
theorem dX0_init_36 : decode cX0_init 36 = .ok (.iload_n 1, 1) := by decide +kernel
theorem dX0_init_37 : decode cX0_init 37 = .ok (.new 18, 3) := by decide +kernel
theorem dX0_init_40 : decode cX0_init 40 = .ok (.dup, 1) := by decide +kernel
theorem dX0_init_41 : decode cX0_init 41 = .ok (.invokespecial 24, 3) := by decide +kernel
theorem dX0_init_44 : decode cX0_init 44 = .ok (.aastore, 1) := by decide +kernel
theorem dX0_init_45 : decode cX0_init 45 = .ok (.iinc 1 1, 3) := by decide +kernel
theorem dX0_init_48 : decode cX0_init 48 = .ok (.goto (-22), 3) := by decide +kernel
theorem dX0_init_51 : decode cX0_init 51 = .ok (.return_, 1) := by decide +kernel
set_option maxRecDepth 20000 in
theorem ggX0_becomeLike_X1_becomeLike : GoodIn wsX0_becomeLike wsX1_becomeLike := goodIn_r _ [12, 13, 14, 22, 23] (by decide +kernel) (by decide +kernel)
set_option maxRecDepth 20000 in
theorem gX0_becomeLike_X1_becomeLike : GoodIn wsX0_becomeLike (wsV RX0 25 RX1 yX1_becomeLike wsX1_becomeLike) := goodIn_app (goodIn_of _ (by decide +kernel)) ggX0_becomeLike_X1_becomeLike
theorem dX0_becomeLike_0 : decode cX0_becomeLike 0 = .ok (.iconst 0, 1) := by decide +kernel
theorem dX0_becomeLike_1 : decode cX0_becomeLike 1 = .ok (.istore_n 2, 1) := by decide +kernel
theorem dX0_becomeLike_2 : decode cX0_becomeLike 2 = .ok (.iload_n 2, 1) := by decide +kernel
theorem dX0_becomeLike_3 : decode cX0_becomeLike 3 = .ok (.bipush 7, 2) := by decide +kernel
theorem dX0_becomeLike_5 : decode cX0_becomeLike 5 = .ok (.if_icmp .ge 24, 3) := by decide +kernel
theorem dX0_becomeLike_8 : decode cX0_becomeLike 8 = .ok (.aload_n 0, 1) := by decide +kernel
theorem dX0_becomeLike_9 : decode cX0_becomeLike 9 = .ok (.getfield 20, 3) := by decide +kernel
theorem dX0_becomeLike_12 : decode cX0_becomeLike 12 = .ok (.iload_n 2, 1) := by decide +kernel
theorem dX0_becomeLike_13 : decode cX0_becomeLike 13 = .ok (.aaload, 1) := by decide +kernel
theorem dX0_becomeLike_14 : decode cX0_becomeLike 14 = .ok (.aload_n 1, 1) := by decide +kernel
theorem dX0_becomeLike_15 : decode cX0_becomeLike 15 = .ok (.getfield 20, 3) := by decide +kernel
theorem dX0_becomeLike_18 : decode cX0_becomeLike 18 = .ok (.iload_n 2, 1) := by decide +kernel
theorem dX0_becomeLike_19 : decode cX0_becomeLike 19 = .ok (.aaload, 1) := by decide +kernel
theorem dX0_becomeLike_20 : decode cX0_becomeLike 20 = .ok (.invokevirtual 25, 3) := by decide +kernel
theorem dX0_becomeLike_23 : decode cX0_becomeLike 23 = .ok (.iinc 2 1, 3) := by decide +kernel
theorem dX0_becomeLike_26 : decode cX0_becomeLike 26 = .ok (.goto (-24), 3) := by decide +kernel
theorem dX0_becomeLike_29 : decode cX0_becomeLike 29 = .ok (.aload_n 0, 1) := by decide +kernel
theorem dX0_becomeLike_30 : decode cX0_becomeLike 30 = .ok (.aload_n 1, 1) := by decide +kernel
theorem dX0_becomeLike_31 : decode cX0_becomeLike 31 = .ok (.getfield 9, 3) := by decide +kernel
theorem dX0_becomeLike_34 : decode cX0_becomeLike 34 = .ok (.putfield 9, 3) := by decide +kernel
theorem dX0_becomeLike_37 : decode cX0_becomeLike 37 = .ok (.aload_n 0, 1) := by decide +kernel
theorem dX0_becomeLike_38 : decode cX0_becomeLike 38 = .ok (.aload_n 1, 1) := by decide +kernel
theorem dX0_becomeLike_39 : decode cX0_becomeLike 39 = .ok (.getfield 29, 3) := by decide +kernel
theorem dX0_becomeLike_42 : decode cX0_becomeLike 42 = .ok (.putfield 29, 3) := by decide +kernel
theorem dX0_becomeLike_45 : decode cX0_becomeLike 45 = .ok (.aload_n 0, 1) := by decide +kernel
theorem dX0_becomeLike_46 : decode cX0_becomeLike 46 = .ok (.aload_n 1, 1) := by decide +kernel
theorem dX0_becomeLike_47 : decode cX0_becomeLike 47 = .ok (.getfield 32, 3) := by decide +kernel
theorem dX0_becomeLike_50 : decode cX0_becomeLike 50 = .ok (.putfield 32, 3) := by decide +kernel
theorem dX0_becomeLike_53 : decode cX0_becomeLike 53 = .ok (.aload_n 0, 1) := by decide +kernel
theorem dX0_becomeLike_54 : decode cX0_becomeLike 54 = .ok (.aload_n 1, 1) := by decide +kernel
theorem dX0_becomeLike_55 : decode cX0_becomeLike 55 = .ok (.getfield 35, 3) := by decide +kernel
theorem dX0_becomeLike_58 : decode cX0_becomeLike 58 = .ok (.putfield 35, 3) := by decide +kernel
theorem dX0_becomeLike_61 : decode cX0_becomeLike 61 = .ok (.aload_n 0, 1) := by decide +kernel
theorem dX0_becomeLike_62 : decode cX0_becomeLike 62 = .ok (.aload_n 1, 1) := by decide +kernel
theorem dX0_becomeLike_63 : decode cX0_becomeLike 63 = .ok (.getfield 38, 3) := by decide +kernel
theorem dX0_becomeLike_66 : decode cX0_becomeLike 66 = .ok (.putfield 38, 3) := by decide +kernel
theorem dX0_becomeLike_69 : decode cX0_becomeLike 69 = .ok (.aload_n 0, 1) := by decide +kernel
theorem dX0_becomeLike_70 : decode cX0_becomeLike 70 = .ok (.aload_n 1, 1) := by decide +kernel
theorem dX0_becomeLike_71 : decode cX0_becomeLike 71 = .ok (.getfield 15, 3) := by decide +kernel
theorem dX0_becomeLike_74 : decode cX0_becomeLike 74 = .ok (.putfield 15, 3) := by decide +kernel
theorem dX0_becomeLike_77 : decode cX0_becomeLike 77 = .ok (.return_, 1) := by decide +kernel
set_option maxRecDepth 20000 in
theorem ggX0_perforate_X0_markRow : GoodIn wsX0_perforate wsX0_markRow := goodIn_r _ [17, 1, 18, 19, 20, 21, 22, 23, 16, 24, 25, 26, 27, 28, 29, 30, 31, 32, 33, 34, 35, 36, 37, 4, 47, 48, 49, 50, 51, 52, 53, 54, 55, 56, 57] (by decide +kernel) (by decide +kernel)
set_option maxRecDepth 20000 in
theorem gX0_perforate_X0_markRow : GoodIn wsX0_perforate (wsV RX0 41 RX0 yX0_markRow wsX0_markRow) := goodIn_app (goodIn_of _ (by decide +kernel)) ggX0_perforate_X0_markRow
set_option maxRecDepth 20000 in
theorem ggX0_perforate_X0_strikeAll : GoodIn wsX0_perforate wsX0_strikeAll := goodIn_r _ [41, 25, 42, 43, 44, 29, 45, 31, 46, 27, 28, 30, 32, 47, 48, 49, 50, 51, 52, 53, 56, 57] (by decide +kernel) (by decide +kernel)
set_option maxRecDepth 20000 in
theorem gX0_perforate_X0_strikeAll : GoodIn wsX0_perforate (wsV RX0 45 RX0 yX0_strikeAll wsX0_strikeAll) := goodIn_app (goodIn_of _ (by decide +kernel)) ggX0_perforate_X0_strikeAll
theorem dX0_perforate_0 : decode cX0_perforate 0 = .ok (.iconst 0, 1) := by decide +kernel
theorem dX0_perforate_1 : decode cX0_perforate 1 = .ok (.istore_n 3, 1) := by decide +kernel
theorem dX0_perforate_2 : decode cX0_perforate 2 = .ok (.iload_n 3, 1) := by decide +kernel
theorem dX0_perforate_3 : decode cX0_perforate 3 = .ok (.iconst 5, 1) := by decide +kernel
theorem dX0_perforate_4 : decode cX0_perforate 4 = .ok (.if_icmp .ge 56, 3) := by decide +kernel
theorem dX0_perforate_7 : decode cX0_perforate 7 = .ok (.aload_n 0, 1) := by decide +kernel
theorem dX0_perforate_8 : decode cX0_perforate 8 = .ok (.dup, 1) := by decide +kernel
theorem dX0_perforate_9 : decode cX0_perforate 9 = .ok (.getfield 32, 3) := by decide +kernel
theorem dX0_perforate_12 : decode cX0_perforate 12 = .ok (.aload_n 0, 1) := by decide +kernel
theorem dX0_perforate_13 : decode cX0_perforate 13 = .ok (.getfield 9, 3) := by decide +kernel
theorem dX0_perforate_16 : decode cX0_perforate 16 = .ok (.bipush 20, 2) := by decide +kernel
theorem dX0_perforate_18 : decode cX0_perforate 18 = .ok (.isub, 1) := by decide +kernel
theorem dX0_perforate_19 : decode cX0_perforate 19 = .ok (.iadd, 1) := by decide +kernel
theorem dX0_perforate_20 : decode cX0_perforate 20 = .ok (.putfield 32, 3) := by decide +kernel
theorem dX0_perforate_23 : decode cX0_perforate 23 = .ok (.aload_n 0, 1) := by decide +kernel
theorem dX0_perforate_24 : decode cX0_perforate 24 = .ok (.iload_n 3, 1) := by decide +kernel
theorem dX0_perforate_25 : decode cX0_perforate 25 = .ok (.aload_n 1, 1) := by decide +kernel
theorem dX0_perforate_26 : decode cX0_perforate 26 = .ok (.aload_n 2, 1) := by decide +kernel
theorem dX0_perforate_27 : decode cX0_perforate 27 = .ok (.invokevirtual 41, 3) := by decide +kernel
theorem dX0_perforate_30 : decode cX0_perforate 30 = .ok (.aload_n 0, 1) := by decide +kernel
theorem dX0_perforate_31 : decode cX0_perforate 31 = .ok (.invokevirtual 45, 3) := by decide +kernel
theorem dX0_perforate_34 : decode cX0_perforate 34 = .ok (.aload_n 0, 1) := by decide +kernel
theorem dX0_perforate_35 : decode cX0_perforate 35 = .ok (.dup, 1) := by decide +kernel
theorem dX0_perforate_36 : decode cX0_perforate 36 = .ok (.getfield 35, 3) := by decide +kernel
theorem dX0_perforate_39 : decode cX0_perforate 39 = .ok (.iconst 1, 1) := by decide +kernel
theorem dX0_perforate_40 : decode cX0_perforate 40 = .ok (.isub, 1) := by decide +kernel
theorem dX0_perforate_41 : decode cX0_perforate 41 = .ok (.putfield 35, 3) := by decide +kernel
theorem dX0_perforate_44 : decode cX0_perforate 44 = .ok (.aload_n 0, 1) := by decide +kernel
theorem dX0_perforate_45 : decode cX0_perforate 45 = .ok (.dup, 1) := by decide +kernel
theorem dX0_perforate_46 : decode cX0_perforate 46 = .ok (.getfield 38, 3) := by decide +kernel
theorem dX0_perforate_49 : decode cX0_perforate 49 = .ok (.iconst 1, 1) := by decide +kernel
theorem dX0_perforate_50 : decode cX0_perforate 50 = .ok (.iadd, 1) := by decide +kernel
theorem dX0_perforate_51 : decode cX0_perforate 51 = .ok (.putfield 38, 3) := by decide +kernel
theorem dX0_perforate_54 : decode cX0_perforate 54 = .ok (.iinc 3 1, 3) := by decide +kernel
theorem dX0_perforate_57 : decode cX0_perforate 57 = .ok (.goto (-55), 3) := by decide +kernel
theorem dX0_perforate_60 : decode cX0_perforate 60 = .ok (.aload_n 0, 1) := by decide +kernel
theorem dX0_perforate_61 : decode cX0_perforate 61 = .ok (.bipush 10, 2) := by decide +kernel
theorem dX0_perforate_63 : decode cX0_perforate 63 = .ok (.bipush 30, 2) := by decide +kernel
theorem dX0_perforate_65 : decode cX0_perforate 65 = .ok (.aload_n 0, 1) := by decide +kernel
theorem dX0_perforate_66 : decode cX0_perforate 66 = .ok (.getfield 9, 3) := by decide +kernel
theorem dX0_perforate_69 : decode cX0_perforate 69 = .ok (.aload_n 0, 1) := by decide +kernel
theorem dX0_perforate_70 : decode cX0_perforate 70 = .ok (.getfield 29, 3) := by decide +kernel
theorem dX0_perforate_73 : decode cX0_perforate 73 = .ok (.iadd, 1) := by decide +kernel
theorem dX0_perforate_74 : decode cX0_perforate 74 = .ok (.invokestatic 48, 3) := by decide +kernel
theorem dX0_perforate_77 : decode cX0_perforate 77 = .ok (.invokestatic 54, 3) := by decide +kernel
theorem dX0_perforate_80 : decode cX0_perforate 80 = .ok (.putfield 9, 3) := by decide +kernel
theorem dX0_perforate_83 : decode cX0_perforate 83 = .ok (.return_, 1) := by decide +kernel
set_option maxRecDepth 20000 in
theorem ggX0_markRow_X4_isWithin : GoodIn wsX0_markRow wsX4_isWithin := goodIn_r _ [4] (by decide +kernel) (by decide +kernel)
set_option maxRecDepth 20000 in
theorem gX0_markRow_X4_isWithin_n57 : GoodIn wsX0_markRow (wsX4_isWithin) := ggX0_markRow_X4_isWithin
set_option maxRecDepth 20000 in
theorem ggX0_markRow_X0_holeFaults : GoodIn wsX0_markRow wsX0_holeFaults := goodIn_r _ [9, 10, 11, 12, 13, 14, 15, 16, 17, 24, 25, 26, 27, 28, 29, 30, 33, 34] (by decide +kernel) (by decide +kernel)
set_option maxRecDepth 20000 in
theorem gX0_markRow_X0_holeFaults : GoodIn wsX0_markRow (wsV RX0 61 RX0 yX0_holeFaults wsX0_holeFaults) := goodIn_app (goodIn_of _ (by decide +kernel)) ggX0_markRow_X0_holeFaults
set_option maxRecDepth 20000 in
theorem ggX0_markRow_X0_hasWatermark : GoodIn wsX0_markRow wsX0_hasWatermark := goodIn_r _ [21, 22, 23, 24, 25, 26, 27, 28, 29, 30] (by decide +kernel) (by decide +kernel)
set_option maxRecDepth 20000 in
theorem gX0_markRow_X0_hasWatermark : GoodIn wsX0_markRow (wsV RX0 65 RX0 yX0_hasWatermark wsX0_hasWatermark) := goodIn_app (goodIn_of _ (by decide +kernel)) ggX0_markRow_X0_hasWatermark
theorem dX0_markRow_0 : decode cX0_markRow 0 = .ok (.aload_n 0, 1) := by decide +kernel
theorem dX0_markRow_1 : decode cX0_markRow 1 = .ok (.getfield 32, 3) := by decide +kernel
theorem dX0_markRow_4 : decode cX0_markRow 4 = .ok (.bipush (-6), 2) := by decide +kernel
theorem dX0_markRow_6 : decode cX0_markRow 6 = .ok (.bipush 6, 2) := by decide +kernel
theorem dX0_markRow_8 : decode cX0_markRow 8 = .ok (.invokestatic 57, 3) := by decide +kernel
theorem dX0_markRow_11 : decode cX0_markRow 11 = .ok (.ifCond .eq 7, 3) := by decide +kernel
theorem dX0_markRow_14 : decode cX0_markRow 14 = .ok (.iconst 0, 1) := by decide +kernel
theorem dX0_markRow_15 : decode cX0_markRow 15 = .ok (.goto 4, 3) := by decide +kernel
theorem dX0_markRow_18 : decode cX0_markRow 18 = .ok (.iconst 1, 1) := by decide +kernel
theorem dX0_markRow_19 : decode cX0_markRow 19 = .ok (.istore 4, 2) := by decide +kernel
theorem dX0_markRow_21 : decode cX0_markRow 21 = .ok (.iconst 0, 1) := by decide +kernel
theorem dX0_markRow_22 : decode cX0_markRow 22 = .ok (.istore 5, 2) := by decide +kernel
theorem dX0_markRow_24 : decode cX0_markRow 24 = .ok (.iload 5, 2) := by decide +kernel
theorem dX0_markRow_26 : decode cX0_markRow 26 = .ok (.bipush 6, 2) := by decide +kernel
theorem dX0_markRow_28 : decode cX0_markRow 28 = .ok (.if_icmp .ge 68, 3) := by decide +kernel
theorem dX0_markRow_31 : decode cX0_markRow 31 = .ok (.bipush 6, 2) := by decide +kernel
theorem dX0_markRow_33 : decode cX0_markRow 33 = .ok (.iload_n 1, 1) := by decide +kernel
theorem dX0_markRow_34 : decode cX0_markRow 34 = .ok (.imul, 1) := by decide +kernel
theorem dX0_markRow_35 : decode cX0_markRow 35 = .ok (.iload 5, 2) := by decide +kernel
theorem dX0_markRow_37 : decode cX0_markRow 37 = .ok (.iadd, 1) := by decide +kernel
theorem dX0_markRow_38 : decode cX0_markRow 38 = .ok (.istore 6, 2) := by decide +kernel
theorem dX0_markRow_40 : decode cX0_markRow 40 = .ok (.iload 4, 2) := by decide +kernel
theorem dX0_markRow_42 : decode cX0_markRow 42 = .ok (.aload_n 0, 1) := by decide +kernel
theorem dX0_markRow_43 : decode cX0_markRow 43 = .ok (.iload 5, 2) := by decide +kernel
theorem dX0_markRow_45 : decode cX0_markRow 45 = .ok (.invokevirtual 61, 3) := by decide +kernel
theorem dX0_markRow_48 : decode cX0_markRow 48 = .ok (.ior, 1) := by decide +kernel
theorem dX0_markRow_49 : decode cX0_markRow 49 = .ok (.istore 7, 2) := by decide +kernel
theorem dX0_markRow_51 : decode cX0_markRow 51 = .ok (.aload_n 2, 1) := by decide +kernel
theorem dX0_markRow_52 : decode cX0_markRow 52 = .ok (.iload 6, 2) := by decide +kernel
theorem dX0_markRow_54 : decode cX0_markRow 54 = .ok (.baload, 1) := by decide +kernel
theorem dX0_markRow_55 : decode cX0_markRow 55 = .ok (.ifCond .eq 10, 3) := by decide +kernel
theorem dX0_markRow_58 : decode cX0_markRow 58 = .ok (.iload 7, 2) := by decide +kernel
theorem dX0_markRow_60 : decode cX0_markRow 60 = .ok (.bipush 8, 2) := by decide +kernel
theorem dX0_markRow_62 : decode cX0_markRow 62 = .ok (.ior, 1) := by decide +kernel
theorem dX0_markRow_63 : decode cX0_markRow 63 = .ok (.istore 7, 2) := by decide +kernel
theorem dX0_markRow_65 : decode cX0_markRow 65 = .ok (.aload_n 0, 1) := by decide +kernel
theorem dX0_markRow_66 : decode cX0_markRow 66 = .ok (.iload 5, 2) := by decide +kernel
theorem dX0_markRow_68 : decode cX0_markRow 68 = .ok (.invokevirtual 65, 3) := by decide +kernel
theorem dX0_markRow_71 : decode cX0_markRow 71 = .ok (.ifCond .ne 10, 3) := by decide +kernel
theorem dX0_markRow_74 : decode cX0_markRow 74 = .ok (.iload 7, 2) := by decide +kernel
theorem dX0_markRow_76 : decode cX0_markRow 76 = .ok (.bipush 16, 2) := by decide +kernel
theorem dX0_markRow_78 : decode cX0_markRow 78 = .ok (.ior, 1) := by decide +kernel
theorem dX0_markRow_79 : decode cX0_markRow 79 = .ok (.istore 7, 2) := by decide +kernel
theorem dX0_markRow_81 : decode cX0_markRow 81 = .ok (.aload_n 3, 1) := by decide +kernel
theorem dX0_markRow_82 : decode cX0_markRow 82 = .ok (.getfield 69, 3) := by decide +kernel
theorem dX0_markRow_85 : decode cX0_markRow 85 = .ok (.iload 6, 2) := by decide +kernel
theorem dX0_markRow_87 : decode cX0_markRow 87 = .ok (.iload 7, 2) := by decide +kernel
theorem dX0_markRow_89 : decode cX0_markRow 89 = .ok (.iastore, 1) := by decide +kernel
theorem dX0_markRow_90 : decode cX0_markRow 90 = .ok (.iinc 5 1, 3) := by decide +kernel
theorem dX0_markRow_93 : decode cX0_markRow 93 = .ok (.goto (-69), 3) := by decide +kernel
theorem dX0_markRow_96 : decode cX0_markRow 96 = .ok (.return_, 1) := by decide +kernel
set_option maxRecDepth 20000 in
theorem ggX0_holeFaults_X1_isWhole : GoodIn wsX0_holeFaults wsX1_isWhole := goodIn_r _ [6, 7, 8, 16, 17] (by decide +kernel) (by decide +kernel)
set_option maxRecDepth 20000 in
theorem gX0_holeFaults_X1_isWhole : GoodIn wsX0_holeFaults (wsV RX0 75 RX1 yX1_isWhole wsX1_isWhole) := goodIn_app (goodIn_of _ (by decide +kernel)) ggX0_holeFaults_X1_isWhole
theorem dX0_holeFaults_0 : decode cX0_holeFaults 0 = .ok (.iconst 0, 1) := by decide +kernel
theorem dX0_holeFaults_1 : decode cX0_holeFaults 1 = .ok (.istore_n 2, 1) := by decide +kernel
theorem dX0_holeFaults_2 : decode cX0_holeFaults 2 = .ok (.aload_n 0, 1) := by decide +kernel
theorem dX0_holeFaults_3 : decode cX0_holeFaults 3 = .ok (.getfield 20, 3) := by decide +kernel
theorem dX0_holeFaults_6 : decode cX0_holeFaults 6 = .ok (.iload_n 1, 1) := by decide +kernel
theorem dX0_holeFaults_7 : decode cX0_holeFaults 7 = .ok (.aaload, 1) := by decide +kernel
theorem dX0_holeFaults_8 : decode cX0_holeFaults 8 = .ok (.invokevirtual 75, 3) := by decide +kernel
theorem dX0_holeFaults_11 : decode cX0_holeFaults 11 = .ok (.ifCond .ne 7, 3) := by decide +kernel
theorem dX0_holeFaults_14 : decode cX0_holeFaults 14 = .ok (.iload_n 2, 1) := by decide +kernel
theorem dX0_holeFaults_15 : decode cX0_holeFaults 15 = .ok (.iconst 2, 1) := by decide +kernel
theorem dX0_holeFaults_16 : decode cX0_holeFaults 16 = .ok (.ior, 1) := by decide +kernel
theorem dX0_holeFaults_17 : decode cX0_holeFaults 17 = .ok (.istore_n 2, 1) := by decide +kernel
theorem dX0_holeFaults_18 : decode cX0_holeFaults 18 = .ok (.aload_n 0, 1) := by decide +kernel
theorem dX0_holeFaults_19 : decode cX0_holeFaults 19 = .ok (.getfield 20, 3) := by decide +kernel
theorem dX0_holeFaults_22 : decode cX0_holeFaults 22 = .ok (.iload_n 1, 1) := by decide +kernel
theorem dX0_holeFaults_23 : decode cX0_holeFaults 23 = .ok (.iconst 1, 1) := by decide +kernel
theorem dX0_holeFaults_24 : decode cX0_holeFaults 24 = .ok (.iadd, 1) := by decide +kernel
theorem dX0_holeFaults_25 : decode cX0_holeFaults 25 = .ok (.aaload, 1) := by decide +kernel
theorem dX0_holeFaults_26 : decode cX0_holeFaults 26 = .ok (.invokevirtual 75, 3) := by decide +kernel
theorem dX0_holeFaults_29 : decode cX0_holeFaults 29 = .ok (.ifCond .ne 7, 3) := by decide +kernel
theorem dX0_holeFaults_32 : decode cX0_holeFaults 32 = .ok (.iload_n 2, 1) := by decide +kernel
theorem dX0_holeFaults_33 : decode cX0_holeFaults 33 = .ok (.iconst 4, 1) := by decide +kernel
theorem dX0_holeFaults_34 : decode cX0_holeFaults 34 = .ok (.ior, 1) := by decide +kernel
theorem dX0_holeFaults_35 : decode cX0_holeFaults 35 = .ok (.istore_n 2, 1) := by decide +kernel
theorem dX0_holeFaults_36 : decode cX0_holeFaults 36 = .ok (.iload_n 2, 1) := by decide +kernel
theorem dX0_holeFaults_37 : decode cX0_holeFaults 37 = .ok (.ireturn, 1) := by decide +kernel
theorem dX0_hasWatermark_0 : decode cX0_hasWatermark 0 = .ok (.aload_n 0, 1) := by decide +kernel
theorem dX0_hasWatermark_1 : decode cX0_hasWatermark 1 = .ok (.getfield 15, 3) := by decide +kernel
theorem dX0_hasWatermark_4 : decode cX0_hasWatermark 4 = .ok (.ifCond .le 21, 3) := by decide +kernel
theorem dX0_hasWatermark_7 : decode cX0_hasWatermark 7 = .ok (.aload_n 0, 1) := by decide +kernel
theorem dX0_hasWatermark_8 : decode cX0_hasWatermark 8 = .ok (.getfield 38, 3) := by decide +kernel
theorem dX0_hasWatermark_11 : decode cX0_hasWatermark 11 = .ok (.iload_n 1, 1) := by decide +kernel
theorem dX0_hasWatermark_12 : decode cX0_hasWatermark 12 = .ok (.iadd, 1) := by decide +kernel
theorem dX0_hasWatermark_13 : decode cX0_hasWatermark 13 = .ok (.aload_n 0, 1) := by decide +kernel
theorem dX0_hasWatermark_14 : decode cX0_hasWatermark 14 = .ok (.getfield 15, 3) := by decide +kernel
theorem dX0_hasWatermark_17 : decode cX0_hasWatermark 17 = .ok (.irem, 1) := by decide +kernel
theorem dX0_hasWatermark_18 : decode cX0_hasWatermark 18 = .ok (.ifCond .ne 7, 3) := by decide +kernel
theorem dX0_hasWatermark_21 : decode cX0_hasWatermark 21 = .ok (.iconst 1, 1) := by decide +kernel
theorem dX0_hasWatermark_22 : decode cX0_hasWatermark 22 = .ok (.goto 4, 3) := by decide +kernel
theorem dX0_hasWatermark_25 : decode cX0_hasWatermark 25 = .ok (.iconst 0, 1) := by decide +kernel
theorem dX0_hasWatermark_26 : decode cX0_hasWatermark 26 = .ok (.ireturn, 1) := by decide +kernel
set_option maxRecDepth 20000 in
theorem ggX0_strikeAll_X1_strike : GoodIn wsX0_strikeAll wsX1_strike := goodIn_r _ [6, 7, 8, 9, 10, 5, 11, 12, 20, 21] (by decide +kernel) (by decide +kernel)
set_option maxRecDepth 20000 in
theorem gX0_strikeAll_X1_strike : GoodIn wsX0_strikeAll (wsV RX0 79 RX1 yX1_strike wsX1_strike) := goodIn_app (goodIn_of _ (by decide +kernel)) ggX0_strikeAll_X1_strike
theorem dX0_strikeAll_0 : decode cX0_strikeAll 0 = .ok (.iconst 0, 1) := by decide +kernel
theorem dX0_strikeAll_1 : decode cX0_strikeAll 1 = .ok (.istore_n 1, 1) := by decide +kernel
theorem dX0_strikeAll_2 : decode cX0_strikeAll 2 = .ok (.iload_n 1, 1) := by decide +kernel
theorem dX0_strikeAll_3 : decode cX0_strikeAll 3 = .ok (.bipush 7, 2) := by decide +kernel
theorem dX0_strikeAll_5 : decode cX0_strikeAll 5 = .ok (.if_icmp .ge 18, 3) := by decide +kernel
theorem dX0_strikeAll_8 : decode cX0_strikeAll 8 = .ok (.aload_n 0, 1) := by decide +kernel
theorem dX0_strikeAll_9 : decode cX0_strikeAll 9 = .ok (.getfield 20, 3) := by decide +kernel
theorem dX0_strikeAll_12 : decode cX0_strikeAll 12 = .ok (.iload_n 1, 1) := by decide +kernel
theorem dX0_strikeAll_13 : decode cX0_strikeAll 13 = .ok (.aaload, 1) := by decide +kernel
theorem dX0_strikeAll_14 : decode cX0_strikeAll 14 = .ok (.invokevirtual 79, 3) := by decide +kernel
theorem dX0_strikeAll_17 : decode cX0_strikeAll 17 = .ok (.iinc 1 1, 3) := by decide +kernel
theorem dX0_strikeAll_20 : decode cX0_strikeAll 20 = .ok (.goto (-18), 3) := by decide +kernel
theorem dX0_strikeAll_23 : decode cX0_strikeAll 23 = .ok (.return_, 1) := by decide +kernel
set_option maxRecDepth 20000 in
theorem ggX0_brokenPins_X1_isWhole : GoodIn wsX0_brokenPins wsX1_isWhole := goodIn_r _ [6, 7, 8, 16, 17] (by decide +kernel) (by decide +kernel)
set_option maxRecDepth 20000 in
theorem gX0_brokenPins_X1_isWhole : GoodIn wsX0_brokenPins (wsV RX0 75 RX1 yX1_isWhole wsX1_isWhole) := goodIn_app (goodIn_of _ (by decide +kernel)) ggX0_brokenPins_X1_isWhole
theorem dX0_brokenPins_0 : decode cX0_brokenPins 0 = .ok (.iconst 0, 1) := by decide +kernel
theorem dX0_brokenPins_1 : decode cX0_brokenPins 1 = .ok (.istore_n 1, 1) := by decide +kernel
theorem dX0_brokenPins_2 : decode cX0_brokenPins 2 = .ok (.iconst 0, 1) := by decide +kernel
theorem dX0_brokenPins_3 : decode cX0_brokenPins 3 = .ok (.istore_n 2, 1) := by decide +kernel
theorem dX0_brokenPins_4 : decode cX0_brokenPins 4 = .ok (.iload_n 2, 1) := by decide +kernel
theorem dX0_brokenPins_5 : decode cX0_brokenPins 5 = .ok (.bipush 7, 2) := by decide +kernel
theorem dX0_brokenPins_7 : decode cX0_brokenPins 7 = .ok (.if_icmp .ge 24, 3) := by decide +kernel
theorem dX0_brokenPins_10 : decode cX0_brokenPins 10 = .ok (.aload_n 0, 1) := by decide +kernel
theorem dX0_brokenPins_11 : decode cX0_brokenPins 11 = .ok (.getfield 20, 3) := by decide +kernel
theorem dX0_brokenPins_14 : decode cX0_brokenPins 14 = .ok (.iload_n 2, 1) := by decide +kernel
theorem dX0_brokenPins_15 : decode cX0_brokenPins 15 = .ok (.aaload, 1) := by decide +kernel
theorem dX0_brokenPins_16 : decode cX0_brokenPins 16 = .ok (.invokevirtual 75, 3) := by decide +kernel
theorem dX0_brokenPins_19 : decode cX0_brokenPins 19 = .ok (.ifCond .ne 6, 3) := by decide +kernel
theorem dX0_brokenPins_22 : decode cX0_brokenPins 22 = .ok (.iinc 1 1, 3) := by decide +kernel
theorem dX0_brokenPins_25 : decode cX0_brokenPins 25 = .ok (.iinc 2 1, 3) := by decide +kernel
theorem dX0_brokenPins_28 : decode cX0_brokenPins 28 = .ok (.goto (-24), 3) := by decide +kernel
theorem dX0_brokenPins_31 : decode cX0_brokenPins 31 = .ok (.iload_n 1, 1) := by decide +kernel
theorem dX0_brokenPins_32 : decode cX0_brokenPins 32 = .ok (.ireturn, 1) := by decide +kernel
theorem dX1_init_0 : decode cX1_init 0 = .ok (.aload_n 0, 1) := by decide +kernel
theorem dX1_init_1 : decode cX1_init 1 = .ok (.invokespecial 3, 3) := by decide +kernel
theorem dX1_init_4 : decode cX1_init 4 = .ok (.aload_n 0, 1) := by decide +kernel
theorem dX1_init_5 : decode cX1_init 5 = .ok (.sipush 200, 3) := by decide +kernel
theorem dX1_init_8 : decode cX1_init 8 = .ok (.putfield 9, 3) := by decide +kernel
theorem dX1_init_11 : decode cX1_init 11 = .ok (.return_, 1) := by decide +kernel
theorem dX1_isWhole_0 : decode cX1_isWhole 0 = .ok (.aload_n 0, 1) := by decide +kernel
theorem dX1_isWhole_1 : decode cX1_isWhole 1 = .ok (.getfield 15, 3) := by decide +kernel
theorem dX1_isWhole_4 : decode cX1_isWhole 4 = .ok (.aload_n 0, 1) := by decide +kernel
theorem dX1_isWhole_5 : decode cX1_isWhole 5 = .ok (.getfield 9, 3) := by decide +kernel
theorem dX1_isWhole_8 : decode cX1_isWhole 8 = .ok (.if_icmp .gt 7, 3) := by decide +kernel
theorem dX1_isWhole_11 : decode cX1_isWhole 11 = .ok (.iconst 1, 1) := by decide +kernel
theorem dX1_isWhole_12 : decode cX1_isWhole 12 = .ok (.goto 4, 3) := by decide +kernel
theorem dX1_isWhole_15 : decode cX1_isWhole 15 = .ok (.iconst 0, 1) := by decide +kernel
theorem dX1_isWhole_16 : decode cX1_isWhole 16 = .ok (.ireturn, 1) := by decide +kernel
set_option maxRecDepth 20000 in
theorem ggX1_strike_X1_isWhole : GoodIn wsX1_strike wsX1_isWhole := goodIn_r _ [6, 1, 7, 8, 9] (by decide +kernel) (by decide +kernel)
set_option maxRecDepth 20000 in
theorem gX1_strike_X1_isWhole : GoodIn wsX1_strike (wsV RX1 18 RX1 yX1_isWhole wsX1_isWhole) := goodIn_app (goodIn_of _ (by decide +kernel)) ggX1_strike_X1_isWhole
theorem dX1_strike_0 : decode cX1_strike 0 = .ok (.aload_n 0, 1) := by decide +kernel
theorem dX1_strike_1 : decode cX1_strike 1 = .ok (.invokevirtual 18, 3) := by decide +kernel
theorem dX1_strike_4 : decode cX1_strike 4 = .ok (.ifCond .eq 13, 3) := by decide +kernel
theorem dX1_strike_7 : decode cX1_strike 7 = .ok (.aload_n 0, 1) := by decide +kernel
theorem dX1_strike_8 : decode cX1_strike 8 = .ok (.dup, 1) := by decide +kernel
theorem dX1_strike_9 : decode cX1_strike 9 = .ok (.getfield 15, 3) := by decide +kernel
theorem dX1_strike_12 : decode cX1_strike 12 = .ok (.iconst 1, 1) := by decide +kernel
theorem dX1_strike_13 : decode cX1_strike 13 = .ok (.iadd, 1) := by decide +kernel
theorem dX1_strike_14 : decode cX1_strike 14 = .ok (.putfield 15, 3) := by decide +kernel
theorem dX1_strike_17 : decode cX1_strike 17 = .ok (.return_, 1) := by decide +kernel
theorem dX1_becomeLike_0 : decode cX1_becomeLike 0 = .ok (.aload_n 0, 1) := by decide +kernel
theorem dX1_becomeLike_1 : decode cX1_becomeLike 1 = .ok (.aload_n 1, 1) := by decide +kernel
theorem dX1_becomeLike_2 : decode cX1_becomeLike 2 = .ok (.getfield 9, 3) := by decide +kernel
theorem dX1_becomeLike_5 : decode cX1_becomeLike 5 = .ok (.putfield 9, 3) := by decide +kernel
theorem dX1_becomeLike_8 : decode cX1_becomeLike 8 = .ok (.aload_n 0, 1) := by decide +kernel
theorem dX1_becomeLike_9 : decode cX1_becomeLike 9 = .ok (.aload_n 1, 1) := by decide +kernel
theorem dX1_becomeLike_10 : decode cX1_becomeLike 10 = .ok (.getfield 15, 3) := by decide +kernel
theorem dX1_becomeLike_13 : decode cX1_becomeLike 13 = .ok (.putfield 15, 3) := by decide +kernel
theorem dX1_becomeLike_16 : decode cX1_becomeLike 16 = .ok (.return_, 1) := by decide +kernel
set_option maxRecDepth 20000 in
theorem ggX1_answer_X1_isWhole : GoodIn wsX1_answer wsX1_isWhole := goodIn_r _ [7, 2, 1, 8, 9] (by decide +kernel) (by decide +kernel)
set_option maxRecDepth 20000 in
theorem gX1_answer_X1_isWhole : GoodIn wsX1_answer (wsV RX1 18 RX1 yX1_isWhole wsX1_isWhole) := goodIn_app (goodIn_of _ (by decide +kernel)) ggX1_answer_X1_isWhole
theorem dX1_answer_0 : decode cX1_answer 0 = .ok (.iload_n 1, 1) := by decide +kernel
theorem dX1_answer_1 : decode cX1_answer 1 = .ok (.tableswitch 50 0 2 #[27, 32, 37], 27) := by decide +kernel
theorem dX1_answer_28 : decode cX1_answer 28 = .ok (.aload_n 0, 1) := by decide +kernel
theorem dX1_answer_29 : decode cX1_answer 29 = .ok (.getfield 9, 3) := by decide +kernel
theorem dX1_answer_32 : decode cX1_answer 32 = .ok (.ireturn, 1) := by decide +kernel
theorem dX1_answer_33 : decode cX1_answer 33 = .ok (.aload_n 0, 1) := by decide +kernel
theorem dX1_answer_34 : decode cX1_answer 34 = .ok (.getfield 15, 3) := by decide +kernel
theorem dX1_answer_37 : decode cX1_answer 37 = .ok (.ireturn, 1) := by decide +kernel
theorem dX1_answer_38 : decode cX1_answer 38 = .ok (.aload_n 0, 1) := by decide +kernel
theorem dX1_answer_39 : decode cX1_answer 39 = .ok (.invokevirtual 18, 3) := by decide +kernel
theorem dX1_answer_42 : decode cX1_answer 42 = .ok (.ifCond .eq 7, 3) := by decide +kernel
theorem dX1_answer_45 : decode cX1_answer 45 = .ok (.iconst 1, 1) := by decide +kernel
theorem dX1_answer_46 : decode cX1_answer 46 = .ok (.goto 4, 3) := by decide +kernel
theorem dX1_answer_49 : decode cX1_answer 49 = .ok (.iconst 0, 1) := by decide +kernel
theorem dX1_answer_50 : decode cX1_answer 50 = .ok (.ireturn, 1) := by decide +kernel
theorem dX1_answer_51 : decode cX1_answer 51 = .ok (.aload_n 0, 1) := by decide +kernel
theorem dX1_answer_52 : decode cX1_answer 52 = .ok (.invokevirtual 18, 3) := by decide +kernel
theorem dX1_answer_55 : decode cX1_answer 55 = .ok (.ifCond .eq 17, 3) := by decide +kernel
theorem dX1_answer_58 : decode cX1_answer 58 = .ok (.aload_n 0, 1) := by decide +kernel
theorem dX1_answer_59 : decode cX1_answer 59 = .ok (.getfield 9, 3) := by decide +kernel
theorem dX1_answer_62 : decode cX1_answer 62 = .ok (.aload_n 0, 1) := by decide +kernel
theorem dX1_answer_63 : decode cX1_answer 63 = .ok (.getfield 15, 3) := by decide +kernel
theorem dX1_answer_66 : decode cX1_answer 66 = .ok (.isub, 1) := by decide +kernel
theorem dX1_answer_67 : decode cX1_answer 67 = .ok (.iconst 1, 1) := by decide +kernel
theorem dX1_answer_68 : decode cX1_answer 68 = .ok (.iadd, 1) := by decide +kernel
theorem dX1_answer_69 : decode cX1_answer 69 = .ok (.goto 4, 3) := by decide +kernel
theorem dX1_answer_72 : decode cX1_answer 72 = .ok (.iconst 0, 1) := by decide +kernel
theorem dX1_answer_73 : decode cX1_answer 73 = .ok (.ireturn, 1) := by decide +kernel
theorem dX2_init_0 : decode cX2_init 0 = .ok (.aload_n 0, 1) := by decide +kernel
theorem dX2_init_1 : decode cX2_init 1 = .ok (.invokespecial 3, 3) := by decide +kernel
theorem dX2_init_4 : decode cX2_init 4 = .ok (.aload_n 0, 1) := by decide +kernel
theorem dX2_init_5 : decode cX2_init 5 = .ok (.bipush 30, 2) := by decide +kernel
theorem dX2_init_7 : decode cX2_init 7 = .ok (.newarray .int, 2) := by decide +kernel
theorem dX2_init_9 : decode cX2_init 9 = .ok (.putfield 9, 3) := by decide +kernel
theorem dX2_init_12 : decode cX2_init 12 = .ok (.aload_n 0, 1) := by decide +kernel
theorem dX2_init_13 : decode cX2_init 13 = .ok (.bipush 30, 2) := by decide +kernel
theorem dX2_init_15 : decode cX2_init 15 = .ok (.newarray .boolean, 2) := by decide +kernel
theorem dX2_init_17 : decode cX2_init 17 = .ok (.putfield 15, 3) := by decide +kernel
theorem dX2_init_20 : decode cX2_init 20 = .ok (.return_, 1) := by decide +kernel
set_option maxRecDepth 20000 in
theorem ggX2_answer_X2_left : GoodIn wsX2_answer wsX2_left := goodIn_r _ [5, 6, 51, 52] (by decide +kernel) (by decide +kernel)
set_option maxRecDepth 20000 in
theorem gX2_answer_X2_left : GoodIn wsX2_answer (wsV RX2 19 RX2 yX2_left wsX2_left) := goodIn_app (goodIn_of _ (by decide +kernel)) ggX2_answer_X2_left
set_option maxRecDepth 20000 in
theorem ggX2_answer_X2_leftWith : GoodIn wsX2_answer wsX2_leftWith := goodIn_r _ [10, 11, 12, 13, 4, 14, 6, 15, 51, 52] (by decide +kernel) (by decide +kernel)
set_option maxRecDepth 20000 in
theorem gX2_answer_X2_leftWith : GoodIn wsX2_answer (wsV RX2 23 RX2 yX2_leftWith wsX2_leftWith) := goodIn_app (goodIn_of _ (by decide +kernel)) ggX2_answer_X2_leftWith
set_option maxRecDepth 20000 in
theorem ggX2_answer_X2_worth : GoodIn wsX2_answer wsX2_worth := goodIn_r _ [19, 20, 21, 22, 4, 23, 15, 6, 51, 52] (by decide +kernel) (by decide +kernel)
set_option maxRecDepth 20000 in
theorem gX2_answer_X2_worth : GoodIn wsX2_answer (wsV RX2 27 RX2 yX2_worth wsX2_worth) := goodIn_app (goodIn_of _ (by decide +kernel)) ggX2_answer_X2_worth
set_option maxRecDepth 20000 in
theorem ggX2_answer_X2_invertedPairs : GoodIn wsX2_answer wsX2_invertedPairs := goodIn_r _ [27, 28, 29, 30, 4, 31, 6, 15, 51, 52] (by decide +kernel) (by decide +kernel)
set_option maxRecDepth 20000 in
theorem gX2_answer_X2_invertedPairs : GoodIn wsX2_answer (wsV RX2 30 RX2 yX2_invertedPairs wsX2_invertedPairs) := goodIn_app (goodIn_of _ (by decide +kernel)) ggX2_answer_X2_invertedPairs
set_option maxRecDepth 20000 in
theorem ggX2_answer_X2_rowsOff : GoodIn wsX2_answer wsX2_rowsOff := goodIn_r _ [35, 15, 51, 52] (by decide +kernel) (by decide +kernel)
set_option maxRecDepth 20000 in
theorem gX2_answer_X2_rowsOff : GoodIn wsX2_answer (wsV RX2 33 RX2 yX2_rowsOff wsX2_rowsOff) := goodIn_app (goodIn_of _ (by decide +kernel)) ggX2_answer_X2_rowsOff
set_option maxRecDepth 20000 in
theorem ggX2_answer_X2_greatestBlock : GoodIn wsX2_answer wsX2_greatestBlock := goodIn_r _ [39, 40, 41, 42, 43, 44, 45, 46, 4, 47, 11, 12, 13, 14, 6, 15, 48, 49, 50, 51, 52] (by decide +kernel) (by decide +kernel)
set_option maxRecDepth 20000 in
theorem gX2_answer_X2_greatestBlock : GoodIn wsX2_answer (wsV RX2 36 RX2 yX2_greatestBlock wsX2_greatestBlock) := goodIn_app (goodIn_of _ (by decide +kernel)) ggX2_answer_X2_greatestBlock
theorem dX2_answer_0 : decode cX2_answer 0 = .ok (.iload_n 1, 1) := by decide +kernel
theorem dX2_answer_1 : decode cX2_answer 1 = .ok (.tableswitch 61 0 4 #[35, 40, 46, 51, 56], 35) := by decide +kernel
theorem dX2_answer_36 : decode cX2_answer 36 = .ok (.aload_n 0, 1) := by decide +kernel
theorem dX2_answer_37 : decode cX2_answer 37 = .ok (.invokevirtual 19, 3) := by decide +kernel
theorem dX2_answer_40 : decode cX2_answer 40 = .ok (.ireturn, 1) := by decide +kernel
theorem dX2_answer_41 : decode cX2_answer 41 = .ok (.aload_n 0, 1) := by decide +kernel
theorem dX2_answer_42 : decode cX2_answer 42 = .ok (.iconst 0, 1) := by decide +kernel
theorem dX2_answer_43 : decode cX2_answer 43 = .ok (.invokevirtual 23, 3) := by decide +kernel
theorem dX2_answer_46 : decode cX2_answer 46 = .ok (.ireturn, 1) := by decide +kernel
theorem dX2_answer_47 : decode cX2_answer 47 = .ok (.aload_n 0, 1) := by decide +kernel
theorem dX2_answer_48 : decode cX2_answer 48 = .ok (.invokevirtual 27, 3) := by decide +kernel
theorem dX2_answer_51 : decode cX2_answer 51 = .ok (.ireturn, 1) := by decide +kernel
theorem dX2_answer_52 : decode cX2_answer 52 = .ok (.aload_n 0, 1) := by decide +kernel
theorem dX2_answer_53 : decode cX2_answer 53 = .ok (.invokevirtual 30, 3) := by decide +kernel
theorem dX2_answer_56 : decode cX2_answer 56 = .ok (.ireturn, 1) := by decide +kernel
theorem dX2_answer_57 : decode cX2_answer 57 = .ok (.aload_n 0, 1) := by decide +kernel
theorem dX2_answer_58 : decode cX2_answer 58 = .ok (.invokevirtual 33, 3) := by decide +kernel
theorem dX2_answer_61 : decode cX2_answer 61 = .ok (.ireturn, 1) := by decide +kernel
theorem dX2_answer_62 : decode cX2_answer 62 = .ok (.aload_n 0, 1) := by decide +kernel
theorem dX2_answer_63 : decode cX2_answer 63 = .ok (.invokevirtual 36, 3) := by decide +kernel
theorem dX2_answer_66 : decode cX2_answer 66 = .ok (.ireturn, 1) := by decide +kernel
theorem dX2_worthOf_0 : decode cX2_worthOf 0 = .ok (.aload_n 0, 1) := by decide +kernel
theorem dX2_worthOf_1 : decode cX2_worthOf 1 = .ok (.getfield 9, 3) := by decide +kernel
theorem dX2_worthOf_4 : decode cX2_worthOf 4 = .ok (.iload_n 1, 1) := by decide +kernel
theorem dX2_worthOf_5 : decode cX2_worthOf 5 = .ok (.iaload, 1) := by decide +kernel
theorem dX2_worthOf_6 : decode cX2_worthOf 6 = .ok (.istore_n 2, 1) := by decide +kernel
theorem dX2_worthOf_7 : decode cX2_worthOf 7 = .ok (.aload_n 0, 1) := by decide +kernel
theorem dX2_worthOf_8 : decode cX2_worthOf 8 = .ok (.getfield 15, 3) := by decide +kernel
theorem dX2_worthOf_11 : decode cX2_worthOf 11 = .ok (.iload_n 1, 1) := by decide +kernel
theorem dX2_worthOf_12 : decode cX2_worthOf 12 = .ok (.baload, 1) := by decide +kernel
theorem dX2_worthOf_13 : decode cX2_worthOf 13 = .ok (.ifCond .ne 10, 3) := by decide +kernel
theorem dX2_worthOf_16 : decode cX2_worthOf 16 = .ok (.iload_n 2, 1) := by decide +kernel
theorem dX2_worthOf_17 : decode cX2_worthOf 17 = .ok (.bipush 7, 2) := by decide +kernel
theorem dX2_worthOf_19 : decode cX2_worthOf 19 = .ok (.iand, 1) := by decide +kernel
theorem dX2_worthOf_20 : decode cX2_worthOf 20 = .ok (.ifCond .eq 5, 3) := by decide +kernel
theorem dX2_worthOf_23 : decode cX2_worthOf 23 = .ok (.iconst 0, 1) := by decide +kernel
theorem dX2_worthOf_24 : decode cX2_worthOf 24 = .ok (.ireturn, 1) := by decide +kernel
theorem dX2_worthOf_25 : decode cX2_worthOf 25 = .ok (.iconst 1, 1) := by decide +kernel
theorem dX2_worthOf_26 : decode cX2_worthOf 26 = .ok (.istore_n 3, 1) := by decide +kernel
theorem dX2_worthOf_27 : decode cX2_worthOf 27 = .ok (.iload_n 2, 1) := by decide +kernel
theorem dX2_worthOf_28 : decode cX2_worthOf 28 = .ok (.bipush 8, 2) := by decide +kernel
theorem dX2_worthOf_30 : decode cX2_worthOf 30 = .ok (.iand, 1) := by decide +kernel
theorem dX2_worthOf_31 : decode cX2_worthOf 31 = .ok (.ifCond .eq 6, 3) := by decide +kernel
theorem dX2_worthOf_34 : decode cX2_worthOf 34 = .ok (.iinc 3 20, 3) := by decide +kernel
theorem dX2_worthOf_37 : decode cX2_worthOf 37 = .ok (.iload_n 2, 1) := by decide +kernel
theorem dX2_worthOf_38 : decode cX2_worthOf 38 = .ok (.bipush 16, 2) := by decide +kernel
theorem dX2_worthOf_40 : decode cX2_worthOf 40 = .ok (.iand, 1) := by decide +kernel
theorem dX2_worthOf_41 : decode cX2_worthOf 41 = .ok (.ifCond .eq 6, 3) := by decide +kernel
theorem dX2_worthOf_44 : decode cX2_worthOf 44 = .ok (.iinc 3 4, 3) := by decide +kernel
theorem dX2_worthOf_47 : decode cX2_worthOf 47 = .ok (.iload_n 3, 1) := by decide +kernel
theorem dX2_worthOf_48 : decode cX2_worthOf 48 = .ok (.ireturn, 1) := by decide +kernel
set_option maxRecDepth 20000 in
theorem ggX2_worth_X2_worthOf : GoodIn wsX2_worth wsX2_worthOf := goodIn_r _ [5, 6, 7, 8, 9] (by decide +kernel) (by decide +kernel)
set_option maxRecDepth 20000 in
theorem gX2_worth_X2_worthOf : GoodIn wsX2_worth (wsV RX2 39 RX2 yX2_worthOf wsX2_worthOf) := goodIn_app (goodIn_of _ (by decide +kernel)) ggX2_worth_X2_worthOf
theorem dX2_worth_0 : decode cX2_worth 0 = .ok (.iconst 0, 1) := by decide +kernel
theorem dX2_worth_1 : decode cX2_worth 1 = .ok (.istore_n 1, 1) := by decide +kernel
theorem dX2_worth_2 : decode cX2_worth 2 = .ok (.iconst 0, 1) := by decide +kernel
theorem dX2_worth_3 : decode cX2_worth 3 = .ok (.istore_n 2, 1) := by decide +kernel
theorem dX2_worth_4 : decode cX2_worth 4 = .ok (.iload_n 2, 1) := by decide +kernel
theorem dX2_worth_5 : decode cX2_worth 5 = .ok (.bipush 30, 2) := by decide +kernel
theorem dX2_worth_7 : decode cX2_worth 7 = .ok (.if_icmp .ge 17, 3) := by decide +kernel
theorem dX2_worth_10 : decode cX2_worth 10 = .ok (.iload_n 1, 1) := by decide +kernel
theorem dX2_worth_11 : decode cX2_worth 11 = .ok (.aload_n 0, 1) := by decide +kernel
theorem dX2_worth_12 : decode cX2_worth 12 = .ok (.iload_n 2, 1) := by decide +kernel
theorem dX2_worth_13 : decode cX2_worth 13 = .ok (.invokevirtual 39, 3) := by decide +kernel
theorem dX2_worth_16 : decode cX2_worth 16 = .ok (.iadd, 1) := by decide +kernel
theorem dX2_worth_17 : decode cX2_worth 17 = .ok (.istore_n 1, 1) := by decide +kernel
theorem dX2_worth_18 : decode cX2_worth 18 = .ok (.iinc 2 1, 3) := by decide +kernel
theorem dX2_worth_21 : decode cX2_worth 21 = .ok (.goto (-17), 3) := by decide +kernel
theorem dX2_worth_24 : decode cX2_worth 24 = .ok (.iload_n 1, 1) := by decide +kernel
theorem dX2_worth_25 : decode cX2_worth 25 = .ok (.ireturn, 1) := by decide +kernel
theorem dX2_left_0 : decode cX2_left 0 = .ok (.iconst 0, 1) := by decide +kernel
theorem dX2_left_1 : decode cX2_left 1 = .ok (.istore_n 1, 1) := by decide +kernel
theorem dX2_left_2 : decode cX2_left 2 = .ok (.iconst 0, 1) := by decide +kernel
theorem dX2_left_3 : decode cX2_left 3 = .ok (.istore_n 2, 1) := by decide +kernel
theorem dX2_left_4 : decode cX2_left 4 = .ok (.iload_n 2, 1) := by decide +kernel
theorem dX2_left_5 : decode cX2_left 5 = .ok (.bipush 30, 2) := by decide +kernel
theorem dX2_left_7 : decode cX2_left 7 = .ok (.if_icmp .ge 21, 3) := by decide +kernel
theorem dX2_left_10 : decode cX2_left 10 = .ok (.aload_n 0, 1) := by decide +kernel
theorem dX2_left_11 : decode cX2_left 11 = .ok (.getfield 15, 3) := by decide +kernel
theorem dX2_left_14 : decode cX2_left 14 = .ok (.iload_n 2, 1) := by decide +kernel
theorem dX2_left_15 : decode cX2_left 15 = .ok (.baload, 1) := by decide +kernel
theorem dX2_left_16 : decode cX2_left 16 = .ok (.ifCond .ne 6, 3) := by decide +kernel
theorem dX2_left_19 : decode cX2_left 19 = .ok (.iinc 1 1, 3) := by decide +kernel
theorem dX2_left_22 : decode cX2_left 22 = .ok (.iinc 2 1, 3) := by decide +kernel
theorem dX2_left_25 : decode cX2_left 25 = .ok (.goto (-21), 3) := by decide +kernel
theorem dX2_left_28 : decode cX2_left 28 = .ok (.iload_n 1, 1) := by decide +kernel
theorem dX2_left_29 : decode cX2_left 29 = .ok (.ireturn, 1) := by decide +kernel
theorem dX2_isLeftWith_0 : decode cX2_isLeftWith 0 = .ok (.aload_n 0, 1) := by decide +kernel
theorem dX2_isLeftWith_1 : decode cX2_isLeftWith 1 = .ok (.getfield 15, 3) := by decide +kernel
theorem dX2_isLeftWith_4 : decode cX2_isLeftWith 4 = .ok (.iload_n 1, 1) := by decide +kernel
theorem dX2_isLeftWith_5 : decode cX2_isLeftWith 5 = .ok (.baload, 1) := by decide +kernel
theorem dX2_isLeftWith_6 : decode cX2_isLeftWith 6 = .ok (.ifCond .ne 17, 3) := by decide +kernel
theorem dX2_isLeftWith_9 : decode cX2_isLeftWith 9 = .ok (.aload_n 0, 1) := by decide +kernel
theorem dX2_isLeftWith_10 : decode cX2_isLeftWith 10 = .ok (.getfield 9, 3) := by decide +kernel
theorem dX2_isLeftWith_13 : decode cX2_isLeftWith 13 = .ok (.iload_n 1, 1) := by decide +kernel
theorem dX2_isLeftWith_14 : decode cX2_isLeftWith 14 = .ok (.iaload, 1) := by decide +kernel
theorem dX2_isLeftWith_15 : decode cX2_isLeftWith 15 = .ok (.iload_n 2, 1) := by decide +kernel
theorem dX2_isLeftWith_16 : decode cX2_isLeftWith 16 = .ok (.if_icmp .ne 7, 3) := by decide +kernel
theorem dX2_isLeftWith_19 : decode cX2_isLeftWith 19 = .ok (.iconst 1, 1) := by decide +kernel
theorem dX2_isLeftWith_20 : decode cX2_isLeftWith 20 = .ok (.goto 4, 3) := by decide +kernel
theorem dX2_isLeftWith_23 : decode cX2_isLeftWith 23 = .ok (.iconst 0, 1) := by decide +kernel
theorem dX2_isLeftWith_24 : decode cX2_isLeftWith 24 = .ok (.ireturn, 1) := by decide +kernel
set_option maxRecDepth 20000 in
theorem ggX2_leftWith_X2_isLeftWith : GoodIn wsX2_leftWith wsX2_isLeftWith := goodIn_r _ [5, 6, 7, 8, 9] (by decide +kernel) (by decide +kernel)
set_option maxRecDepth 20000 in
theorem gX2_leftWith_X2_isLeftWith : GoodIn wsX2_leftWith (wsV RX2 42 RX2 yX2_isLeftWith wsX2_isLeftWith) := goodIn_app (goodIn_of _ (by decide +kernel)) ggX2_leftWith_X2_isLeftWith
theorem dX2_leftWith_0 : decode cX2_leftWith 0 = .ok (.iconst 0, 1) := by decide +kernel
theorem dX2_leftWith_1 : decode cX2_leftWith 1 = .ok (.istore_n 2, 1) := by decide +kernel
theorem dX2_leftWith_2 : decode cX2_leftWith 2 = .ok (.iconst 0, 1) := by decide +kernel
theorem dX2_leftWith_3 : decode cX2_leftWith 3 = .ok (.istore_n 3, 1) := by decide +kernel
theorem dX2_leftWith_4 : decode cX2_leftWith 4 = .ok (.iload_n 3, 1) := by decide +kernel
theorem dX2_leftWith_5 : decode cX2_leftWith 5 = .ok (.bipush 30, 2) := by decide +kernel
theorem dX2_leftWith_7 : decode cX2_leftWith 7 = .ok (.if_icmp .ge 21, 3) := by decide +kernel
theorem dX2_leftWith_10 : decode cX2_leftWith 10 = .ok (.aload_n 0, 1) := by decide +kernel
theorem dX2_leftWith_11 : decode cX2_leftWith 11 = .ok (.iload_n 3, 1) := by decide +kernel
theorem dX2_leftWith_12 : decode cX2_leftWith 12 = .ok (.iload_n 1, 1) := by decide +kernel
theorem dX2_leftWith_13 : decode cX2_leftWith 13 = .ok (.invokevirtual 42, 3) := by decide +kernel
theorem dX2_leftWith_16 : decode cX2_leftWith 16 = .ok (.ifCond .eq 6, 3) := by decide +kernel
theorem dX2_leftWith_19 : decode cX2_leftWith 19 = .ok (.iinc 2 1, 3) := by decide +kernel
theorem dX2_leftWith_22 : decode cX2_leftWith 22 = .ok (.iinc 3 1, 3) := by decide +kernel
theorem dX2_leftWith_25 : decode cX2_leftWith 25 = .ok (.goto (-21), 3) := by decide +kernel
theorem dX2_leftWith_28 : decode cX2_leftWith 28 = .ok (.iload_n 2, 1) := by decide +kernel
theorem dX2_leftWith_29 : decode cX2_leftWith 29 = .ok (.ireturn, 1) := by decide +kernel
set_option maxRecDepth 20000 in
theorem ggX2_invertedPairs_X2_isInvertedPair : GoodIn wsX2_invertedPairs wsX2_isInvertedPair := goodIn_r _ [5, 6, 7, 8, 9] (by decide +kernel) (by decide +kernel)
set_option maxRecDepth 20000 in
theorem gX2_invertedPairs_X2_isInvertedPair : GoodIn wsX2_invertedPairs (wsV RX2 46 RX2 yX2_isInvertedPair wsX2_isInvertedPair) := goodIn_app (goodIn_of _ (by decide +kernel)) ggX2_invertedPairs_X2_isInvertedPair
theorem dX2_invertedPairs_0 : decode cX2_invertedPairs 0 = .ok (.iconst 0, 1) := by decide +kernel
theorem dX2_invertedPairs_1 : decode cX2_invertedPairs 1 = .ok (.istore_n 1, 1) := by decide +kernel
theorem dX2_invertedPairs_2 : decode cX2_invertedPairs 2 = .ok (.iconst 0, 1) := by decide +kernel
theorem dX2_invertedPairs_3 : decode cX2_invertedPairs 3 = .ok (.istore_n 2, 1) := by decide +kernel
theorem dX2_invertedPairs_4 : decode cX2_invertedPairs 4 = .ok (.iload_n 2, 1) := by decide +kernel
theorem dX2_invertedPairs_5 : decode cX2_invertedPairs 5 = .ok (.iconst 5, 1) := by decide +kernel
theorem dX2_invertedPairs_6 : decode cX2_invertedPairs 6 = .ok (.if_icmp .ge 38, 3) := by decide +kernel
theorem dX2_invertedPairs_9 : decode cX2_invertedPairs 9 = .ok (.iconst 0, 1) := by decide +kernel
theorem dX2_invertedPairs_10 : decode cX2_invertedPairs 10 = .ok (.istore_n 3, 1) := by decide +kernel
theorem dX2_invertedPairs_11 : decode cX2_invertedPairs 11 = .ok (.iload_n 3, 1) := by decide +kernel
theorem dX2_invertedPairs_12 : decode cX2_invertedPairs 12 = .ok (.iconst 5, 1) := by decide +kernel
theorem dX2_invertedPairs_13 : decode cX2_invertedPairs 13 = .ok (.if_icmp .ge 25, 3) := by decide +kernel
theorem dX2_invertedPairs_16 : decode cX2_invertedPairs 16 = .ok (.aload_n 0, 1) := by decide +kernel
theorem dX2_invertedPairs_17 : decode cX2_invertedPairs 17 = .ok (.bipush 6, 2) := by decide +kernel
theorem dX2_invertedPairs_19 : decode cX2_invertedPairs 19 = .ok (.iload_n 2, 1) := by decide +kernel
theorem dX2_invertedPairs_20 : decode cX2_invertedPairs 20 = .ok (.imul, 1) := by decide +kernel
theorem dX2_invertedPairs_21 : decode cX2_invertedPairs 21 = .ok (.iload_n 3, 1) := by decide +kernel
theorem dX2_invertedPairs_22 : decode cX2_invertedPairs 22 = .ok (.iadd, 1) := by decide +kernel
theorem dX2_invertedPairs_23 : decode cX2_invertedPairs 23 = .ok (.invokevirtual 46, 3) := by decide +kernel
theorem dX2_invertedPairs_26 : decode cX2_invertedPairs 26 = .ok (.ifCond .eq 6, 3) := by decide +kernel
theorem dX2_invertedPairs_29 : decode cX2_invertedPairs 29 = .ok (.iinc 1 1, 3) := by decide +kernel
theorem dX2_invertedPairs_32 : decode cX2_invertedPairs 32 = .ok (.iinc 3 1, 3) := by decide +kernel
theorem dX2_invertedPairs_35 : decode cX2_invertedPairs 35 = .ok (.goto (-24), 3) := by decide +kernel
theorem dX2_invertedPairs_38 : decode cX2_invertedPairs 38 = .ok (.iinc 2 1, 3) := by decide +kernel
theorem dX2_invertedPairs_41 : decode cX2_invertedPairs 41 = .ok (.goto (-37), 3) := by decide +kernel
theorem dX2_invertedPairs_44 : decode cX2_invertedPairs 44 = .ok (.iload_n 1, 1) := by decide +kernel
theorem dX2_invertedPairs_45 : decode cX2_invertedPairs 45 = .ok (.ireturn, 1) := by decide +kernel
theorem dX2_isInvertedPair_0 : decode cX2_isInvertedPair 0 = .ok (.iload_n 1, 1) := by decide +kernel
theorem dX2_isInvertedPair_1 : decode cX2_isInvertedPair 1 = .ok (.iconst 1, 1) := by decide +kernel
theorem dX2_isInvertedPair_2 : decode cX2_isInvertedPair 2 = .ok (.iadd, 1) := by decide +kernel
theorem dX2_isInvertedPair_3 : decode cX2_isInvertedPair 3 = .ok (.istore_n 2, 1) := by decide +kernel
theorem dX2_isInvertedPair_4 : decode cX2_isInvertedPair 4 = .ok (.aload_n 0, 1) := by decide +kernel
theorem dX2_isInvertedPair_5 : decode cX2_isInvertedPair 5 = .ok (.getfield 15, 3) := by decide +kernel
theorem dX2_isInvertedPair_8 : decode cX2_isInvertedPair 8 = .ok (.iload_n 1, 1) := by decide +kernel
theorem dX2_isInvertedPair_9 : decode cX2_isInvertedPair 9 = .ok (.baload, 1) := by decide +kernel
theorem dX2_isInvertedPair_10 : decode cX2_isInvertedPair 10 = .ok (.ifCond .ne 35, 3) := by decide +kernel
theorem dX2_isInvertedPair_13 : decode cX2_isInvertedPair 13 = .ok (.aload_n 0, 1) := by decide +kernel
theorem dX2_isInvertedPair_14 : decode cX2_isInvertedPair 14 = .ok (.getfield 15, 3) := by decide +kernel
theorem dX2_isInvertedPair_17 : decode cX2_isInvertedPair 17 = .ok (.iload_n 2, 1) := by decide +kernel
theorem dX2_isInvertedPair_18 : decode cX2_isInvertedPair 18 = .ok (.baload, 1) := by decide +kernel
theorem dX2_isInvertedPair_19 : decode cX2_isInvertedPair 19 = .ok (.ifCond .ne 26, 3) := by decide +kernel
theorem dX2_isInvertedPair_22 : decode cX2_isInvertedPair 22 = .ok (.aload_n 0, 1) := by decide +kernel
theorem dX2_isInvertedPair_23 : decode cX2_isInvertedPair 23 = .ok (.getfield 9, 3) := by decide +kernel
theorem dX2_isInvertedPair_26 : decode cX2_isInvertedPair 26 = .ok (.iload_n 1, 1) := by decide +kernel
theorem dX2_isInvertedPair_27 : decode cX2_isInvertedPair 27 = .ok (.iaload, 1) := by decide +kernel
theorem dX2_isInvertedPair_28 : decode cX2_isInvertedPair 28 = .ok (.aload_n 0, 1) := by decide +kernel
theorem dX2_isInvertedPair_29 : decode cX2_isInvertedPair 29 = .ok (.getfield 9, 3) := by decide +kernel
theorem dX2_isInvertedPair_32 : decode cX2_isInvertedPair 32 = .ok (.iload_n 2, 1) := by decide +kernel
theorem dX2_isInvertedPair_33 : decode cX2_isInvertedPair 33 = .ok (.iaload, 1) := by decide +kernel
theorem dX2_isInvertedPair_34 : decode cX2_isInvertedPair 34 = .ok (.ixor, 1) := by decide +kernel
theorem dX2_isInvertedPair_35 : decode cX2_isInvertedPair 35 = .ok (.bipush 8, 2) := by decide +kernel
theorem dX2_isInvertedPair_37 : decode cX2_isInvertedPair 37 = .ok (.iand, 1) := by decide +kernel
theorem dX2_isInvertedPair_38 : decode cX2_isInvertedPair 38 = .ok (.ifCond .eq 7, 3) := by decide +kernel
theorem dX2_isInvertedPair_41 : decode cX2_isInvertedPair 41 = .ok (.iconst 1, 1) := by decide +kernel
theorem dX2_isInvertedPair_42 : decode cX2_isInvertedPair 42 = .ok (.goto 4, 3) := by decide +kernel
theorem dX2_isInvertedPair_45 : decode cX2_isInvertedPair 45 = .ok (.iconst 0, 1) := by decide +kernel
theorem dX2_isInvertedPair_46 : decode cX2_isInvertedPair 46 = .ok (.ireturn, 1) := by decide +kernel
theorem dX2_rowsOff_0 : decode cX2_rowsOff 0 = .ok (.iconst 0, 1) := by decide +kernel
theorem dX2_rowsOff_1 : decode cX2_rowsOff 1 = .ok (.istore_n 1, 1) := by decide +kernel
theorem dX2_rowsOff_2 : decode cX2_rowsOff 2 = .ok (.iconst 0, 1) := by decide +kernel
theorem dX2_rowsOff_3 : decode cX2_rowsOff 3 = .ok (.istore_n 2, 1) := by decide +kernel
theorem dX2_rowsOff_4 : decode cX2_rowsOff 4 = .ok (.iload_n 2, 1) := by decide +kernel
theorem dX2_rowsOff_5 : decode cX2_rowsOff 5 = .ok (.iconst 5, 1) := by decide +kernel
theorem dX2_rowsOff_6 : decode cX2_rowsOff 6 = .ok (.if_icmp .ge 26, 3) := by decide +kernel
theorem dX2_rowsOff_9 : decode cX2_rowsOff 9 = .ok (.aload_n 0, 1) := by decide +kernel
theorem dX2_rowsOff_10 : decode cX2_rowsOff 10 = .ok (.getfield 9, 3) := by decide +kernel
theorem dX2_rowsOff_13 : decode cX2_rowsOff 13 = .ok (.bipush 6, 2) := by decide +kernel
theorem dX2_rowsOff_15 : decode cX2_rowsOff 15 = .ok (.iload_n 2, 1) := by decide +kernel
theorem dX2_rowsOff_16 : decode cX2_rowsOff 16 = .ok (.imul, 1) := by decide +kernel
theorem dX2_rowsOff_17 : decode cX2_rowsOff 17 = .ok (.iaload, 1) := by decide +kernel
theorem dX2_rowsOff_18 : decode cX2_rowsOff 18 = .ok (.iconst 1, 1) := by decide +kernel
theorem dX2_rowsOff_19 : decode cX2_rowsOff 19 = .ok (.iand, 1) := by decide +kernel
theorem dX2_rowsOff_20 : decode cX2_rowsOff 20 = .ok (.ifCond .eq 6, 3) := by decide +kernel
theorem dX2_rowsOff_23 : decode cX2_rowsOff 23 = .ok (.iinc 1 1, 3) := by decide +kernel
theorem dX2_rowsOff_26 : decode cX2_rowsOff 26 = .ok (.iinc 2 1, 3) := by decide +kernel
theorem dX2_rowsOff_29 : decode cX2_rowsOff 29 = .ok (.goto (-25), 3) := by decide +kernel
theorem dX2_rowsOff_32 : decode cX2_rowsOff 32 = .ok (.iload_n 1, 1) := by decide +kernel
theorem dX2_rowsOff_33 : decode cX2_rowsOff 33 = .ok (.ireturn, 1) := by decide +kernel
set_option maxRecDepth 20000 in
theorem ggX2_greatestBlock_X2_goodColumns : GoodIn wsX2_greatestBlock wsX2_goodColumns := goodIn_r _ [9, 10, 11, 12, 8, 13, 14, 15, 19, 20] (by decide +kernel) (by decide +kernel)
set_option maxRecDepth 20000 in
theorem gX2_greatestBlock_X2_goodColumns : GoodIn wsX2_greatestBlock (wsV RX2 50 RX2 yX2_goodColumns wsX2_goodColumns) := goodIn_app (goodIn_of _ (by decide +kernel)) ggX2_greatestBlock_X2_goodColumns
set_option maxRecDepth 20000 in
theorem ggX2_greatestBlock_X2_longestRun : GoodIn wsX2_greatestBlock wsX2_longestRun := goodIn_r _ [18, 1, 2, 3, 4] (by decide +kernel) (by decide +kernel)
set_option maxRecDepth 20000 in
theorem gX2_greatestBlock_X2_longestRun : GoodIn wsX2_greatestBlock (va_wsS RX2 53 yX2_longestRun wsX2_longestRun) := goodIn_app (goodIn_of _ (by decide +kernel)) ggX2_greatestBlock_X2_longestRun
