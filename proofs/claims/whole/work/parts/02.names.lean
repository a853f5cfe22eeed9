/-! names of the program, and its tables as the abstract machine reads them (written by wip/whole/gen_tables.py out of what the commands print of the program) -/
def RX0 : String := "LastMatches$Ashes"
def TX0 : u_T := fun k => match k with
  | _ => ("", "", "", false)
def tyX0 : Nat → FieldType := fun k => match k with
  | _ => .int
abbrev wsX00 : List Cond := u_ws RX0 TX0 0
theorem nmX0 : ∀ a, a < 0 → ∀ b, b < 0 → a ≠ b → (TX0 a).2.1 ≠ (TX0 b).2.1 := by decide +kernel
theorem tyX0_ok : ∀ k, k < 0 → parseFieldDescriptor (TX0 k).2.2.1 = some (tyX0 k) := by decide +kernel
def RX1 : String := "LastMatches$Clearing"
def TX1 : u_T := fun k => match k with
  | 0 => ("LastMatches$Clearing", "kinds", "[LLastMatches$Plain;", true)
  | 1 => ("LastMatches$Clearing", "ground", "[I", true)
  | 2 => ("LastMatches$Clearing", "carries", "[I", true)
  | 3 => ("LastMatches$Clearing", "kind", "[I", true)
  | 4 => ("LastMatches$Clearing", "head", "[I", true)
  | 5 => ("LastMatches$Clearing", "length", "[I", true)
  | 6 => ("LastMatches$Clearing", "matches", "I", false)
  | 7 => ("LastMatches$Clearing", "thick", "[I", true)
  | 8 => ("LastMatches$Clearing", "beneath", "[I", true)
  | 9 => ("LastMatches$Clearing", "sticks", "I", false)
  | 10 => ("LastMatches$Clearing", "stumpRow", "[I", true)
  | 11 => ("LastMatches$Clearing", "stumpCount", "I", false)
  | 12 => ("LastMatches$Clearing", "ready", "I", false)
  | 13 => ("LastMatches$Clearing", "minute", "I", false)
  | 14 => ("LastMatches$Clearing", "next", "I", false)
  | 15 => ("LastMatches$Clearing", "fire", "Z", false)
  | 16 => ("LastMatches$Clearing", "past", "[I", true)
  | _ => ("LastMatches$Clearing", "pastCount", "I", false)
def tyX1 : Nat → FieldType := fun k => match k with
  | 0 => .array (.object "LastMatches$Plain")
  | 1 => .array .int
  | 2 => .array .int
  | 3 => .array .int
  | 4 => .array .int
  | 5 => .array .int
  | 6 => .int
  | 7 => .array .int
  | 8 => .array .int
  | 9 => .int
  | 10 => .array .int
  | 11 => .int
  | 12 => .int
  | 13 => .int
  | 14 => .int
  | 15 => .boolean
  | 16 => .array .int
  | _ => .int
abbrev wsX10 : List Cond := u_ws RX1 TX1 18
theorem nmX1 : ∀ a, a < 18 → ∀ b, b < 18 → a ≠ b → (TX1 a).2.1 ≠ (TX1 b).2.1 := by decide +kernel
theorem tyX1_ok : ∀ k, k < 18 → parseFieldDescriptor (TX1 k).2.2.1 = some (tyX1 k) := by decide +kernel
def RX2 : String := "LastMatches$Damp"
def TX2 : u_T := fun k => match k with
  | _ => ("", "", "", false)
def tyX2 : Nat → FieldType := fun k => match k with
  | _ => .int
abbrev wsX20 : List Cond := u_ws RX2 TX2 0
theorem nmX2 : ∀ a, a < 0 → ∀ b, b < 0 → a ≠ b → (TX2 a).2.1 ≠ (TX2 b).2.1 := by decide +kernel
theorem tyX2_ok : ∀ k, k < 0 → parseFieldDescriptor (TX2 k).2.2.1 = some (tyX2 k) := by decide +kernel
def RX3 : String := "LastMatches$Half"
def TX3 : u_T := fun k => match k with
  | _ => ("", "", "", false)
def tyX3 : Nat → FieldType := fun k => match k with
  | _ => .int
abbrev wsX30 : List Cond := u_ws RX3 TX3 0
theorem nmX3 : ∀ a, a < 0 → ∀ b, b < 0 → a ≠ b → (TX3 a).2.1 ≠ (TX3 b).2.1 := by decide +kernel
theorem tyX3_ok : ∀ k, k < 0 → parseFieldDescriptor (TX3 k).2.2.1 = some (tyX3 k) := by decide +kernel
def RX4 : String := "LastMatches$Odds"
def TX4 : u_T := fun k => match k with
  | 0 => ("LastMatches$Odds", "bestRow", "[I", true)
  | 1 => ("LastMatches$Odds", "bestDeed", "I", false)
  | 2 => ("LastMatches$Odds", "row", "[I", true)
  | 3 => ("LastMatches$Odds", "leastFail", "J", false)
  | _ => ("LastMatches$Odds", "chances", "[J", true)
def tyX4 : Nat → FieldType := fun k => match k with
  | 0 => .array .int
  | 1 => .int
  | 2 => .array .int
  | 3 => .long
  | _ => .array .long
abbrev wsX40 : List Cond := u_ws RX4 TX4 5
theorem nmX4 : ∀ a, a < 5 → ∀ b, b < 5 → a ≠ b → (TX4 a).2.1 ≠ (TX4 b).2.1 := by decide +kernel
theorem tyX4_ok : ∀ k, k < 5 → parseFieldDescriptor (TX4 k).2.2.1 = some (tyX4 k) := by decide +kernel
def RX5 : String := "LastMatches$Plain"
def TX5 : u_T := fun k => match k with
  | _ => ("", "", "", false)
def tyX5 : Nat → FieldType := fun k => match k with
  | _ => .int
abbrev wsX50 : List Cond := u_ws RX5 TX5 0
theorem nmX5 : ∀ a, a < 0 → ∀ b, b < 0 → a ≠ b → (TX5 a).2.1 ≠ (TX5 b).2.1 := by decide +kernel
theorem tyX5_ok : ∀ k, k < 0 → parseFieldDescriptor (TX5 k).2.2.1 = some (tyX5 k) := by decide +kernel
def RX6 : String := "LastMatches$Reading"
def TX6 : u_T := fun k => match k with
  | 0 => ("LastMatches$Reading", "length", "I", false)
  | 1 => ("LastMatches$Reading", "bytes", "[I", true)
  | 2 => ("LastMatches$Reading", "numbers", "[I", true)
  | 3 => ("LastMatches$Reading", "place", "I", false)
  | 4 => ("LastMatches$Reading", "token", "I", false)
  | 5 => ("LastMatches$Reading", "start", "I", false)
  | _ => ("LastMatches$Reading", "value", "I", false)
def tyX6 : Nat → FieldType := fun k => match k with
  | 0 => .int
  | 1 => .array .int
  | 2 => .array .int
  | 3 => .int
  | 4 => .int
  | 5 => .int
  | _ => .int
abbrev wsX60 : List Cond := u_ws RX6 TX6 7
theorem nmX6 : ∀ a, a < 7 → ∀ b, b < 7 → a ≠ b → (TX6 a).2.1 ≠ (TX6 b).2.1 := by decide +kernel
theorem tyX6_ok : ∀ k, k < 7 → parseFieldDescriptor (TX6 k).2.2.1 = some (tyX6 k) := by decide +kernel
def RX7 : String := "LastMatches$Split"
def TX7 : u_T := fun k => match k with
  | _ => ("", "", "", false)
def tyX7 : Nat → FieldType := fun k => match k with
  | _ => .int
abbrev wsX70 : List Cond := u_ws RX7 TX7 0
theorem nmX7 : ∀ a, a < 0 → ∀ b, b < 0 → a ≠ b → (TX7 a).2.1 ≠ (TX7 b).2.1 := by decide +kernel
theorem tyX7_ok : ∀ k, k < 0 → parseFieldDescriptor (TX7 k).2.2.1 = some (tyX7 k) := by decide +kernel
def RX8 : String := "LastMatches$Storm"
def TX8 : u_T := fun k => match k with
  | _ => ("", "", "", false)
def tyX8 : Nat → FieldType := fun k => match k with
  | _ => .int
abbrev wsX80 : List Cond := u_ws RX8 TX8 0
theorem nmX8 : ∀ a, a < 0 → ∀ b, b < 0 → a ≠ b → (TX8 a).2.1 ≠ (TX8 b).2.1 := by decide +kernel
theorem tyX8_ok : ∀ k, k < 0 → parseFieldDescriptor (TX8 k).2.2.1 = some (tyX8 k) := by decide +kernel
def RX9 : String := "LastMatches$Tarred"
def TX9 : u_T := fun k => match k with
  | _ => ("", "", "", false)
def tyX9 : Nat → FieldType := fun k => match k with
  | _ => .int
abbrev wsX90 : List Cond := u_ws RX9 TX9 0
theorem nmX9 : ∀ a, a < 0 → ∀ b, b < 0 → a ≠ b → (TX9 a).2.1 ≠ (TX9 b).2.1 := by decide +kernel
theorem tyX9_ok : ∀ k, k < 0 → parseFieldDescriptor (TX9 k).2.2.1 = some (tyX9 k) := by decide +kernel
def RX10 : String := "LastMatches$Wood"
def TX10 : u_T := fun k => match k with
  | 0 => ("LastMatches$Wood", "minutes", "[I", true)
  | 1 => ("LastMatches$Wood", "bestRow", "[I", true)
  | 2 => ("LastMatches$Wood", "longest", "I", false)
  | _ => ("LastMatches$Wood", "row", "[I", true)
def tyX10 : Nat → FieldType := fun k => match k with
  | 0 => .array .int
  | 1 => .array .int
  | 2 => .int
  | _ => .array .int
abbrev wsX100 : List Cond := u_ws RX10 TX10 4
theorem nmX10 : ∀ a, a < 4 → ∀ b, b < 4 → a ≠ b → (TX10 a).2.1 ≠ (TX10 b).2.1 := by decide +kernel
theorem tyX10_ok : ∀ k, k < 4 → parseFieldDescriptor (TX10 k).2.2.1 = some (tyX10 k) := by decide +kernel
def RX11 : String := "LastMatches"
def TX11 : u_T := fun k => match k with
  | 0 => ("LastMatches", "now", "LLastMatches$Clearing;", true)
  | 1 => ("LastMatches", "draft", "LLastMatches$Clearing;", true)
  | 2 => ("LastMatches", "images", "[LLastMatches$Clearing;", true)
  | 3 => ("LastMatches", "kept", "[Z", true)
  | 4 => ("LastMatches", "odds", "LLastMatches$Odds;", true)
  | 5 => ("LastMatches", "wood", "LLastMatches$Wood;", true)
  | 6 => ("LastMatches", "ashes", "LLastMatches$Ashes;", true)
  | 7 => ("LastMatches", "reading", "LLastMatches$Reading;", true)
  | 8 => ("LastMatches", "above", "J", false)
  | 9 => ("LastMatches", "below", "J", false)
  | 10 => ("LastMatches", "badCalls", "I", false)
  | 11 => ("LastMatches", "noCalls", "I", false)
  | _ => ("LastMatches", "fullCalls", "I", false)
def tyX11 : Nat → FieldType := fun k => match k with
  | 0 => .object "LastMatches$Clearing"
  | 1 => .object "LastMatches$Clearing"
  | 2 => .array (.object "LastMatches$Clearing")
  | 3 => .array .boolean
  | 4 => .object "LastMatches$Odds"
  | 5 => .object "LastMatches$Wood"
  | 6 => .object "LastMatches$Ashes"
  | 7 => .object "LastMatches$Reading"
  | 8 => .long
  | 9 => .long
  | 10 => .int
  | 11 => .int
  | _ => .int
abbrev wsX110 : List Cond := u_ws RX11 TX11 13
theorem nmX11 : ∀ a, a < 13 → ∀ b, b < 13 → a ≠ b → (TX11 a).2.1 ≠ (TX11 b).2.1 := by decide +kernel
theorem tyX11_ok : ∀ k, k < 13 → parseFieldDescriptor (TX11 k).2.2.1 = some (tyX11 k) := by decide +kernel
def RX12 : String := "LastMatchesModel"
def TX12 : u_T := fun k => match k with
  | 0 => ("LastMatchesModel", "book", "[I", true)
  | 1 => ("LastMatchesModel", "images", "[I", true)
  | 2 => ("LastMatchesModel", "kept", "[Z", true)
  | 3 => ("LastMatchesModel", "aside", "[I", true)
  | 4 => ("LastMatchesModel", "refused", "[I", true)
  | 5 => ("LastMatchesModel", "quiet", "Z", false)
  | 6 => ("LastMatchesModel", "above", "J", false)
  | 7 => ("LastMatchesModel", "below", "J", false)
  | 8 => ("LastMatchesModel", "text", "[I", true)
  | 9 => ("LastMatchesModel", "typed", "I", false)
  | 10 => ("LastMatchesModel", "at", "I", false)
  | 11 => ("LastMatchesModel", "start", "I", false)
  | 12 => ("LastMatchesModel", "token", "I", false)
  | 13 => ("LastMatchesModel", "value", "I", false)
  | 14 => ("LastMatchesModel", "items", "[I", true)
  | 15 => ("LastMatchesModel", "many", "I", false)
  | 16 => ("LastMatchesModel", "table", "[J", true)
  | 17 => ("LastMatchesModel", "now", "I", false)
  | 18 => ("LastMatchesModel", "row", "[I", true)
  | 19 => ("LastMatchesModel", "first", "[I", true)
  | _ => ("LastMatchesModel", "since", "[I", true)
def tyX12 : Nat → FieldType := fun k => match k with
  | 0 => .array .int
  | 1 => .array .int
  | 2 => .array .boolean
  | 3 => .array .int
  | 4 => .array .int
  | 5 => .boolean
  | 6 => .long
  | 7 => .long
  | 8 => .array .int
  | 9 => .int
  | 10 => .int
  | 11 => .int
  | 12 => .int
  | 13 => .int
  | 14 => .array .int
  | 15 => .int
  | 16 => .array .long
  | 17 => .int
  | 18 => .array .int
  | 19 => .array .int
  | _ => .array .int
abbrev wsX120 : List Cond := u_ws RX12 TX12 21
theorem nmX12 : ∀ a, a < 21 → ∀ b, b < 21 → a ≠ b → (TX12 a).2.1 ≠ (TX12 b).2.1 := by decide +kernel
theorem tyX12_ok : ∀ k, k < 21 → parseFieldDescriptor (TX12 k).2.2.1 = some (tyX12 k) := by decide +kernel
abbrev vwCl : List vw_C := [(RX0, TX0, 0), (RX1, TX1, 18), (RX2, TX2, 0), (RX3, TX3, 0), (RX4, TX4, 5), (RX5, TX5, 0), (RX6, TX6, 7), (RX7, TX7, 0), (RX8, TX8, 0), (RX9, TX9, 0), (RX10, TX10, 4), (RX11, TX11, 13), (RX12, TX12, 21)]
def ztx (ci k : Nat) : FieldType := match ci with
  | 1 => tyX1 k
  | 4 => tyX4 k
  | 6 => tyX6 k
  | 10 => tyX10 k
  | 11 => tyX11 k
  | 12 => tyX12 k
  | _ => .int
def mN : Nat → MethodName := fun i => match i with
  | 0 => ⟨"LastMatches$Ashes", "<init>", "()V"⟩
  | 1 => ⟨"LastMatches$Ashes", "rows", "(LLastMatches$Clearing;)I"⟩
  | 2 => ⟨"LastMatches$Ashes", "rowsFrom", "(LLastMatches$Clearing;II)I"⟩
  | 3 => ⟨"LastMatches$Ashes", "firstOfRows", "(LLastMatches$Clearing;)I"⟩
  | 4 => ⟨"LastMatches$Ashes", "likeliestWind", "(LLastMatches$Clearing;IIII)I"⟩
  | 5 => ⟨"LastMatches$Ashes", "power", "(II)J"⟩
  | 6 => ⟨"LastMatches$Ashes", "eveningsByFire", "(LLastMatches$Clearing;II)I"⟩
  | 7 => ⟨"LastMatches$Clearing", "<init>", "([LLastMatches$Plain;)V"⟩
  | 8 => ⟨"LastMatches$Clearing", "startAnew", "()V"⟩
  | 9 => ⟨"LastMatches$Clearing", "copyFrom", "(LLastMatches$Clearing;)V"⟩
  | 10 => ⟨"LastMatches$Clearing", "setGround", "(II)I"⟩
  | 11 => ⟨"LastMatches$Clearing", "setCarry", "(II)I"⟩
  | 12 => ⟨"LastMatches$Clearing", "addMatch", "(III)I"⟩
  | 13 => ⟨"LastMatches$Clearing", "addStick", "(II)I"⟩
  | 14 => ⟨"LastMatches$Clearing", "addStump", "(I)I"⟩
  | 15 => ⟨"LastMatches$Clearing", "sweep", "(I)I"⟩
  | 16 => ⟨"LastMatches$Clearing", "tryNext", "(ZZ)I"⟩
  | 17 => ⟨"LastMatches$Clearing", "getReady", "()I"⟩
  | 18 => ⟨"LastMatches$Clearing", "remember", "()V"⟩
  | 19 => ⟨"LastMatches$Clearing", "stepBack", "()I"⟩
  | 20 => ⟨"LastMatches$Clearing", "hasMatch", "(I)Z"⟩
  | 21 => ⟨"LastMatches$Clearing", "areSticks", "(I)Z"⟩
  | 22 => ⟨"LastMatches$Clearing", "left", "()I"⟩
  | 23 => ⟨"LastMatches$Clearing", "minutesLeft", "()I"⟩
  | 24 => ⟨"LastMatches$Clearing", "carryAt", "(I)I"⟩
  | 25 => ⟨"LastMatches$Clearing", "wind", "()I"⟩
  | 26 => ⟨"LastMatches$Clearing", "lightsNow", "(I)I"⟩
  | 27 => ⟨"LastMatches$Clearing", "lightsIn", "(III)I"⟩
  | 28 => ⟨"LastMatches$Clearing", "burns", "(I)I"⟩
  | 29 => ⟨"LastMatches$Clearing", "kindOf", "(I)LLastMatches$Plain;"⟩
  | 30 => ⟨"LastMatches$Clearing", "amount", "(I)I"⟩
  | 31 => ⟨"LastMatches$Clearing", "digestOn", "(J)J"⟩
  | 32 => ⟨"LastMatches$Clearing", "digestRow", "(J[II)J"⟩
  | 33 => ⟨"LastMatches$Damp", "<init>", "()V"⟩
  | 34 => ⟨"LastMatches$Damp", "lightsBy", "(III)I"⟩
  | 35 => ⟨"LastMatches$Half", "<init>", "()V"⟩
  | 36 => ⟨"LastMatches$Half", "lightsBy", "(III)I"⟩
  | 37 => ⟨"LastMatches$Half", "burnsBy", "(I)I"⟩
  | 38 => ⟨"LastMatches$Odds", "<init>", "()V"⟩
  | 39 => ⟨"LastMatches$Odds", "allFail", "(LLastMatches$Clearing;III)J"⟩
  | 40 => ⟨"LastMatches$Odds", "othersFail", "(LLastMatches$Clearing;I)J"⟩
  | 41 => ⟨"LastMatches$Odds", "ruleChance", "(LLastMatches$Clearing;I)J"⟩
  | 42 => ⟨"LastMatches$Odds", "likeliestRule", "(LLastMatches$Clearing;)I"⟩
  | 43 => ⟨"LastMatches$Odds", "bestChance", "(LLastMatches$Clearing;)J"⟩
  | 44 => ⟨"LastMatches$Odds", "chooseDeed", "(LLastMatches$Clearing;IIZ)V"⟩
  | 45 => ⟨"LastMatches$Odds", "chanceAt", "(I)J"⟩
  | 46 => ⟨"LastMatches$Odds", "setChance", "(IJ)V"⟩
  | 47 => ⟨"LastMatches$Odds", "compareHalves", "(LLastMatches$Clearing;)I"⟩
  | 48 => ⟨"LastMatches$Odds", "comparePair", "(LLastMatches$Clearing;)I"⟩
  | 49 => ⟨"LastMatches$Odds", "candleChance", "(LLastMatches$Clearing;I)J"⟩
  | 50 => ⟨"LastMatches$Odds", "sunChance", "(III)J"⟩
  | 51 => ⟨"LastMatches$Odds", "bestTurns", "(LLastMatches$Clearing;)J"⟩
  | 52 => ⟨"LastMatches$Odds", "takeTurns", "(LLastMatches$Clearing;IIJ)V"⟩
  | 53 => ⟨"LastMatches$Plain", "<init>", "()V"⟩
  | 54 => ⟨"LastMatches$Plain", "lightsBy", "(III)I"⟩
  | 55 => ⟨"LastMatches$Plain", "burnsBy", "(I)I"⟩
  | 56 => ⟨"LastMatches$Reading", "<init>", "()V"⟩
  | 57 => ⟨"LastMatches$Reading", "append", "(I)I"⟩
  | 58 => ⟨"LastMatches$Reading", "empty", "()I"⟩
  | 59 => ⟨"LastMatches$Reading", "readInto", "(LLastMatches$Clearing;)I"⟩
  | 60 => ⟨"LastMatches$Reading", "takeNumbers", "(I)Z"⟩
  | 61 => ⟨"LastMatches$Reading", "tell", "(LLastMatches$Clearing;I)I"⟩
  | 62 => ⟨"LastMatches$Reading", "takeToken", "()V"⟩
  | 63 => ⟨"LastMatches$Reading", "takeWord", "()V"⟩
  | 64 => ⟨"LastMatches$Reading", "takeNumber", "()V"⟩
  | 65 => ⟨"LastMatches$Reading", "wordNumber", "()I"⟩
  | 66 => ⟨"LastMatches$Reading", "spells", "(Ljava/lang/String;)Z"⟩
  | 67 => ⟨"LastMatches$Reading", "nameOf", "(I)Ljava/lang/String;"⟩
  | 68 => ⟨"LastMatches$Reading", "isLetter", "(I)Z"⟩
  | 69 => ⟨"LastMatches$Reading", "isFigure", "(I)Z"⟩
  | 70 => ⟨"LastMatches$Split", "<init>", "()V"⟩
  | 71 => ⟨"LastMatches$Split", "lightsBy", "(III)I"⟩
  | 72 => ⟨"LastMatches$Storm", "<init>", "()V"⟩
  | 73 => ⟨"LastMatches$Storm", "lightsBy", "(III)I"⟩
  | 74 => ⟨"LastMatches$Storm", "burnsBy", "(I)I"⟩
  | 75 => ⟨"LastMatches$Tarred", "<init>", "()V"⟩
  | 76 => ⟨"LastMatches$Tarred", "burnsBy", "(I)I"⟩
  | 77 => ⟨"LastMatches$Wood", "<init>", "()V"⟩
  | 78 => ⟨"LastMatches$Wood", "burnDown", "(LLastMatches$Clearing;I)V"⟩
  | 79 => ⟨"LastMatches$Wood", "heat", "(LLastMatches$Clearing;II)I"⟩
  | 80 => ⟨"LastMatches$Wood", "burnsIn", "(LLastMatches$Clearing;II)Z"⟩
  | 81 => ⟨"LastMatches$Wood", "reached", "(LLastMatches$Clearing;)I"⟩
  | 82 => ⟨"LastMatches$Wood", "arrange", "(LLastMatches$Clearing;I)V"⟩
  | 83 => ⟨"LastMatches$Wood", "lengthen", "(LLastMatches$Clearing;III)V"⟩
  | 84 => ⟨"LastMatches$Wood", "fillUp", "(LLastMatches$Clearing;)V"⟩
  | 85 => ⟨"LastMatches$Wood", "gettingUp", "(IIIII)I"⟩
  | 86 => ⟨"LastMatches", "<init>", "()V"⟩
  | 87 => ⟨"LastMatches", "clearing", "(II)I"⟩
  | 88 => ⟨"LastMatches", "carry", "(II)I"⟩
  | 89 => ⟨"LastMatches", "match", "(III)I"⟩
  | 90 => ⟨"LastMatches", "stick", "(II)I"⟩
  | 91 => ⟨"LastMatches", "stump", "(I)I"⟩
  | 92 => ⟨"LastMatches", "clean", "(I)I"⟩
  | 93 => ⟨"LastMatches", "type", "(I)I"⟩
  | 94 => ⟨"LastMatches", "clear", "()I"⟩
  | 95 => ⟨"LastMatches", "read", "()I"⟩
  | 96 => ⟨"LastMatches", "strike", "(ZZ)I"⟩
  | 97 => ⟨"LastMatches", "ready", "()I"⟩
  | 98 => ⟨"LastMatches", "undo", "()I"⟩
  | 99 => ⟨"LastMatches", "of", "(II)I"⟩
  | 100 => ⟨"LastMatches", "chance", "(II)I"⟩
  | 101 => ⟨"LastMatches", "best", "()I"⟩
  | 102 => ⟨"LastMatches", "rule", "(I)I"⟩
  | 103 => ⟨"LastMatches", "bestRule", "()I"⟩
  | 104 => ⟨"LastMatches", "split", "()I"⟩
  | 105 => ⟨"LastMatches", "both", "()I"⟩
  | 106 => ⟨"LastMatches", "candle", "(I)I"⟩
  | 107 => ⟨"LastMatches", "waits", "(III)I"⟩
  | 108 => ⟨"LastMatches", "whose", "(I)I"⟩
  | 109 => ⟨"LastMatches", "laid", "(II)I"⟩
  | 110 => ⟨"LastMatches", "order", "(II)I"⟩
  | 111 => ⟨"LastMatches", "feed", "(IIIII)I"⟩
  | 112 => ⟨"LastMatches", "stumps", "(I)I"⟩
  | 113 => ⟨"LastMatches", "winds", "(IIII)I"⟩
  | 114 => ⟨"LastMatches", "evenings", "(II)I"⟩
  | 115 => ⟨"LastMatches", "part", "(I)J"⟩
  | 116 => ⟨"LastMatches", "image", "(I)I"⟩
  | 117 => ⟨"LastMatches", "from", "(I)I"⟩
  | 118 => ⟨"LastMatches", "status", "(I)I"⟩
  | 119 => ⟨"LastMatches", "count", "(I)I"⟩
  | 120 => ⟨"LastMatches", "digest", "()J"⟩
  | 121 => ⟨"LastMatches", "counted", "(I)I"⟩
  | 122 => ⟨"LastMatches", "countedTen", "()I"⟩
  | 123 => ⟨"LastMatches", "isImage", "(I)Z"⟩
  | 124 => ⟨"LastMatches", "setFraction", "(J)V"⟩
  | 125 => ⟨"LastMatches", "greatestShared", "(JJ)J"⟩
  | 126 => ⟨"LastMatches", "compare", "(JJ)I"⟩
  | 127 => ⟨"LastMatches", "at", "([II)I"⟩
  | 128 => ⟨"LastMatches", "put", "([III)V"⟩
  | 129 => ⟨"LastMatches", "copyRow", "([I[I)V"⟩
  | 130 => ⟨"LastMatches", "isIn", "(II)Z"⟩
  | 131 => ⟨"LastMatchesModel", "in", "(JJJ)Z"⟩
  | 132 => ⟨"LastMatchesModel", "more", "(II)I"⟩
  | 133 => ⟨"LastMatchesModel", "<init>", "()V"⟩
  | 134 => ⟨"LastMatchesModel", "empties", "()V"⟩
  | 135 => ⟨"LastMatchesModel", "refuses", "(II)I"⟩
  | 136 => ⟨"LastMatchesModel", "bad", "()I"⟩
  | 137 => ⟨"LastMatchesModel", "no", "()I"⟩
  | 138 => ⟨"LastMatchesModel", "full", "()I"⟩
  | 139 => ⟨"LastMatchesModel", "puts", "(II)I"⟩
  | 140 => ⟨"LastMatchesModel", "isMatch", "(I)Z"⟩
  | 141 => ⟨"LastMatchesModel", "clearing", "(II)I"⟩
  | 142 => ⟨"LastMatchesModel", "carry", "(II)I"⟩
  | 143 => ⟨"LastMatchesModel", "match", "(III)I"⟩
  | 144 => ⟨"LastMatchesModel", "stick", "(II)I"⟩
  | 145 => ⟨"LastMatchesModel", "stump", "(I)I"⟩
  | 146 => ⟨"LastMatchesModel", "clean", "(I)I"⟩
  | 147 => ⟨"LastMatchesModel", "type", "(I)I"⟩
  | 148 => ⟨"LastMatchesModel", "clear", "()I"⟩
  | 149 => ⟨"LastMatchesModel", "isAt", "(II)Z"⟩
  | 150 => ⟨"LastMatchesModel", "verbOf", "(J)I"⟩
  | 151 => ⟨"LastMatchesModel", "scans", "()V"⟩
  | 152 => ⟨"LastMatchesModel", "numbers", "(I)I"⟩
  | 153 => ⟨"LastMatchesModel", "reads", "()Z"⟩
  | 154 => ⟨"LastMatchesModel", "tellsItem", "(I)Z"⟩
  | 155 => ⟨"LastMatchesModel", "read", "()I"⟩
  | 156 => ⟨"LastMatchesModel", "gust", "()I"⟩
  | 157 => ⟨"LastMatchesModel", "lightsBy", "(III)I"⟩
  | 158 => ⟨"LastMatchesModel", "lights", "(II)I"⟩
  | 159 => ⟨"LastMatchesModel", "burns", "(I)I"⟩
  | 160 => ⟨"LastMatchesModel", "remembers", "()V"⟩
  | 161 => ⟨"LastMatchesModel", "strike", "(ZZ)I"⟩
  | 162 => ⟨"LastMatchesModel", "ready", "()I"⟩
  | 163 => ⟨"LastMatchesModel", "undo", "()I"⟩
  | 164 => ⟨"LastMatchesModel", "of", "(II)I"⟩
  | 165 => ⟨"LastMatchesModel", "divisor", "(JJ)J"⟩
  | 166 => ⟨"LastMatchesModel", "keeps", "(JJ)I"⟩
  | 167 => ⟨"LastMatchesModel", "power", "(JI)J"⟩
  | 168 => ⟨"LastMatchesModel", "chance", "(II)I"⟩
  | 169 => ⟨"LastMatchesModel", "strikesAll", "(III)J"⟩
  | 170 => ⟨"LastMatchesModel", "place", "(III)I"⟩
  | 171 => ⟨"LastMatchesModel", "bestOf", "()J"⟩
  | 172 => ⟨"LastMatchesModel", "whole", "()J"⟩
  | 173 => ⟨"LastMatchesModel", "best", "()I"⟩
  | 174 => ⟨"LastMatchesModel", "ruleOf", "(I)J"⟩
  | 175 => ⟨"LastMatchesModel", "rule", "(I)I"⟩
  | 176 => ⟨"LastMatchesModel", "bestRule", "()I"⟩
  | 177 => ⟨"LastMatchesModel", "compared", "(JJ)I"⟩
  | 178 => ⟨"LastMatchesModel", "carryNow", "()I"⟩
  | 179 => ⟨"LastMatchesModel", "split", "()I"⟩
  | 180 => ⟨"LastMatchesModel", "both", "()I"⟩
  | 181 => ⟨"LastMatchesModel", "candle", "(I)I"⟩
  | 182 => ⟨"LastMatchesModel", "waits", "(III)I"⟩
  | 183 => ⟨"LastMatchesModel", "lays", "(III)Z"⟩
  | 184 => ⟨"LastMatchesModel", "keepsRow", "(I)V"⟩
  | 185 => ⟨"LastMatchesModel", "waysOf", "(I)I"⟩
  | 186 => ⟨"LastMatchesModel", "whose", "(I)I"⟩
  | 187 => ⟨"LastMatchesModel", "thick", "(I)I"⟩
  | 188 => ⟨"LastMatchesModel", "laid", "(II)I"⟩
  | 189 => ⟨"LastMatchesModel", "order", "(II)I"⟩
  | 190 => ⟨"LastMatchesModel", "feed", "(IIIII)I"⟩
  | 191 => ⟨"LastMatchesModel", "stumps", "(I)I"⟩
  | 192 => ⟨"LastMatchesModel", "winds", "(IIII)I"⟩
  | 193 => ⟨"LastMatchesModel", "evenings", "(II)I"⟩
  | 194 => ⟨"LastMatchesModel", "part", "(I)J"⟩
  | 195 => ⟨"LastMatchesModel", "image", "(I)I"⟩
  | 196 => ⟨"LastMatchesModel", "from", "(I)I"⟩
  | 197 => ⟨"LastMatchesModel", "status", "(I)I"⟩
  | 198 => ⟨"LastMatchesModel", "countOf", "(I)I"⟩
  | 199 => ⟨"LastMatchesModel", "count", "(I)I"⟩
  | 200 => ⟨"LastMatchesModel", "mixed", "(JII)J"⟩
  | 201 => ⟨"LastMatchesModel", "digest", "()J"⟩
  | 202 => ⟨"java/lang/Math", "max", "(II)I"⟩
  | 203 => ⟨"java/lang/Math", "max", "(JJ)J"⟩
  | 204 => ⟨"java/lang/Math", "min", "(II)I"⟩
  | 205 => ⟨"java/lang/String", "length", "()I"⟩
  | 206 => ⟨"java/lang/String", "charAt", "(I)C"⟩
  | 207 => ⟨"java/lang/String", "coder", "()B"⟩
  | 208 => ⟨"java/lang/String", "isLatin1", "()Z"⟩
  | 209 => ⟨"java/lang/String", "checkIndex", "(II)V"⟩
  | 210 => ⟨"java/lang/StringLatin1", "charAt", "([BI)C"⟩
  | 211 => ⟨"java/lang/StringUTF16", "getChar", "([BI)C"⟩
  | 212 => ⟨"java/lang/StringUTF16", "length", "([B)I"⟩
  | 213 => ⟨"java/lang/StringUTF16", "charAt", "([BI)C"⟩
  | 214 => ⟨"java/lang/StringUTF16", "checkIndex", "(I[B)V"⟩
  | 215 => ⟨"jdk/internal/util/Preconditions", "checkIndex", "(IILjava/util/function/BiFunction;)I"⟩
  | 216 => ⟨"LastMatchesLaw", "law", "([I)Z"⟩
  | _ => ⟨"", "", ""⟩
def mB : Nat → ByteArray := fun i => match i with
  | 0 => prog_2_method_1_code
  | 1 => prog_2_method_2_code
  | 2 => prog_2_method_3_code
  | 3 => prog_2_method_4_code
  | 4 => prog_2_method_5_code
  | 5 => prog_2_method_6_code
  | 6 => prog_2_method_7_code
  | 7 => prog_3_method_1_code
  | 8 => prog_3_method_2_code
  | 9 => prog_3_method_3_code
  | 10 => prog_3_method_4_code
  | 11 => prog_3_method_5_code
  | 12 => prog_3_method_6_code
  | 13 => prog_3_method_7_code
  | 14 => prog_3_method_8_code
  | 15 => prog_3_method_9_code
  | 16 => prog_3_method_10_code
  | 17 => prog_3_method_11_code
  | 18 => prog_3_method_12_code
  | 19 => prog_3_method_13_code
  | 20 => prog_3_method_14_code
  | 21 => prog_3_method_15_code
  | 22 => prog_3_method_16_code
  | 23 => prog_3_method_17_code
  | 24 => prog_3_method_18_code
  | 25 => prog_3_method_19_code
  | 26 => prog_3_method_20_code
  | 27 => prog_3_method_21_code
  | 28 => prog_3_method_22_code
  | 29 => prog_3_method_23_code
  | 30 => prog_3_method_24_code
  | 31 => prog_3_method_25_code
  | 32 => prog_3_method_26_code
  | 33 => prog_4_method_1_code
  | 34 => prog_4_method_2_code
  | 35 => prog_5_method_1_code
  | 36 => prog_5_method_2_code
  | 37 => prog_5_method_3_code
  | 38 => prog_6_method_1_code
  | 39 => prog_6_method_2_code
  | 40 => prog_6_method_3_code
  | 41 => prog_6_method_4_code
  | 42 => prog_6_method_5_code
  | 43 => prog_6_method_6_code
  | 44 => prog_6_method_7_code
  | 45 => prog_6_method_8_code
  | 46 => prog_6_method_9_code
  | 47 => prog_6_method_10_code
  | 48 => prog_6_method_11_code
  | 49 => prog_6_method_12_code
  | 50 => prog_6_method_13_code
  | 51 => prog_6_method_14_code
  | 52 => prog_6_method_15_code
  | 53 => prog_7_method_1_code
  | 54 => prog_7_method_2_code
  | 55 => prog_7_method_3_code
  | 56 => prog_8_method_1_code
  | 57 => prog_8_method_2_code
  | 58 => prog_8_method_3_code
  | 59 => prog_8_method_4_code
  | 60 => prog_8_method_5_code
  | 61 => prog_8_method_6_code
  | 62 => prog_8_method_7_code
  | 63 => prog_8_method_8_code
  | 64 => prog_8_method_9_code
  | 65 => prog_8_method_10_code
  | 66 => prog_8_method_11_code
  | 67 => prog_8_method_12_code
  | 68 => prog_8_method_13_code
  | 69 => prog_8_method_14_code
  | 70 => prog_9_method_1_code
  | 71 => prog_9_method_2_code
  | 72 => prog_10_method_1_code
  | 73 => prog_10_method_2_code
  | 74 => prog_10_method_3_code
  | 75 => prog_11_method_1_code
  | 76 => prog_11_method_2_code
  | 77 => prog_12_method_1_code
  | 78 => prog_12_method_2_code
  | 79 => prog_12_method_3_code
  | 80 => prog_12_method_4_code
  | 81 => prog_12_method_5_code
  | 82 => prog_12_method_6_code
  | 83 => prog_12_method_7_code
  | 84 => prog_12_method_8_code
  | 85 => prog_12_method_9_code
  | 86 => prog_1_method_1_code
  | 87 => prog_1_method_2_code
  | 88 => prog_1_method_3_code
  | 89 => prog_1_method_4_code
  | 90 => prog_1_method_5_code
  | 91 => prog_1_method_6_code
  | 92 => prog_1_method_7_code
  | 93 => prog_1_method_8_code
  | 94 => prog_1_method_9_code
  | 95 => prog_1_method_10_code
  | 96 => prog_1_method_11_code
  | 97 => prog_1_method_12_code
  | 98 => prog_1_method_13_code
  | 99 => prog_1_method_14_code
  | 100 => prog_1_method_15_code
  | 101 => prog_1_method_16_code
  | 102 => prog_1_method_17_code
  | 103 => prog_1_method_18_code
  | 104 => prog_1_method_19_code
  | 105 => prog_1_method_20_code
  | 106 => prog_1_method_21_code
  | 107 => prog_1_method_22_code
  | 108 => prog_1_method_23_code
  | 109 => prog_1_method_24_code
  | 110 => prog_1_method_25_code
  | 111 => prog_1_method_26_code
  | 112 => prog_1_method_27_code
  | 113 => prog_1_method_28_code
  | 114 => prog_1_method_29_code
  | 115 => prog_1_method_30_code
  | 116 => prog_1_method_31_code
  | 117 => prog_1_method_32_code
  | 118 => prog_1_method_33_code
  | 119 => prog_1_method_34_code
  | 120 => prog_1_method_35_code
  | 121 => prog_1_method_36_code
  | 122 => prog_1_method_37_code
  | 123 => prog_1_method_38_code
  | 124 => prog_1_method_39_code
  | 125 => prog_1_method_40_code
  | 126 => prog_1_method_41_code
  | 127 => prog_1_method_42_code
  | 128 => prog_1_method_43_code
  | 129 => prog_1_method_44_code
  | 130 => prog_1_method_45_code
  | 131 => prog_14_method_2_code
  | 132 => prog_14_method_3_code
  | 133 => prog_14_method_4_code
  | 134 => prog_14_method_5_code
  | 135 => prog_14_method_6_code
  | 136 => prog_14_method_7_code
  | 137 => prog_14_method_8_code
  | 138 => prog_14_method_9_code
  | 139 => prog_14_method_10_code
  | 140 => prog_14_method_11_code
  | 141 => prog_14_method_12_code
  | 142 => prog_14_method_13_code
  | 143 => prog_14_method_14_code
  | 144 => prog_14_method_15_code
  | 145 => prog_14_method_16_code
  | 146 => prog_14_method_17_code
  | 147 => prog_14_method_18_code
  | 148 => prog_14_method_19_code
  | 149 => prog_14_method_20_code
  | 150 => prog_14_method_21_code
  | 151 => prog_14_method_22_code
  | 152 => prog_14_method_23_code
  | 153 => prog_14_method_24_code
  | 154 => prog_14_method_25_code
  | 155 => prog_14_method_26_code
  | 156 => prog_14_method_27_code
  | 157 => prog_14_method_28_code
  | 158 => prog_14_method_29_code
  | 159 => prog_14_method_30_code
  | 160 => prog_14_method_31_code
  | 161 => prog_14_method_32_code
  | 162 => prog_14_method_33_code
  | 163 => prog_14_method_34_code
  | 164 => prog_14_method_35_code
  | 165 => prog_14_method_36_code
  | 166 => prog_14_method_37_code
  | 167 => prog_14_method_38_code
  | 168 => prog_14_method_39_code
  | 169 => prog_14_method_40_code
  | 170 => prog_14_method_41_code
  | 171 => prog_14_method_42_code
  | 172 => prog_14_method_43_code
  | 173 => prog_14_method_44_code
  | 174 => prog_14_method_45_code
  | 175 => prog_14_method_46_code
  | 176 => prog_14_method_47_code
  | 177 => prog_14_method_48_code
  | 178 => prog_14_method_49_code
  | 179 => prog_14_method_50_code
  | 180 => prog_14_method_51_code
  | 181 => prog_14_method_52_code
  | 182 => prog_14_method_53_code
  | 183 => prog_14_method_54_code
  | 184 => prog_14_method_55_code
  | 185 => prog_14_method_56_code
  | 186 => prog_14_method_57_code
  | 187 => prog_14_method_58_code
  | 188 => prog_14_method_59_code
  | 189 => prog_14_method_60_code
  | 190 => prog_14_method_61_code
  | 191 => prog_14_method_62_code
  | 192 => prog_14_method_63_code
  | 193 => prog_14_method_64_code
  | 194 => prog_14_method_65_code
  | 195 => prog_14_method_66_code
  | 196 => prog_14_method_67_code
  | 197 => prog_14_method_68_code
  | 198 => prog_14_method_69_code
  | 199 => prog_14_method_70_code
  | 200 => prog_14_method_71_code
  | 201 => prog_14_method_72_code
  | 202 => prog_15_method_65_code
  | 203 => prog_15_method_66_code
  | 204 => prog_15_method_69_code
  | 205 => prog_16_method_54_code
  | 206 => prog_16_method_56_code
  | 207 => prog_16_method_152_code
  | 208 => prog_16_method_154_code
  | 209 => prog_16_method_155_code
  | 210 => prog_17_method_2_code
  | 211 => prog_18_method_5_code
  | 212 => prog_18_method_6_code
  | 213 => prog_18_method_83_code
  | 214 => prog_18_method_91_code
  | 215 => prog_20_method_11_code
  | 216 => code
  | _ => code
def mL : Nat → Nat := fun i => match i with
  | 0 => 1
  | 1 => 2
  | 2 => 6
  | 3 => 3
  | 4 => 12
  | 5 => 5
  | 6 => 10
  | 7 => 2
  | 8 => 2
  | 9 => 2
  | 10 => 4
  | 11 => 4
  | 12 => 5
  | 13 => 3
  | 14 => 2
  | 15 => 3
  | 16 => 3
  | 17 => 1
  | 18 => 2
  | 19 => 2
  | 20 => 2
  | 21 => 2
  | 22 => 1
  | 23 => 1
  | 24 => 2
  | 25 => 1
  | 26 => 2
  | 27 => 6
  | 28 => 3
  | 29 => 3
  | 30 => 2
  | 31 => 6
  | 32 => 7
  | 33 => 1
  | 34 => 4
  | 35 => 1
  | 36 => 4
  | 37 => 2
  | 38 => 1
  | 39 => 8
  | 40 => 2
  | 41 => 4
  | 42 => 7
  | 43 => 5
  | 44 => 12
  | 45 => 2
  | 46 => 4
  | 47 => 10
  | 48 => 5
  | 49 => 6
  | 50 => 6
  | 51 => 2
  | 52 => 9
  | 53 => 1
  | 54 => 5
  | 55 => 2
  | 56 => 1
  | 57 => 2
  | 58 => 2
  | 59 => 6
  | 60 => 3
  | 61 => 4
  | 62 => 1
  | 63 => 1
  | 64 => 1
  | 65 => 2
  | 66 => 3
  | 67 => 1
  | 68 => 1
  | 69 => 1
  | 70 => 1
  | 71 => 5
  | 72 => 1
  | 73 => 4
  | 74 => 2
  | 75 => 1
  | 76 => 2
  | 77 => 1
  | 78 => 5
  | 79 => 6
  | 80 => 5
  | 81 => 4
  | 82 => 3
  | 83 => 6
  | 84 => 5
  | 85 => 8
  | 86 => 2
  | 87 => 3
  | 88 => 3
  | 89 => 4
  | 90 => 3
  | 91 => 2
  | 92 => 2
  | 93 => 2
  | 94 => 1
  | 95 => 2
  | 96 => 3
  | 97 => 1
  | 98 => 1
  | 99 => 3
  | 100 => 3
  | 101 => 1
  | 102 => 2
  | 103 => 1
  | 104 => 1
  | 105 => 1
  | 106 => 2
  | 107 => 4
  | 108 => 2
  | 109 => 3
  | 110 => 3
  | 111 => 7
  | 112 => 2
  | 113 => 6
  | 114 => 3
  | 115 => 2
  | 116 => 2
  | 117 => 2
  | 118 => 2
  | 119 => 2
  | 120 => 4
  | 121 => 2
  | 122 => 1
  | 123 => 2
  | 124 => 5
  | 125 => 11
  | 126 => 4
  | 127 => 2
  | 128 => 3
  | 129 => 2
  | 130 => 2
  | 131 => 6
  | 132 => 2
  | 133 => 1
  | 134 => 2
  | 135 => 3
  | 136 => 1
  | 137 => 1
  | 138 => 1
  | 139 => 4
  | 140 => 2
  | 141 => 4
  | 142 => 3
  | 143 => 5
  | 144 => 3
  | 145 => 2
  | 146 => 2
  | 147 => 2
  | 148 => 2
  | 149 => 3
  | 150 => 4
  | 151 => 3
  | 152 => 1
  | 153 => 3
  | 154 => 6
  | 155 => 3
  | 156 => 1
  | 157 => 9
  | 158 => 3
  | 159 => 5
  | 160 => 2
  | 161 => 3
  | 162 => 1
  | 163 => 2
  | 164 => 3
  | 165 => 10
  | 166 => 7
  | 167 => 6
  | 168 => 4
  | 169 => 9
  | 170 => 3
  | 171 => 12
  | 172 => 1
  | 173 => 1
  | 174 => 4
  | 175 => 2
  | 176 => 3
  | 177 => 4
  | 178 => 1
  | 179 => 13
  | 180 => 11
  | 181 => 12
  | 182 => 4
  | 183 => 7
  | 184 => 3
  | 185 => 3
  | 186 => 12
  | 187 => 2
  | 188 => 9
  | 189 => 10
  | 190 => 10
  | 191 => 13
  | 192 => 12
  | 193 => 9
  | 194 => 2
  | 195 => 3
  | 196 => 3
  | 197 => 2
  | 198 => 2
  | 199 => 2
  | 200 => 8
  | 201 => 4
  | 202 => 2
  | 203 => 4
  | 204 => 2
  | 205 => 1
  | 206 => 2
  | 207 => 1
  | 208 => 1
  | 209 => 2
  | 210 => 2
  | 211 => 2
  | 212 => 1
  | 213 => 2
  | 214 => 2
  | 215 => 3
  | 216 => 4
  | _ => 0
def mR : Nat → Option FieldType := fun i => match i with
  | 0 => none
  | 1 => (some .int)
  | 2 => (some .int)
  | 3 => (some .int)
  | 4 => (some .int)
  | 5 => (some .long)
  | 6 => (some .int)
  | 7 => none
  | 8 => none
  | 9 => none
  | 10 => (some .int)
  | 11 => (some .int)
  | 12 => (some .int)
  | 13 => (some .int)
  | 14 => (some .int)
  | 15 => (some .int)
  | 16 => (some .int)
  | 17 => (some .int)
  | 18 => none
  | 19 => (some .int)
  | 20 => (some .boolean)
  | 21 => (some .boolean)
  | 22 => (some .int)
  | 23 => (some .int)
  | 24 => (some .int)
  | 25 => (some .int)
  | 26 => (some .int)
  | 27 => (some .int)
  | 28 => (some .int)
  | 29 => (some (.object "LastMatches$Plain"))
  | 30 => (some .int)
  | 31 => (some .long)
  | 32 => (some .long)
  | 33 => none
  | 34 => (some .int)
  | 35 => none
  | 36 => (some .int)
  | 37 => (some .int)
  | 38 => none
  | 39 => (some .long)
  | 40 => (some .long)
  | 41 => (some .long)
  | 42 => (some .int)
  | 43 => (some .long)
  | 44 => none
  | 45 => (some .long)
  | 46 => none
  | 47 => (some .int)
  | 48 => (some .int)
  | 49 => (some .long)
  | 50 => (some .long)
  | 51 => (some .long)
  | 52 => none
  | 53 => none
  | 54 => (some .int)
  | 55 => (some .int)
  | 56 => none
  | 57 => (some .int)
  | 58 => (some .int)
  | 59 => (some .int)
  | 60 => (some .boolean)
  | 61 => (some .int)
  | 62 => none
  | 63 => none
  | 64 => none
  | 65 => (some .int)
  | 66 => (some .boolean)
  | 67 => (some (.object "java/lang/String"))
  | 68 => (some .boolean)
  | 69 => (some .boolean)
  | 70 => none
  | 71 => (some .int)
  | 72 => none
  | 73 => (some .int)
  | 74 => (some .int)
  | 75 => none
  | 76 => (some .int)
  | 77 => none
  | 78 => none
  | 79 => (some .int)
  | 80 => (some .boolean)
  | 81 => (some .int)
  | 82 => none
  | 83 => none
  | 84 => none
  | 85 => (some .int)
  | 86 => none
  | 87 => (some .int)
  | 88 => (some .int)
  | 89 => (some .int)
  | 90 => (some .int)
  | 91 => (some .int)
  | 92 => (some .int)
  | 93 => (some .int)
  | 94 => (some .int)
  | 95 => (some .int)
  | 96 => (some .int)
  | 97 => (some .int)
  | 98 => (some .int)
  | 99 => (some .int)
  | 100 => (some .int)
  | 101 => (some .int)
  | 102 => (some .int)
  | 103 => (some .int)
  | 104 => (some .int)
  | 105 => (some .int)
  | 106 => (some .int)
  | 107 => (some .int)
  | 108 => (some .int)
  | 109 => (some .int)
  | 110 => (some .int)
  | 111 => (some .int)
  | 112 => (some .int)
  | 113 => (some .int)
  | 114 => (some .int)
  | 115 => (some .long)
  | 116 => (some .int)
  | 117 => (some .int)
  | 118 => (some .int)
  | 119 => (some .int)
  | 120 => (some .long)
  | 121 => (some .int)
  | 122 => (some .int)
  | 123 => (some .boolean)
  | 124 => none
  | 125 => (some .long)
  | 126 => (some .int)
  | 127 => (some .int)
  | 128 => none
  | 129 => none
  | 130 => (some .boolean)
  | 131 => (some .boolean)
  | 132 => (some .int)
  | 133 => none
  | 134 => none
  | 135 => (some .int)
  | 136 => (some .int)
  | 137 => (some .int)
  | 138 => (some .int)
  | 139 => (some .int)
  | 140 => (some .boolean)
  | 141 => (some .int)
  | 142 => (some .int)
  | 143 => (some .int)
  | 144 => (some .int)
  | 145 => (some .int)
  | 146 => (some .int)
  | 147 => (some .int)
  | 148 => (some .int)
  | 149 => (some .boolean)
  | 150 => (some .int)
  | 151 => none
  | 152 => (some .int)
  | 153 => (some .boolean)
  | 154 => (some .boolean)
  | 155 => (some .int)
  | 156 => (some .int)
  | 157 => (some .int)
  | 158 => (some .int)
  | 159 => (some .int)
  | 160 => none
  | 161 => (some .int)
  | 162 => (some .int)
  | 163 => (some .int)
  | 164 => (some .int)
  | 165 => (some .long)
  | 166 => (some .int)
  | 167 => (some .long)
  | 168 => (some .int)
  | 169 => (some .long)
  | 170 => (some .int)
  | 171 => (some .long)
  | 172 => (some .long)
  | 173 => (some .int)
  | 174 => (some .long)
  | 175 => (some .int)
  | 176 => (some .int)
  | 177 => (some .int)
  | 178 => (some .int)
  | 179 => (some .int)
  | 180 => (some .int)
  | 181 => (some .int)
  | 182 => (some .int)
  | 183 => (some .boolean)
  | 184 => none
  | 185 => (some .int)
  | 186 => (some .int)
  | 187 => (some .int)
  | 188 => (some .int)
  | 189 => (some .int)
  | 190 => (some .int)
  | 191 => (some .int)
  | 192 => (some .int)
  | 193 => (some .int)
  | 194 => (some .long)
  | 195 => (some .int)
  | 196 => (some .int)
  | 197 => (some .int)
  | 198 => (some .int)
  | 199 => (some .int)
  | 200 => (some .long)
  | 201 => (some .long)
  | 202 => (some .int)
  | 203 => (some .long)
  | 204 => (some .int)
  | 205 => (some .int)
  | 206 => (some .char)
  | 207 => (some .byte)
  | 208 => (some .boolean)
  | 209 => none
  | 210 => (some .char)
  | 211 => (some .char)
  | 212 => (some .int)
  | 213 => (some .char)
  | 214 => none
  | 215 => (some .int)
  | 216 => (some .boolean)
  | _ => none
def zrk0 : Nat → Nat := fun i => match i with
  | 0 => 1
  | 1 => 18
  | 2 => 5
  | 3 => 18
  | 4 => 5
  | 5 => 1
  | 6 => 6
  | 7 => 3
  | 8 => 2
  | 9 => 2
  | 10 => 2
  | 11 => 1
  | 12 => 2
  | 13 => 2
  | 14 => 2
  | 15 => 1
  | 16 => 3
  | 17 => 3
  | 18 => 2
  | 19 => 2
  | 20 => 1
  | 21 => 1
  | 22 => 1
  | 23 => 2
  | 24 => 2
  | 25 => 2
  | 26 => 5
  | 27 => 4
  | 28 => 4
  | 29 => 2
  | 30 => 1
  | 31 => 3
  | 32 => 2
  | 33 => 2
  | 34 => 2
  | 35 => 2
  | 36 => 2
  | 37 => 2
  | 38 => 1
  | 39 => 5
  | 40 => 6
  | 41 => 6
  | 42 => 7
  | 43 => 6
  | 44 => 5
  | 45 => 1
  | 46 => 1
  | 47 => 7
  | 48 => 7
  | 49 => 7
  | 50 => 1
  | 51 => 18
  | 52 => 5
  | 53 => 1
  | 54 => 1
  | 55 => 1
  | 56 => 1
  | 57 => 2
  | 58 => 1
  | 59 => 8
  | 60 => 4
  | 61 => 3
  | 62 => 3
  | 63 => 2
  | 64 => 2
  | 65 => 7
  | 66 => 6
  | 67 => 1
  | 68 => 1
  | 69 => 1
  | 70 => 3
  | 71 => 3
  | 72 => 2
  | 73 => 2
  | 74 => 2
  | 75 => 3
  | 76 => 3
  | 77 => 1
  | 78 => 4
  | 79 => 3
  | 80 => 2
  | 81 => 2
  | 82 => 15
  | 83 => 2
  | 84 => 2
  | 85 => 1
  | 86 => 4
  | 87 => 3
  | 88 => 2
  | 89 => 3
  | 90 => 3
  | 91 => 3
  | 92 => 2
  | 93 => 3
  | 94 => 2
  | 95 => 9
  | 96 => 4
  | 97 => 4
  | 98 => 3
  | 99 => 6
  | 100 => 6
  | 101 => 7
  | 102 => 7
  | 103 => 8
  | 104 => 8
  | 105 => 8
  | 106 => 8
  | 107 => 7
  | 108 => 19
  | 109 => 5
  | 110 => 16
  | 111 => 2
  | 112 => 19
  | 113 => 6
  | 114 => 7
  | 115 => 2
  | 116 => 3
  | 117 => 3
  | 118 => 1
  | 119 => 2
  | 120 => 4
  | 121 => 1
  | 122 => 1
  | 123 => 1
  | 124 => 2
  | 125 => 1
  | 126 => 1
  | 127 => 1
  | 128 => 1
  | 129 => 1
  | 130 => 1
  | 131 => 1
  | 132 => 1
  | 133 => 2
  | 134 => 1
  | 135 => 1
  | 136 => 2
  | 137 => 2
  | 138 => 2
  | 139 => 1
  | 140 => 2
  | 141 => 3
  | 142 => 3
  | 143 => 3
  | 144 => 3
  | 145 => 3
  | 146 => 3
  | 147 => 3
  | 148 => 1
  | 149 => 2
  | 150 => 1
  | 151 => 3
  | 152 => 1
  | 153 => 4
  | 154 => 4
  | 155 => 5
  | 156 => 2
  | 157 => 2
  | 158 => 3
  | 159 => 2
  | 160 => 1
  | 161 => 3
  | 162 => 3
  | 163 => 3
  | 164 => 4
  | 165 => 1
  | 166 => 2
  | 167 => 1
  | 168 => 4
  | 169 => 4
  | 170 => 1
  | 171 => 4
  | 172 => 2
  | 173 => 5
  | 174 => 5
  | 175 => 6
  | 176 => 6
  | 177 => 1
  | 178 => 1
  | 179 => 5
  | 180 => 5
  | 181 => 5
  | 182 => 5
  | 183 => 1
  | 184 => 1
  | 185 => 1
  | 186 => 4
  | 187 => 1
  | 188 => 2
  | 189 => 2
  | 190 => 2
  | 191 => 3
  | 192 => 3
  | 193 => 4
  | 194 => 3
  | 195 => 3
  | 196 => 3
  | 197 => 2
  | 198 => 1
  | 199 => 3
  | 200 => 1
  | 201 => 2
  | 202 => 1
  | 203 => 1
  | 204 => 1
  | 205 => 2
  | 206 => 5
  | 207 => 1
  | 208 => 1
  | 209 => 2
  | 210 => 3
  | 211 => 2
  | 212 => 1
  | 213 => 4
  | 214 => 3
  | 215 => 1
  | 216 => 20
  | _ => 0
/-- virtual dispatch: the named method, the receiver's class, the method that runs, its words -/
def zvt : List (List Nat) := [[54, 5, 54, 603, 602, 51, 623, 604, 602, 623],
  [54, 2, 34, 605, 606, 52, 607, 604, 602, 623],
  [54, 8, 73, 618, 619, 53, 620, 604, 602, 623],
  [54, 9, 73, 622, 619, 53, 620, 604, 602, 623],
  [54, 3, 36, 610, 611, 55, 612, 604, 602, 623],
  [54, 7, 71, 614, 615, 56, 616, 604, 602, 623],
  [55, 5, 55, 630, 629, 51, 647, 631, 629, 647],
  [55, 2, 55, 632, 629, 51, 647, 631, 629, 647],
  [55, 8, 74, 638, 639, 53, 640, 631, 629, 647],
  [55, 9, 76, 643, 644, 54, 645, 631, 629, 647],
  [55, 3, 37, 633, 634, 55, 635, 631, 629, 647],
  [55, 7, 37, 637, 634, 55, 635, 631, 629, 647]]
def c_0 : List (Nat × Instr × Nat × List Int) := [
  (0, .aload_n 0, 1, []),
  (1, .invokespecial 3, 3, [0, 267, 75, 76]),
  (4, .return_, 1, [])]
def c_1 : List (Nat × Instr × Nat × List Int) := [
  (0, .aload_n 0, 1, []),
  (1, .aload_n 1, 1, []),
  (2, .iconst 0, 1, []),
  (3, .iconst 0, 1, []),
  (4, .invokevirtual 9, 3, [6, 2, 3, 837, 839, 20, 62, 840, 0]),
  (7, .ireturn, 1, [])]
def c_2 : List (Nat × Instr × Nat × List Int) := [
  (0, .iload_n 2, 1, []),
  (1, .aload_n 1, 1, []),
  (2, .getfield 15, 3, [162, 1, 11]),
  (5, .if_icmp .lt 5, 3, []),
  (8, .iconst 1, 1, []),
  (9, .ireturn, 1, []),
  (10, .iconst 0, 1, []),
  (11, .istore 4, 2, []),
  (13, .iconst 0, 1, []),
  (14, .istore 5, 2, []),
  (16, .iload 5, 2, []),
  (18, .aload_n 1, 1, []),
  (19, .getfield 21, 3, [151, 1, 6]),
  (22, .if_icmp .ge 54, 3, []),
  (25, .iload_n 3, 1, []),
  (26, .iload 5, 2, []),
  (28, .invokestatic 24, 3, [4, 130, 2, 841, 776, 50, 777]),
  (31, .ifCond .ne 39, 3, []),
  (34, .aload_n 1, 1, []),
  (35, .iload 5, 2, []),
  (37, .invokevirtual 28, 3, [6, 28, 1, 842, 625, 626, 57, 627, 1]),
  (40, .aload_n 1, 1, []),
  (41, .getfield 32, 3, [160, 1, 10]),
  (44, .iload_n 2, 1, []),
  (45, .invokestatic 36, 3, [4, 127, 2, 843, 349, 50, 350]),
  (48, .if_icmp .ne 22, 3, []),
  (51, .iload 4, 2, []),
  (53, .aload_n 0, 1, []),
  (54, .aload_n 1, 1, []),
  (55, .iload_n 2, 1, []),
  (56, .iconst 1, 1, []),
  (57, .iadd, 1, []),
  (58, .iload_n 3, 1, []),
  (59, .iconst 1, 1, []),
  (60, .iload 5, 2, []),
  (62, .ishl, 1, []),
  (63, .ior, 1, []),
  (64, .invokevirtual 9, 3, [6, 2, 3, 837, 839, 20, 62, 840, 0]),
  (67, .iadd, 1, []),
  (68, .istore 4, 2, []),
  (70, .iinc 5 1, 3, []),
  (73, .goto (-57), 3, []),
  (76, .iload 4, 2, []),
  (78, .ireturn, 1, [])]
def c_3 : List (Nat × Instr × Nat × List Int) := [
  (0, .aload_n 1, 1, []),
  (1, .getfield 15, 3, [162, 1, 11]),
  (4, .iconst 1, 1, []),
  (5, .if_icmp .ge 5, 3, []),
  (8, .iconst (-1), 1, []),
  (9, .ireturn, 1, []),
  (10, .iconst 0, 1, []),
  (11, .istore_n 2, 1, []),
  (12, .iload_n 2, 1, []),
  (13, .aload_n 1, 1, []),
  (14, .getfield 21, 3, [151, 1, 6]),
  (17, .if_icmp .ge 39, 3, []),
  (20, .aload_n 1, 1, []),
  (21, .iload_n 2, 1, []),
  (22, .invokevirtual 28, 3, [6, 28, 1, 842, 625, 626, 57, 627, 1]),
  (25, .aload_n 1, 1, []),
  (26, .getfield 32, 3, [160, 1, 10]),
  (29, .iconst 0, 1, []),
  (30, .invokestatic 36, 3, [4, 127, 2, 843, 349, 50, 350]),
  (33, .if_icmp .ne 17, 3, []),
  (36, .aload_n 0, 1, []),
  (37, .aload_n 1, 1, []),
  (38, .iconst 1, 1, []),
  (39, .iconst 1, 1, []),
  (40, .iload_n 2, 1, []),
  (41, .ishl, 1, []),
  (42, .invokevirtual 9, 3, [6, 2, 3, 837, 839, 20, 62, 840, 0]),
  (45, .ifCond .le 5, 3, []),
  (48, .iload_n 2, 1, []),
  (49, .ireturn, 1, []),
  (50, .iinc 2 1, 3, []),
  (53, .goto (-41), 3, []),
  (56, .iconst (-1), 1, []),
  (57, .ireturn, 1, [])]
def c_4 : List (Nat × Instr × Nat × List Int) := [
  (0, .iconst (-1), 1, []),
  (1, .istore 5, 2, []),
  (3, .lconst 0, 1, []),
  (4, .lstore 6, 2, []),
  (6, .iconst 0, 1, []),
  (7, .istore 8, 2, []),
  (9, .iload 8, 2, []),
  (11, .getstatic 40, 3, [855, 1, 1]),
  (14, .iconst 0, 1, []),
  (15, .invokestatic 36, 3, [4, 127, 2, 843, 349, 50, 350]),
  (18, .if_icmp .gt 57, 3, []),
  (21, .aload_n 0, 1, []),
  (22, .iload_n 1, 1, []),
  (23, .iload_n 2, 1, []),
  (24, .iload 8, 2, []),
  (26, .invokevirtual 43, 3, [6, 27, 3, 856, 591, 592, 57, 593, 1]),
  (29, .istore 9, 2, []),
  (31, .iload 9, 2, []),
  (33, .iload 4, 2, []),
  (35, .invokestatic 47, 3, [3, 5, 2, 857, 858, 62, 859]),
  (38, .bipush 10, 2, []),
  (40, .iload 9, 2, []),
  (42, .isub, 1, []),
  (43, .iload_n 3, 1, []),
  (44, .iload 4, 2, []),
  (46, .isub, 1, []),
  (47, .invokestatic 47, 3, [3, 5, 2, 857, 858, 62, 859]),
  (50, .lmul, 1, []),
  (51, .lstore 10, 2, []),
  (53, .lload 10, 2, []),
  (55, .lload 6, 2, []),
  (57, .lcmp, 1, []),
  (58, .ifCond .le 11, 3, []),
  (61, .lload 10, 2, []),
  (63, .lstore 6, 2, []),
  (65, .iload 8, 2, []),
  (67, .istore 5, 2, []),
  (69, .iinc 8 1, 3, []),
  (72, .goto (-63), 3, []),
  (75, .iload 5, 2, []),
  (77, .ireturn, 1, [])]
def c_5 : List (Nat × Instr × Nat × List Int) := [
  (0, .lconst 1, 1, []),
  (1, .lstore_n 2, 1, []),
  (2, .iconst 0, 1, []),
  (3, .istore 4, 2, []),
  (5, .iload 4, 2, []),
  (7, .iload_n 1, 1, []),
  (8, .if_icmp .ge 14, 3, []),
  (11, .lload_n 2, 1, []),
  (12, .iload_n 0, 1, []),
  (13, .i2l, 1, []),
  (14, .lmul, 1, []),
  (15, .lstore_n 2, 1, []),
  (16, .iinc 4 1, 3, []),
  (19, .goto (-14), 3, []),
  (22, .lload_n 2, 1, []),
  (23, .lreturn, 1, [])]
def c_6 : List (Nat × Instr × Nat × List Int) := [
  (0, .aload_n 0, 1, []),
  (1, .aload_n 0, 1, []),
  (2, .getfield 51, 3, [165, 1, 12]),
  (5, .invokevirtual 54, 3, [6, 24, 1, 868, 663, 664, 57, 665, 1]),
  (8, .istore_n 3, 1, []),
  (9, .iload_n 2, 1, []),
  (10, .i2l, 1, []),
  (11, .lstore 4, 2, []),
  (13, .iconst 0, 1, []),
  (14, .istore 6, 2, []),
  (16, .iconst 0, 1, []),
  (17, .istore 7, 2, []),
  (19, .iload 7, 2, []),
  (21, .iload_n 1, 1, []),
  (22, .if_icmp .ge 92, 3, []),
  (25, .iconst 0, 1, []),
  (26, .istore 8, 2, []),
  (28, .aload_n 0, 1, []),
  (29, .getfield 57, 3, [171, 1, 14]),
  (32, .istore 9, 2, []),
  (34, .iload 9, 2, []),
  (36, .aload_n 0, 1, []),
  (37, .getfield 21, 3, [151, 1, 6]),
  (40, .if_icmp .ge 60, 3, []),
  (43, .iload 8, 2, []),
  (45, .ifCond .ne 55, 3, []),
  (48, .lload 4, 2, []),
  (50, .ldc2_w 60, 3, [869, 1103515245]),
  (53, .lmul, 1, []),
  (54, .ldc2_w 62, 3, [870, 12345]),
  (57, .ladd, 1, []),
  (58, .ldc2_w 64, 3, [871, 2147483648]),
  (61, .lrem, 1, []),
  (62, .lstore 4, 2, []),
  (64, .lload 4, 2, []),
  (66, .ldc2_w 66, 3, [872, 65536]),
  (69, .ldiv, 1, []),
  (70, .ldc2_w 68, 3, [873, 100]),
  (73, .lrem, 1, []),
  (74, .aload_n 0, 1, []),
  (75, .iload 9, 2, []),
  (77, .invokevirtual 70, 3, [6, 26, 1, 874, 583, 584, 57, 585, 1]),
  (80, .iload_n 3, 1, []),
  (81, .imul, 1, []),
  (82, .i2l, 1, []),
  (83, .lcmp, 1, []),
  (84, .ifCond .ge 7, 3, []),
  (87, .iconst 1, 1, []),
  (88, .goto 4, 3, []),
  (91, .iconst 0, 1, []),
  (92, .istore 8, 2, []),
  (94, .iinc 9 1, 3, []),
  (97, .goto (-63), 3, []),
  (100, .iload 8, 2, []),
  (102, .ifCond .eq 6, 3, []),
  (105, .iinc 6 1, 3, []),
  (108, .iinc 7 1, 3, []),
  (111, .goto (-92), 3, []),
  (114, .iload 6, 2, []),
  (116, .ireturn, 1, [])]
def c_7 : List (Nat × Instr × Nat × List Int) := [
  (0, .aload_n 0, 1, []),
  (1, .invokespecial 3, 3, [0, 125, 75, 76]),
  (4, .aload_n 0, 1, []),
  (5, .iconst 4, 1, []),
  (6, .newarray .int, 2, [212, 0]),
  (8, .putfield 9, 3, [142, 1, 1]),
  (11, .aload_n 0, 1, []),
  (12, .bipush 6, 2, []),
  (14, .newarray .int, 2, [212, 0]),
  (16, .putfield 15, 3, [143, 1, 2]),
  (19, .aload_n 0, 1, []),
  (20, .bipush 6, 2, []),
  (22, .newarray .int, 2, [212, 0]),
  (24, .putfield 18, 3, [144, 1, 3]),
  (27, .aload_n 0, 1, []),
  (28, .bipush 6, 2, []),
  (30, .newarray .int, 2, [212, 0]),
  (32, .putfield 21, 3, [146, 1, 4]),
  (35, .aload_n 0, 1, []),
  (36, .bipush 6, 2, []),
  (38, .newarray .int, 2, [212, 0]),
  (40, .putfield 24, 3, [148, 1, 5]),
  (43, .aload_n 0, 1, []),
  (44, .bipush 7, 2, []),
  (46, .newarray .int, 2, [212, 0]),
  (48, .putfield 27, 3, [152, 1, 7]),
  (51, .aload_n 0, 1, []),
  (52, .bipush 7, 2, []),
  (54, .newarray .int, 2, [212, 0]),
  (56, .putfield 30, 3, [154, 1, 8]),
  (59, .aload_n 0, 1, []),
  (60, .iconst 5, 1, []),
  (61, .newarray .int, 2, [212, 0]),
  (63, .putfield 33, 3, [159, 1, 10]),
  (66, .aload_n 0, 1, []),
  (67, .bipush 32, 2, []),
  (69, .newarray .int, 2, [212, 0]),
  (71, .putfield 36, 3, [173, 1, 16]),
  (74, .aload_n 0, 1, []),
  (75, .aload_n 1, 1, []),
  (76, .putfield 39, 3, [141, 1, 0]),
  (79, .aload_n 0, 1, []),
  (80, .invokevirtual 43, 3, [6, 8, 0, 126, 127, 128, 57, 129, 1]),
  (83, .return_, 1, [])]
def c_8 : List (Nat × Instr × Nat × List Int) := [
  (0, .getstatic 46, 3, [130, 0, 1]),
  (3, .aload_n 0, 1, []),
  (4, .getfield 9, 3, [142, 1, 1]),
  (7, .invokestatic 49, 3, [4, 129, 2, 132, 133, 50, 134]),
  (10, .iconst 0, 1, []),
  (11, .istore_n 1, 1, []),
  (12, .iload_n 1, 1, []),
  (13, .aload_n 0, 1, []),
  (14, .getfield 15, 3, [143, 1, 2]),
  (17, .arraylength, 1, []),
  (18, .if_icmp .ge 18, 3, []),
  (21, .aload_n 0, 1, []),
  (22, .getfield 15, 3, [143, 1, 2]),
  (25, .iload_n 1, 1, []),
  (26, .iload_n 1, 1, []),
  (27, .iconst 2, 1, []),
  (28, .iadd, 1, []),
  (29, .iastore, 1, []),
  (30, .iinc 1 1, 3, []),
  (33, .goto (-21), 3, []),
  (36, .aload_n 0, 1, []),
  (37, .iconst 0, 1, []),
  (38, .putfield 53, 3, [150, 1, 6]),
  (41, .aload_n 0, 1, []),
  (42, .iconst 0, 1, []),
  (43, .putfield 57, 3, [157, 1, 9]),
  (46, .aload_n 0, 1, []),
  (47, .iconst 0, 1, []),
  (48, .putfield 60, 3, [161, 1, 11]),
  (51, .aload_n 0, 1, []),
  (52, .iconst 0, 1, []),
  (53, .putfield 63, 3, [163, 1, 12]),
  (56, .aload_n 0, 1, []),
  (57, .iconst 0, 1, []),
  (58, .putfield 66, 3, [167, 1, 13]),
  (61, .aload_n 0, 1, []),
  (62, .iconst 0, 1, []),
  (63, .putfield 69, 3, [169, 1, 14]),
  (66, .aload_n 0, 1, []),
  (67, .iconst 0, 1, []),
  (68, .putfield 72, 3, [172, 1, 15]),
  (71, .aload_n 0, 1, []),
  (72, .iconst 0, 1, []),
  (73, .putfield 76, 3, [174, 1, 17]),
  (76, .return_, 1, [])]
def c_9 : List (Nat × Instr × Nat × List Int) := [
  (0, .aload_n 1, 1, []),
  (1, .getfield 9, 3, [142, 1, 1]),
  (4, .aload_n 0, 1, []),
  (5, .getfield 9, 3, [142, 1, 1]),
  (8, .invokestatic 49, 3, [4, 129, 2, 132, 133, 50, 134]),
  (11, .aload_n 1, 1, []),
  (12, .getfield 15, 3, [143, 1, 2]),
  (15, .aload_n 0, 1, []),
  (16, .getfield 15, 3, [143, 1, 2]),
  (19, .invokestatic 49, 3, [4, 129, 2, 132, 133, 50, 134]),
  (22, .aload_n 1, 1, []),
  (23, .getfield 18, 3, [144, 1, 3]),
  (26, .aload_n 0, 1, []),
  (27, .getfield 18, 3, [144, 1, 3]),
  (30, .invokestatic 49, 3, [4, 129, 2, 132, 133, 50, 134]),
  (33, .aload_n 1, 1, []),
  (34, .getfield 21, 3, [146, 1, 4]),
  (37, .aload_n 0, 1, []),
  (38, .getfield 21, 3, [146, 1, 4]),
  (41, .invokestatic 49, 3, [4, 129, 2, 132, 133, 50, 134]),
  (44, .aload_n 1, 1, []),
  (45, .getfield 24, 3, [148, 1, 5]),
  (48, .aload_n 0, 1, []),
  (49, .getfield 24, 3, [148, 1, 5]),
  (52, .invokestatic 49, 3, [4, 129, 2, 132, 133, 50, 134]),
  (55, .aload_n 0, 1, []),
  (56, .aload_n 1, 1, []),
  (57, .getfield 53, 3, [150, 1, 6]),
  (60, .putfield 53, 3, [150, 1, 6]),
  (63, .aload_n 1, 1, []),
  (64, .getfield 27, 3, [152, 1, 7]),
  (67, .aload_n 0, 1, []),
  (68, .getfield 27, 3, [152, 1, 7]),
  (71, .invokestatic 49, 3, [4, 129, 2, 132, 133, 50, 134]),
  (74, .aload_n 1, 1, []),
  (75, .getfield 30, 3, [154, 1, 8]),
  (78, .aload_n 0, 1, []),
  (79, .getfield 30, 3, [154, 1, 8]),
  (82, .invokestatic 49, 3, [4, 129, 2, 132, 133, 50, 134]),
  (85, .aload_n 0, 1, []),
  (86, .aload_n 1, 1, []),
  (87, .getfield 57, 3, [157, 1, 9]),
  (90, .putfield 57, 3, [157, 1, 9]),
  (93, .aload_n 1, 1, []),
  (94, .getfield 33, 3, [159, 1, 10]),
  (97, .aload_n 0, 1, []),
  (98, .getfield 33, 3, [159, 1, 10]),
  (101, .invokestatic 49, 3, [4, 129, 2, 132, 133, 50, 134]),
  (104, .aload_n 0, 1, []),
  (105, .aload_n 1, 1, []),
  (106, .getfield 60, 3, [161, 1, 11]),
  (109, .putfield 60, 3, [161, 1, 11]),
  (112, .aload_n 0, 1, []),
  (113, .aload_n 1, 1, []),
  (114, .getfield 63, 3, [163, 1, 12]),
  (117, .putfield 63, 3, [163, 1, 12]),
  (120, .aload_n 0, 1, []),
  (121, .aload_n 1, 1, []),
  (122, .getfield 66, 3, [167, 1, 13]),
  (125, .putfield 66, 3, [167, 1, 13]),
  (128, .aload_n 0, 1, []),
  (129, .aload_n 1, 1, []),
  (130, .getfield 69, 3, [169, 1, 14]),
  (133, .putfield 69, 3, [169, 1, 14]),
  (136, .aload_n 0, 1, []),
  (137, .aload_n 1, 1, []),
  (138, .getfield 72, 3, [172, 1, 15]),
  (141, .putfield 72, 3, [172, 1, 15]),
  (144, .aload_n 1, 1, []),
  (145, .getfield 36, 3, [173, 1, 16]),
  (148, .aload_n 0, 1, []),
  (149, .getfield 36, 3, [173, 1, 16]),
  (152, .invokestatic 49, 3, [4, 129, 2, 132, 133, 50, 134]),
  (155, .aload_n 0, 1, []),
  (156, .aload_n 1, 1, []),
  (157, .getfield 76, 3, [174, 1, 17]),
  (160, .putfield 76, 3, [174, 1, 17]),
  (163, .return_, 1, [])]
def c_10 : List (Nat × Instr × Nat × List Int) := [
  (0, .iload_n 1, 1, []),
  (1, .ifCond .lt 27, 3, []),
  (4, .iload_n 1, 1, []),
  (5, .aload_n 0, 1, []),
  (6, .getfield 9, 3, [142, 1, 1]),
  (9, .arraylength, 1, []),
  (10, .if_icmp .ge 18, 3, []),
  (13, .iload_n 2, 1, []),
  (14, .ifCond .lt 14, 3, []),
  (17, .iload_n 2, 1, []),
  (18, .getstatic 79, 3, [346, 1, 1]),
  (21, .iload_n 1, 1, []),
  (22, .invokestatic 82, 3, [4, 127, 2, 348, 349, 50, 350]),
  (25, .if_icmp .le 6, 3, []),
  (28, .bipush (-2), 2, []),
  (30, .ireturn, 1, []),
  (31, .iload_n 1, 1, []),
  (32, .iconst 3, 1, []),
  (33, .if_icmp .ne 14, 3, []),
  (36, .iload_n 2, 1, []),
  (37, .aload_n 0, 1, []),
  (38, .getfield 66, 3, [167, 1, 13]),
  (41, .if_icmp .ge 6, 3, []),
  (44, .bipush (-2), 2, []),
  (46, .ireturn, 1, []),
  (47, .aload_n 0, 1, []),
  (48, .getfield 9, 3, [142, 1, 1]),
  (51, .iload_n 1, 1, []),
  (52, .iaload, 1, []),
  (53, .istore_n 3, 1, []),
  (54, .aload_n 0, 1, []),
  (55, .getfield 9, 3, [142, 1, 1]),
  (58, .iload_n 1, 1, []),
  (59, .iload_n 2, 1, []),
  (60, .iastore, 1, []),
  (61, .iload_n 3, 1, []),
  (62, .ireturn, 1, [])]
def c_11 : List (Nat × Instr × Nat × List Int) := [
  (0, .iload_n 1, 1, []),
  (1, .ifCond .lt 22, 3, []),
  (4, .iload_n 1, 1, []),
  (5, .aload_n 0, 1, []),
  (6, .getfield 15, 3, [143, 1, 2]),
  (9, .arraylength, 1, []),
  (10, .if_icmp .ge 13, 3, []),
  (13, .iload_n 2, 1, []),
  (14, .ifCond .lt 9, 3, []),
  (17, .iload_n 2, 1, []),
  (18, .bipush 10, 2, []),
  (20, .if_icmp .le 6, 3, []),
  (23, .bipush (-2), 2, []),
  (25, .ireturn, 1, []),
  (26, .aload_n 0, 1, []),
  (27, .getfield 15, 3, [143, 1, 2]),
  (30, .iload_n 1, 1, []),
  (31, .iaload, 1, []),
  (32, .istore_n 3, 1, []),
  (33, .aload_n 0, 1, []),
  (34, .getfield 15, 3, [143, 1, 2]),
  (37, .iload_n 1, 1, []),
  (38, .iload_n 2, 1, []),
  (39, .iastore, 1, []),
  (40, .iload_n 3, 1, []),
  (41, .ireturn, 1, [])]
def c_12 : List (Nat × Instr × Nat × List Int) := [
  (0, .iload_n 1, 1, []),
  (1, .ifCond .lt 26, 3, []),
  (4, .iload_n 1, 1, []),
  (5, .aload_n 0, 1, []),
  (6, .getfield 39, 3, [141, 1, 0]),
  (9, .arraylength, 1, []),
  (10, .if_icmp .ge 17, 3, []),
  (13, .iload_n 2, 1, []),
  (14, .ifCond .lt 13, 3, []),
  (17, .iload_n 2, 1, []),
  (18, .bipush 10, 2, []),
  (20, .if_icmp .gt 7, 3, []),
  (23, .iconst 1, 1, []),
  (24, .goto 4, 3, []),
  (27, .iconst 0, 1, []),
  (28, .istore 4, 2, []),
  (30, .iload 4, 2, []),
  (32, .ifCond .eq 14, 3, []),
  (35, .iload_n 3, 1, []),
  (36, .iconst 1, 1, []),
  (37, .if_icmp .lt 9, 3, []),
  (40, .iload_n 3, 1, []),
  (41, .bipush 9, 2, []),
  (43, .if_icmp .le 6, 3, []),
  (46, .bipush (-2), 2, []),
  (48, .ireturn, 1, []),
  (49, .aload_n 0, 1, []),
  (50, .getfield 53, 3, [150, 1, 6]),
  (53, .bipush 6, 2, []),
  (55, .if_icmp .lt 6, 3, []),
  (58, .bipush (-4), 2, []),
  (60, .ireturn, 1, []),
  (61, .aload_n 0, 1, []),
  (62, .getfield 18, 3, [144, 1, 3]),
  (65, .aload_n 0, 1, []),
  (66, .getfield 53, 3, [150, 1, 6]),
  (69, .iload_n 1, 1, []),
  (70, .invokestatic 86, 3, [4, 128, 3, 371, 372, 50, 373]),
  (73, .aload_n 0, 1, []),
  (74, .getfield 21, 3, [146, 1, 4]),
  (77, .aload_n 0, 1, []),
  (78, .getfield 53, 3, [150, 1, 6]),
  (81, .iload_n 2, 1, []),
  (82, .invokestatic 86, 3, [4, 128, 3, 371, 372, 50, 373]),
  (85, .aload_n 0, 1, []),
  (86, .getfield 24, 3, [148, 1, 5]),
  (89, .aload_n 0, 1, []),
  (90, .getfield 53, 3, [150, 1, 6]),
  (93, .iload_n 3, 1, []),
  (94, .invokestatic 86, 3, [4, 128, 3, 371, 372, 50, 373]),
  (97, .aload_n 0, 1, []),
  (98, .dup, 1, []),
  (99, .getfield 53, 3, [150, 1, 6]),
  (102, .dup_x1, 1, []),
  (103, .iconst 1, 1, []),
  (104, .iadd, 1, []),
  (105, .putfield 53, 3, [150, 1, 6]),
  (108, .ireturn, 1, [])]
def c_13 : List (Nat × Instr × Nat × List Int) := [
  (0, .iload_n 1, 1, []),
  (1, .iconst 1, 1, []),
  (2, .if_icmp .lt 17, 3, []),
  (5, .iload_n 1, 1, []),
  (6, .bipush 9, 2, []),
  (8, .if_icmp .gt 11, 3, []),
  (11, .aload_n 0, 1, []),
  (12, .iload_n 2, 1, []),
  (13, .invokevirtual 90, 3, [6, 21, 1, 382, 383, 384, 57, 385, 1]),
  (16, .ifCond .ne 6, 3, []),
  (19, .bipush (-2), 2, []),
  (21, .ireturn, 1, []),
  (22, .aload_n 0, 1, []),
  (23, .getfield 57, 3, [157, 1, 9]),
  (26, .bipush 7, 2, []),
  (28, .if_icmp .lt 6, 3, []),
  (31, .bipush (-4), 2, []),
  (33, .ireturn, 1, []),
  (34, .aload_n 0, 1, []),
  (35, .getfield 27, 3, [152, 1, 7]),
  (38, .aload_n 0, 1, []),
  (39, .getfield 57, 3, [157, 1, 9]),
  (42, .iload_n 1, 1, []),
  (43, .invokestatic 86, 3, [4, 128, 3, 371, 372, 50, 373]),
  (46, .aload_n 0, 1, []),
  (47, .getfield 30, 3, [154, 1, 8]),
  (50, .aload_n 0, 1, []),
  (51, .getfield 57, 3, [157, 1, 9]),
  (54, .iload_n 2, 1, []),
  (55, .invokestatic 86, 3, [4, 128, 3, 371, 372, 50, 373]),
  (58, .aload_n 0, 1, []),
  (59, .dup, 1, []),
  (60, .getfield 57, 3, [157, 1, 9]),
  (63, .dup_x1, 1, []),
  (64, .iconst 1, 1, []),
  (65, .iadd, 1, []),
  (66, .putfield 57, 3, [157, 1, 9]),
  (69, .ireturn, 1, [])]
def c_14 : List (Nat × Instr × Nat × List Int) := [
  (0, .iload_n 1, 1, []),
  (1, .ifCond .lt 9, 3, []),
  (4, .iload_n 1, 1, []),
  (5, .bipush 18, 2, []),
  (7, .if_icmp .le 6, 3, []),
  (10, .bipush (-2), 2, []),
  (12, .ireturn, 1, []),
  (13, .aload_n 0, 1, []),
  (14, .getfield 60, 3, [161, 1, 11]),
  (17, .iconst 5, 1, []),
  (18, .if_icmp .lt 6, 3, []),
  (21, .bipush (-4), 2, []),
  (23, .ireturn, 1, []),
  (24, .aload_n 0, 1, []),
  (25, .getfield 33, 3, [159, 1, 10]),
  (28, .aload_n 0, 1, []),
  (29, .getfield 60, 3, [161, 1, 11]),
  (32, .iload_n 1, 1, []),
  (33, .invokestatic 86, 3, [4, 128, 3, 371, 372, 50, 373]),
  (36, .aload_n 0, 1, []),
  (37, .dup, 1, []),
  (38, .getfield 60, 3, [161, 1, 11]),
  (41, .iconst 1, 1, []),
  (42, .iadd, 1, []),
  (43, .dup_x1, 1, []),
  (44, .putfield 60, 3, [161, 1, 11]),
  (47, .ireturn, 1, [])]
def c_15 : List (Nat × Instr × Nat × List Int) := [
  (0, .iload_n 1, 1, []),
  (1, .lookupswitch 51 #[(0, 27), (1, 39)], 27, []),
  (28, .aload_n 0, 1, []),
  (29, .getfield 57, 3, [157, 1, 9]),
  (32, .istore_n 2, 1, []),
  (33, .aload_n 0, 1, []),
  (34, .iconst 0, 1, []),
  (35, .putfield 57, 3, [157, 1, 9]),
  (38, .iload_n 2, 1, []),
  (39, .ireturn, 1, []),
  (40, .aload_n 0, 1, []),
  (41, .getfield 60, 3, [161, 1, 11]),
  (44, .istore_n 2, 1, []),
  (45, .aload_n 0, 1, []),
  (46, .iconst 0, 1, []),
  (47, .putfield 60, 3, [161, 1, 11]),
  (50, .iload_n 2, 1, []),
  (51, .ireturn, 1, []),
  (52, .bipush (-2), 2, []),
  (54, .ireturn, 1, [])]
def c_16 : List (Nat × Instr × Nat × List Int) := [
  (0, .iload_n 2, 1, []),
  (1, .ifCond .eq 10, 3, []),
  (4, .iload_n 1, 1, []),
  (5, .ifCond .ne 6, 3, []),
  (8, .bipush (-2), 2, []),
  (10, .ireturn, 1, []),
  (11, .aload_n 0, 1, []),
  (12, .getfield 72, 3, [172, 1, 15]),
  (15, .ifCond .ne 11, 3, []),
  (18, .aload_n 0, 1, []),
  (19, .invokevirtual 94, 3, [6, 22, 0, 543, 544, 545, 57, 546, 1]),
  (22, .iconst 1, 1, []),
  (23, .if_icmp .ge 6, 3, []),
  (26, .bipush (-3), 2, []),
  (28, .ireturn, 1, []),
  (29, .aload_n 0, 1, []),
  (30, .invokevirtual 98, 3, [6, 18, 0, 547, 549, 8, 57, 550, 1]),
  (33, .aload_n 0, 1, []),
  (34, .iload_n 2, 1, []),
  (35, .putfield 72, 3, [172, 1, 15]),
  (38, .aload_n 0, 1, []),
  (39, .dup, 1, []),
  (40, .getfield 69, 3, [169, 1, 14]),
  (43, .dup_x1, 1, []),
  (44, .iconst 1, 1, []),
  (45, .iadd, 1, []),
  (46, .putfield 69, 3, [169, 1, 14]),
  (49, .ireturn, 1, [])]
def c_17 : List (Nat × Instr × Nat × List Int) := [
  (0, .aload_n 0, 1, []),
  (1, .getfield 72, 3, [172, 1, 15]),
  (4, .ifCond .ne 11, 3, []),
  (7, .aload_n 0, 1, []),
  (8, .invokevirtual 101, 3, [6, 23, 0, 560, 561, 562, 57, 563, 1]),
  (11, .iconst 1, 1, []),
  (12, .if_icmp .ge 6, 3, []),
  (15, .bipush (-3), 2, []),
  (17, .ireturn, 1, []),
  (18, .aload_n 0, 1, []),
  (19, .invokevirtual 98, 3, [6, 18, 0, 547, 549, 8, 57, 550, 1]),
  (22, .aload_n 0, 1, []),
  (23, .iconst 5, 1, []),
  (24, .aload_n 0, 1, []),
  (25, .getfield 63, 3, [163, 1, 12]),
  (28, .iconst 1, 1, []),
  (29, .iadd, 1, []),
  (30, .invokestatic 104, 3, [10, 564, 136, 58, 137]),
  (33, .putfield 63, 3, [163, 1, 12]),
  (36, .aload_n 0, 1, []),
  (37, .dup, 1, []),
  (38, .getfield 66, 3, [167, 1, 13]),
  (41, .iconst 1, 1, []),
  (42, .iadd, 1, []),
  (43, .putfield 66, 3, [167, 1, 13]),
  (46, .aload_n 0, 1, []),
  (47, .getfield 63, 3, [163, 1, 12]),
  (50, .ireturn, 1, [])]
def c_18 : List (Nat × Instr × Nat × List Int) := [
  (0, .aload_n 0, 1, []),
  (1, .getfield 76, 3, [174, 1, 17]),
  (4, .bipush 8, 2, []),
  (6, .if_icmp .lt 29, 3, []),
  (9, .aload_n 0, 1, []),
  (10, .getfield 36, 3, [173, 1, 16]),
  (13, .iconst 4, 1, []),
  (14, .aload_n 0, 1, []),
  (15, .getfield 36, 3, [173, 1, 16]),
  (18, .iconst 0, 1, []),
  (19, .aload_n 0, 1, []),
  (20, .getfield 36, 3, [173, 1, 16]),
  (23, .arraylength, 1, []),
  (24, .iconst 4, 1, []),
  (25, .isub, 1, []),
  (26, .invokestatic 110, 3, [5, 551, 140, 139, 59]),
  (29, .aload_n 0, 1, []),
  (30, .bipush 7, 2, []),
  (32, .putfield 76, 3, [174, 1, 17]),
  (35, .aload_n 0, 1, []),
  (36, .getfield 76, 3, [174, 1, 17]),
  (39, .iconst 4, 1, []),
  (40, .imul, 1, []),
  (41, .istore_n 1, 1, []),
  (42, .aload_n 0, 1, []),
  (43, .getfield 36, 3, [173, 1, 16]),
  (46, .iload_n 1, 1, []),
  (47, .aload_n 0, 1, []),
  (48, .getfield 63, 3, [163, 1, 12]),
  (51, .invokestatic 86, 3, [4, 128, 3, 371, 372, 50, 373]),
  (54, .aload_n 0, 1, []),
  (55, .getfield 36, 3, [173, 1, 16]),
  (58, .iload_n 1, 1, []),
  (59, .iconst 1, 1, []),
  (60, .iadd, 1, []),
  (61, .aload_n 0, 1, []),
  (62, .getfield 66, 3, [167, 1, 13]),
  (65, .invokestatic 86, 3, [4, 128, 3, 371, 372, 50, 373]),
  (68, .aload_n 0, 1, []),
  (69, .getfield 36, 3, [173, 1, 16]),
  (72, .iload_n 1, 1, []),
  (73, .iconst 2, 1, []),
  (74, .iadd, 1, []),
  (75, .aload_n 0, 1, []),
  (76, .getfield 69, 3, [169, 1, 14]),
  (79, .invokestatic 86, 3, [4, 128, 3, 371, 372, 50, 373]),
  (82, .aload_n 0, 1, []),
  (83, .getfield 36, 3, [173, 1, 16]),
  (86, .iload_n 1, 1, []),
  (87, .iconst 3, 1, []),
  (88, .iadd, 1, []),
  (89, .aload_n 0, 1, []),
  (90, .getfield 72, 3, [172, 1, 15]),
  (93, .ifCond .eq 7, 3, []),
  (96, .iconst 1, 1, []),
  (97, .goto 4, 3, []),
  (100, .iconst 0, 1, []),
  (101, .invokestatic 86, 3, [4, 128, 3, 371, 372, 50, 373]),
  (104, .aload_n 0, 1, []),
  (105, .dup, 1, []),
  (106, .getfield 76, 3, [174, 1, 17]),
  (109, .iconst 1, 1, []),
  (110, .iadd, 1, []),
  (111, .putfield 76, 3, [174, 1, 17]),
  (114, .return_, 1, [])]
def c_19 : List (Nat × Instr × Nat × List Int) := [
  (0, .aload_n 0, 1, []),
  (1, .getfield 76, 3, [174, 1, 17]),
  (4, .iconst 1, 1, []),
  (5, .if_icmp .ge 6, 3, []),
  (8, .bipush (-3), 2, []),
  (10, .ireturn, 1, []),
  (11, .aload_n 0, 1, []),
  (12, .dup, 1, []),
  (13, .getfield 76, 3, [174, 1, 17]),
  (16, .iconst 1, 1, []),
  (17, .isub, 1, []),
  (18, .putfield 76, 3, [174, 1, 17]),
  (21, .aload_n 0, 1, []),
  (22, .getfield 76, 3, [174, 1, 17]),
  (25, .iconst 4, 1, []),
  (26, .imul, 1, []),
  (27, .istore_n 1, 1, []),
  (28, .aload_n 0, 1, []),
  (29, .aload_n 0, 1, []),
  (30, .getfield 36, 3, [173, 1, 16]),
  (33, .iload_n 1, 1, []),
  (34, .invokestatic 82, 3, [4, 127, 2, 348, 349, 50, 350]),
  (37, .putfield 63, 3, [163, 1, 12]),
  (40, .aload_n 0, 1, []),
  (41, .aload_n 0, 1, []),
  (42, .getfield 36, 3, [173, 1, 16]),
  (45, .iload_n 1, 1, []),
  (46, .iconst 1, 1, []),
  (47, .iadd, 1, []),
  (48, .invokestatic 82, 3, [4, 127, 2, 348, 349, 50, 350]),
  (51, .putfield 66, 3, [167, 1, 13]),
  (54, .aload_n 0, 1, []),
  (55, .aload_n 0, 1, []),
  (56, .getfield 36, 3, [173, 1, 16]),
  (59, .iload_n 1, 1, []),
  (60, .iconst 2, 1, []),
  (61, .iadd, 1, []),
  (62, .invokestatic 82, 3, [4, 127, 2, 348, 349, 50, 350]),
  (65, .putfield 69, 3, [169, 1, 14]),
  (68, .aload_n 0, 1, []),
  (69, .aload_n 0, 1, []),
  (70, .getfield 36, 3, [173, 1, 16]),
  (73, .iload_n 1, 1, []),
  (74, .iconst 3, 1, []),
  (75, .iadd, 1, []),
  (76, .invokestatic 82, 3, [4, 127, 2, 348, 349, 50, 350]),
  (79, .iconst 1, 1, []),
  (80, .if_icmp .ne 7, 3, []),
  (83, .iconst 1, 1, []),
  (84, .goto 4, 3, []),
  (87, .iconst 0, 1, []),
  (88, .putfield 72, 3, [172, 1, 15]),
  (91, .iconst 1, 1, []),
  (92, .ireturn, 1, [])]
def c_20 : List (Nat × Instr × Nat × List Int) := [
  (0, .iload_n 1, 1, []),
  (1, .ifCond .lt 15, 3, []),
  (4, .iload_n 1, 1, []),
  (5, .aload_n 0, 1, []),
  (6, .getfield 53, 3, [150, 1, 6]),
  (9, .if_icmp .ge 7, 3, []),
  (12, .iconst 1, 1, []),
  (13, .goto 4, 3, []),
  (16, .iconst 0, 1, []),
  (17, .ireturn, 1, [])]
def c_21 : List (Nat × Instr × Nat × List Int) := [
  (0, .iload_n 1, 1, []),
  (1, .ifCond .lt 17, 3, []),
  (4, .iload_n 1, 1, []),
  (5, .iconst 1, 1, []),
  (6, .aload_n 0, 1, []),
  (7, .getfield 57, 3, [157, 1, 9]),
  (10, .ishl, 1, []),
  (11, .if_icmp .ge 7, 3, []),
  (14, .iconst 1, 1, []),
  (15, .goto 4, 3, []),
  (18, .iconst 0, 1, []),
  (19, .ireturn, 1, [])]
def c_22 : List (Nat × Instr × Nat × List Int) := [
  (0, .aload_n 0, 1, []),
  (1, .getfield 53, 3, [150, 1, 6]),
  (4, .aload_n 0, 1, []),
  (5, .getfield 69, 3, [169, 1, 14]),
  (8, .isub, 1, []),
  (9, .ireturn, 1, [])]
def c_23 : List (Nat × Instr × Nat × List Int) := [
  (0, .aload_n 0, 1, []),
  (1, .getfield 9, 3, [142, 1, 1]),
  (4, .iconst 3, 1, []),
  (5, .invokestatic 82, 3, [4, 127, 2, 348, 349, 50, 350]),
  (8, .aload_n 0, 1, []),
  (9, .getfield 66, 3, [167, 1, 13]),
  (12, .isub, 1, []),
  (13, .ireturn, 1, [])]
def c_24 : List (Nat × Instr × Nat × List Int) := [
  (0, .aload_n 0, 1, []),
  (1, .getfield 15, 3, [143, 1, 2]),
  (4, .iload_n 1, 1, []),
  (5, .invokestatic 82, 3, [4, 127, 2, 348, 349, 50, 350]),
  (8, .ireturn, 1, [])]
def c_25 : List (Nat × Instr × Nat × List Int) := [
  (0, .aload_n 0, 1, []),
  (1, .getfield 9, 3, [142, 1, 1]),
  (4, .iconst 0, 1, []),
  (5, .invokestatic 82, 3, [4, 127, 2, 348, 349, 50, 350]),
  (8, .ireturn, 1, [])]
def c_26 : List (Nat × Instr × Nat × List Int) := [
  (0, .aload_n 0, 1, []),
  (1, .iload_n 1, 1, []),
  (2, .aload_n 0, 1, []),
  (3, .getfield 66, 3, [167, 1, 13]),
  (6, .aload_n 0, 1, []),
  (7, .invokevirtual 116, 3, [6, 25, 0, 586, 587, 588, 57, 589, 1]),
  (10, .invokevirtual 119, 3, [6, 27, 3, 590, 591, 592, 57, 593, 1]),
  (13, .ireturn, 1, [])]
def c_27 : List (Nat × Instr × Nat × List Int) := [
  (0, .aload_n 0, 1, []),
  (1, .iload_n 1, 1, []),
  (2, .invokevirtual 123, 3, [6, 29, 1, 594, 596, 9, 57, 597, 1]),
  (5, .astore 4, 2, []),
  (7, .aload 4, 2, []),
  (9, .ifnonnull 5, 3, []),
  (12, .iconst 0, 1, []),
  (13, .ireturn, 1, []),
  (14, .iconst 0, 1, []),
  (15, .iload_n 3, 1, []),
  (16, .aload_n 0, 1, []),
  (17, .getfield 9, 3, [142, 1, 1]),
  (20, .iconst 1, 1, []),
  (21, .invokestatic 82, 3, [4, 127, 2, 348, 349, 50, 350]),
  (24, .isub, 1, []),
  (25, .invokestatic 127, 3, [9, 598, 599, 58, 600]),
  (28, .istore 5, 2, []),
  (30, .aload 4, 2, []),
  (32, .aload_n 0, 1, []),
  (33, .getfield 21, 3, [146, 1, 4]),
  (36, .iload_n 1, 1, []),
  (37, .invokestatic 82, 3, [4, 127, 2, 348, 349, 50, 350]),
  (40, .iload 5, 2, []),
  (42, .aload_n 0, 1, []),
  (43, .getfield 9, 3, [142, 1, 1]),
  (46, .iconst 2, 1, []),
  (47, .invokestatic 82, 3, [4, 127, 2, 348, 349, 50, 350]),
  (50, .iload_n 2, 1, []),
  (51, .imul, 1, []),
  (52, .invokevirtual 130, 3, [8, 54, 3, 601]),
  (55, .ireturn, 1, [])]
def c_28 : List (Nat × Instr × Nat × List Int) := [
  (0, .aload_n 0, 1, []),
  (1, .iload_n 1, 1, []),
  (2, .invokevirtual 123, 3, [6, 29, 1, 594, 596, 9, 57, 597, 1]),
  (5, .astore_n 2, 1, []),
  (6, .aload_n 2, 1, []),
  (7, .ifnonnull 7, 3, []),
  (10, .iconst 0, 1, []),
  (11, .goto 15, 3, []),
  (14, .aload_n 2, 1, []),
  (15, .aload_n 0, 1, []),
  (16, .getfield 24, 3, [148, 1, 5]),
  (19, .iload_n 1, 1, []),
  (20, .invokestatic 82, 3, [4, 127, 2, 348, 349, 50, 350]),
  (23, .invokevirtual 135, 3, [8, 55, 1, 628]),
  (26, .ireturn, 1, [])]
def c_29 : List (Nat × Instr × Nat × List Int) := [
  (0, .aload_n 0, 1, []),
  (1, .getfield 18, 3, [144, 1, 3]),
  (4, .iload_n 1, 1, []),
  (5, .invokestatic 82, 3, [4, 127, 2, 348, 349, 50, 350]),
  (8, .istore_n 2, 1, []),
  (9, .iload_n 2, 1, []),
  (10, .ifCond .lt 21, 3, []),
  (13, .iload_n 2, 1, []),
  (14, .aload_n 0, 1, []),
  (15, .getfield 39, 3, [141, 1, 0]),
  (18, .arraylength, 1, []),
  (19, .if_icmp .ge 12, 3, []),
  (22, .aload_n 0, 1, []),
  (23, .getfield 39, 3, [141, 1, 0]),
  (26, .iload_n 2, 1, []),
  (27, .aaload, 1, []),
  (28, .goto 4, 3, []),
  (31, .aconst_null, 1, []),
  (32, .areturn, 1, [])]
def c_30 : List (Nat × Instr × Nat × List Int) := [
  (0, .iload_n 1, 1, []),
  (1, .tableswitch 99 0 8 #[51, 56, 61, 66, 71, 76, 81, 99, 86], 51, []),
  (52, .aload_n 0, 1, []),
  (53, .getfield 53, 3, [150, 1, 6]),
  (56, .ireturn, 1, []),
  (57, .aload_n 0, 1, []),
  (58, .getfield 69, 3, [169, 1, 14]),
  (61, .ireturn, 1, []),
  (62, .aload_n 0, 1, []),
  (63, .getfield 63, 3, [163, 1, 12]),
  (66, .ireturn, 1, []),
  (67, .aload_n 0, 1, []),
  (68, .getfield 66, 3, [167, 1, 13]),
  (71, .ireturn, 1, []),
  (72, .aload_n 0, 1, []),
  (73, .getfield 57, 3, [157, 1, 9]),
  (76, .ireturn, 1, []),
  (77, .aload_n 0, 1, []),
  (78, .getfield 60, 3, [161, 1, 11]),
  (81, .ireturn, 1, []),
  (82, .aload_n 0, 1, []),
  (83, .getfield 76, 3, [174, 1, 17]),
  (86, .ireturn, 1, []),
  (87, .aload_n 0, 1, []),
  (88, .getfield 72, 3, [172, 1, 15]),
  (91, .ifCond .eq 7, 3, []),
  (94, .iconst 1, 1, []),
  (95, .goto 4, 3, []),
  (98, .iconst 0, 1, []),
  (99, .ireturn, 1, []),
  (100, .iconst 0, 1, []),
  (101, .ireturn, 1, [])]
def c_31 : List (Nat × Instr × Nat × List Int) := [
  (0, .lload_n 1, 1, []),
  (1, .aload_n 0, 1, []),
  (2, .getfield 9, 3, [142, 1, 1]),
  (5, .aload_n 0, 1, []),
  (6, .getfield 9, 3, [142, 1, 1]),
  (9, .arraylength, 1, []),
  (10, .invokestatic 139, 3, [3, 32, 3, 913, 914, 57, 915]),
  (13, .aload_n 0, 1, []),
  (14, .getfield 15, 3, [143, 1, 2]),
  (17, .aload_n 0, 1, []),
  (18, .getfield 15, 3, [143, 1, 2]),
  (21, .arraylength, 1, []),
  (22, .invokestatic 139, 3, [3, 32, 3, 913, 914, 57, 915]),
  (25, .lstore_n 3, 1, []),
  (26, .iconst 0, 1, []),
  (27, .istore 5, 2, []),
  (29, .iload 5, 2, []),
  (31, .aload_n 0, 1, []),
  (32, .getfield 53, 3, [150, 1, 6]),
  (35, .if_icmp .ge 60, 3, []),
  (38, .ldc2_w 143, 3, [916, 31]),
  (41, .lload_n 3, 1, []),
  (42, .lmul, 1, []),
  (43, .aload_n 0, 1, []),
  (44, .getfield 18, 3, [144, 1, 3]),
  (47, .iload 5, 2, []),
  (49, .invokestatic 82, 3, [4, 127, 2, 348, 349, 50, 350]),
  (52, .i2l, 1, []),
  (53, .ladd, 1, []),
  (54, .lstore_n 3, 1, []),
  (55, .ldc2_w 143, 3, [916, 31]),
  (58, .lload_n 3, 1, []),
  (59, .lmul, 1, []),
  (60, .aload_n 0, 1, []),
  (61, .getfield 21, 3, [146, 1, 4]),
  (64, .iload 5, 2, []),
  (66, .invokestatic 82, 3, [4, 127, 2, 348, 349, 50, 350]),
  (69, .i2l, 1, []),
  (70, .ladd, 1, []),
  (71, .lstore_n 3, 1, []),
  (72, .ldc2_w 143, 3, [916, 31]),
  (75, .lload_n 3, 1, []),
  (76, .lmul, 1, []),
  (77, .aload_n 0, 1, []),
  (78, .getfield 24, 3, [148, 1, 5]),
  (81, .iload 5, 2, []),
  (83, .invokestatic 82, 3, [4, 127, 2, 348, 349, 50, 350]),
  (86, .i2l, 1, []),
  (87, .ladd, 1, []),
  (88, .lstore_n 3, 1, []),
  (89, .iinc 5 1, 3, []),
  (92, .goto (-63), 3, []),
  (95, .iconst 0, 1, []),
  (96, .istore 5, 2, []),
  (98, .iload 5, 2, []),
  (100, .aload_n 0, 1, []),
  (101, .getfield 57, 3, [157, 1, 9]),
  (104, .if_icmp .ge 43, 3, []),
  (107, .ldc2_w 143, 3, [916, 31]),
  (110, .lload_n 3, 1, []),
  (111, .lmul, 1, []),
  (112, .aload_n 0, 1, []),
  (113, .getfield 27, 3, [152, 1, 7]),
  (116, .iload 5, 2, []),
  (118, .invokestatic 82, 3, [4, 127, 2, 348, 349, 50, 350]),
  (121, .i2l, 1, []),
  (122, .ladd, 1, []),
  (123, .lstore_n 3, 1, []),
  (124, .ldc2_w 143, 3, [916, 31]),
  (127, .lload_n 3, 1, []),
  (128, .lmul, 1, []),
  (129, .aload_n 0, 1, []),
  (130, .getfield 30, 3, [154, 1, 8]),
  (133, .iload 5, 2, []),
  (135, .invokestatic 82, 3, [4, 127, 2, 348, 349, 50, 350]),
  (138, .i2l, 1, []),
  (139, .ladd, 1, []),
  (140, .lstore_n 3, 1, []),
  (141, .iinc 5 1, 3, []),
  (144, .goto (-46), 3, []),
  (147, .lload_n 3, 1, []),
  (148, .aload_n 0, 1, []),
  (149, .getfield 33, 3, [159, 1, 10]),
  (152, .aload_n 0, 1, []),
  (153, .getfield 60, 3, [161, 1, 11]),
  (156, .invokestatic 139, 3, [3, 32, 3, 913, 914, 57, 915]),
  (159, .lreturn, 1, [])]
def c_32 : List (Nat × Instr × Nat × List Int) := [
  (0, .lload_n 0, 1, []),
  (1, .lstore 4, 2, []),
  (3, .iconst 0, 1, []),
  (4, .istore 6, 2, []),
  (6, .iload 6, 2, []),
  (8, .iload_n 3, 1, []),
  (9, .if_icmp .ge 25, 3, []),
  (12, .ldc2_w 143, 3, [916, 31]),
  (15, .lload 4, 2, []),
  (17, .lmul, 1, []),
  (18, .aload_n 2, 1, []),
  (19, .iload 6, 2, []),
  (21, .invokestatic 82, 3, [4, 127, 2, 348, 349, 50, 350]),
  (24, .i2l, 1, []),
  (25, .ladd, 1, []),
  (26, .lstore 4, 2, []),
  (28, .iinc 6 1, 3, []),
  (31, .goto (-25), 3, []),
  (34, .lload 4, 2, []),
  (36, .lreturn, 1, [])]
def c_33 : List (Nat × Instr × Nat × List Int) := [
  (0, .aload_n 0, 1, []),
  (1, .invokespecial 1, 3, [1, 53, 0, 90, 81, 51, 82]),
  (4, .return_, 1, [])]
def c_34 : List (Nat × Instr × Nat × List Int) := [
  (0, .iconst 0, 1, []),
  (1, .aload_n 0, 1, []),
  (2, .iload_n 1, 1, []),
  (3, .iload_n 2, 1, []),
  (4, .iload_n 3, 1, []),
  (5, .invokespecial 7, 3, [2, 54, 3, 608, 604, 91, 602, 51, 623]),
  (8, .iconst 2, 1, []),
  (9, .isub, 1, []),
  (10, .invokestatic 11, 3, [9, 609, 599, 58, 600]),
  (13, .ireturn, 1, [])]
def c_35 : List (Nat × Instr × Nat × List Int) := [
  (0, .aload_n 0, 1, []),
  (1, .invokespecial 1, 3, [1, 53, 0, 111, 81, 51, 82]),
  (4, .return_, 1, [])]
def c_36 : List (Nat × Instr × Nat × List Int) := [
  (0, .aload_n 0, 1, []),
  (1, .iload_n 1, 1, []),
  (2, .iload_n 2, 1, []),
  (3, .iload_n 3, 1, []),
  (4, .invokespecial 7, 3, [2, 54, 3, 613, 604, 112, 602, 51, 623]),
  (7, .iconst 2, 1, []),
  (8, .idiv, 1, []),
  (9, .ireturn, 1, [])]
def c_37 : List (Nat × Instr × Nat × List Int) := [
  (0, .aload_n 0, 1, []),
  (1, .iload_n 1, 1, []),
  (2, .invokespecial 11, 3, [2, 55, 1, 636, 631, 112, 629, 51, 647]),
  (5, .iconst 1, 1, []),
  (6, .iadd, 1, []),
  (7, .iconst 2, 1, []),
  (8, .idiv, 1, []),
  (9, .ireturn, 1, [])]
def c_38 : List (Nat × Instr × Nat × List Int) := [
  (0, .aload_n 0, 1, []),
  (1, .invokespecial 3, 3, [0, 219, 75, 76]),
  (4, .aload_n 0, 1, []),
  (5, .bipush 6, 2, []),
  (7, .newarray .int, 2, [212, 0]),
  (9, .putfield 9, 3, [220, 4, 0]),
  (12, .aload_n 0, 1, []),
  (13, .bipush 6, 2, []),
  (15, .newarray .int, 2, [212, 0]),
  (17, .putfield 15, 3, [224, 4, 2]),
  (20, .aload_n 0, 1, []),
  (21, .bipush 13, 2, []),
  (23, .newarray .long, 2, [239, 1]),
  (25, .putfield 18, 3, [226, 4, 4]),
  (28, .return_, 1, [])]
def c_39 : List (Nat × Instr × Nat × List Int) := [
  (0, .aload_n 0, 1, []),
  (1, .iload_n 3, 1, []),
  (2, .invokevirtual 22, 3, [6, 24, 1, 685, 663, 664, 57, 665, 1]),
  (5, .istore 4, 2, []),
  (7, .ldc2_w 28, 3, [688, 100000000000000]),
  (10, .lstore 5, 2, []),
  (12, .iload_n 1, 1, []),
  (13, .istore 7, 2, []),
  (15, .iload 7, 2, []),
  (17, .aload_n 0, 1, []),
  (18, .getfield 30, 3, [149, 1, 6]),
  (21, .if_icmp .ge 36, 3, []),
  (24, .lload 5, 2, []),
  (26, .ldc2_w 34, 3, [689, 100]),
  (29, .ldiv, 1, []),
  (30, .bipush 100, 2, []),
  (32, .aload_n 0, 1, []),
  (33, .iload 7, 2, []),
  (35, .iload_n 2, 1, []),
  (36, .aload_n 0, 1, []),
  (37, .invokevirtual 36, 3, [6, 25, 0, 686, 587, 588, 57, 589, 1]),
  (40, .invokevirtual 40, 3, [6, 27, 3, 687, 591, 592, 57, 593, 1]),
  (43, .iload 4, 2, []),
  (45, .imul, 1, []),
  (46, .isub, 1, []),
  (47, .i2l, 1, []),
  (48, .lmul, 1, []),
  (49, .lstore 5, 2, []),
  (51, .iinc 7 1, 3, []),
  (54, .goto (-39), 3, []),
  (57, .lload 5, 2, []),
  (59, .lreturn, 1, [])]
def c_40 : List (Nat × Instr × Nat × List Int) := [
  (0, .aload_n 0, 1, []),
  (1, .aload_n 0, 1, []),
  (2, .getfield 44, 3, [170, 1, 14]),
  (5, .iload_n 1, 1, []),
  (6, .iadd, 1, []),
  (7, .aload_n 0, 1, []),
  (8, .getfield 47, 3, [168, 1, 13]),
  (11, .aload_n 0, 1, []),
  (12, .getfield 50, 3, [164, 1, 12]),
  (15, .invokestatic 53, 3, [3, 39, 4, 704, 705, 60, 706]),
  (18, .lreturn, 1, [])]
def c_41 : List (Nat × Instr × Nat × List Int) := [
  (0, .iconst 0, 1, []),
  (1, .iload_n 1, 1, []),
  (2, .aload_n 0, 1, []),
  (3, .getfield 50, 3, [164, 1, 12]),
  (6, .isub, 1, []),
  (7, .invokestatic 57, 3, [9, 676, 599, 58, 600]),
  (10, .istore_n 2, 1, []),
  (11, .iconst 0, 1, []),
  (12, .iload_n 2, 1, []),
  (13, .aload_n 0, 1, []),
  (14, .invokevirtual 63, 3, [6, 23, 0, 674, 561, 562, 57, 563, 1]),
  (17, .invokestatic 66, 3, [10, 675, 136, 58, 137]),
  (20, .invokestatic 57, 3, [9, 676, 599, 58, 600]),
  (23, .istore_n 3, 1, []),
  (24, .ldc2_w 28, 3, [688, 100000000000000]),
  (27, .aload_n 0, 1, []),
  (28, .aload_n 0, 1, []),
  (29, .getfield 44, 3, [170, 1, 14]),
  (32, .aload_n 0, 1, []),
  (33, .getfield 47, 3, [168, 1, 13]),
  (36, .iload_n 3, 1, []),
  (37, .iadd, 1, []),
  (38, .aload_n 0, 1, []),
  (39, .getfield 50, 3, [164, 1, 12]),
  (42, .iload_n 3, 1, []),
  (43, .iadd, 1, []),
  (44, .invokestatic 53, 3, [3, 39, 4, 704, 705, 60, 706]),
  (47, .lsub, 1, []),
  (48, .lreturn, 1, [])]
def c_42 : List (Nat × Instr × Nat × List Int) := [
  (0, .iconst 0, 1, []),
  (1, .istore_n 1, 1, []),
  (2, .ldc2_w 69, 3, [714, -1]),
  (5, .lstore_n 2, 1, []),
  (6, .iconst 0, 1, []),
  (7, .istore 4, 2, []),
  (9, .iload 4, 2, []),
  (11, .iconst 5, 1, []),
  (12, .if_icmp .gt 30, 3, []),
  (15, .aload_n 0, 1, []),
  (16, .iload 4, 2, []),
  (18, .invokestatic 71, 3, [3, 41, 2, 715, 702, 60, 703]),
  (21, .lstore 5, 2, []),
  (23, .lload 5, 2, []),
  (25, .lload_n 2, 1, []),
  (26, .lcmp, 1, []),
  (27, .ifCond .le 9, 3, []),
  (30, .lload 5, 2, []),
  (32, .lstore_n 2, 1, []),
  (33, .iload 4, 2, []),
  (35, .istore_n 1, 1, []),
  (36, .iinc 4 1, 3, []),
  (39, .goto (-30), 3, []),
  (42, .iload_n 1, 1, []),
  (43, .ireturn, 1, [])]
def c_43 : List (Nat × Instr × Nat × List Int) := [
  (0, .iconst 0, 1, []),
  (1, .aload_n 1, 1, []),
  (2, .invokevirtual 63, 3, [6, 23, 0, 674, 561, 562, 57, 563, 1]),
  (5, .aload_n 0, 1, []),
  (6, .getfield 18, 3, [226, 4, 4]),
  (9, .arraylength, 1, []),
  (10, .iconst 1, 1, []),
  (11, .isub, 1, []),
  (12, .invokestatic 66, 3, [10, 675, 136, 58, 137]),
  (15, .invokestatic 57, 3, [9, 676, 599, 58, 600]),
  (18, .istore_n 2, 1, []),
  (19, .iconst 0, 1, []),
  (20, .istore_n 3, 1, []),
  (21, .iload_n 3, 1, []),
  (22, .iload_n 2, 1, []),
  (23, .if_icmp .gt 15, 3, []),
  (26, .aload_n 0, 1, []),
  (27, .iload_n 3, 1, []),
  (28, .lconst 0, 1, []),
  (29, .invokevirtual 75, 3, [6, 46, 2, 677, 679, 11, 60, 680, 4]),
  (32, .iinc 3 1, 3, []),
  (35, .goto (-14), 3, []),
  (38, .aload_n 0, 1, []),
  (39, .iconst 0, 1, []),
  (40, .putfield 79, 3, [222, 4, 1]),
  (43, .aload_n 1, 1, []),
  (44, .getfield 30, 3, [149, 1, 6]),
  (47, .iconst 1, 1, []),
  (48, .isub, 1, []),
  (49, .istore_n 3, 1, []),
  (50, .iload_n 3, 1, []),
  (51, .aload_n 1, 1, []),
  (52, .getfield 44, 3, [170, 1, 14]),
  (55, .if_icmp .lt 42, 3, []),
  (58, .iload_n 2, 1, []),
  (59, .istore 4, 2, []),
  (61, .iload 4, 2, []),
  (63, .ifCond .lt 28, 3, []),
  (66, .aload_n 0, 1, []),
  (67, .aload_n 1, 1, []),
  (68, .iload_n 3, 1, []),
  (69, .iload 4, 2, []),
  (71, .iload 4, 2, []),
  (73, .iload_n 2, 1, []),
  (74, .if_icmp .ge 7, 3, []),
  (77, .iconst 1, 1, []),
  (78, .goto 4, 3, []),
  (81, .iconst 0, 1, []),
  (82, .invokevirtual 82, 3, [6, 44, 4, 681, 683, 12, 60, 684, 4]),
  (85, .iinc 4 (-1), 3, []),
  (88, .goto (-27), 3, []),
  (91, .iinc 3 (-1), 3, []),
  (94, .goto (-44), 3, []),
  (97, .aload_n 0, 1, []),
  (98, .iconst 0, 1, []),
  (99, .invokevirtual 86, 3, [6, 45, 1, 690, 692, 13, 60, 693, 4]),
  (102, .lreturn, 1, [])]
def c_44 : List (Nat × Instr × Nat × List Int) := [
  (0, .aload_n 1, 1, []),
  (1, .iconst 5, 1, []),
  (2, .aload_n 1, 1, []),
  (3, .getfield 50, 3, [164, 1, 12]),
  (6, .iload_n 3, 1, []),
  (7, .iadd, 1, []),
  (8, .invokestatic 66, 3, [10, 675, 136, 58, 137]),
  (11, .invokevirtual 22, 3, [6, 24, 1, 685, 663, 664, 57, 665, 1]),
  (14, .istore 5, 2, []),
  (16, .aload_n 1, 1, []),
  (17, .iload_n 2, 1, []),
  (18, .aload_n 1, 1, []),
  (19, .getfield 47, 3, [168, 1, 13]),
  (22, .iload_n 3, 1, []),
  (23, .iadd, 1, []),
  (24, .aload_n 1, 1, []),
  (25, .invokevirtual 36, 3, [6, 25, 0, 686, 587, 588, 57, 589, 1]),
  (28, .invokevirtual 40, 3, [6, 27, 3, 687, 591, 592, 57, 593, 1]),
  (31, .iload 5, 2, []),
  (33, .imul, 1, []),
  (34, .i2l, 1, []),
  (35, .lstore 6, 2, []),
  (37, .lload 6, 2, []),
  (39, .ldc2_w 28, 3, [688, 100000000000000]),
  (42, .lmul, 1, []),
  (43, .ldc2_w 34, 3, [689, 100]),
  (46, .lload 6, 2, []),
  (48, .lsub, 1, []),
  (49, .aload_n 0, 1, []),
  (50, .iload_n 3, 1, []),
  (51, .invokevirtual 86, 3, [6, 45, 1, 690, 692, 13, 60, 693, 4]),
  (54, .lmul, 1, []),
  (55, .ladd, 1, []),
  (56, .ldc2_w 34, 3, [689, 100]),
  (59, .ldiv, 1, []),
  (60, .lstore 8, 2, []),
  (62, .iload 4, 2, []),
  (64, .ifCond .eq 13, 3, []),
  (67, .aload_n 0, 1, []),
  (68, .iload_n 3, 1, []),
  (69, .iconst 1, 1, []),
  (70, .iadd, 1, []),
  (71, .invokevirtual 86, 3, [6, 45, 1, 690, 692, 13, 60, 693, 4]),
  (74, .goto 4, 3, []),
  (77, .lconst 0, 1, []),
  (78, .lstore 10, 2, []),
  (80, .aload_n 0, 1, []),
  (81, .lload 10, 2, []),
  (83, .lload 8, 2, []),
  (85, .lcmp, 1, []),
  (86, .ifCond .le 7, 3, []),
  (89, .iconst 2, 1, []),
  (90, .goto 4, 3, []),
  (93, .iconst 1, 1, []),
  (94, .putfield 79, 3, [222, 4, 1]),
  (97, .aload_n 0, 1, []),
  (98, .iload_n 3, 1, []),
  (99, .lload 8, 2, []),
  (101, .lload 10, 2, []),
  (103, .invokestatic 90, 3, [11, 694, 695, 58, 696]),
  (106, .invokevirtual 75, 3, [6, 46, 2, 677, 679, 11, 60, 680, 4]),
  (109, .return_, 1, [])]
def c_45 : List (Nat × Instr × Nat × List Int) := [
  (0, .iload_n 1, 1, []),
  (1, .ifCond .lt 21, 3, []),
  (4, .iload_n 1, 1, []),
  (5, .aload_n 0, 1, []),
  (6, .getfield 18, 3, [226, 4, 4]),
  (9, .arraylength, 1, []),
  (10, .if_icmp .ge 12, 3, []),
  (13, .aload_n 0, 1, []),
  (14, .getfield 18, 3, [226, 4, 4]),
  (17, .iload_n 1, 1, []),
  (18, .laload, 1, []),
  (19, .goto 4, 3, []),
  (22, .lconst 0, 1, []),
  (23, .lreturn, 1, [])]
def c_46 : List (Nat × Instr × Nat × List Int) := [
  (0, .iload_n 1, 1, []),
  (1, .ifCond .lt 19, 3, []),
  (4, .iload_n 1, 1, []),
  (5, .aload_n 0, 1, []),
  (6, .getfield 18, 3, [226, 4, 4]),
  (9, .arraylength, 1, []),
  (10, .if_icmp .ge 10, 3, []),
  (13, .aload_n 0, 1, []),
  (14, .getfield 18, 3, [226, 4, 4]),
  (17, .iload_n 1, 1, []),
  (18, .lload_n 2, 1, []),
  (19, .lastore, 1, []),
  (20, .return_, 1, [])]
def c_47 : List (Nat × Instr × Nat × List Int) := [
  (0, .aload_n 0, 1, []),
  (1, .aload_n 0, 1, []),
  (2, .getfield 50, 3, [164, 1, 12]),
  (5, .invokevirtual 22, 3, [6, 24, 1, 685, 663, 664, 57, 665, 1]),
  (8, .istore_n 1, 1, []),
  (9, .aload_n 0, 1, []),
  (10, .aload_n 0, 1, []),
  (11, .getfield 44, 3, [170, 1, 14]),
  (14, .invokevirtual 93, 3, [6, 26, 1, 724, 583, 584, 57, 585, 1]),
  (17, .istore_n 2, 1, []),
  (18, .aload_n 0, 1, []),
  (19, .iconst 1, 1, []),
  (20, .invokestatic 96, 3, [3, 40, 2, 725, 726, 60, 727]),
  (23, .lstore_n 3, 1, []),
  (24, .lload_n 3, 1, []),
  (25, .ldc2_w 34, 3, [689, 100]),
  (28, .ldiv, 1, []),
  (29, .bipush 100, 2, []),
  (31, .iload_n 2, 1, []),
  (32, .iload_n 1, 1, []),
  (33, .imul, 1, []),
  (34, .isub, 1, []),
  (35, .i2l, 1, []),
  (36, .lmul, 1, []),
  (37, .lstore 5, 2, []),
  (39, .bipush 100, 2, []),
  (41, .iload_n 2, 1, []),
  (42, .iconst 2, 1, []),
  (43, .idiv, 1, []),
  (44, .iload_n 1, 1, []),
  (45, .imul, 1, []),
  (46, .isub, 1, []),
  (47, .istore 7, 2, []),
  (49, .lload_n 3, 1, []),
  (50, .ldc2_w 34, 3, [689, 100]),
  (53, .ldiv, 1, []),
  (54, .iload 7, 2, []),
  (56, .i2l, 1, []),
  (57, .lmul, 1, []),
  (58, .ldc2_w 34, 3, [689, 100]),
  (61, .ldiv, 1, []),
  (62, .iload 7, 2, []),
  (64, .i2l, 1, []),
  (65, .lmul, 1, []),
  (66, .lstore 8, 2, []),
  (68, .lload 5, 2, []),
  (70, .lload 8, 2, []),
  (72, .invokestatic 99, 3, [4, 126, 2, 728, 729, 50, 730]),
  (75, .ireturn, 1, [])]
def c_48 : List (Nat × Instr × Nat × List Int) := [
  (0, .bipush 10, 2, []),
  (2, .aload_n 0, 1, []),
  (3, .aload_n 0, 1, []),
  (4, .getfield 44, 3, [170, 1, 14]),
  (7, .invokevirtual 93, 3, [6, 26, 1, 724, 583, 584, 57, 585, 1]),
  (10, .isub, 1, []),
  (11, .bipush 10, 2, []),
  (13, .aload_n 0, 1, []),
  (14, .aload_n 0, 1, []),
  (15, .getfield 44, 3, [170, 1, 14]),
  (18, .iconst 1, 1, []),
  (19, .iadd, 1, []),
  (20, .invokevirtual 93, 3, [6, 26, 1, 724, 583, 584, 57, 585, 1]),
  (23, .isub, 1, []),
  (24, .imul, 1, []),
  (25, .istore_n 1, 1, []),
  (26, .sipush 1000, 3, []),
  (29, .bipush 100, 2, []),
  (31, .iload_n 1, 1, []),
  (32, .isub, 1, []),
  (33, .aload_n 0, 1, []),
  (34, .aload_n 0, 1, []),
  (35, .getfield 50, 3, [164, 1, 12]),
  (38, .invokevirtual 22, 3, [6, 24, 1, 685, 663, 664, 57, 665, 1]),
  (41, .imul, 1, []),
  (42, .isub, 1, []),
  (43, .istore_n 2, 1, []),
  (44, .aload_n 0, 1, []),
  (45, .iconst 2, 1, []),
  (46, .invokestatic 96, 3, [3, 40, 2, 725, 726, 60, 727]),
  (49, .ldc2_w 103, 3, [738, 1000]),
  (52, .ldiv, 1, []),
  (53, .iload_n 2, 1, []),
  (54, .i2l, 1, []),
  (55, .lmul, 1, []),
  (56, .lstore_n 3, 1, []),
  (57, .aload_n 0, 1, []),
  (58, .iconst 0, 1, []),
  (59, .invokestatic 96, 3, [3, 40, 2, 725, 726, 60, 727]),
  (62, .lload_n 3, 1, []),
  (63, .invokestatic 99, 3, [4, 126, 2, 728, 729, 50, 730]),
  (66, .ireturn, 1, [])]
def c_49 : List (Nat × Instr × Nat × List Int) := [
  (0, .bipush 10, 2, []),
  (2, .aload_n 0, 1, []),
  (3, .aload_n 0, 1, []),
  (4, .getfield 50, 3, [164, 1, 12]),
  (7, .invokevirtual 22, 3, [6, 24, 1, 685, 663, 664, 57, 665, 1]),
  (10, .isub, 1, []),
  (11, .istore_n 2, 1, []),
  (12, .ldc2_w 28, 3, [688, 100000000000000]),
  (15, .lstore_n 3, 1, []),
  (16, .iconst 0, 1, []),
  (17, .istore 5, 2, []),
  (19, .iload 5, 2, []),
  (21, .iload_n 1, 1, []),
  (22, .if_icmp .ge 18, 3, []),
  (25, .lload_n 3, 1, []),
  (26, .ldc2_w 105, 3, [746, 10]),
  (29, .ldiv, 1, []),
  (30, .iload_n 2, 1, []),
  (31, .i2l, 1, []),
  (32, .lmul, 1, []),
  (33, .lstore_n 3, 1, []),
  (34, .iinc 5 1, 3, []),
  (37, .goto (-18), 3, []),
  (40, .aload_n 0, 1, []),
  (41, .aload_n 0, 1, []),
  (42, .getfield 44, 3, [170, 1, 14]),
  (45, .invokevirtual 93, 3, [6, 26, 1, 724, 583, 584, 57, 585, 1]),
  (48, .istore 5, 2, []),
  (50, .iload 5, 2, []),
  (52, .i2l, 1, []),
  (53, .ldc2_w 28, 3, [688, 100000000000000]),
  (56, .lload_n 3, 1, []),
  (57, .lsub, 1, []),
  (58, .lmul, 1, []),
  (59, .bipush 10, 2, []),
  (61, .iload 5, 2, []),
  (63, .isub, 1, []),
  (64, .i2l, 1, []),
  (65, .ldc2_w 28, 3, [688, 100000000000000]),
  (68, .aload_n 0, 1, []),
  (69, .iconst 1, 1, []),
  (70, .invokestatic 96, 3, [3, 40, 2, 725, 726, 60, 727]),
  (73, .lsub, 1, []),
  (74, .lmul, 1, []),
  (75, .ladd, 1, []),
  (76, .ldc2_w 105, 3, [746, 10]),
  (79, .ldiv, 1, []),
  (80, .lreturn, 1, [])]
def c_50 : List (Nat × Instr × Nat × List Int) := [
  (0, .ldc2_w 107, 3, [754, 10000000000000]),
  (3, .iload_n 1, 1, []),
  (4, .i2l, 1, []),
  (5, .lmul, 1, []),
  (6, .lstore_n 3, 1, []),
  (7, .iconst 0, 1, []),
  (8, .istore 5, 2, []),
  (10, .iload 5, 2, []),
  (12, .iload_n 0, 1, []),
  (13, .if_icmp .ge 18, 3, []),
  (16, .lload_n 3, 1, []),
  (17, .ldc2_w 105, 3, [746, 10]),
  (20, .ldiv, 1, []),
  (21, .iload_n 2, 1, []),
  (22, .i2l, 1, []),
  (23, .lmul, 1, []),
  (24, .lstore_n 3, 1, []),
  (25, .iinc 5 1, 3, []),
  (28, .goto (-18), 3, []),
  (31, .lload_n 3, 1, []),
  (32, .lreturn, 1, [])]
def c_51 : List (Nat × Instr × Nat × List Int) := [
  (0, .aload_n 0, 1, []),
  (1, .ldc2_w 109, 3, [768, 100000000000001]),
  (4, .putfield 111, 3, [225, 4, 3]),
  (7, .aload_n 0, 1, []),
  (8, .aload_n 1, 1, []),
  (9, .iconst 0, 1, []),
  (10, .iconst 0, 1, []),
  (11, .ldc2_w 28, 3, [688, 100000000000000]),
  (14, .invokevirtual 115, 3, [6, 52, 4, 769, 771, 15, 60, 772, 4]),
  (17, .ldc2_w 28, 3, [688, 100000000000000]),
  (20, .aload_n 0, 1, []),
  (21, .getfield 111, 3, [225, 4, 3]),
  (24, .lsub, 1, []),
  (25, .lreturn, 1, [])]
def c_52 : List (Nat × Instr × Nat × List Int) := [
  (0, .iload_n 2, 1, []),
  (1, .aload_n 1, 1, []),
  (2, .invokevirtual 119, 3, [6, 22, 0, 773, 544, 545, 57, 546, 1]),
  (5, .if_icmp .lt 31, 3, []),
  (8, .lload 4, 2, []),
  (10, .aload_n 0, 1, []),
  (11, .getfield 111, 3, [225, 4, 3]),
  (14, .lcmp, 1, []),
  (15, .ifCond .ge 20, 3, []),
  (18, .aload_n 0, 1, []),
  (19, .lload 4, 2, []),
  (21, .putfield 111, 3, [225, 4, 3]),
  (24, .aload_n 0, 1, []),
  (25, .getfield 15, 3, [224, 4, 2]),
  (28, .aload_n 0, 1, []),
  (29, .getfield 9, 3, [220, 4, 0]),
  (32, .invokestatic 122, 3, [4, 129, 2, 774, 133, 50, 134]),
  (35, .return_, 1, []),
  (36, .aload_n 1, 1, []),
  (37, .aload_n 1, 1, []),
  (38, .getfield 50, 3, [164, 1, 12]),
  (41, .invokevirtual 22, 3, [6, 24, 1, 685, 663, 664, 57, 665, 1]),
  (44, .istore 6, 2, []),
  (46, .aload_n 1, 1, []),
  (47, .getfield 44, 3, [170, 1, 14]),
  (50, .istore 7, 2, []),
  (52, .iload 7, 2, []),
  (54, .aload_n 1, 1, []),
  (55, .getfield 30, 3, [149, 1, 6]),
  (58, .if_icmp .ge 76, 3, []),
  (61, .iload_n 3, 1, []),
  (62, .iload 7, 2, []),
  (64, .invokestatic 126, 3, [4, 130, 2, 775, 776, 50, 777]),
  (67, .ifCond .ne 61, 3, []),
  (70, .aload_n 0, 1, []),
  (71, .getfield 15, 3, [224, 4, 2]),
  (74, .iload_n 2, 1, []),
  (75, .iload 7, 2, []),
  (77, .invokestatic 130, 3, [4, 128, 3, 778, 372, 50, 373]),
  (80, .bipush 100, 2, []),
  (82, .aload_n 1, 1, []),
  (83, .iload 7, 2, []),
  (85, .aload_n 1, 1, []),
  (86, .getfield 47, 3, [168, 1, 13]),
  (89, .iload_n 2, 1, []),
  (90, .iadd, 1, []),
  (91, .aload_n 1, 1, []),
  (92, .invokevirtual 36, 3, [6, 25, 0, 686, 587, 588, 57, 589, 1]),
  (95, .invokevirtual 40, 3, [6, 27, 3, 687, 591, 592, 57, 593, 1]),
  (98, .iload 6, 2, []),
  (100, .imul, 1, []),
  (101, .isub, 1, []),
  (102, .istore 8, 2, []),
  (104, .aload_n 0, 1, []),
  (105, .aload_n 1, 1, []),
  (106, .iload_n 2, 1, []),
  (107, .iconst 1, 1, []),
  (108, .iadd, 1, []),
  (109, .iload_n 3, 1, []),
  (110, .iconst 1, 1, []),
  (111, .iload 7, 2, []),
  (113, .ishl, 1, []),
  (114, .ior, 1, []),
  (115, .lload 4, 2, []),
  (117, .ldc2_w 34, 3, [689, 100]),
  (120, .ldiv, 1, []),
  (121, .iload 8, 2, []),
  (123, .i2l, 1, []),
  (124, .lmul, 1, []),
  (125, .invokevirtual 115, 3, [6, 52, 4, 769, 771, 15, 60, 772, 4]),
  (128, .iinc 7 1, 3, []),
  (131, .goto (-79), 3, []),
  (134, .return_, 1, [])]
def c_53 : List (Nat × Instr × Nat × List Int) := [
  (0, .aload_n 0, 1, []),
  (1, .invokespecial 1, 3, [0, 83, 75, 76]),
  (4, .return_, 1, [])]
def c_54 : List (Nat × Instr × Nat × List Int) := [
  (0, .iload_n 1, 1, []),
  (1, .iload_n 2, 1, []),
  (2, .isub, 1, []),
  (3, .iload_n 3, 1, []),
  (4, .isub, 1, []),
  (5, .istore 4, 2, []),
  (7, .iload 4, 2, []),
  (9, .ifCond .le 8, 3, []),
  (12, .iload 4, 2, []),
  (14, .goto 4, 3, []),
  (17, .iconst 0, 1, []),
  (18, .ireturn, 1, [])]
def c_55 : List (Nat × Instr × Nat × List Int) := [
  (0, .iload_n 1, 1, []),
  (1, .ireturn, 1, [])]
def c_56 : List (Nat × Instr × Nat × List Int) := [
  (0, .aload_n 0, 1, []),
  (1, .invokespecial 3, 3, [0, 274, 75, 76]),
  (4, .aload_n 0, 1, []),
  (5, .sipush 150, 3, []),
  (8, .newarray .int, 2, [212, 0]),
  (10, .putfield 9, 3, [277, 6, 1]),
  (13, .aload_n 0, 1, []),
  (14, .iconst 3, 1, []),
  (15, .newarray .int, 2, [212, 0]),
  (17, .putfield 15, 3, [278, 6, 2]),
  (20, .return_, 1, [])]
def c_57 : List (Nat × Instr × Nat × List Int) := [
  (0, .iload_n 1, 1, []),
  (1, .ifCond .lt 9, 3, []),
  (4, .iload_n 1, 1, []),
  (5, .bipush 127, 2, []),
  (7, .if_icmp .le 6, 3, []),
  (10, .bipush (-2), 2, []),
  (12, .ireturn, 1, []),
  (13, .aload_n 0, 1, []),
  (14, .getfield 18, 3, [275, 6, 0]),
  (17, .sipush 150, 3, []),
  (20, .if_icmp .lt 6, 3, []),
  (23, .bipush (-4), 2, []),
  (25, .ireturn, 1, []),
  (26, .aload_n 0, 1, []),
  (27, .getfield 9, 3, [277, 6, 1]),
  (30, .aload_n 0, 1, []),
  (31, .getfield 18, 3, [275, 6, 0]),
  (34, .iload_n 1, 1, []),
  (35, .invokestatic 22, 3, [4, 128, 3, 410, 372, 50, 373]),
  (38, .aload_n 0, 1, []),
  (39, .dup, 1, []),
  (40, .getfield 18, 3, [275, 6, 0]),
  (43, .iconst 1, 1, []),
  (44, .iadd, 1, []),
  (45, .dup_x1, 1, []),
  (46, .putfield 18, 3, [275, 6, 0]),
  (49, .ireturn, 1, [])]
def c_58 : List (Nat × Instr × Nat × List Int) := [
  (0, .aload_n 0, 1, []),
  (1, .getfield 18, 3, [275, 6, 0]),
  (4, .istore_n 1, 1, []),
  (5, .aload_n 0, 1, []),
  (6, .iconst 0, 1, []),
  (7, .putfield 18, 3, [275, 6, 0]),
  (10, .iload_n 1, 1, []),
  (11, .ireturn, 1, [])]
def c_59 : List (Nat × Instr × Nat × List Int) := [
  (0, .aload_n 0, 1, []),
  (1, .iconst 0, 1, []),
  (2, .putfield 26, 3, [279, 6, 3]),
  (5, .iconst 0, 1, []),
  (6, .istore_n 2, 1, []),
  (7, .iconst (-1), 1, []),
  (8, .istore_n 3, 1, []),
  (9, .aload_n 0, 1, []),
  (10, .invokevirtual 29, 3, [6, 62, 0, 428, 430, 1, 63, 431, 6]),
  (13, .iconst 0, 1, []),
  (14, .istore 4, 2, []),
  (16, .iload 4, 2, []),
  (18, .sipush 150, 3, []),
  (21, .if_icmp .ge 96, 3, []),
  (24, .aload_n 0, 1, []),
  (25, .getfield 32, 3, [280, 6, 4]),
  (28, .iconst 4, 1, []),
  (29, .if_icmp .eq 88, 3, []),
  (32, .aload_n 0, 1, []),
  (33, .getfield 32, 3, [280, 6, 4]),
  (36, .iconst 1, 1, []),
  (37, .if_icmp .ne 10, 3, []),
  (40, .aload_n 0, 1, []),
  (41, .invokevirtual 35, 3, [6, 65, 0, 447, 449, 4, 63, 450, 6]),
  (44, .goto 4, 3, []),
  (47, .iconst (-1), 1, []),
  (48, .istore 5, 2, []),
  (50, .iload 5, 2, []),
  (52, .iconst (-1), 1, []),
  (53, .if_icmp .eq 26, 3, []),
  (56, .aload_n 0, 1, []),
  (57, .getstatic 39, 3, [515, 2, 0]),
  (60, .iload 5, 2, []),
  (62, .invokestatic 42, 3, [4, 127, 2, 432, 349, 50, 350]),
  (65, .invokevirtual 46, 3, [6, 60, 1, 517, 519, 6, 63, 520, 6]),
  (68, .ifCond .eq 11, 3, []),
  (71, .aload_n 0, 1, []),
  (72, .getfield 32, 3, [280, 6, 4]),
  (75, .iconst 3, 1, []),
  (76, .if_icmp .eq 11, 3, []),
  (79, .bipush (-10), 2, []),
  (81, .aload_n 0, 1, []),
  (82, .getfield 50, 3, [281, 6, 5]),
  (85, .isub, 1, []),
  (86, .ireturn, 1, []),
  (87, .iload_n 3, 1, []),
  (88, .iconst (-1), 1, []),
  (89, .if_icmp .ne 15, 3, []),
  (92, .aload_n 0, 1, []),
  (93, .aload_n 1, 1, []),
  (94, .iload 5, 2, []),
  (96, .invokevirtual 53, 3, [6, 61, 2, 521, 523, 7, 63, 524, 6]),
  (99, .ifCond .ge 5, 3, []),
  (102, .iload_n 2, 1, []),
  (103, .istore_n 3, 1, []),
  (104, .iinc 2 1, 3, []),
  (107, .aload_n 0, 1, []),
  (108, .invokevirtual 29, 3, [6, 62, 0, 428, 430, 1, 63, 431, 6]),
  (111, .iinc 4 1, 3, []),
  (114, .goto (-98), 3, []),
  (117, .iload_n 3, 1, []),
  (118, .iconst (-1), 1, []),
  (119, .if_icmp .ne 7, 3, []),
  (122, .iload_n 2, 1, []),
  (123, .goto 8, 3, []),
  (126, .sipush (-1000), 3, []),
  (129, .iload_n 3, 1, []),
  (130, .isub, 1, []),
  (131, .ireturn, 1, [])]
def c_60 : List (Nat × Instr × Nat × List Int) := [
  (0, .aload_n 0, 1, []),
  (1, .invokevirtual 29, 3, [6, 62, 0, 428, 430, 1, 63, 431, 6]),
  (4, .iconst 0, 1, []),
  (5, .istore_n 2, 1, []),
  (6, .iload_n 2, 1, []),
  (7, .iload_n 1, 1, []),
  (8, .if_icmp .ge 35, 3, []),
  (11, .aload_n 0, 1, []),
  (12, .getfield 32, 3, [280, 6, 4]),
  (15, .iconst 2, 1, []),
  (16, .if_icmp .eq 5, 3, []),
  (19, .iconst 0, 1, []),
  (20, .ireturn, 1, []),
  (21, .aload_n 0, 1, []),
  (22, .getfield 15, 3, [278, 6, 2]),
  (25, .iload_n 2, 1, []),
  (26, .aload_n 0, 1, []),
  (27, .getfield 57, 3, [282, 6, 6]),
  (30, .invokestatic 22, 3, [4, 128, 3, 410, 372, 50, 373]),
  (33, .aload_n 0, 1, []),
  (34, .invokevirtual 29, 3, [6, 62, 0, 428, 430, 1, 63, 431, 6]),
  (37, .iinc 2 1, 3, []),
  (40, .goto (-34), 3, []),
  (43, .iconst 1, 1, []),
  (44, .ireturn, 1, [])]
def c_61 : List (Nat × Instr × Nat × List Int) := [
  (0, .aload_n 0, 1, []),
  (1, .getfield 15, 3, [278, 6, 2]),
  (4, .iconst 0, 1, []),
  (5, .invokestatic 42, 3, [4, 127, 2, 432, 349, 50, 350]),
  (8, .istore_n 3, 1, []),
  (9, .iload_n 2, 1, []),
  (10, .tableswitch 86 4 7 #[30, 44, 66, 80], 30, []),
  (40, .aload_n 1, 1, []),
  (41, .iload_n 3, 1, []),
  (42, .aload_n 0, 1, []),
  (43, .getfield 15, 3, [278, 6, 2]),
  (46, .iconst 1, 1, []),
  (47, .invokestatic 42, 3, [4, 127, 2, 432, 349, 50, 350]),
  (50, .invokevirtual 60, 3, [6, 11, 2, 525, 360, 361, 57, 362, 1]),
  (53, .ireturn, 1, []),
  (54, .aload_n 1, 1, []),
  (55, .iload_n 3, 1, []),
  (56, .aload_n 0, 1, []),
  (57, .getfield 15, 3, [278, 6, 2]),
  (60, .iconst 1, 1, []),
  (61, .invokestatic 42, 3, [4, 127, 2, 432, 349, 50, 350]),
  (64, .aload_n 0, 1, []),
  (65, .getfield 15, 3, [278, 6, 2]),
  (68, .iconst 2, 1, []),
  (69, .invokestatic 42, 3, [4, 127, 2, 432, 349, 50, 350]),
  (72, .invokevirtual 66, 3, [6, 12, 3, 526, 368, 369, 57, 370, 1]),
  (75, .ireturn, 1, []),
  (76, .aload_n 1, 1, []),
  (77, .iload_n 3, 1, []),
  (78, .aload_n 0, 1, []),
  (79, .getfield 15, 3, [278, 6, 2]),
  (82, .iconst 1, 1, []),
  (83, .invokestatic 42, 3, [4, 127, 2, 432, 349, 50, 350]),
  (86, .invokevirtual 70, 3, [6, 13, 2, 527, 379, 380, 57, 381, 1]),
  (89, .ireturn, 1, []),
  (90, .aload_n 1, 1, []),
  (91, .iload_n 3, 1, []),
  (92, .invokevirtual 73, 3, [6, 14, 1, 528, 391, 392, 57, 393, 1]),
  (95, .ireturn, 1, []),
  (96, .aload_n 1, 1, []),
  (97, .iload_n 2, 1, []),
  (98, .iload_n 3, 1, []),
  (99, .invokevirtual 77, 3, [6, 10, 2, 529, 343, 344, 57, 345, 1]),
  (102, .ireturn, 1, [])]
def c_62 : List (Nat × Instr × Nat × List Int) := [
  (0, .aload_n 0, 1, []),
  (1, .getfield 26, 3, [279, 6, 3]),
  (4, .aload_n 0, 1, []),
  (5, .getfield 18, 3, [275, 6, 0]),
  (8, .if_icmp .ge 32, 3, []),
  (11, .aload_n 0, 1, []),
  (12, .getfield 9, 3, [277, 6, 1]),
  (15, .aload_n 0, 1, []),
  (16, .getfield 26, 3, [279, 6, 3]),
  (19, .invokestatic 42, 3, [4, 127, 2, 432, 349, 50, 350]),
  (22, .bipush 32, 2, []),
  (24, .if_icmp .ne 16, 3, []),
  (27, .aload_n 0, 1, []),
  (28, .dup, 1, []),
  (29, .getfield 26, 3, [279, 6, 3]),
  (32, .iconst 1, 1, []),
  (33, .iadd, 1, []),
  (34, .putfield 26, 3, [279, 6, 3]),
  (37, .goto (-37), 3, []),
  (40, .aload_n 0, 1, []),
  (41, .aload_n 0, 1, []),
  (42, .getfield 26, 3, [279, 6, 3]),
  (45, .putfield 50, 3, [281, 6, 5]),
  (48, .aload_n 0, 1, []),
  (49, .getfield 26, 3, [279, 6, 3]),
  (52, .aload_n 0, 1, []),
  (53, .getfield 18, 3, [275, 6, 0]),
  (56, .if_icmp .lt 11, 3, []),
  (59, .aload_n 0, 1, []),
  (60, .iconst 4, 1, []),
  (61, .putfield 32, 3, [280, 6, 4]),
  (64, .goto 86, 3, []),
  (67, .aload_n 0, 1, []),
  (68, .getfield 9, 3, [277, 6, 1]),
  (71, .aload_n 0, 1, []),
  (72, .getfield 26, 3, [279, 6, 3]),
  (75, .invokestatic 42, 3, [4, 127, 2, 432, 349, 50, 350]),
  (78, .invokestatic 80, 3, [3, 68, 1, 433, 434, 63, 435]),
  (81, .ifCond .eq 10, 3, []),
  (84, .aload_n 0, 1, []),
  (85, .invokevirtual 83, 3, [6, 63, 0, 436, 438, 2, 63, 439, 6]),
  (88, .goto 62, 3, []),
  (91, .aload_n 0, 1, []),
  (92, .getfield 9, 3, [277, 6, 1]),
  (95, .aload_n 0, 1, []),
  (96, .getfield 26, 3, [279, 6, 3]),
  (99, .invokestatic 42, 3, [4, 127, 2, 432, 349, 50, 350]),
  (102, .invokestatic 86, 3, [3, 69, 1, 440, 441, 63, 442]),
  (105, .ifCond .eq 10, 3, []),
  (108, .aload_n 0, 1, []),
  (109, .invokevirtual 89, 3, [6, 64, 0, 443, 445, 3, 63, 446, 6]),
  (112, .goto 38, 3, []),
  (115, .aload_n 0, 1, []),
  (116, .aload_n 0, 1, []),
  (117, .getfield 9, 3, [277, 6, 1]),
  (120, .aload_n 0, 1, []),
  (121, .getfield 26, 3, [279, 6, 3]),
  (124, .invokestatic 42, 3, [4, 127, 2, 432, 349, 50, 350]),
  (127, .bipush 59, 2, []),
  (129, .if_icmp .ne 7, 3, []),
  (132, .iconst 3, 1, []),
  (133, .goto 4, 3, []),
  (136, .iconst 0, 1, []),
  (137, .putfield 32, 3, [280, 6, 4]),
  (140, .aload_n 0, 1, []),
  (141, .dup, 1, []),
  (142, .getfield 26, 3, [279, 6, 3]),
  (145, .iconst 1, 1, []),
  (146, .iadd, 1, []),
  (147, .putfield 26, 3, [279, 6, 3]),
  (150, .return_, 1, [])]
def c_63 : List (Nat × Instr × Nat × List Int) := [
  (0, .aload_n 0, 1, []),
  (1, .iconst 1, 1, []),
  (2, .putfield 32, 3, [280, 6, 4]),
  (5, .aload_n 0, 1, []),
  (6, .getfield 26, 3, [279, 6, 3]),
  (9, .aload_n 0, 1, []),
  (10, .getfield 18, 3, [275, 6, 0]),
  (13, .if_icmp .ge 33, 3, []),
  (16, .aload_n 0, 1, []),
  (17, .getfield 9, 3, [277, 6, 1]),
  (20, .aload_n 0, 1, []),
  (21, .getfield 26, 3, [279, 6, 3]),
  (24, .invokestatic 42, 3, [4, 127, 2, 432, 349, 50, 350]),
  (27, .invokestatic 80, 3, [3, 68, 1, 433, 434, 63, 435]),
  (30, .ifCond .eq 16, 3, []),
  (33, .aload_n 0, 1, []),
  (34, .dup, 1, []),
  (35, .getfield 26, 3, [279, 6, 3]),
  (38, .iconst 1, 1, []),
  (39, .iadd, 1, []),
  (40, .putfield 26, 3, [279, 6, 3]),
  (43, .goto (-38), 3, []),
  (46, .return_, 1, [])]
def c_64 : List (Nat × Instr × Nat × List Int) := [
  (0, .aload_n 0, 1, []),
  (1, .iconst 0, 1, []),
  (2, .putfield 57, 3, [282, 6, 6]),
  (5, .aload_n 0, 1, []),
  (6, .getfield 26, 3, [279, 6, 3]),
  (9, .aload_n 0, 1, []),
  (10, .getfield 18, 3, [275, 6, 0]),
  (13, .if_icmp .ge 72, 3, []),
  (16, .aload_n 0, 1, []),
  (17, .getfield 9, 3, [277, 6, 1]),
  (20, .aload_n 0, 1, []),
  (21, .getfield 26, 3, [279, 6, 3]),
  (24, .invokestatic 42, 3, [4, 127, 2, 432, 349, 50, 350]),
  (27, .invokestatic 86, 3, [3, 69, 1, 440, 441, 63, 442]),
  (30, .ifCond .eq 55, 3, []),
  (33, .aload_n 0, 1, []),
  (34, .getfield 26, 3, [279, 6, 3]),
  (37, .aload_n 0, 1, []),
  (38, .getfield 50, 3, [281, 6, 5]),
  (41, .iconst 3, 1, []),
  (42, .iadd, 1, []),
  (43, .if_icmp .ge 29, 3, []),
  (46, .aload_n 0, 1, []),
  (47, .bipush 10, 2, []),
  (49, .aload_n 0, 1, []),
  (50, .getfield 57, 3, [282, 6, 6]),
  (53, .imul, 1, []),
  (54, .aload_n 0, 1, []),
  (55, .getfield 9, 3, [277, 6, 1]),
  (58, .aload_n 0, 1, []),
  (59, .getfield 26, 3, [279, 6, 3]),
  (62, .invokestatic 42, 3, [4, 127, 2, 432, 349, 50, 350]),
  (65, .iadd, 1, []),
  (66, .bipush 48, 2, []),
  (68, .isub, 1, []),
  (69, .putfield 57, 3, [282, 6, 6]),
  (72, .aload_n 0, 1, []),
  (73, .dup, 1, []),
  (74, .getfield 26, 3, [279, 6, 3]),
  (77, .iconst 1, 1, []),
  (78, .iadd, 1, []),
  (79, .putfield 26, 3, [279, 6, 3]),
  (82, .goto (-77), 3, []),
  (85, .aload_n 0, 1, []),
  (86, .aload_n 0, 1, []),
  (87, .getfield 26, 3, [279, 6, 3]),
  (90, .aload_n 0, 1, []),
  (91, .getfield 50, 3, [281, 6, 5]),
  (94, .iconst 3, 1, []),
  (95, .iadd, 1, []),
  (96, .if_icmp .gt 7, 3, []),
  (99, .iconst 2, 1, []),
  (100, .goto 4, 3, []),
  (103, .iconst 0, 1, []),
  (104, .putfield 32, 3, [280, 6, 4]),
  (107, .return_, 1, [])]
def c_65 : List (Nat × Instr × Nat × List Int) := [
  (0, .iconst 0, 1, []),
  (1, .istore_n 1, 1, []),
  (2, .iload_n 1, 1, []),
  (3, .bipush 8, 2, []),
  (5, .if_icmp .ge 22, 3, []),
  (8, .aload_n 0, 1, []),
  (9, .iload_n 1, 1, []),
  (10, .invokestatic 92, 3, [3, 67, 1, 451, 452, 63, 453]),
  (13, .invokevirtual 96, 3, [6, 66, 1, 463, 465, 5, 63, 466, 6]),
  (16, .ifCond .eq 5, 3, []),
  (19, .iload_n 1, 1, []),
  (20, .ireturn, 1, []),
  (21, .iinc 1 1, 3, []),
  (24, .goto (-22), 3, []),
  (27, .iconst (-1), 1, []),
  (28, .ireturn, 1, [])]
def c_66 : List (Nat × Instr × Nat × List Int) := [
  (0, .aload_n 0, 1, []),
  (1, .getfield 26, 3, [279, 6, 3]),
  (4, .aload_n 0, 1, []),
  (5, .getfield 50, 3, [281, 6, 5]),
  (8, .isub, 1, []),
  (9, .aload_n 1, 1, []),
  (10, .invokevirtual 100, 3, [7, 205, 0, 467, 468, 469, 65, 470]),
  (13, .if_icmp .eq 5, 3, []),
  (16, .iconst 0, 1, []),
  (17, .ireturn, 1, []),
  (18, .iconst 0, 1, []),
  (19, .istore_n 2, 1, []),
  (20, .iload_n 2, 1, []),
  (21, .aload_n 1, 1, []),
  (22, .invokevirtual 100, 3, [7, 205, 0, 467, 468, 469, 65, 470]),
  (25, .if_icmp .ge 32, 3, []),
  (28, .aload_n 0, 1, []),
  (29, .getfield 9, 3, [277, 6, 1]),
  (32, .aload_n 0, 1, []),
  (33, .getfield 50, 3, [281, 6, 5]),
  (36, .iload_n 2, 1, []),
  (37, .iadd, 1, []),
  (38, .invokestatic 42, 3, [4, 127, 2, 432, 349, 50, 350]),
  (41, .aload_n 1, 1, []),
  (42, .iload_n 2, 1, []),
  (43, .invokevirtual 104, 3, [7, 206, 1, 477, 478, 479, 65, 480]),
  (46, .if_icmp .eq 5, 3, []),
  (49, .iconst 0, 1, []),
  (50, .ireturn, 1, []),
  (51, .iinc 2 1, 3, []),
  (54, .goto (-34), 3, []),
  (57, .iconst 1, 1, []),
  (58, .ireturn, 1, [])]
def c_67 : List (Nat × Instr × Nat × List Int) := [
  (0, .iload_n 0, 1, []),
  (1, .tableswitch 71 0 7 #[47, 50, 53, 56, 59, 62, 65, 68], 47, []),
  (48, .ldc 108, 2, [454, 1, 0]),
  (50, .areturn, 1, []),
  (51, .ldc 110, 2, [455, 1, 1]),
  (53, .areturn, 1, []),
  (54, .ldc 112, 2, [456, 1, 2]),
  (56, .areturn, 1, []),
  (57, .ldc 114, 2, [457, 1, 3]),
  (59, .areturn, 1, []),
  (60, .ldc 116, 2, [458, 1, 4]),
  (62, .areturn, 1, []),
  (63, .ldc 118, 2, [459, 1, 5]),
  (65, .areturn, 1, []),
  (66, .ldc 120, 2, [460, 1, 6]),
  (68, .areturn, 1, []),
  (69, .ldc 122, 2, [461, 1, 7]),
  (71, .areturn, 1, []),
  (72, .ldc 124, 2, [462, 1, 8]),
  (74, .areturn, 1, [])]
def c_68 : List (Nat × Instr × Nat × List Int) := [
  (0, .iload_n 0, 1, []),
  (1, .bipush 97, 2, []),
  (3, .if_icmp .lt 13, 3, []),
  (6, .iload_n 0, 1, []),
  (7, .bipush 122, 2, []),
  (9, .if_icmp .gt 7, 3, []),
  (12, .iconst 1, 1, []),
  (13, .goto 4, 3, []),
  (16, .iconst 0, 1, []),
  (17, .ireturn, 1, [])]
def c_69 : List (Nat × Instr × Nat × List Int) := [
  (0, .iload_n 0, 1, []),
  (1, .bipush 48, 2, []),
  (3, .if_icmp .lt 13, 3, []),
  (6, .iload_n 0, 1, []),
  (7, .bipush 57, 2, []),
  (9, .if_icmp .gt 7, 3, []),
  (12, .iconst 1, 1, []),
  (13, .goto 4, 3, []),
  (16, .iconst 0, 1, []),
  (17, .ireturn, 1, [])]
def c_70 : List (Nat × Instr × Nat × List Int) := [
  (0, .aload_n 0, 1, []),
  (1, .invokespecial 1, 3, [1, 35, 0, 118, 109, 55, 110]),
  (4, .return_, 1, [])]
def c_71 : List (Nat × Instr × Nat × List Int) := [
  (0, .aload_n 0, 1, []),
  (1, .iload_n 1, 1, []),
  (2, .iload_n 2, 1, []),
  (3, .iload_n 3, 1, []),
  (4, .invokespecial 7, 3, [2, 36, 3, 617, 1295, 119, 611, 55, 612]),
  (7, .istore 4, 2, []),
  (9, .iload 4, 2, []),
  (11, .ifCond .le 10, 3, []),
  (14, .iload 4, 2, []),
  (16, .iconst 1, 1, []),
  (17, .iadd, 1, []),
  (18, .goto 4, 3, []),
  (21, .iconst 0, 1, []),
  (22, .ireturn, 1, [])]
def c_72 : List (Nat × Instr × Nat × List Int) := [
  (0, .aload_n 0, 1, []),
  (1, .invokespecial 1, 3, [1, 53, 0, 97, 81, 51, 82]),
  (4, .return_, 1, [])]
def c_73 : List (Nat × Instr × Nat × List Int) := [
  (0, .aload_n 0, 1, []),
  (1, .iload_n 1, 1, []),
  (2, .iconst 0, 1, []),
  (3, .iload_n 3, 1, []),
  (4, .invokespecial 7, 3, [2, 54, 3, 621, 604, 98, 602, 51, 623]),
  (7, .ireturn, 1, [])]
def c_74 : List (Nat × Instr × Nat × List Int) := [
  (0, .iconst 1, 1, []),
  (1, .aload_n 0, 1, []),
  (2, .iload_n 1, 1, []),
  (3, .invokespecial 11, 3, [2, 55, 1, 641, 631, 98, 629, 51, 647]),
  (6, .iconst 1, 1, []),
  (7, .isub, 1, []),
  (8, .invokestatic 15, 3, [9, 642, 599, 58, 600]),
  (11, .ireturn, 1, [])]
def c_75 : List (Nat × Instr × Nat × List Int) := [
  (0, .aload_n 0, 1, []),
  (1, .invokespecial 1, 3, [1, 72, 0, 104, 95, 53, 96]),
  (4, .return_, 1, [])]
def c_76 : List (Nat × Instr × Nat × List Int) := [
  (0, .iconst 2, 1, []),
  (1, .aload_n 0, 1, []),
  (2, .iload_n 1, 1, []),
  (3, .invokespecial 7, 3, [2, 74, 1, 646, 1296, 105, 639, 53, 640]),
  (6, .imul, 1, []),
  (7, .ireturn, 1, [])]
def c_77 : List (Nat × Instr × Nat × List Int) := [
  (0, .aload_n 0, 1, []),
  (1, .invokespecial 3, 3, [0, 245, 75, 76]),
  (4, .aload_n 0, 1, []),
  (5, .bipush 7, 2, []),
  (7, .newarray .int, 2, [212, 0]),
  (9, .putfield 9, 3, [246, 10, 0]),
  (12, .aload_n 0, 1, []),
  (13, .bipush 7, 2, []),
  (15, .newarray .int, 2, [212, 0]),
  (17, .putfield 15, 3, [248, 10, 1]),
  (20, .aload_n 0, 1, []),
  (21, .bipush 7, 2, []),
  (23, .newarray .int, 2, [212, 0]),
  (25, .putfield 18, 3, [252, 10, 3]),
  (28, .return_, 1, [])]
def c_78 : List (Nat × Instr × Nat × List Int) := [
  (0, .iconst 0, 1, []),
  (1, .istore_n 3, 1, []),
  (2, .iload_n 3, 1, []),
  (3, .aload_n 1, 1, []),
  (4, .getfield 21, 3, [156, 1, 9]),
  (7, .if_icmp .ge 30, 3, []),
  (10, .aload_n 0, 1, []),
  (11, .getfield 9, 3, [246, 10, 0]),
  (14, .iload_n 3, 1, []),
  (15, .iload_n 2, 1, []),
  (16, .iload_n 3, 1, []),
  (17, .invokestatic 27, 3, [4, 130, 2, 788, 776, 50, 777]),
  (20, .ifCond .eq 7, 3, []),
  (23, .iconst 0, 1, []),
  (24, .goto 4, 3, []),
  (27, .iconst (-1), 1, []),
  (28, .invokestatic 31, 3, [4, 128, 3, 789, 372, 50, 373]),
  (31, .iinc 3 1, 3, []),
  (34, .goto (-32), 3, []),
  (37, .iconst 1, 1, []),
  (38, .istore_n 3, 1, []),
  (39, .iload_n 3, 1, []),
  (40, .bipush 63, 2, []),
  (42, .if_icmp .gt 70, 3, []),
  (45, .iconst 0, 1, []),
  (46, .istore 4, 2, []),
  (48, .iload 4, 2, []),
  (50, .aload_n 1, 1, []),
  (51, .getfield 21, 3, [156, 1, 9]),
  (54, .if_icmp .ge 52, 3, []),
  (57, .aload_n 0, 1, []),
  (58, .getfield 9, 3, [246, 10, 0]),
  (61, .iload 4, 2, []),
  (63, .invokestatic 35, 3, [4, 127, 2, 790, 349, 50, 350]),
  (66, .iconst (-1), 1, []),
  (67, .if_icmp .ne 33, 3, []),
  (70, .aload_n 0, 1, []),
  (71, .aload_n 1, 1, []),
  (72, .iload 4, 2, []),
  (74, .iload_n 3, 1, []),
  (75, .invokevirtual 39, 3, [6, 79, 3, 791, 793, 16, 61, 794, 10]),
  (78, .aload_n 1, 1, []),
  (79, .getfield 43, 3, [153, 1, 7]),
  (82, .iload 4, 2, []),
  (84, .invokestatic 35, 3, [4, 127, 2, 790, 349, 50, 350]),
  (87, .if_icmp .lt 13, 3, []),
  (90, .aload_n 0, 1, []),
  (91, .getfield 9, 3, [246, 10, 0]),
  (94, .iload 4, 2, []),
  (96, .iload_n 3, 1, []),
  (97, .invokestatic 31, 3, [4, 128, 3, 789, 372, 50, 373]),
  (100, .iinc 4 1, 3, []),
  (103, .goto (-55), 3, []),
  (106, .iinc 3 1, 3, []),
  (109, .goto (-70), 3, []),
  (112, .return_, 1, [])]
def c_79 : List (Nat × Instr × Nat × List Int) := [
  (0, .iconst 0, 1, []),
  (1, .istore 4, 2, []),
  (3, .iconst 0, 1, []),
  (4, .istore 5, 2, []),
  (6, .iload 5, 2, []),
  (8, .iload_n 2, 1, []),
  (9, .if_icmp .ge 50, 3, []),
  (12, .aload_n 1, 1, []),
  (13, .getfield 46, 3, [155, 1, 8]),
  (16, .iload_n 2, 1, []),
  (17, .invokestatic 35, 3, [4, 127, 2, 790, 349, 50, 350]),
  (20, .iload 5, 2, []),
  (22, .invokestatic 27, 3, [4, 130, 2, 788, 776, 50, 777]),
  (25, .ifCond .eq 28, 3, []),
  (28, .aload_n 0, 1, []),
  (29, .aload_n 1, 1, []),
  (30, .iload 5, 2, []),
  (32, .iload_n 3, 1, []),
  (33, .invokevirtual 49, 3, [6, 80, 3, 795, 797, 17, 61, 798, 10]),
  (36, .ifCond .eq 17, 3, []),
  (39, .iload 4, 2, []),
  (41, .aload_n 1, 1, []),
  (42, .getfield 43, 3, [153, 1, 7]),
  (45, .iload 5, 2, []),
  (47, .invokestatic 35, 3, [4, 127, 2, 790, 349, 50, 350]),
  (50, .iadd, 1, []),
  (51, .istore 4, 2, []),
  (53, .iinc 5 1, 3, []),
  (56, .goto (-50), 3, []),
  (59, .iload 4, 2, []),
  (61, .ireturn, 1, [])]
def c_80 : List (Nat × Instr × Nat × List Int) := [
  (0, .aload_n 0, 1, []),
  (1, .getfield 9, 3, [246, 10, 0]),
  (4, .iload_n 2, 1, []),
  (5, .invokestatic 35, 3, [4, 127, 2, 790, 349, 50, 350]),
  (8, .istore 4, 2, []),
  (10, .iload 4, 2, []),
  (12, .iconst (-1), 1, []),
  (13, .if_icmp .eq 28, 3, []),
  (16, .iload_n 3, 1, []),
  (17, .iload 4, 2, []),
  (19, .if_icmp .le 22, 3, []),
  (22, .iload_n 3, 1, []),
  (23, .iload 4, 2, []),
  (25, .aload_n 1, 1, []),
  (26, .getfield 43, 3, [153, 1, 7]),
  (29, .iload_n 2, 1, []),
  (30, .invokestatic 35, 3, [4, 127, 2, 790, 349, 50, 350]),
  (33, .iadd, 1, []),
  (34, .if_icmp .gt 7, 3, []),
  (37, .iconst 1, 1, []),
  (38, .goto 4, 3, []),
  (41, .iconst 0, 1, []),
  (42, .ireturn, 1, [])]
def c_81 : List (Nat × Instr × Nat × List Int) := [
  (0, .iconst 0, 1, []),
  (1, .istore_n 2, 1, []),
  (2, .iconst 0, 1, []),
  (3, .istore_n 3, 1, []),
  (4, .iload_n 3, 1, []),
  (5, .aload_n 1, 1, []),
  (6, .getfield 21, 3, [156, 1, 9]),
  (9, .if_icmp .ge 27, 3, []),
  (12, .aload_n 0, 1, []),
  (13, .getfield 9, 3, [246, 10, 0]),
  (16, .iload_n 3, 1, []),
  (17, .invokestatic 35, 3, [4, 127, 2, 790, 349, 50, 350]),
  (20, .iconst (-1), 1, []),
  (21, .if_icmp .eq 9, 3, []),
  (24, .iload_n 2, 1, []),
  (25, .iconst 1, 1, []),
  (26, .iload_n 3, 1, []),
  (27, .ishl, 1, []),
  (28, .ior, 1, []),
  (29, .istore_n 2, 1, []),
  (30, .iinc 3 1, 3, []),
  (33, .goto (-29), 3, []),
  (36, .iload_n 2, 1, []),
  (37, .ireturn, 1, [])]
def c_82 : List (Nat × Instr × Nat × List Int) := [
  (0, .aload_n 0, 1, []),
  (1, .iconst 0, 1, []),
  (2, .putfield 53, 3, [250, 10, 2]),
  (5, .aload_n 0, 1, []),
  (6, .aload_n 1, 1, []),
  (7, .iconst 0, 1, []),
  (8, .iconst 0, 1, []),
  (9, .iload_n 2, 1, []),
  (10, .iconst 2, 1, []),
  (11, .isub, 1, []),
  (12, .invokevirtual 56, 3, [6, 83, 4, 811, 813, 18, 61, 814, 10]),
  (15, .aload_n 0, 1, []),
  (16, .aload_n 1, 1, []),
  (17, .invokevirtual 60, 3, [6, 84, 1, 816, 818, 19, 61, 819, 10]),
  (20, .return_, 1, [])]
def c_83 : List (Nat × Instr × Nat × List Int) := [
  (0, .iload_n 2, 1, []),
  (1, .aload_n 0, 1, []),
  (2, .getfield 53, 3, [250, 10, 2]),
  (5, .if_icmp .le 19, 3, []),
  (8, .aload_n 0, 1, []),
  (9, .iload_n 2, 1, []),
  (10, .putfield 53, 3, [250, 10, 2]),
  (13, .aload_n 0, 1, []),
  (14, .getfield 18, 3, [252, 10, 3]),
  (17, .aload_n 0, 1, []),
  (18, .getfield 15, 3, [248, 10, 1]),
  (21, .invokestatic 64, 3, [4, 129, 2, 815, 133, 50, 134]),
  (24, .iconst 0, 1, []),
  (25, .istore 5, 2, []),
  (27, .iload 5, 2, []),
  (29, .aload_n 1, 1, []),
  (30, .getfield 21, 3, [156, 1, 9]),
  (33, .if_icmp .ge 86, 3, []),
  (36, .iload_n 2, 1, []),
  (37, .aload_n 1, 1, []),
  (38, .getfield 21, 3, [156, 1, 9]),
  (41, .if_icmp .ge 78, 3, []),
  (44, .aload_n 0, 1, []),
  (45, .getfield 53, 3, [250, 10, 2]),
  (48, .aload_n 1, 1, []),
  (49, .getfield 21, 3, [156, 1, 9]),
  (52, .if_icmp .ge 67, 3, []),
  (55, .iload_n 3, 1, []),
  (56, .iload 5, 2, []),
  (58, .invokestatic 27, 3, [4, 130, 2, 788, 776, 50, 777]),
  (61, .ifCond .ne 52, 3, []),
  (64, .iload 4, 2, []),
  (66, .aload_n 1, 1, []),
  (67, .getfield 43, 3, [153, 1, 7]),
  (70, .iload 5, 2, []),
  (72, .invokestatic 35, 3, [4, 127, 2, 790, 349, 50, 350]),
  (75, .iconst 2, 1, []),
  (76, .isub, 1, []),
  (77, .if_icmp .lt 36, 3, []),
  (80, .aload_n 0, 1, []),
  (81, .getfield 18, 3, [252, 10, 3]),
  (84, .iload_n 2, 1, []),
  (85, .iload 5, 2, []),
  (87, .invokestatic 31, 3, [4, 128, 3, 789, 372, 50, 373]),
  (90, .aload_n 0, 1, []),
  (91, .aload_n 1, 1, []),
  (92, .iload_n 2, 1, []),
  (93, .iconst 1, 1, []),
  (94, .iadd, 1, []),
  (95, .iload_n 3, 1, []),
  (96, .iconst 1, 1, []),
  (97, .iload 5, 2, []),
  (99, .ishl, 1, []),
  (100, .ior, 1, []),
  (101, .aload_n 1, 1, []),
  (102, .getfield 43, 3, [153, 1, 7]),
  (105, .iload 5, 2, []),
  (107, .invokestatic 35, 3, [4, 127, 2, 790, 349, 50, 350]),
  (110, .invokevirtual 56, 3, [6, 83, 4, 811, 813, 18, 61, 814, 10]),
  (113, .iinc 5 1, 3, []),
  (116, .goto (-89), 3, []),
  (119, .return_, 1, [])]
def c_84 : List (Nat × Instr × Nat × List Int) := [
  (0, .iconst 0, 1, []),
  (1, .istore_n 2, 1, []),
  (2, .iconst 0, 1, []),
  (3, .istore_n 3, 1, []),
  (4, .iload_n 3, 1, []),
  (5, .aload_n 0, 1, []),
  (6, .getfield 53, 3, [250, 10, 2]),
  (9, .if_icmp .ge 22, 3, []),
  (12, .iload_n 2, 1, []),
  (13, .iconst 1, 1, []),
  (14, .aload_n 0, 1, []),
  (15, .getfield 15, 3, [248, 10, 1]),
  (18, .iload_n 3, 1, []),
  (19, .invokestatic 35, 3, [4, 127, 2, 790, 349, 50, 350]),
  (22, .ishl, 1, []),
  (23, .ior, 1, []),
  (24, .istore_n 2, 1, []),
  (25, .iinc 3 1, 3, []),
  (28, .goto (-24), 3, []),
  (31, .aload_n 0, 1, []),
  (32, .getfield 53, 3, [250, 10, 2]),
  (35, .istore_n 3, 1, []),
  (36, .iconst 0, 1, []),
  (37, .istore 4, 2, []),
  (39, .iload 4, 2, []),
  (41, .aload_n 1, 1, []),
  (42, .getfield 21, 3, [156, 1, 9]),
  (45, .if_icmp .ge 31, 3, []),
  (48, .iload_n 2, 1, []),
  (49, .iload 4, 2, []),
  (51, .invokestatic 27, 3, [4, 130, 2, 788, 776, 50, 777]),
  (54, .ifCond .ne 16, 3, []),
  (57, .aload_n 0, 1, []),
  (58, .getfield 15, 3, [248, 10, 1]),
  (61, .iload_n 3, 1, []),
  (62, .iload 4, 2, []),
  (64, .invokestatic 31, 3, [4, 128, 3, 789, 372, 50, 373]),
  (67, .iinc 3 1, 3, []),
  (70, .iinc 4 1, 3, []),
  (73, .goto (-34), 3, []),
  (76, .return_, 1, [])]
def c_85 : List (Nat × Instr × Nat × List Int) := [
  (0, .iload_n 0, 1, []),
  (1, .iload_n 2, 1, []),
  (2, .invokestatic 68, 3, [10, 827, 136, 58, 137]),
  (5, .istore 5, 2, []),
  (7, .iconst 0, 1, []),
  (8, .istore 6, 2, []),
  (10, .iconst 0, 1, []),
  (11, .istore 7, 2, []),
  (13, .iload 7, 2, []),
  (15, .iload_n 3, 1, []),
  (16, .if_icmp .ge 40, 3, []),
  (19, .iload 5, 2, []),
  (21, .ifCond .ne 19, 3, []),
  (24, .iload 6, 2, []),
  (26, .iload 4, 2, []),
  (28, .if_icmp .ne 6, 3, []),
  (31, .iload 7, 2, []),
  (33, .ireturn, 1, []),
  (34, .iinc 6 1, 3, []),
  (37, .iload_n 2, 1, []),
  (38, .istore 5, 2, []),
  (40, .iconst 0, 1, []),
  (41, .iload 5, 2, []),
  (43, .iload_n 1, 1, []),
  (44, .isub, 1, []),
  (45, .invokestatic 74, 3, [9, 828, 599, 58, 600]),
  (48, .istore 5, 2, []),
  (50, .iinc 7 1, 3, []),
  (53, .goto (-40), 3, []),
  (56, .iload 4, 2, []),
  (58, .iconst (-1), 1, []),
  (59, .if_icmp .ne 8, 3, []),
  (62, .iload 6, 2, []),
  (64, .goto 5, 3, []),
  (67, .bipush (-5), 2, []),
  (69, .ireturn, 1, [])]
def c_86 : List (Nat × Instr × Nat × List Int) := [
  (0, .aload_n 0, 1, []),
  (1, .invokespecial 1, 3, [0, 74, 75, 76]),
  (4, .bipush 6, 2, []),
  (6, .anewarray 7, 3, [77, 78, 3]),
  (9, .dup, 1, []),
  (10, .iconst 0, 1, []),
  (11, .new 7, 3, [77, 79, 51, 5]),
  (14, .dup, 1, []),
  (15, .invokespecial 9, 3, [1, 53, 0, 80, 81, 51, 82]),
  (18, .aastore, 1, []),
  (19, .dup, 1, []),
  (20, .iconst 1, 1, []),
  (21, .new 10, 3, [85, 86, 52, 2]),
  (24, .dup, 1, []),
  (25, .invokespecial 12, 3, [1, 33, 0, 87, 88, 52, 89]),
  (28, .aastore, 1, []),
  (29, .dup, 1, []),
  (30, .iconst 2, 1, []),
  (31, .new 13, 3, [92, 93, 53, 8]),
  (34, .dup, 1, []),
  (35, .invokespecial 15, 3, [1, 72, 0, 94, 95, 53, 96]),
  (38, .aastore, 1, []),
  (39, .dup, 1, []),
  (40, .iconst 3, 1, []),
  (41, .new 16, 3, [99, 100, 54, 9]),
  (44, .dup, 1, []),
  (45, .invokespecial 18, 3, [1, 75, 0, 101, 102, 54, 103]),
  (48, .aastore, 1, []),
  (49, .dup, 1, []),
  (50, .iconst 4, 1, []),
  (51, .new 19, 3, [106, 107, 55, 3]),
  (54, .dup, 1, []),
  (55, .invokespecial 21, 3, [1, 35, 0, 108, 109, 55, 110]),
  (58, .aastore, 1, []),
  (59, .dup, 1, []),
  (60, .iconst 5, 1, []),
  (61, .new 22, 3, [113, 114, 56, 7]),
  (64, .dup, 1, []),
  (65, .invokespecial 24, 3, [1, 70, 0, 115, 116, 56, 117]),
  (68, .aastore, 1, []),
  (69, .astore_n 1, 1, []),
  (70, .aload_n 0, 1, []),
  (71, .new 25, 3, [120, 121, 57, 1]),
  (74, .dup, 1, []),
  (75, .aload_n 1, 1, []),
  (76, .invokespecial 27, 3, [1, 7, 1, 122, 123, 57, 124]),
  (79, .putfield 30, 3, [298, 11, 0]),
  (82, .aload_n 0, 1, []),
  (83, .new 25, 3, [120, 121, 57, 1]),
  (86, .dup, 1, []),
  (87, .aload_n 1, 1, []),
  (88, .invokespecial 27, 3, [1, 7, 1, 122, 123, 57, 124]),
  (91, .putfield 36, 3, [299, 11, 1]),
  (94, .aload_n 0, 1, []),
  (95, .iconst 2, 1, []),
  (96, .anewarray 25, 3, [120, 213, 4]),
  (99, .dup, 1, []),
  (100, .iconst 0, 1, []),
  (101, .new 25, 3, [120, 121, 57, 1]),
  (104, .dup, 1, []),
  (105, .aload_n 1, 1, []),
  (106, .invokespecial 27, 3, [1, 7, 1, 122, 123, 57, 124]),
  (109, .aastore, 1, []),
  (110, .dup, 1, []),
  (111, .iconst 1, 1, []),
  (112, .new 25, 3, [120, 121, 57, 1]),
  (115, .dup, 1, []),
  (116, .aload_n 1, 1, []),
  (117, .invokespecial 27, 3, [1, 7, 1, 122, 123, 57, 124]),
  (120, .aastore, 1, []),
  (121, .putfield 39, 3, [300, 11, 2]),
  (124, .aload_n 0, 1, []),
  (125, .iconst 2, 1, []),
  (126, .newarray .boolean, 2, [238, 2]),
  (128, .putfield 43, 3, [301, 11, 3]),
  (131, .aload_n 0, 1, []),
  (132, .new 47, 3, [214, 215, 60, 4]),
  (135, .dup, 1, []),
  (136, .invokespecial 49, 3, [1, 38, 0, 216, 217, 60, 218]),
  (139, .putfield 50, 3, [302, 11, 4]),
  (142, .aload_n 0, 1, []),
  (143, .new 54, 3, [240, 241, 61, 10]),
  (146, .dup, 1, []),
  (147, .invokespecial 56, 3, [1, 77, 0, 242, 243, 61, 244]),
  (150, .putfield 57, 3, [303, 11, 5]),
  (153, .aload_n 0, 1, []),
  (154, .new 61, 3, [262, 263, 62, 0]),
  (157, .dup, 1, []),
  (158, .invokespecial 63, 3, [1, 0, 0, 264, 265, 62, 266]),
  (161, .putfield 64, 3, [304, 11, 6]),
  (164, .aload_n 0, 1, []),
  (165, .new 68, 3, [269, 270, 63, 6]),
  (168, .dup, 1, []),
  (169, .invokespecial 70, 3, [1, 56, 0, 271, 272, 63, 273]),
  (172, .putfield 71, 3, [305, 11, 7]),
  (175, .aload_n 0, 1, []),
  (176, .lconst 0, 1, []),
  (177, .putfield 75, 3, [306, 11, 8]),
  (180, .aload_n 0, 1, []),
  (181, .lconst 1, 1, []),
  (182, .putfield 79, 3, [307, 11, 9]),
  (185, .return_, 1, [])]
def c_87 : List (Nat × Instr × Nat × List Int) := [
  (0, .aload_n 0, 1, []),
  (1, .aload_n 0, 1, []),
  (2, .getfield 30, 3, [298, 11, 0]),
  (5, .iload_n 1, 1, []),
  (6, .iload_n 2, 1, []),
  (7, .invokevirtual 82, 3, [6, 10, 2, 342, 343, 344, 57, 345, 1]),
  (10, .invokevirtual 86, 3, [6, 121, 1, 351, 353, 0, 50, 354, 11]),
  (13, .ireturn, 1, [])]
def c_88 : List (Nat × Instr × Nat × List Int) := [
  (0, .aload_n 0, 1, []),
  (1, .aload_n 0, 1, []),
  (2, .getfield 30, 3, [298, 11, 0]),
  (5, .iload_n 1, 1, []),
  (6, .iload_n 2, 1, []),
  (7, .invokevirtual 90, 3, [6, 11, 2, 359, 360, 361, 57, 362, 1]),
  (10, .invokevirtual 86, 3, [6, 121, 1, 351, 353, 0, 50, 354, 11]),
  (13, .ireturn, 1, [])]
def c_89 : List (Nat × Instr × Nat × List Int) := [
  (0, .aload_n 0, 1, []),
  (1, .aload_n 0, 1, []),
  (2, .getfield 30, 3, [298, 11, 0]),
  (5, .iload_n 1, 1, []),
  (6, .iload_n 2, 1, []),
  (7, .iload_n 3, 1, []),
  (8, .invokevirtual 93, 3, [6, 12, 3, 367, 368, 369, 57, 370, 1]),
  (11, .invokevirtual 86, 3, [6, 121, 1, 351, 353, 0, 50, 354, 11]),
  (14, .ireturn, 1, [])]
def c_90 : List (Nat × Instr × Nat × List Int) := [
  (0, .aload_n 0, 1, []),
  (1, .aload_n 0, 1, []),
  (2, .getfield 30, 3, [298, 11, 0]),
  (5, .iload_n 1, 1, []),
  (6, .iload_n 2, 1, []),
  (7, .invokevirtual 97, 3, [6, 13, 2, 378, 379, 380, 57, 381, 1]),
  (10, .invokevirtual 86, 3, [6, 121, 1, 351, 353, 0, 50, 354, 11]),
  (13, .ireturn, 1, [])]
def c_91 : List (Nat × Instr × Nat × List Int) := [
  (0, .aload_n 0, 1, []),
  (1, .aload_n 0, 1, []),
  (2, .getfield 30, 3, [298, 11, 0]),
  (5, .iload_n 1, 1, []),
  (6, .invokevirtual 100, 3, [6, 14, 1, 390, 391, 392, 57, 393, 1]),
  (9, .invokevirtual 86, 3, [6, 121, 1, 351, 353, 0, 50, 354, 11]),
  (12, .ireturn, 1, [])]
def c_92 : List (Nat × Instr × Nat × List Int) := [
  (0, .aload_n 0, 1, []),
  (1, .aload_n 0, 1, []),
  (2, .getfield 30, 3, [298, 11, 0]),
  (5, .iload_n 1, 1, []),
  (6, .invokevirtual 103, 3, [6, 15, 1, 398, 399, 400, 57, 401, 1]),
  (9, .invokevirtual 86, 3, [6, 121, 1, 351, 353, 0, 50, 354, 11]),
  (12, .ireturn, 1, [])]
def c_93 : List (Nat × Instr × Nat × List Int) := [
  (0, .aload_n 0, 1, []),
  (1, .aload_n 0, 1, []),
  (2, .getfield 71, 3, [305, 11, 7]),
  (5, .iload_n 1, 1, []),
  (6, .invokevirtual 106, 3, [6, 57, 1, 406, 407, 408, 63, 409, 6]),
  (9, .invokevirtual 86, 3, [6, 121, 1, 351, 353, 0, 50, 354, 11]),
  (12, .ireturn, 1, [])]
def c_94 : List (Nat × Instr × Nat × List Int) := [
  (0, .aload_n 0, 1, []),
  (1, .getfield 71, 3, [305, 11, 7]),
  (4, .invokevirtual 109, 3, [6, 58, 0, 415, 416, 417, 63, 418, 6]),
  (7, .ireturn, 1, [])]
def c_95 : List (Nat × Instr × Nat × List Int) := [
  (0, .aload_n 0, 1, []),
  (1, .getfield 36, 3, [299, 11, 1]),
  (4, .invokevirtual 113, 3, [6, 8, 0, 423, 127, 128, 57, 129, 1]),
  (7, .aload_n 0, 1, []),
  (8, .getfield 71, 3, [305, 11, 7]),
  (11, .aload_n 0, 1, []),
  (12, .getfield 36, 3, [299, 11, 1]),
  (15, .invokevirtual 116, 3, [6, 59, 1, 424, 425, 426, 63, 427, 6]),
  (18, .istore_n 1, 1, []),
  (19, .iload_n 1, 1, []),
  (20, .ifCond .lt 14, 3, []),
  (23, .aload_n 0, 1, []),
  (24, .getfield 30, 3, [298, 11, 0]),
  (27, .aload_n 0, 1, []),
  (28, .getfield 36, 3, [299, 11, 1]),
  (31, .invokevirtual 120, 3, [6, 9, 1, 530, 531, 532, 57, 533, 1]),
  (34, .iload_n 1, 1, []),
  (35, .ireturn, 1, [])]
def c_96 : List (Nat × Instr × Nat × List Int) := [
  (0, .aload_n 0, 1, []),
  (1, .aload_n 0, 1, []),
  (2, .getfield 30, 3, [298, 11, 0]),
  (5, .iload_n 1, 1, []),
  (6, .iload_n 2, 1, []),
  (7, .invokevirtual 124, 3, [6, 16, 2, 539, 540, 541, 57, 542, 1]),
  (10, .invokevirtual 86, 3, [6, 121, 1, 351, 353, 0, 50, 354, 11]),
  (13, .ireturn, 1, [])]
def c_97 : List (Nat × Instr × Nat × List Int) := [
  (0, .aload_n 0, 1, []),
  (1, .aload_n 0, 1, []),
  (2, .getfield 30, 3, [298, 11, 0]),
  (5, .invokevirtual 128, 3, [6, 17, 0, 556, 557, 558, 57, 559, 1]),
  (8, .invokevirtual 86, 3, [6, 121, 1, 351, 353, 0, 50, 354, 11]),
  (11, .ireturn, 1, [])]
def c_98 : List (Nat × Instr × Nat × List Int) := [
  (0, .aload_n 0, 1, []),
  (1, .aload_n 0, 1, []),
  (2, .getfield 30, 3, [298, 11, 0]),
  (5, .invokevirtual 131, 3, [6, 19, 0, 569, 570, 571, 57, 572, 1]),
  (8, .invokevirtual 86, 3, [6, 121, 1, 351, 353, 0, 50, 354, 11]),
  (11, .ireturn, 1, [])]
def c_99 : List (Nat × Instr × Nat × List Int) := [
  (0, .aload_n 0, 1, []),
  (1, .getfield 30, 3, [298, 11, 0]),
  (4, .iload_n 1, 1, []),
  (5, .invokevirtual 134, 3, [6, 20, 1, 577, 578, 579, 57, 580, 1]),
  (8, .ifCond .ne 10, 3, []),
  (11, .aload_n 0, 1, []),
  (12, .bipush (-2), 2, []),
  (14, .invokevirtual 86, 3, [6, 121, 1, 351, 353, 0, 50, 354, 11]),
  (17, .ireturn, 1, []),
  (18, .iload_n 2, 1, []),
  (19, .tableswitch 71 0 3 #[29, 41, 53, 62], 29, []),
  (48, .aload_n 0, 1, []),
  (49, .getfield 30, 3, [298, 11, 0]),
  (52, .getfield 138, 3, [145, 1, 3]),
  (55, .iload_n 1, 1, []),
  (56, .invokestatic 142, 3, [3, 127, 2, 581, 349, 50, 350]),
  (59, .ireturn, 1, []),
  (60, .aload_n 0, 1, []),
  (61, .getfield 30, 3, [298, 11, 0]),
  (64, .getfield 146, 3, [147, 1, 4]),
  (67, .iload_n 1, 1, []),
  (68, .invokestatic 142, 3, [3, 127, 2, 581, 349, 50, 350]),
  (71, .ireturn, 1, []),
  (72, .aload_n 0, 1, []),
  (73, .getfield 30, 3, [298, 11, 0]),
  (76, .iload_n 1, 1, []),
  (77, .invokevirtual 149, 3, [6, 26, 1, 582, 583, 584, 57, 585, 1]),
  (80, .ireturn, 1, []),
  (81, .aload_n 0, 1, []),
  (82, .getfield 30, 3, [298, 11, 0]),
  (85, .iload_n 1, 1, []),
  (86, .invokevirtual 152, 3, [6, 28, 1, 624, 625, 626, 57, 627, 1]),
  (89, .ireturn, 1, []),
  (90, .aload_n 0, 1, []),
  (91, .bipush (-2), 2, []),
  (93, .invokevirtual 86, 3, [6, 121, 1, 351, 353, 0, 50, 354, 11]),
  (96, .ireturn, 1, [])]
def c_100 : List (Nat × Instr × Nat × List Int) := [
  (0, .aload_n 0, 1, []),
  (1, .getfield 30, 3, [298, 11, 0]),
  (4, .iload_n 1, 1, []),
  (5, .invokevirtual 134, 3, [6, 20, 1, 577, 578, 579, 57, 580, 1]),
  (8, .ifCond .eq 12, 3, []),
  (11, .iload_n 2, 1, []),
  (12, .ifCond .lt 8, 3, []),
  (15, .iload_n 2, 1, []),
  (16, .iconst 1, 1, []),
  (17, .if_icmp .le 10, 3, []),
  (20, .aload_n 0, 1, []),
  (21, .bipush (-2), 2, []),
  (23, .invokevirtual 86, 3, [6, 121, 1, 351, 353, 0, 50, 354, 11]),
  (26, .ireturn, 1, []),
  (27, .iload_n 2, 1, []),
  (28, .ifCond .ne 23, 3, []),
  (31, .aload_n 0, 1, []),
  (32, .ldc2_w 155, 3, [652, 10000000000000]),
  (35, .aload_n 0, 1, []),
  (36, .getfield 30, 3, [298, 11, 0]),
  (39, .iload_n 1, 1, []),
  (40, .invokevirtual 149, 3, [6, 26, 1, 582, 583, 584, 57, 585, 1]),
  (43, .i2l, 1, []),
  (44, .lmul, 1, []),
  (45, .invokevirtual 157, 3, [6, 124, 1, 653, 655, 10, 50, 656, 11]),
  (48, .goto 36, 3, []),
  (51, .aload_n 0, 1, []),
  (52, .ldc2_w 161, 3, [661, 1000000000000]),
  (55, .aload_n 0, 1, []),
  (56, .getfield 30, 3, [298, 11, 0]),
  (59, .iload_n 1, 1, []),
  (60, .invokevirtual 149, 3, [6, 26, 1, 582, 583, 584, 57, 585, 1]),
  (63, .i2l, 1, []),
  (64, .lmul, 1, []),
  (65, .aload_n 0, 1, []),
  (66, .getfield 30, 3, [298, 11, 0]),
  (69, .aload_n 0, 1, []),
  (70, .getfield 30, 3, [298, 11, 0]),
  (73, .getfield 163, 3, [166, 1, 12]),
  (76, .invokevirtual 167, 3, [6, 24, 1, 662, 663, 664, 57, 665, 1]),
  (79, .i2l, 1, []),
  (80, .lmul, 1, []),
  (81, .invokevirtual 157, 3, [6, 124, 1, 653, 655, 10, 50, 656, 11]),
  (84, .iconst 1, 1, []),
  (85, .ireturn, 1, [])]
def c_101 : List (Nat × Instr × Nat × List Int) := [
  (0, .aload_n 0, 1, []),
  (1, .aload_n 0, 1, []),
  (2, .getfield 50, 3, [302, 11, 4]),
  (5, .aload_n 0, 1, []),
  (6, .getfield 30, 3, [298, 11, 0]),
  (9, .invokevirtual 170, 3, [6, 43, 1, 670, 671, 672, 60, 673, 4]),
  (12, .invokevirtual 157, 3, [6, 124, 1, 653, 655, 10, 50, 656, 11]),
  (15, .aload_n 0, 1, []),
  (16, .getfield 50, 3, [302, 11, 4]),
  (19, .getfield 174, 3, [223, 4, 1]),
  (22, .ireturn, 1, [])]
def c_102 : List (Nat × Instr × Nat × List Int) := [
  (0, .iload_n 1, 1, []),
  (1, .ifCond .lt 8, 3, []),
  (4, .iload_n 1, 1, []),
  (5, .iconst 5, 1, []),
  (6, .if_icmp .le 10, 3, []),
  (9, .aload_n 0, 1, []),
  (10, .bipush (-2), 2, []),
  (12, .invokevirtual 86, 3, [6, 121, 1, 351, 353, 0, 50, 354, 11]),
  (15, .ireturn, 1, []),
  (16, .aload_n 0, 1, []),
  (17, .aload_n 0, 1, []),
  (18, .getfield 30, 3, [298, 11, 0]),
  (21, .iload_n 1, 1, []),
  (22, .invokestatic 177, 3, [3, 41, 2, 701, 702, 60, 703]),
  (25, .invokevirtual 157, 3, [6, 124, 1, 653, 655, 10, 50, 656, 11]),
  (28, .iconst 1, 1, []),
  (29, .ireturn, 1, [])]
def c_103 : List (Nat × Instr × Nat × List Int) := [
  (0, .aload_n 0, 1, []),
  (1, .getfield 30, 3, [298, 11, 0]),
  (4, .invokestatic 181, 3, [3, 42, 1, 711, 712, 60, 713]),
  (7, .ireturn, 1, [])]
def c_104 : List (Nat × Instr × Nat × List Int) := [
  (0, .aload_n 0, 1, []),
  (1, .getfield 30, 3, [298, 11, 0]),
  (4, .invokevirtual 184, 3, [6, 22, 0, 720, 544, 545, 57, 546, 1]),
  (7, .iconst 1, 1, []),
  (8, .if_icmp .ge 12, 3, []),
  (11, .aload_n 0, 1, []),
  (12, .bipush (-3), 2, []),
  (14, .invokevirtual 86, 3, [6, 121, 1, 351, 353, 0, 50, 354, 11]),
  (17, .goto 10, 3, []),
  (20, .aload_n 0, 1, []),
  (21, .getfield 30, 3, [298, 11, 0]),
  (24, .invokestatic 187, 3, [3, 47, 1, 721, 722, 60, 723]),
  (27, .ireturn, 1, [])]
def c_105 : List (Nat × Instr × Nat × List Int) := [
  (0, .aload_n 0, 1, []),
  (1, .getfield 30, 3, [298, 11, 0]),
  (4, .invokevirtual 184, 3, [6, 22, 0, 720, 544, 545, 57, 546, 1]),
  (7, .iconst 2, 1, []),
  (8, .if_icmp .ge 12, 3, []),
  (11, .aload_n 0, 1, []),
  (12, .bipush (-3), 2, []),
  (14, .invokevirtual 86, 3, [6, 121, 1, 351, 353, 0, 50, 354, 11]),
  (17, .goto 10, 3, []),
  (20, .aload_n 0, 1, []),
  (21, .getfield 30, 3, [298, 11, 0]),
  (24, .invokestatic 190, 3, [3, 48, 1, 735, 736, 60, 737]),
  (27, .ireturn, 1, [])]
def c_106 : List (Nat × Instr × Nat × List Int) := [
  (0, .iload_n 1, 1, []),
  (1, .iconst 1, 1, []),
  (2, .if_icmp .lt 9, 3, []),
  (5, .iload_n 1, 1, []),
  (6, .bipush 6, 2, []),
  (8, .if_icmp .le 10, 3, []),
  (11, .aload_n 0, 1, []),
  (12, .bipush (-2), 2, []),
  (14, .invokevirtual 86, 3, [6, 121, 1, 351, 353, 0, 50, 354, 11]),
  (17, .ireturn, 1, []),
  (18, .aload_n 0, 1, []),
  (19, .getfield 30, 3, [298, 11, 0]),
  (22, .invokevirtual 184, 3, [6, 22, 0, 720, 544, 545, 57, 546, 1]),
  (25, .iconst 1, 1, []),
  (26, .if_icmp .ge 10, 3, []),
  (29, .aload_n 0, 1, []),
  (30, .bipush (-3), 2, []),
  (32, .invokevirtual 86, 3, [6, 121, 1, 351, 353, 0, 50, 354, 11]),
  (35, .ireturn, 1, []),
  (36, .aload_n 0, 1, []),
  (37, .aload_n 0, 1, []),
  (38, .getfield 30, 3, [298, 11, 0]),
  (41, .iload_n 1, 1, []),
  (42, .invokestatic 193, 3, [3, 49, 2, 743, 744, 60, 745]),
  (45, .invokevirtual 157, 3, [6, 124, 1, 653, 655, 10, 50, 656, 11]),
  (48, .iconst 1, 1, []),
  (49, .ireturn, 1, [])]
def c_107 : List (Nat × Instr × Nat × List Int) := [
  (0, .iload_n 1, 1, []),
  (1, .ifCond .lt 28, 3, []),
  (4, .iload_n 1, 1, []),
  (5, .iconst 5, 1, []),
  (6, .if_icmp .gt 23, 3, []),
  (9, .iload_n 2, 1, []),
  (10, .ifCond .lt 19, 3, []),
  (13, .iload_n 2, 1, []),
  (14, .bipush 10, 2, []),
  (16, .if_icmp .gt 13, 3, []),
  (19, .iload_n 3, 1, []),
  (20, .ifCond .lt 9, 3, []),
  (23, .iload_n 3, 1, []),
  (24, .bipush 10, 2, []),
  (26, .if_icmp .le 10, 3, []),
  (29, .aload_n 0, 1, []),
  (30, .bipush (-2), 2, []),
  (32, .invokevirtual 86, 3, [6, 121, 1, 351, 353, 0, 50, 354, 11]),
  (35, .ireturn, 1, []),
  (36, .iload_n 1, 1, []),
  (37, .iload_n 2, 1, []),
  (38, .iload_n 3, 1, []),
  (39, .invokestatic 196, 3, [3, 50, 3, 751, 752, 60, 753]),
  (42, .aload_n 0, 1, []),
  (43, .getfield 50, 3, [302, 11, 4]),
  (46, .aload_n 0, 1, []),
  (47, .getfield 30, 3, [298, 11, 0]),
  (50, .invokevirtual 170, 3, [6, 43, 1, 670, 671, 672, 60, 673, 4]),
  (53, .invokestatic 200, 3, [3, 126, 2, 755, 729, 50, 730]),
  (56, .ireturn, 1, [])]
def c_108 : List (Nat × Instr × Nat × List Int) := [
  (0, .iload_n 1, 1, []),
  (1, .ifCond .ge 8, 3, []),
  (4, .aload_n 0, 1, []),
  (5, .invokevirtual 204, 3, [6, 122, 0, 760, 762, 14, 50, 763, 11]),
  (8, .ireturn, 1, []),
  (9, .aload_n 0, 1, []),
  (10, .aload_n 0, 1, []),
  (11, .getfield 50, 3, [302, 11, 4]),
  (14, .aload_n 0, 1, []),
  (15, .getfield 30, 3, [298, 11, 0]),
  (18, .invokevirtual 207, 3, [6, 51, 1, 764, 765, 766, 60, 767, 4]),
  (21, .invokevirtual 157, 3, [6, 124, 1, 653, 655, 10, 50, 656, 11]),
  (24, .iload_n 1, 1, []),
  (25, .aload_n 0, 1, []),
  (26, .getfield 30, 3, [298, 11, 0]),
  (29, .invokevirtual 184, 3, [6, 22, 0, 720, 544, 545, 57, 546, 1]),
  (32, .if_icmp .ge 17, 3, []),
  (35, .aload_n 0, 1, []),
  (36, .getfield 50, 3, [302, 11, 4]),
  (39, .getfield 210, 3, [221, 4, 0]),
  (42, .iload_n 1, 1, []),
  (43, .invokestatic 142, 3, [3, 127, 2, 581, 349, 50, 350]),
  (46, .goto 5, 3, []),
  (49, .bipush (-5), 2, []),
  (51, .ireturn, 1, [])]
def c_109 : List (Nat × Instr × Nat × List Int) := [
  (0, .aload_n 0, 1, []),
  (1, .getfield 30, 3, [298, 11, 0]),
  (4, .iload_n 1, 1, []),
  (5, .invokevirtual 213, 3, [6, 21, 1, 783, 383, 384, 57, 385, 1]),
  (8, .ifCond .eq 19, 3, []),
  (11, .iload_n 2, 1, []),
  (12, .iconst (-1), 1, []),
  (13, .if_icmp .lt 14, 3, []),
  (16, .iload_n 2, 1, []),
  (17, .aload_n 0, 1, []),
  (18, .getfield 30, 3, [298, 11, 0]),
  (21, .getfield 216, 3, [158, 1, 9]),
  (24, .if_icmp .lt 8, 3, []),
  (27, .aload_n 0, 1, []),
  (28, .invokevirtual 204, 3, [6, 122, 0, 760, 762, 14, 50, 763, 11]),
  (31, .ireturn, 1, []),
  (32, .aload_n 0, 1, []),
  (33, .getfield 57, 3, [303, 11, 5]),
  (36, .aload_n 0, 1, []),
  (37, .getfield 30, 3, [298, 11, 0]),
  (40, .iload_n 1, 1, []),
  (41, .invokevirtual 219, 3, [6, 78, 2, 784, 785, 786, 61, 787, 10]),
  (44, .iload_n 2, 1, []),
  (45, .iconst (-1), 1, []),
  (46, .if_icmp .ne 17, 3, []),
  (49, .aload_n 0, 1, []),
  (50, .getfield 57, 3, [303, 11, 5]),
  (53, .aload_n 0, 1, []),
  (54, .getfield 30, 3, [298, 11, 0]),
  (57, .invokevirtual 223, 3, [6, 81, 1, 799, 800, 801, 61, 802, 10]),
  (60, .goto 14, 3, []),
  (63, .aload_n 0, 1, []),
  (64, .getfield 57, 3, [303, 11, 5]),
  (67, .getfield 226, 3, [247, 10, 0]),
  (70, .iload_n 2, 1, []),
  (71, .invokestatic 142, 3, [3, 127, 2, 581, 349, 50, 350]),
  (74, .ireturn, 1, [])]
def c_110 : List (Nat × Instr × Nat × List Int) := [
  (0, .iload_n 1, 1, []),
  (1, .iconst 1, 1, []),
  (2, .if_icmp .lt 14, 3, []),
  (5, .iload_n 1, 1, []),
  (6, .bipush 9, 2, []),
  (8, .if_icmp .gt 8, 3, []),
  (11, .iload_n 2, 1, []),
  (12, .iconst (-1), 1, []),
  (13, .if_icmp .ge 8, 3, []),
  (16, .aload_n 0, 1, []),
  (17, .invokevirtual 204, 3, [6, 122, 0, 760, 762, 14, 50, 763, 11]),
  (20, .ireturn, 1, []),
  (21, .aload_n 0, 1, []),
  (22, .getfield 57, 3, [303, 11, 5]),
  (25, .aload_n 0, 1, []),
  (26, .getfield 30, 3, [298, 11, 0]),
  (29, .iload_n 1, 1, []),
  (30, .invokevirtual 229, 3, [6, 82, 2, 807, 808, 809, 61, 810, 10]),
  (33, .iload_n 2, 1, []),
  (34, .iconst (-1), 1, []),
  (35, .if_icmp .ne 11, 3, []),
  (38, .aload_n 0, 1, []),
  (39, .getfield 57, 3, [303, 11, 5]),
  (42, .getfield 232, 3, [251, 10, 2]),
  (45, .ireturn, 1, []),
  (46, .iload_n 2, 1, []),
  (47, .aload_n 0, 1, []),
  (48, .getfield 30, 3, [298, 11, 0]),
  (51, .getfield 216, 3, [158, 1, 9]),
  (54, .if_icmp .ge 17, 3, []),
  (57, .aload_n 0, 1, []),
  (58, .getfield 57, 3, [303, 11, 5]),
  (61, .getfield 235, 3, [249, 10, 1]),
  (64, .iload_n 2, 1, []),
  (65, .invokestatic 142, 3, [3, 127, 2, 581, 349, 50, 350]),
  (68, .goto 5, 3, []),
  (71, .bipush (-5), 2, []),
  (73, .ireturn, 1, [])]
def c_111 : List (Nat × Instr × Nat × List Int) := [
  (0, .iload_n 1, 1, []),
  (1, .ifCond .lt 35, 3, []),
  (4, .iload_n 1, 1, []),
  (5, .bipush 99, 2, []),
  (7, .if_icmp .gt 29, 3, []),
  (10, .iload_n 2, 1, []),
  (11, .iconst 1, 1, []),
  (12, .if_icmp .lt 24, 3, []),
  (15, .iload_n 2, 1, []),
  (16, .bipush 9, 2, []),
  (18, .if_icmp .gt 18, 3, []),
  (21, .iload_n 3, 1, []),
  (22, .iconst 1, 1, []),
  (23, .if_icmp .lt 13, 3, []),
  (26, .iload_n 3, 1, []),
  (27, .bipush 99, 2, []),
  (29, .if_icmp .gt 7, 3, []),
  (32, .iconst 1, 1, []),
  (33, .goto 4, 3, []),
  (36, .iconst 0, 1, []),
  (37, .istore 6, 2, []),
  (39, .iload 6, 2, []),
  (41, .ifCond .eq 21, 3, []),
  (44, .iload 4, 2, []),
  (46, .ifCond .lt 16, 3, []),
  (49, .iload 4, 2, []),
  (51, .bipush 99, 2, []),
  (53, .if_icmp .gt 9, 3, []),
  (56, .iload 5, 2, []),
  (58, .iconst (-1), 1, []),
  (59, .if_icmp .ge 8, 3, []),
  (62, .aload_n 0, 1, []),
  (63, .invokevirtual 204, 3, [6, 122, 0, 760, 762, 14, 50, 763, 11]),
  (66, .ireturn, 1, []),
  (67, .iload_n 1, 1, []),
  (68, .iload_n 2, 1, []),
  (69, .iload_n 3, 1, []),
  (70, .iload 4, 2, []),
  (72, .iload 5, 2, []),
  (74, .invokestatic 236, 3, [3, 85, 5, 824, 825, 61, 826]),
  (77, .ireturn, 1, [])]
def c_112 : List (Nat × Instr × Nat × List Int) := [
  (0, .iload_n 1, 1, []),
  (1, .ifCond .lt 8, 3, []),
  (4, .iload_n 1, 1, []),
  (5, .iconst 1, 1, []),
  (6, .if_icmp .le 8, 3, []),
  (9, .aload_n 0, 1, []),
  (10, .invokevirtual 204, 3, [6, 122, 0, 760, 762, 14, 50, 763, 11]),
  (13, .ireturn, 1, []),
  (14, .iload_n 1, 1, []),
  (15, .ifCond .ne 17, 3, []),
  (18, .aload_n 0, 1, []),
  (19, .getfield 64, 3, [304, 11, 6]),
  (22, .aload_n 0, 1, []),
  (23, .getfield 30, 3, [298, 11, 0]),
  (26, .invokevirtual 240, 3, [6, 1, 1, 833, 834, 835, 62, 836, 0]),
  (29, .goto 14, 3, []),
  (32, .aload_n 0, 1, []),
  (33, .getfield 64, 3, [304, 11, 6]),
  (36, .aload_n 0, 1, []),
  (37, .getfield 30, 3, [298, 11, 0]),
  (40, .invokevirtual 243, 3, [6, 3, 1, 844, 845, 846, 62, 847, 0]),
  (43, .ireturn, 1, [])]
def c_113 : List (Nat × Instr × Nat × List Int) := [
  (0, .aload_n 0, 1, []),
  (1, .getfield 30, 3, [298, 11, 0]),
  (4, .iload_n 1, 1, []),
  (5, .invokevirtual 134, 3, [6, 20, 1, 577, 578, 579, 57, 580, 1]),
  (8, .ifCond .eq 27, 3, []),
  (11, .iload_n 2, 1, []),
  (12, .ifCond .lt 23, 3, []),
  (15, .iload_n 2, 1, []),
  (16, .bipush 12, 2, []),
  (18, .if_icmp .gt 17, 3, []),
  (21, .iload_n 3, 1, []),
  (22, .ifCond .lt 13, 3, []),
  (25, .iload_n 3, 1, []),
  (26, .bipush 18, 2, []),
  (28, .if_icmp .gt 7, 3, []),
  (31, .iconst 1, 1, []),
  (32, .goto 4, 3, []),
  (35, .iconst 0, 1, []),
  (36, .istore 5, 2, []),
  (38, .iload 5, 2, []),
  (40, .ifCond .eq 14, 3, []),
  (43, .iload 4, 2, []),
  (45, .ifCond .lt 9, 3, []),
  (48, .iload 4, 2, []),
  (50, .iload_n 3, 1, []),
  (51, .if_icmp .le 8, 3, []),
  (54, .aload_n 0, 1, []),
  (55, .invokevirtual 204, 3, [6, 122, 0, 760, 762, 14, 50, 763, 11]),
  (58, .ireturn, 1, []),
  (59, .aload_n 0, 1, []),
  (60, .getfield 30, 3, [298, 11, 0]),
  (63, .iload_n 1, 1, []),
  (64, .iload_n 2, 1, []),
  (65, .iload_n 3, 1, []),
  (66, .iload 4, 2, []),
  (68, .invokestatic 246, 3, [3, 4, 5, 852, 853, 62, 854]),
  (71, .ireturn, 1, [])]
def c_114 : List (Nat × Instr × Nat × List Int) := [
  (0, .iload_n 1, 1, []),
  (1, .ifCond .lt 19, 3, []),
  (4, .iload_n 1, 1, []),
  (5, .bipush 60, 2, []),
  (7, .if_icmp .gt 13, 3, []),
  (10, .iload_n 2, 1, []),
  (11, .ifCond .lt 9, 3, []),
  (14, .iload_n 2, 1, []),
  (15, .ldc 250, 2, [864, 0, 999999]),
  (17, .if_icmp .le 10, 3, []),
  (20, .aload_n 0, 1, []),
  (21, .bipush (-2), 2, []),
  (23, .invokevirtual 86, 3, [6, 121, 1, 351, 353, 0, 50, 354, 11]),
  (26, .ireturn, 1, []),
  (27, .aload_n 0, 1, []),
  (28, .getfield 30, 3, [298, 11, 0]),
  (31, .iload_n 1, 1, []),
  (32, .iload_n 2, 1, []),
  (33, .invokestatic 251, 3, [3, 6, 3, 865, 866, 62, 867]),
  (36, .ireturn, 1, [])]
def c_115 : List (Nat × Instr × Nat × List Int) := [
  (0, .iload_n 1, 1, []),
  (1, .lookupswitch 37 #[(0, 27), (1, 32)], 27, []),
  (28, .aload_n 0, 1, []),
  (29, .getfield 75, 3, [306, 11, 8]),
  (32, .lreturn, 1, []),
  (33, .aload_n 0, 1, []),
  (34, .getfield 79, 3, [307, 11, 9]),
  (37, .lreturn, 1, []),
  (38, .aload_n 0, 1, []),
  (39, .bipush (-2), 2, []),
  (41, .invokevirtual 86, 3, [6, 121, 1, 351, 353, 0, 50, 354, 11]),
  (44, .i2l, 1, []),
  (45, .lreturn, 1, [])]
def c_116 : List (Nat × Instr × Nat × List Int) := [
  (0, .aload_n 0, 1, []),
  (1, .iload_n 1, 1, []),
  (2, .invokevirtual 255, 3, [6, 123, 1, 883, 885, 21, 50, 886, 11]),
  (5, .ifCond .ne 10, 3, []),
  (8, .aload_n 0, 1, []),
  (9, .bipush (-2), 2, []),
  (11, .invokevirtual 86, 3, [6, 121, 1, 351, 353, 0, 50, 354, 11]),
  (14, .ireturn, 1, []),
  (15, .aload_n 0, 1, []),
  (16, .getfield 39, 3, [300, 11, 2]),
  (19, .iload_n 1, 1, []),
  (20, .aaload, 1, []),
  (21, .aload_n 0, 1, []),
  (22, .getfield 30, 3, [298, 11, 0]),
  (25, .invokevirtual 120, 3, [6, 9, 1, 530, 531, 532, 57, 533, 1]),
  (28, .aload_n 0, 1, []),
  (29, .getfield 43, 3, [301, 11, 3]),
  (32, .iload_n 1, 1, []),
  (33, .iconst 1, 1, []),
  (34, .bastore, 1, []),
  (35, .iconst 1, 1, []),
  (36, .ireturn, 1, [])]
def c_117 : List (Nat × Instr × Nat × List Int) := [
  (0, .aload_n 0, 1, []),
  (1, .iload_n 1, 1, []),
  (2, .invokevirtual 255, 3, [6, 123, 1, 883, 885, 21, 50, 886, 11]),
  (5, .ifCond .ne 10, 3, []),
  (8, .aload_n 0, 1, []),
  (9, .bipush (-2), 2, []),
  (11, .invokevirtual 86, 3, [6, 121, 1, 351, 353, 0, 50, 354, 11]),
  (14, .ireturn, 1, []),
  (15, .aload_n 0, 1, []),
  (16, .getfield 43, 3, [301, 11, 3]),
  (19, .iload_n 1, 1, []),
  (20, .baload, 1, []),
  (21, .ifCond .ne 10, 3, []),
  (24, .aload_n 0, 1, []),
  (25, .bipush (-3), 2, []),
  (27, .invokevirtual 86, 3, [6, 121, 1, 351, 353, 0, 50, 354, 11]),
  (30, .ireturn, 1, []),
  (31, .aload_n 0, 1, []),
  (32, .getfield 30, 3, [298, 11, 0]),
  (35, .aload_n 0, 1, []),
  (36, .getfield 39, 3, [300, 11, 2]),
  (39, .iload_n 1, 1, []),
  (40, .aaload, 1, []),
  (41, .invokevirtual 120, 3, [6, 9, 1, 530, 531, 532, 57, 533, 1]),
  (44, .iconst 1, 1, []),
  (45, .ireturn, 1, [])]
def c_118 : List (Nat × Instr × Nat × List Int) := [
  (0, .iload_n 1, 1, []),
  (1, .tableswitch 42 0 2 #[27, 32, 37], 27, []),
  (28, .aload_n 0, 1, []),
  (29, .getfield 258, 3, [308, 11, 10]),
  (32, .ireturn, 1, []),
  (33, .aload_n 0, 1, []),
  (34, .getfield 261, 3, [309, 11, 11]),
  (37, .ireturn, 1, []),
  (38, .aload_n 0, 1, []),
  (39, .getfield 264, 3, [310, 11, 12]),
  (42, .ireturn, 1, []),
  (43, .aload_n 0, 1, []),
  (44, .dup, 1, []),
  (45, .getfield 258, 3, [308, 11, 10]),
  (48, .iconst 1, 1, []),
  (49, .iadd, 1, []),
  (50, .putfield 258, 3, [308, 11, 10]),
  (53, .iconst (-1), 1, []),
  (54, .ireturn, 1, [])]
def c_119 : List (Nat × Instr × Nat × List Int) := [
  (0, .iload_n 1, 1, []),
  (1, .ifCond .lt 9, 3, []),
  (4, .iload_n 1, 1, []),
  (5, .bipush 8, 2, []),
  (7, .if_icmp .le 10, 3, []),
  (10, .aload_n 0, 1, []),
  (11, .bipush (-2), 2, []),
  (13, .invokevirtual 86, 3, [6, 121, 1, 351, 353, 0, 50, 354, 11]),
  (16, .ireturn, 1, []),
  (17, .iload_n 1, 1, []),
  (18, .bipush 7, 2, []),
  (20, .if_icmp .ne 13, 3, []),
  (23, .aload_n 0, 1, []),
  (24, .getfield 71, 3, [305, 11, 7]),
  (27, .getfield 267, 3, [276, 6, 0]),
  (30, .goto 11, 3, []),
  (33, .aload_n 0, 1, []),
  (34, .getfield 30, 3, [298, 11, 0]),
  (37, .iload_n 1, 1, []),
  (38, .invokevirtual 270, 3, [6, 30, 1, 899, 900, 901, 57, 902, 1]),
  (41, .ireturn, 1, [])]
def c_120 : List (Nat × Instr × Nat × List Int) := [
  (0, .ldc2_w 273, 3, [907, 881]),
  (3, .lstore_n 1, 1, []),
  (4, .iconst 0, 1, []),
  (5, .istore_n 3, 1, []),
  (6, .iload_n 3, 1, []),
  (7, .bipush 8, 2, []),
  (9, .if_icmp .gt 41, 3, []),
  (12, .ldc2_w 275, 3, [908, 31]),
  (15, .lload_n 1, 1, []),
  (16, .lmul, 1, []),
  (17, .iload_n 3, 1, []),
  (18, .bipush 7, 2, []),
  (20, .if_icmp .ne 13, 3, []),
  (23, .aload_n 0, 1, []),
  (24, .getfield 71, 3, [305, 11, 7]),
  (27, .getfield 267, 3, [276, 6, 0]),
  (30, .goto 11, 3, []),
  (33, .aload_n 0, 1, []),
  (34, .getfield 30, 3, [298, 11, 0]),
  (37, .iload_n 3, 1, []),
  (38, .invokevirtual 270, 3, [6, 30, 1, 899, 900, 901, 57, 902, 1]),
  (41, .i2l, 1, []),
  (42, .ladd, 1, []),
  (43, .lstore_n 1, 1, []),
  (44, .iinc 3 1, 3, []),
  (47, .goto (-41), 3, []),
  (50, .aload_n 0, 1, []),
  (51, .getfield 30, 3, [298, 11, 0]),
  (54, .lload_n 1, 1, []),
  (55, .invokevirtual 277, 3, [6, 31, 1, 909, 910, 911, 57, 912, 1]),
  (58, .lstore_n 1, 1, []),
  (59, .ldc2_w 275, 3, [908, 31]),
  (62, .lload_n 1, 1, []),
  (63, .lmul, 1, []),
  (64, .aload_n 0, 1, []),
  (65, .getfield 75, 3, [306, 11, 8]),
  (68, .ladd, 1, []),
  (69, .lstore_n 1, 1, []),
  (70, .ldc2_w 275, 3, [908, 31]),
  (73, .lload_n 1, 1, []),
  (74, .lmul, 1, []),
  (75, .aload_n 0, 1, []),
  (76, .getfield 79, 3, [307, 11, 9]),
  (79, .ladd, 1, []),
  (80, .lreturn, 1, [])]
def c_121 : List (Nat × Instr × Nat × List Int) := [
  (0, .iload_n 1, 1, []),
  (1, .bipush (-2), 2, []),
  (3, .if_icmp .ne 16, 3, []),
  (6, .aload_n 0, 1, []),
  (7, .dup, 1, []),
  (8, .getfield 258, 3, [308, 11, 10]),
  (11, .iconst 1, 1, []),
  (12, .iadd, 1, []),
  (13, .putfield 258, 3, [308, 11, 10]),
  (16, .goto 38, 3, []),
  (19, .iload_n 1, 1, []),
  (20, .bipush (-3), 2, []),
  (22, .if_icmp .ne 16, 3, []),
  (25, .aload_n 0, 1, []),
  (26, .dup, 1, []),
  (27, .getfield 261, 3, [309, 11, 11]),
  (30, .iconst 1, 1, []),
  (31, .iadd, 1, []),
  (32, .putfield 261, 3, [309, 11, 11]),
  (35, .goto 19, 3, []),
  (38, .iload_n 1, 1, []),
  (39, .bipush (-4), 2, []),
  (41, .if_icmp .ne 13, 3, []),
  (44, .aload_n 0, 1, []),
  (45, .dup, 1, []),
  (46, .getfield 264, 3, [310, 11, 12]),
  (49, .iconst 1, 1, []),
  (50, .iadd, 1, []),
  (51, .putfield 264, 3, [310, 11, 12]),
  (54, .iload_n 1, 1, []),
  (55, .ireturn, 1, [])]
def c_122 : List (Nat × Instr × Nat × List Int) := [
  (0, .aload_n 0, 1, []),
  (1, .dup, 1, []),
  (2, .getfield 258, 3, [308, 11, 10]),
  (5, .iconst 1, 1, []),
  (6, .iadd, 1, []),
  (7, .putfield 258, 3, [308, 11, 10]),
  (10, .bipush (-10), 2, []),
  (12, .ireturn, 1, [])]
def c_123 : List (Nat × Instr × Nat × List Int) := [
  (0, .iload_n 1, 1, []),
  (1, .ifCond .lt 34, 3, []),
  (4, .iload_n 1, 1, []),
  (5, .aload_n 0, 1, []),
  (6, .getfield 39, 3, [300, 11, 2]),
  (9, .arraylength, 1, []),
  (10, .if_icmp .ge 25, 3, []),
  (13, .iload_n 1, 1, []),
  (14, .aload_n 0, 1, []),
  (15, .getfield 43, 3, [301, 11, 3]),
  (18, .arraylength, 1, []),
  (19, .if_icmp .ge 16, 3, []),
  (22, .aload_n 0, 1, []),
  (23, .getfield 39, 3, [300, 11, 2]),
  (26, .iload_n 1, 1, []),
  (27, .aaload, 1, []),
  (28, .ifnull 7, 3, []),
  (31, .iconst 1, 1, []),
  (32, .goto 4, 3, []),
  (35, .iconst 0, 1, []),
  (36, .ireturn, 1, [])]
def c_124 : List (Nat × Instr × Nat × List Int) := [
  (0, .lload_n 1, 1, []),
  (1, .ldc2_w 281, 3, [657, 100000000000000]),
  (4, .invokestatic 283, 3, [3, 125, 2, 658, 659, 50, 660]),
  (7, .lstore_n 3, 1, []),
  (8, .lload_n 3, 1, []),
  (9, .lconst 0, 1, []),
  (10, .lcmp, 1, []),
  (11, .ifCond .le 19, 3, []),
  (14, .aload_n 0, 1, []),
  (15, .lload_n 1, 1, []),
  (16, .lload_n 3, 1, []),
  (17, .ldiv, 1, []),
  (18, .putfield 75, 3, [306, 11, 8]),
  (21, .aload_n 0, 1, []),
  (22, .ldc2_w 281, 3, [657, 100000000000000]),
  (25, .lload_n 3, 1, []),
  (26, .ldiv, 1, []),
  (27, .putfield 79, 3, [307, 11, 9]),
  (30, .return_, 1, [])]
def c_125 : List (Nat × Instr × Nat × List Int) := [
  (0, .lload_n 0, 1, []),
  (1, .lstore 4, 2, []),
  (3, .lload_n 2, 1, []),
  (4, .lstore 6, 2, []),
  (6, .iconst 0, 1, []),
  (7, .istore 8, 2, []),
  (9, .iload 8, 2, []),
  (11, .sipush 200, 3, []),
  (14, .if_icmp .ge 31, 3, []),
  (17, .lload 6, 2, []),
  (19, .lconst 0, 1, []),
  (20, .lcmp, 1, []),
  (21, .ifCond .eq 24, 3, []),
  (24, .lload 4, 2, []),
  (26, .lload 6, 2, []),
  (28, .lrem, 1, []),
  (29, .lstore 9, 2, []),
  (31, .lload 6, 2, []),
  (33, .lstore 4, 2, []),
  (35, .lload 9, 2, []),
  (37, .lstore 6, 2, []),
  (39, .iinc 8 1, 3, []),
  (42, .goto (-33), 3, []),
  (45, .lload 4, 2, []),
  (47, .lreturn, 1, [])]
def c_126 : List (Nat × Instr × Nat × List Int) := [
  (0, .lload_n 0, 1, []),
  (1, .lload_n 2, 1, []),
  (2, .lcmp, 1, []),
  (3, .ifCond .ne 5, 3, []),
  (6, .iconst 0, 1, []),
  (7, .ireturn, 1, []),
  (8, .lload_n 0, 1, []),
  (9, .lload_n 2, 1, []),
  (10, .lcmp, 1, []),
  (11, .ifCond .le 7, 3, []),
  (14, .iconst 1, 1, []),
  (15, .goto 4, 3, []),
  (18, .iconst (-1), 1, []),
  (19, .ireturn, 1, [])]
def c_127 : List (Nat × Instr × Nat × List Int) := [
  (0, .iload_n 1, 1, []),
  (1, .ifCond .lt 15, 3, []),
  (4, .iload_n 1, 1, []),
  (5, .aload_n 0, 1, []),
  (6, .arraylength, 1, []),
  (7, .if_icmp .ge 9, 3, []),
  (10, .aload_n 0, 1, []),
  (11, .iload_n 1, 1, []),
  (12, .iaload, 1, []),
  (13, .goto 4, 3, []),
  (16, .iconst 0, 1, []),
  (17, .ireturn, 1, [])]
def c_128 : List (Nat × Instr × Nat × List Int) := [
  (0, .iload_n 1, 1, []),
  (1, .ifCond .lt 13, 3, []),
  (4, .iload_n 1, 1, []),
  (5, .aload_n 0, 1, []),
  (6, .arraylength, 1, []),
  (7, .if_icmp .ge 7, 3, []),
  (10, .aload_n 0, 1, []),
  (11, .iload_n 1, 1, []),
  (12, .iload_n 2, 1, []),
  (13, .iastore, 1, []),
  (14, .return_, 1, [])]
def c_129 : List (Nat × Instr × Nat × List Int) := [
  (0, .aload_n 0, 1, []),
  (1, .iconst 0, 1, []),
  (2, .aload_n 1, 1, []),
  (3, .iconst 0, 1, []),
  (4, .aload_n 0, 1, []),
  (5, .arraylength, 1, []),
  (6, .aload_n 1, 1, []),
  (7, .arraylength, 1, []),
  (8, .invokestatic 287, 3, [10, 135, 136, 58, 137]),
  (11, .invokestatic 292, 3, [5, 138, 140, 139, 59]),
  (14, .return_, 1, [])]
def c_130 : List (Nat × Instr × Nat × List Int) := [
  (0, .iload_n 0, 1, []),
  (1, .iload_n 1, 1, []),
  (2, .ishr, 1, []),
  (3, .iconst 1, 1, []),
  (4, .iand, 1, []),
  (5, .iconst 1, 1, []),
  (6, .if_icmp .ne 7, 3, []),
  (9, .iconst 1, 1, []),
  (10, .goto 4, 3, []),
  (13, .iconst 0, 1, []),
  (14, .ireturn, 1, [])]
def c_131 : List (Nat × Instr × Nat × List Int) := [
  (0, .lload_n 0, 1, []),
  (1, .lload_n 2, 1, []),
  (2, .lcmp, 1, []),
  (3, .ifCond .lt 14, 3, []),
  (6, .lload_n 0, 1, []),
  (7, .lload 4, 2, []),
  (9, .lcmp, 1, []),
  (10, .ifCond .gt 7, 3, []),
  (13, .iconst 1, 1, []),
  (14, .goto 4, 3, []),
  (17, .iconst 0, 1, []),
  (18, .ireturn, 1, [])]
def c_132 : List (Nat × Instr × Nat × List Int) := [
  (0, .iload_n 0, 1, []),
  (1, .iload_n 1, 1, []),
  (2, .if_icmp .le 7, 3, []),
  (5, .iload_n 0, 1, []),
  (6, .goto 4, 3, []),
  (9, .iload_n 1, 1, []),
  (10, .ireturn, 1, [])]
def c_133 : List (Nat × Instr × Nat × List Int) := [
  (0, .aload_n 0, 1, []),
  (1, .invokespecial 1, 3, [0, 922, 75, 76]),
  (4, .aload_n 0, 1, []),
  (5, .bipush 87, 2, []),
  (7, .newarray .int, 2, [212, 0]),
  (9, .putfield 7, 3, [927, 12, 0]),
  (12, .aload_n 0, 1, []),
  (13, .sipush 174, 3, []),
  (16, .newarray .int, 2, [212, 0]),
  (18, .putfield 13, 3, [928, 12, 1]),
  (21, .aload_n 0, 1, []),
  (22, .iconst 2, 1, []),
  (23, .newarray .boolean, 2, [238, 2]),
  (25, .putfield 16, 3, [929, 12, 2]),
  (28, .aload_n 0, 1, []),
  (29, .bipush 87, 2, []),
  (31, .newarray .int, 2, [212, 0]),
  (33, .putfield 20, 3, [930, 12, 3]),
  (36, .aload_n 0, 1, []),
  (37, .iconst 3, 1, []),
  (38, .newarray .int, 2, [212, 0]),
  (40, .putfield 23, 3, [931, 12, 4]),
  (43, .aload_n 0, 1, []),
  (44, .sipush 150, 3, []),
  (47, .newarray .int, 2, [212, 0]),
  (49, .putfield 26, 3, [935, 12, 8]),
  (52, .aload_n 0, 1, []),
  (53, .sipush 200, 3, []),
  (56, .newarray .int, 2, [212, 0]),
  (58, .putfield 29, 3, [941, 12, 14]),
  (61, .aload_n 0, 1, []),
  (62, .sipush 546, 3, []),
  (65, .newarray .long, 2, [239, 1]),
  (67, .putfield 32, 3, [943, 12, 16]),
  (70, .aload_n 0, 1, []),
  (71, .bipush 7, 2, []),
  (73, .newarray .int, 2, [212, 0]),
  (75, .putfield 36, 3, [945, 12, 18]),
  (78, .aload_n 0, 1, []),
  (79, .bipush 7, 2, []),
  (81, .newarray .int, 2, [212, 0]),
  (83, .putfield 39, 3, [946, 12, 19]),
  (86, .aload_n 0, 1, []),
  (87, .bipush 7, 2, []),
  (89, .newarray .int, 2, [212, 0]),
  (91, .putfield 42, 3, [947, 12, 20]),
  (94, .aload_n 0, 1, []),
  (95, .lconst 1, 1, []),
  (96, .putfield 45, 3, [934, 12, 7]),
  (99, .aload_n 0, 1, []),
  (100, .invokevirtual 49, 3, [6, 134, 0, 923, 925, 22, 64, 926, 12]),
  (103, .return_, 1, [])]
def c_134 : List (Nat × Instr × Nat × List Int) := [
  (0, .iconst 0, 1, []),
  (1, .istore_n 1, 1, []),
  (2, .iload_n 1, 1, []),
  (3, .bipush 87, 2, []),
  (5, .if_icmp .ge 16, 3, []),
  (8, .aload_n 0, 1, []),
  (9, .getfield 7, 3, [927, 12, 0]),
  (12, .iload_n 1, 1, []),
  (13, .iconst 0, 1, []),
  (14, .iastore, 1, []),
  (15, .iinc 1 1, 3, []),
  (18, .goto (-16), 3, []),
  (21, .aload_n 0, 1, []),
  (22, .getfield 7, 3, [927, 12, 0]),
  (25, .bipush 8, 2, []),
  (27, .iconst 2, 1, []),
  (28, .iastore, 1, []),
  (29, .aload_n 0, 1, []),
  (30, .getfield 7, 3, [927, 12, 0]),
  (33, .bipush 10, 2, []),
  (35, .iconst 1, 1, []),
  (36, .iastore, 1, []),
  (37, .aload_n 0, 1, []),
  (38, .getfield 7, 3, [927, 12, 0]),
  (41, .bipush 11, 2, []),
  (43, .bipush 6, 2, []),
  (45, .iastore, 1, []),
  (46, .iconst 0, 1, []),
  (47, .istore_n 1, 1, []),
  (48, .iload_n 1, 1, []),
  (49, .iconst 5, 1, []),
  (50, .if_icmp .gt 21, 3, []),
  (53, .aload_n 0, 1, []),
  (54, .getfield 7, 3, [927, 12, 0]),
  (57, .bipush 12, 2, []),
  (59, .iload_n 1, 1, []),
  (60, .iadd, 1, []),
  (61, .iload_n 1, 1, []),
  (62, .iconst 2, 1, []),
  (63, .iadd, 1, []),
  (64, .iastore, 1, []),
  (65, .iinc 1 1, 3, []),
  (68, .goto (-20), 3, []),
  (71, .return_, 1, [])]
def c_135 : List (Nat × Instr × Nat × List Int) := [
  (0, .aload_n 0, 1, []),
  (1, .getfield 23, 3, [931, 12, 4]),
  (4, .iload_n 1, 1, []),
  (5, .dup2, 1, []),
  (6, .iaload, 1, []),
  (7, .aload_n 0, 1, []),
  (8, .getfield 52, 3, [932, 12, 5]),
  (11, .ifCond .eq 7, 3, []),
  (14, .iconst 0, 1, []),
  (15, .goto 4, 3, []),
  (18, .iconst 1, 1, []),
  (19, .iadd, 1, []),
  (20, .iastore, 1, []),
  (21, .iload_n 2, 1, []),
  (22, .ireturn, 1, [])]
def c_136 : List (Nat × Instr × Nat × List Int) := [
  (0, .aload_n 0, 1, []),
  (1, .iconst 0, 1, []),
  (2, .bipush (-2), 2, []),
  (4, .invokevirtual 56, 3, [6, 135, 2, 1007, 1009, 25, 64, 1010, 12]),
  (7, .ireturn, 1, [])]
def c_137 : List (Nat × Instr × Nat × List Int) := [
  (0, .aload_n 0, 1, []),
  (1, .iconst 1, 1, []),
  (2, .bipush (-3), 2, []),
  (4, .invokevirtual 56, 3, [6, 135, 2, 1007, 1009, 25, 64, 1010, 12]),
  (7, .ireturn, 1, [])]
def c_138 : List (Nat × Instr × Nat × List Int) := [
  (0, .aload_n 0, 1, []),
  (1, .iconst 2, 1, []),
  (2, .bipush (-4), 2, []),
  (4, .invokevirtual 56, 3, [6, 135, 2, 1007, 1009, 25, 64, 1010, 12]),
  (7, .ireturn, 1, [])]
def c_139 : List (Nat × Instr × Nat × List Int) := [
  (0, .aload_n 0, 1, []),
  (1, .getfield 7, 3, [927, 12, 0]),
  (4, .iload_n 1, 1, []),
  (5, .iaload, 1, []),
  (6, .istore_n 3, 1, []),
  (7, .aload_n 0, 1, []),
  (8, .getfield 7, 3, [927, 12, 0]),
  (11, .iload_n 1, 1, []),
  (12, .iload_n 2, 1, []),
  (13, .iastore, 1, []),
  (14, .iload_n 3, 1, []),
  (15, .ireturn, 1, [])]
def c_140 : List (Nat × Instr × Nat × List Int) := [
  (0, .iload_n 1, 1, []),
  (1, .i2l, 1, []),
  (2, .lconst 0, 1, []),
  (3, .aload_n 0, 1, []),
  (4, .getfield 7, 3, [927, 12, 0]),
  (7, .iconst 0, 1, []),
  (8, .iaload, 1, []),
  (9, .iconst 1, 1, []),
  (10, .isub, 1, []),
  (11, .i2l, 1, []),
  (12, .invokestatic 60, 3, [3, 131, 3, 996, 997, 64, 998]),
  (15, .ireturn, 1, [])]
def c_141 : List (Nat × Instr × Nat × List Int) := [
  (0, .iload_n 1, 1, []),
  (1, .iconst 2, 1, []),
  (2, .if_icmp .ge 8, 3, []),
  (5, .bipush 9, 2, []),
  (7, .goto 14, 3, []),
  (10, .iload_n 1, 1, []),
  (11, .iconst 2, 1, []),
  (12, .if_icmp .ne 7, 3, []),
  (15, .iconst 3, 1, []),
  (16, .goto 5, 3, []),
  (19, .bipush 12, 2, []),
  (21, .istore_n 3, 1, []),
  (22, .iload_n 1, 1, []),
  (23, .i2l, 1, []),
  (24, .lconst 0, 1, []),
  (25, .ldc2_w 64, 3, [995, 3]),
  (28, .invokestatic 60, 3, [3, 131, 3, 996, 997, 64, 998]),
  (31, .ifCond .eq 41, 3, []),
  (34, .iload_n 2, 1, []),
  (35, .i2l, 1, []),
  (36, .iload_n 1, 1, []),
  (37, .iconst 3, 1, []),
  (38, .if_icmp .ne 13, 3, []),
  (41, .aload_n 0, 1, []),
  (42, .getfield 7, 3, [927, 12, 0]),
  (45, .iconst 3, 1, []),
  (46, .iaload, 1, []),
  (47, .i2l, 1, []),
  (48, .goto 4, 3, []),
  (51, .lconst 0, 1, []),
  (52, .iload_n 3, 1, []),
  (53, .i2l, 1, []),
  (54, .invokestatic 60, 3, [3, 131, 3, 996, 997, 64, 998]),
  (57, .ifCond .eq 15, 3, []),
  (60, .aload_n 0, 1, []),
  (61, .bipush 8, 2, []),
  (63, .iload_n 1, 1, []),
  (64, .iadd, 1, []),
  (65, .iload_n 2, 1, []),
  (66, .invokevirtual 66, 3, [6, 139, 2, 999, 1001, 23, 64, 1002, 12]),
  (69, .goto 7, 3, []),
  (72, .aload_n 0, 1, []),
  (73, .invokevirtual 69, 3, [6, 136, 0, 1003, 1005, 24, 64, 1006, 12]),
  (76, .ireturn, 1, [])]
def c_142 : List (Nat × Instr × Nat × List Int) := [
  (0, .iload_n 1, 1, []),
  (1, .i2l, 1, []),
  (2, .lconst 0, 1, []),
  (3, .ldc2_w 73, 3, [1015, 5]),
  (6, .invokestatic 60, 3, [3, 131, 3, 996, 997, 64, 998]),
  (9, .ifCond .eq 27, 3, []),
  (12, .iload_n 2, 1, []),
  (13, .i2l, 1, []),
  (14, .lconst 0, 1, []),
  (15, .ldc2_w 75, 3, [1016, 10]),
  (18, .invokestatic 60, 3, [3, 131, 3, 996, 997, 64, 998]),
  (21, .ifCond .eq 15, 3, []),
  (24, .aload_n 0, 1, []),
  (25, .bipush 12, 2, []),
  (27, .iload_n 1, 1, []),
  (28, .iadd, 1, []),
  (29, .iload_n 2, 1, []),
  (30, .invokevirtual 66, 3, [6, 139, 2, 999, 1001, 23, 64, 1002, 12]),
  (33, .goto 7, 3, []),
  (36, .aload_n 0, 1, []),
  (37, .invokevirtual 69, 3, [6, 136, 0, 1003, 1005, 24, 64, 1006, 12]),
  (40, .ireturn, 1, [])]
def c_143 : List (Nat × Instr × Nat × List Int) := [
  (0, .iload_n 1, 1, []),
  (1, .i2l, 1, []),
  (2, .lconst 0, 1, []),
  (3, .ldc2_w 73, 3, [1015, 5]),
  (6, .invokestatic 60, 3, [3, 131, 3, 996, 997, 64, 998]),
  (9, .ifCond .eq 27, 3, []),
  (12, .iload_n 2, 1, []),
  (13, .i2l, 1, []),
  (14, .lconst 0, 1, []),
  (15, .ldc2_w 75, 3, [1016, 10]),
  (18, .invokestatic 60, 3, [3, 131, 3, 996, 997, 64, 998]),
  (21, .ifCond .eq 15, 3, []),
  (24, .iload_n 3, 1, []),
  (25, .i2l, 1, []),
  (26, .lconst 1, 1, []),
  (27, .ldc2_w 77, 3, [1021, 9]),
  (30, .invokestatic 60, 3, [3, 131, 3, 996, 997, 64, 998]),
  (33, .ifCond .ne 8, 3, []),
  (36, .aload_n 0, 1, []),
  (37, .invokevirtual 69, 3, [6, 136, 0, 1003, 1005, 24, 64, 1006, 12]),
  (40, .ireturn, 1, []),
  (41, .aload_n 0, 1, []),
  (42, .getfield 7, 3, [927, 12, 0]),
  (45, .iconst 0, 1, []),
  (46, .iaload, 1, []),
  (47, .bipush 6, 2, []),
  (49, .if_icmp .ne 8, 3, []),
  (52, .aload_n 0, 1, []),
  (53, .invokevirtual 79, 3, [6, 138, 0, 1022, 1024, 26, 64, 1025, 12]),
  (56, .ireturn, 1, []),
  (57, .bipush 18, 2, []),
  (59, .iconst 3, 1, []),
  (60, .aload_n 0, 1, []),
  (61, .getfield 7, 3, [927, 12, 0]),
  (64, .iconst 0, 1, []),
  (65, .iaload, 1, []),
  (66, .imul, 1, []),
  (67, .iadd, 1, []),
  (68, .istore 4, 2, []),
  (70, .aload_n 0, 1, []),
  (71, .getfield 7, 3, [927, 12, 0]),
  (74, .iload 4, 2, []),
  (76, .iload_n 1, 1, []),
  (77, .iastore, 1, []),
  (78, .aload_n 0, 1, []),
  (79, .getfield 7, 3, [927, 12, 0]),
  (82, .iload 4, 2, []),
  (84, .iconst 1, 1, []),
  (85, .iadd, 1, []),
  (86, .iload_n 2, 1, []),
  (87, .iastore, 1, []),
  (88, .aload_n 0, 1, []),
  (89, .getfield 7, 3, [927, 12, 0]),
  (92, .iload 4, 2, []),
  (94, .iconst 2, 1, []),
  (95, .iadd, 1, []),
  (96, .iload_n 3, 1, []),
  (97, .iastore, 1, []),
  (98, .aload_n 0, 1, []),
  (99, .getfield 7, 3, [927, 12, 0]),
  (102, .iconst 0, 1, []),
  (103, .dup2, 1, []),
  (104, .iaload, 1, []),
  (105, .iconst 1, 1, []),
  (106, .iadd, 1, []),
  (107, .iastore, 1, []),
  (108, .aload_n 0, 1, []),
  (109, .getfield 7, 3, [927, 12, 0]),
  (112, .iconst 0, 1, []),
  (113, .iaload, 1, []),
  (114, .iconst 1, 1, []),
  (115, .isub, 1, []),
  (116, .ireturn, 1, [])]
def c_144 : List (Nat × Instr × Nat × List Int) := [
  (0, .iload_n 1, 1, []),
  (1, .i2l, 1, []),
  (2, .lconst 1, 1, []),
  (3, .ldc2_w 77, 3, [1021, 9]),
  (6, .invokestatic 60, 3, [3, 131, 3, 996, 997, 64, 998]),
  (9, .ifCond .eq 23, 3, []),
  (12, .iload_n 2, 1, []),
  (13, .i2l, 1, []),
  (14, .lconst 0, 1, []),
  (15, .iconst 1, 1, []),
  (16, .aload_n 0, 1, []),
  (17, .getfield 7, 3, [927, 12, 0]),
  (20, .iconst 4, 1, []),
  (21, .iaload, 1, []),
  (22, .ishl, 1, []),
  (23, .iconst 1, 1, []),
  (24, .isub, 1, []),
  (25, .i2l, 1, []),
  (26, .invokestatic 60, 3, [3, 131, 3, 996, 997, 64, 998]),
  (29, .ifCond .ne 8, 3, []),
  (32, .aload_n 0, 1, []),
  (33, .invokevirtual 69, 3, [6, 136, 0, 1003, 1005, 24, 64, 1006, 12]),
  (36, .ireturn, 1, []),
  (37, .aload_n 0, 1, []),
  (38, .getfield 7, 3, [927, 12, 0]),
  (41, .iconst 4, 1, []),
  (42, .iaload, 1, []),
  (43, .bipush 7, 2, []),
  (45, .if_icmp .ne 8, 3, []),
  (48, .aload_n 0, 1, []),
  (49, .invokevirtual 79, 3, [6, 138, 0, 1022, 1024, 26, 64, 1025, 12]),
  (52, .ireturn, 1, []),
  (53, .aload_n 0, 1, []),
  (54, .getfield 7, 3, [927, 12, 0]),
  (57, .bipush 36, 2, []),
  (59, .iconst 2, 1, []),
  (60, .aload_n 0, 1, []),
  (61, .getfield 7, 3, [927, 12, 0]),
  (64, .iconst 4, 1, []),
  (65, .iaload, 1, []),
  (66, .imul, 1, []),
  (67, .iadd, 1, []),
  (68, .iload_n 1, 1, []),
  (69, .iastore, 1, []),
  (70, .aload_n 0, 1, []),
  (71, .getfield 7, 3, [927, 12, 0]),
  (74, .bipush 36, 2, []),
  (76, .iconst 2, 1, []),
  (77, .aload_n 0, 1, []),
  (78, .getfield 7, 3, [927, 12, 0]),
  (81, .iconst 4, 1, []),
  (82, .iaload, 1, []),
  (83, .imul, 1, []),
  (84, .iadd, 1, []),
  (85, .iconst 1, 1, []),
  (86, .iadd, 1, []),
  (87, .iload_n 2, 1, []),
  (88, .iastore, 1, []),
  (89, .aload_n 0, 1, []),
  (90, .getfield 7, 3, [927, 12, 0]),
  (93, .iconst 4, 1, []),
  (94, .dup2, 1, []),
  (95, .iaload, 1, []),
  (96, .iconst 1, 1, []),
  (97, .iadd, 1, []),
  (98, .iastore, 1, []),
  (99, .aload_n 0, 1, []),
  (100, .getfield 7, 3, [927, 12, 0]),
  (103, .iconst 4, 1, []),
  (104, .iaload, 1, []),
  (105, .iconst 1, 1, []),
  (106, .isub, 1, []),
  (107, .ireturn, 1, [])]
def c_145 : List (Nat × Instr × Nat × List Int) := [
  (0, .iload_n 1, 1, []),
  (1, .i2l, 1, []),
  (2, .lconst 0, 1, []),
  (3, .ldc2_w 82, 3, [1034, 18]),
  (6, .invokestatic 60, 3, [3, 131, 3, 996, 997, 64, 998]),
  (9, .ifCond .ne 8, 3, []),
  (12, .aload_n 0, 1, []),
  (13, .invokevirtual 69, 3, [6, 136, 0, 1003, 1005, 24, 64, 1006, 12]),
  (16, .ireturn, 1, []),
  (17, .aload_n 0, 1, []),
  (18, .getfield 7, 3, [927, 12, 0]),
  (21, .iconst 5, 1, []),
  (22, .iaload, 1, []),
  (23, .iconst 5, 1, []),
  (24, .if_icmp .ne 8, 3, []),
  (27, .aload_n 0, 1, []),
  (28, .invokevirtual 79, 3, [6, 138, 0, 1022, 1024, 26, 64, 1025, 12]),
  (31, .ireturn, 1, []),
  (32, .aload_n 0, 1, []),
  (33, .getfield 7, 3, [927, 12, 0]),
  (36, .bipush 50, 2, []),
  (38, .aload_n 0, 1, []),
  (39, .getfield 7, 3, [927, 12, 0]),
  (42, .iconst 5, 1, []),
  (43, .iaload, 1, []),
  (44, .iadd, 1, []),
  (45, .iload_n 1, 1, []),
  (46, .iastore, 1, []),
  (47, .aload_n 0, 1, []),
  (48, .getfield 7, 3, [927, 12, 0]),
  (51, .iconst 5, 1, []),
  (52, .dup2, 1, []),
  (53, .iaload, 1, []),
  (54, .iconst 1, 1, []),
  (55, .iadd, 1, []),
  (56, .iastore, 1, []),
  (57, .aload_n 0, 1, []),
  (58, .getfield 7, 3, [927, 12, 0]),
  (61, .iconst 5, 1, []),
  (62, .iaload, 1, []),
  (63, .ireturn, 1, [])]
def c_146 : List (Nat × Instr × Nat × List Int) := [
  (0, .iload_n 1, 1, []),
  (1, .i2l, 1, []),
  (2, .lconst 0, 1, []),
  (3, .lconst 1, 1, []),
  (4, .invokestatic 60, 3, [3, 131, 3, 996, 997, 64, 998]),
  (7, .ifCond .eq 20, 3, []),
  (10, .aload_n 0, 1, []),
  (11, .iload_n 1, 1, []),
  (12, .ifCond .ne 7, 3, []),
  (15, .iconst 4, 1, []),
  (16, .goto 4, 3, []),
  (19, .iconst 5, 1, []),
  (20, .iconst 0, 1, []),
  (21, .invokevirtual 66, 3, [6, 139, 2, 999, 1001, 23, 64, 1002, 12]),
  (24, .goto 7, 3, []),
  (27, .aload_n 0, 1, []),
  (28, .invokevirtual 69, 3, [6, 136, 0, 1003, 1005, 24, 64, 1006, 12]),
  (31, .ireturn, 1, [])]
def c_147 : List (Nat × Instr × Nat × List Int) := [
  (0, .iload_n 1, 1, []),
  (1, .i2l, 1, []),
  (2, .lconst 0, 1, []),
  (3, .ldc2_w 84, 3, [1043, 127]),
  (6, .invokestatic 60, 3, [3, 131, 3, 996, 997, 64, 998]),
  (9, .ifCond .ne 8, 3, []),
  (12, .aload_n 0, 1, []),
  (13, .invokevirtual 69, 3, [6, 136, 0, 1003, 1005, 24, 64, 1006, 12]),
  (16, .ireturn, 1, []),
  (17, .aload_n 0, 1, []),
  (18, .getfield 86, 3, [936, 12, 9]),
  (21, .sipush 150, 3, []),
  (24, .if_icmp .ne 8, 3, []),
  (27, .aload_n 0, 1, []),
  (28, .invokevirtual 79, 3, [6, 138, 0, 1022, 1024, 26, 64, 1025, 12]),
  (31, .ireturn, 1, []),
  (32, .aload_n 0, 1, []),
  (33, .getfield 26, 3, [935, 12, 8]),
  (36, .aload_n 0, 1, []),
  (37, .getfield 86, 3, [936, 12, 9]),
  (40, .iload_n 1, 1, []),
  (41, .iastore, 1, []),
  (42, .aload_n 0, 1, []),
  (43, .dup, 1, []),
  (44, .getfield 86, 3, [936, 12, 9]),
  (47, .iconst 1, 1, []),
  (48, .iadd, 1, []),
  (49, .putfield 86, 3, [936, 12, 9]),
  (52, .aload_n 0, 1, []),
  (53, .getfield 86, 3, [936, 12, 9]),
  (56, .ireturn, 1, [])]
def c_148 : List (Nat × Instr × Nat × List Int) := [
  (0, .aload_n 0, 1, []),
  (1, .getfield 86, 3, [936, 12, 9]),
  (4, .istore_n 1, 1, []),
  (5, .aload_n 0, 1, []),
  (6, .iconst 0, 1, []),
  (7, .putfield 86, 3, [936, 12, 9]),
  (10, .iload_n 1, 1, []),
  (11, .ireturn, 1, [])]
def c_149 : List (Nat × Instr × Nat × List Int) := [
  (0, .aload_n 0, 1, []),
  (1, .getfield 90, 3, [937, 12, 10]),
  (4, .aload_n 0, 1, []),
  (5, .getfield 86, 3, [936, 12, 9]),
  (8, .if_icmp .ge 27, 3, []),
  (11, .aload_n 0, 1, []),
  (12, .getfield 26, 3, [935, 12, 8]),
  (15, .aload_n 0, 1, []),
  (16, .getfield 90, 3, [937, 12, 10]),
  (19, .iaload, 1, []),
  (20, .i2l, 1, []),
  (21, .iload_n 1, 1, []),
  (22, .i2l, 1, []),
  (23, .iload_n 2, 1, []),
  (24, .i2l, 1, []),
  (25, .invokestatic 60, 3, [3, 131, 3, 996, 997, 64, 998]),
  (28, .ifCond .eq 7, 3, []),
  (31, .iconst 1, 1, []),
  (32, .goto 4, 3, []),
  (35, .iconst 0, 1, []),
  (36, .ireturn, 1, [])]
def c_150 : List (Nat × Instr × Nat × List Int) := [
  (0, .lload_n 0, 1, []),
  (1, .ldc2_w 93, 3, [1069, 763332]),
  (4, .lcmp, 1, []),
  (5, .ifCond .ne 7, 3, []),
  (8, .iconst 0, 1, []),
  (9, .goto 40, 3, []),
  (12, .lload_n 0, 1, []),
  (13, .ldc2_w 95, 3, [1070, 20675186866]),
  (16, .lcmp, 1, []),
  (17, .ifCond .ne 7, 3, []),
  (20, .iconst 1, 1, []),
  (21, .goto 28, 3, []),
  (24, .lload_n 0, 1, []),
  (25, .ldc2_w 97, 3, [1071, 23732]),
  (28, .lcmp, 1, []),
  (29, .ifCond .ne 7, 3, []),
  (32, .iconst 2, 1, []),
  (33, .goto 16, 3, []),
  (36, .lload_n 0, 1, []),
  (37, .ldc2_w 99, 3, [1072, 5572]),
  (40, .lcmp, 1, []),
  (41, .ifCond .ne 7, 3, []),
  (44, .iconst 3, 1, []),
  (45, .goto 4, 3, []),
  (48, .iconst (-1), 1, []),
  (49, .istore_n 2, 1, []),
  (50, .lload_n 0, 1, []),
  (51, .ldc2_w 101, 3, [1073, 3197529]),
  (54, .lcmp, 1, []),
  (55, .ifCond .ne 7, 3, []),
  (58, .iconst 4, 1, []),
  (59, .goto 42, 3, []),
  (62, .lload_n 0, 1, []),
  (63, .ldc2_w 103, 3, [1074, 13684840]),
  (66, .lcmp, 1, []),
  (67, .ifCond .ne 7, 3, []),
  (70, .iconst 5, 1, []),
  (71, .goto 30, 3, []),
  (74, .lload_n 0, 1, []),
  (75, .ldc2_w 105, 3, [1075, 20587627]),
  (78, .lcmp, 1, []),
  (79, .ifCond .ne 8, 3, []),
  (82, .bipush 6, 2, []),
  (84, .goto 17, 3, []),
  (87, .lload_n 0, 1, []),
  (88, .ldc2_w 107, 3, [1076, 20600240]),
  (91, .lcmp, 1, []),
  (92, .ifCond .ne 8, 3, []),
  (95, .bipush 7, 2, []),
  (97, .goto 4, 3, []),
  (100, .iconst (-1), 1, []),
  (101, .istore_n 3, 1, []),
  (102, .iload_n 2, 1, []),
  (103, .iconst (-1), 1, []),
  (104, .if_icmp .eq 7, 3, []),
  (107, .iload_n 2, 1, []),
  (108, .goto 4, 3, []),
  (111, .iload_n 3, 1, []),
  (112, .ireturn, 1, [])]
def c_151 : List (Nat × Instr × Nat × List Int) := [
  (0, .aload_n 0, 1, []),
  (1, .bipush 32, 2, []),
  (3, .bipush 32, 2, []),
  (5, .invokevirtual 109, 3, [6, 149, 2, 1060, 1062, 29, 64, 1063, 12]),
  (8, .ifCond .eq 16, 3, []),
  (11, .aload_n 0, 1, []),
  (12, .dup, 1, []),
  (13, .getfield 90, 3, [937, 12, 10]),
  (16, .iconst 1, 1, []),
  (17, .iadd, 1, []),
  (18, .putfield 90, 3, [937, 12, 10]),
  (21, .goto (-21), 3, []),
  (24, .aload_n 0, 1, []),
  (25, .aload_n 0, 1, []),
  (26, .getfield 90, 3, [937, 12, 10]),
  (29, .putfield 113, 3, [938, 12, 11]),
  (32, .aload_n 0, 1, []),
  (33, .getfield 90, 3, [937, 12, 10]),
  (36, .aload_n 0, 1, []),
  (37, .getfield 86, 3, [936, 12, 9]),
  (40, .if_icmp .ne 9, 3, []),
  (43, .aload_n 0, 1, []),
  (44, .iconst 0, 1, []),
  (45, .putfield 116, 3, [939, 12, 12]),
  (48, .return_, 1, []),
  (49, .aload_n 0, 1, []),
  (50, .bipush 97, 2, []),
  (52, .bipush 122, 2, []),
  (54, .invokevirtual 109, 3, [6, 149, 2, 1060, 1062, 29, 64, 1063, 12]),
  (57, .ifCond .eq 107, 3, []),
  (60, .lconst 0, 1, []),
  (61, .lstore_n 1, 1, []),
  (62, .aload_n 0, 1, []),
  (63, .bipush 97, 2, []),
  (65, .bipush 122, 2, []),
  (67, .invokevirtual 109, 3, [6, 149, 2, 1060, 1062, 29, 64, 1063, 12]),
  (70, .ifCond .eq 57, 3, []),
  (73, .aload_n 0, 1, []),
  (74, .getfield 90, 3, [937, 12, 10]),
  (77, .aload_n 0, 1, []),
  (78, .getfield 113, 3, [938, 12, 11]),
  (81, .isub, 1, []),
  (82, .bipush 6, 2, []),
  (84, .if_icmp .le 7, 3, []),
  (87, .lconst 0, 1, []),
  (88, .goto 25, 3, []),
  (91, .ldc2_w 119, 3, [1064, 32]),
  (94, .lload_n 1, 1, []),
  (95, .lmul, 1, []),
  (96, .aload_n 0, 1, []),
  (97, .getfield 26, 3, [935, 12, 8]),
  (100, .aload_n 0, 1, []),
  (101, .getfield 90, 3, [937, 12, 10]),
  (104, .iaload, 1, []),
  (105, .i2l, 1, []),
  (106, .ladd, 1, []),
  (107, .ldc2_w 121, 3, [1065, 97]),
  (110, .lsub, 1, []),
  (111, .lconst 1, 1, []),
  (112, .ladd, 1, []),
  (113, .lstore_n 1, 1, []),
  (114, .aload_n 0, 1, []),
  (115, .dup, 1, []),
  (116, .getfield 90, 3, [937, 12, 10]),
  (119, .iconst 1, 1, []),
  (120, .iadd, 1, []),
  (121, .putfield 90, 3, [937, 12, 10]),
  (124, .goto (-62), 3, []),
  (127, .aload_n 0, 1, []),
  (128, .aload_n 0, 1, []),
  (129, .getfield 90, 3, [937, 12, 10]),
  (132, .aload_n 0, 1, []),
  (133, .getfield 113, 3, [938, 12, 11]),
  (136, .isub, 1, []),
  (137, .bipush 7, 2, []),
  (139, .if_icmp .gt 11, 3, []),
  (142, .lload_n 1, 1, []),
  (143, .invokestatic 123, 3, [3, 150, 1, 1066, 1067, 64, 1068]),
  (146, .iconst (-1), 1, []),
  (147, .if_icmp .ne 7, 3, []),
  (150, .iconst 1, 1, []),
  (151, .goto 9, 3, []),
  (154, .iconst 4, 1, []),
  (155, .lload_n 1, 1, []),
  (156, .invokestatic 123, 3, [3, 150, 1, 1066, 1067, 64, 1068]),
  (159, .iadd, 1, []),
  (160, .putfield 116, 3, [939, 12, 12]),
  (163, .return_, 1, []),
  (164, .aload_n 0, 1, []),
  (165, .bipush 48, 2, []),
  (167, .bipush 57, 2, []),
  (169, .invokevirtual 109, 3, [6, 149, 2, 1060, 1062, 29, 64, 1063, 12]),
  (172, .ifCond .eq 99, 3, []),
  (175, .aload_n 0, 1, []),
  (176, .iconst 0, 1, []),
  (177, .putfield 127, 3, [940, 12, 13]),
  (180, .aload_n 0, 1, []),
  (181, .bipush 48, 2, []),
  (183, .bipush 57, 2, []),
  (185, .invokevirtual 109, 3, [6, 149, 2, 1060, 1062, 29, 64, 1063, 12]),
  (188, .ifCond .eq 60, 3, []),
  (191, .aload_n 0, 1, []),
  (192, .aload_n 0, 1, []),
  (193, .getfield 90, 3, [937, 12, 10]),
  (196, .aload_n 0, 1, []),
  (197, .getfield 113, 3, [938, 12, 11]),
  (200, .isub, 1, []),
  (201, .iconst 3, 1, []),
  (202, .if_icmp .ge 26, 3, []),
  (205, .bipush 10, 2, []),
  (207, .aload_n 0, 1, []),
  (208, .getfield 127, 3, [940, 12, 13]),
  (211, .imul, 1, []),
  (212, .aload_n 0, 1, []),
  (213, .getfield 26, 3, [935, 12, 8]),
  (216, .aload_n 0, 1, []),
  (217, .getfield 90, 3, [937, 12, 10]),
  (220, .iaload, 1, []),
  (221, .iadd, 1, []),
  (222, .bipush 48, 2, []),
  (224, .isub, 1, []),
  (225, .goto 7, 3, []),
  (228, .aload_n 0, 1, []),
  (229, .getfield 127, 3, [940, 12, 13]),
  (232, .putfield 127, 3, [940, 12, 13]),
  (235, .aload_n 0, 1, []),
  (236, .dup, 1, []),
  (237, .getfield 90, 3, [937, 12, 10]),
  (240, .iconst 1, 1, []),
  (241, .iadd, 1, []),
  (242, .putfield 90, 3, [937, 12, 10]),
  (245, .goto (-65), 3, []),
  (248, .aload_n 0, 1, []),
  (249, .aload_n 0, 1, []),
  (250, .getfield 90, 3, [937, 12, 10]),
  (253, .aload_n 0, 1, []),
  (254, .getfield 113, 3, [938, 12, 11]),
  (257, .isub, 1, []),
  (258, .iconst 3, 1, []),
  (259, .if_icmp .le 7, 3, []),
  (262, .iconst 1, 1, []),
  (263, .goto 4, 3, []),
  (266, .iconst 2, 1, []),
  (267, .putfield 116, 3, [939, 12, 12]),
  (270, .return_, 1, []),
  (271, .aload_n 0, 1, []),
  (272, .aload_n 0, 1, []),
  (273, .bipush 59, 2, []),
  (275, .bipush 59, 2, []),
  (277, .invokevirtual 109, 3, [6, 149, 2, 1060, 1062, 29, 64, 1063, 12]),
  (280, .ifCond .eq 7, 3, []),
  (283, .iconst 3, 1, []),
  (284, .goto 4, 3, []),
  (287, .iconst 1, 1, []),
  (288, .putfield 116, 3, [939, 12, 12]),
  (291, .aload_n 0, 1, []),
  (292, .dup, 1, []),
  (293, .getfield 90, 3, [937, 12, 10]),
  (296, .iconst 1, 1, []),
  (297, .iadd, 1, []),
  (298, .putfield 90, 3, [937, 12, 10]),
  (301, .return_, 1, [])]
def c_152 : List (Nat × Instr × Nat × List Int) := [
  (0, .iload_n 0, 1, []),
  (1, .iconst 5, 1, []),
  (2, .if_icmp .ne 7, 3, []),
  (5, .iconst 3, 1, []),
  (6, .goto 19, 3, []),
  (9, .iload_n 0, 1, []),
  (10, .iconst 4, 1, []),
  (11, .if_icmp .eq 9, 3, []),
  (14, .iload_n 0, 1, []),
  (15, .bipush 6, 2, []),
  (17, .if_icmp .ne 7, 3, []),
  (20, .iconst 2, 1, []),
  (21, .goto 4, 3, []),
  (24, .iconst 1, 1, []),
  (25, .ireturn, 1, [])]
def c_153 : List (Nat × Instr × Nat × List Int) := [
  (0, .aload_n 0, 1, []),
  (1, .iconst 0, 1, []),
  (2, .putfield 90, 3, [937, 12, 10]),
  (5, .aload_n 0, 1, []),
  (6, .iconst 0, 1, []),
  (7, .putfield 130, 3, [942, 12, 15]),
  (10, .aload_n 0, 1, []),
  (11, .invokevirtual 133, 3, [6, 151, 0, 1056, 1058, 28, 64, 1059, 12]),
  (14, .aload_n 0, 1, []),
  (15, .getfield 116, 3, [939, 12, 12]),
  (18, .ifCond .eq 108, 3, []),
  (21, .aload_n 0, 1, []),
  (22, .getfield 116, 3, [939, 12, 12]),
  (25, .iconst 4, 1, []),
  (26, .isub, 1, []),
  (27, .istore_n 1, 1, []),
  (28, .iload_n 1, 1, []),
  (29, .ifCond .ge 5, 3, []),
  (32, .iconst 0, 1, []),
  (33, .ireturn, 1, []),
  (34, .aload_n 0, 1, []),
  (35, .getfield 29, 3, [941, 12, 14]),
  (38, .iconst 4, 1, []),
  (39, .aload_n 0, 1, []),
  (40, .getfield 130, 3, [942, 12, 15]),
  (43, .imul, 1, []),
  (44, .iload_n 1, 1, []),
  (45, .iastore, 1, []),
  (46, .aload_n 0, 1, []),
  (47, .invokevirtual 133, 3, [6, 151, 0, 1056, 1058, 28, 64, 1059, 12]),
  (50, .iconst 0, 1, []),
  (51, .istore_n 2, 1, []),
  (52, .iload_n 2, 1, []),
  (53, .iload_n 1, 1, []),
  (54, .invokestatic 136, 3, [3, 152, 1, 1077, 1078, 64, 1079]),
  (57, .if_icmp .ge 42, 3, []),
  (60, .aload_n 0, 1, []),
  (61, .getfield 116, 3, [939, 12, 12]),
  (64, .iconst 2, 1, []),
  (65, .if_icmp .eq 5, 3, []),
  (68, .iconst 0, 1, []),
  (69, .ireturn, 1, []),
  (70, .aload_n 0, 1, []),
  (71, .getfield 29, 3, [941, 12, 14]),
  (74, .iconst 4, 1, []),
  (75, .aload_n 0, 1, []),
  (76, .getfield 130, 3, [942, 12, 15]),
  (79, .imul, 1, []),
  (80, .iconst 1, 1, []),
  (81, .iadd, 1, []),
  (82, .iload_n 2, 1, []),
  (83, .iadd, 1, []),
  (84, .aload_n 0, 1, []),
  (85, .getfield 127, 3, [940, 12, 13]),
  (88, .iastore, 1, []),
  (89, .aload_n 0, 1, []),
  (90, .invokevirtual 133, 3, [6, 151, 0, 1056, 1058, 28, 64, 1059, 12]),
  (93, .iinc 2 1, 3, []),
  (96, .goto (-44), 3, []),
  (99, .aload_n 0, 1, []),
  (100, .getfield 116, 3, [939, 12, 12]),
  (103, .iconst 3, 1, []),
  (104, .if_icmp .eq 5, 3, []),
  (107, .iconst 0, 1, []),
  (108, .ireturn, 1, []),
  (109, .aload_n 0, 1, []),
  (110, .dup, 1, []),
  (111, .getfield 130, 3, [942, 12, 15]),
  (114, .iconst 1, 1, []),
  (115, .iadd, 1, []),
  (116, .putfield 130, 3, [942, 12, 15]),
  (119, .aload_n 0, 1, []),
  (120, .invokevirtual 133, 3, [6, 151, 0, 1056, 1058, 28, 64, 1059, 12]),
  (123, .goto (-109), 3, []),
  (126, .iconst 1, 1, []),
  (127, .ireturn, 1, [])]
def c_154 : List (Nat × Instr × Nat × List Int) := [
  (0, .aload_n 0, 1, []),
  (1, .getfield 29, 3, [941, 12, 14]),
  (4, .iconst 4, 1, []),
  (5, .iload_n 1, 1, []),
  (6, .imul, 1, []),
  (7, .iaload, 1, []),
  (8, .istore_n 2, 1, []),
  (9, .aload_n 0, 1, []),
  (10, .getfield 29, 3, [941, 12, 14]),
  (13, .iconst 4, 1, []),
  (14, .iload_n 1, 1, []),
  (15, .imul, 1, []),
  (16, .iconst 1, 1, []),
  (17, .iadd, 1, []),
  (18, .iaload, 1, []),
  (19, .istore_n 3, 1, []),
  (20, .aload_n 0, 1, []),
  (21, .getfield 29, 3, [941, 12, 14]),
  (24, .iconst 4, 1, []),
  (25, .iload_n 1, 1, []),
  (26, .imul, 1, []),
  (27, .iconst 2, 1, []),
  (28, .iadd, 1, []),
  (29, .iaload, 1, []),
  (30, .istore 4, 2, []),
  (32, .iload_n 2, 1, []),
  (33, .iconst 4, 1, []),
  (34, .if_icmp .ge 18, 3, []),
  (37, .aload_n 0, 1, []),
  (38, .iload_n 2, 1, []),
  (39, .iload_n 3, 1, []),
  (40, .invokevirtual 140, 3, [6, 141, 2, 1084, 992, 993, 64, 994, 12]),
  (43, .ifCond .lt 7, 3, []),
  (46, .iconst 1, 1, []),
  (47, .goto 4, 3, []),
  (50, .iconst 0, 1, []),
  (51, .ireturn, 1, []),
  (52, .iload_n 2, 1, []),
  (53, .iconst 4, 1, []),
  (54, .if_icmp .ne 13, 3, []),
  (57, .aload_n 0, 1, []),
  (58, .iload_n 3, 1, []),
  (59, .iload 4, 2, []),
  (61, .invokevirtual 143, 3, [6, 142, 2, 1085, 1012, 1013, 64, 1014, 12]),
  (64, .goto 49, 3, []),
  (67, .iload_n 2, 1, []),
  (68, .iconst 5, 1, []),
  (69, .if_icmp .ne 23, 3, []),
  (72, .aload_n 0, 1, []),
  (73, .iload_n 3, 1, []),
  (74, .iload 4, 2, []),
  (76, .aload_n 0, 1, []),
  (77, .getfield 29, 3, [941, 12, 14]),
  (80, .iconst 4, 1, []),
  (81, .iload_n 1, 1, []),
  (82, .imul, 1, []),
  (83, .iconst 3, 1, []),
  (84, .iadd, 1, []),
  (85, .iaload, 1, []),
  (86, .invokevirtual 146, 3, [6, 143, 3, 1086, 1018, 1019, 64, 1020, 12]),
  (89, .goto 24, 3, []),
  (92, .iload_n 2, 1, []),
  (93, .bipush 6, 2, []),
  (95, .if_icmp .ne 13, 3, []),
  (98, .aload_n 0, 1, []),
  (99, .iload_n 3, 1, []),
  (100, .iload 4, 2, []),
  (102, .invokevirtual 150, 3, [6, 144, 2, 1087, 1027, 1028, 64, 1029, 12]),
  (105, .goto 8, 3, []),
  (108, .aload_n 0, 1, []),
  (109, .iload_n 3, 1, []),
  (110, .invokevirtual 153, 3, [6, 145, 1, 1088, 1031, 1032, 64, 1033, 12]),
  (113, .istore 5, 2, []),
  (115, .iload 5, 2, []),
  (117, .ifCond .lt 7, 3, []),
  (120, .iconst 1, 1, []),
  (121, .goto 4, 3, []),
  (124, .iconst 0, 1, []),
  (125, .ireturn, 1, [])]
def c_155 : List (Nat × Instr × Nat × List Int) := [
  (0, .aload_n 0, 1, []),
  (1, .invokevirtual 156, 3, [6, 153, 0, 1052, 1054, 27, 64, 1055, 12]),
  (4, .ifCond .ne 11, 3, []),
  (7, .bipush (-10), 2, []),
  (9, .aload_n 0, 1, []),
  (10, .getfield 113, 3, [938, 12, 11]),
  (13, .isub, 1, []),
  (14, .ireturn, 1, []),
  (15, .iconst 0, 1, []),
  (16, .istore_n 1, 1, []),
  (17, .iload_n 1, 1, []),
  (18, .bipush 87, 2, []),
  (20, .if_icmp .ge 21, 3, []),
  (23, .aload_n 0, 1, []),
  (24, .getfield 20, 3, [930, 12, 3]),
  (27, .iload_n 1, 1, []),
  (28, .aload_n 0, 1, []),
  (29, .getfield 7, 3, [927, 12, 0]),
  (32, .iload_n 1, 1, []),
  (33, .iaload, 1, []),
  (34, .iastore, 1, []),
  (35, .iinc 1 1, 3, []),
  (38, .goto (-21), 3, []),
  (41, .aload_n 0, 1, []),
  (42, .invokevirtual 49, 3, [6, 134, 0, 923, 925, 22, 64, 926, 12]),
  (45, .aload_n 0, 1, []),
  (46, .iconst 1, 1, []),
  (47, .putfield 52, 3, [932, 12, 5]),
  (50, .iconst 0, 1, []),
  (51, .istore_n 1, 1, []),
  (52, .iload_n 1, 1, []),
  (53, .aload_n 0, 1, []),
  (54, .getfield 130, 3, [942, 12, 15]),
  (57, .if_icmp .ge 17, 3, []),
  (60, .aload_n 0, 1, []),
  (61, .iload_n 1, 1, []),
  (62, .invokevirtual 160, 3, [6, 154, 1, 1080, 1082, 30, 64, 1083, 12]),
  (65, .ifCond .eq 9, 3, []),
  (68, .iinc 1 1, 3, []),
  (71, .goto (-19), 3, []),
  (74, .aload_n 0, 1, []),
  (75, .iconst 0, 1, []),
  (76, .putfield 52, 3, [932, 12, 5]),
  (79, .iload_n 1, 1, []),
  (80, .aload_n 0, 1, []),
  (81, .getfield 130, 3, [942, 12, 15]),
  (84, .if_icmp .ne 8, 3, []),
  (87, .aload_n 0, 1, []),
  (88, .getfield 130, 3, [942, 12, 15]),
  (91, .ireturn, 1, []),
  (92, .iconst 0, 1, []),
  (93, .istore_n 2, 1, []),
  (94, .iload_n 2, 1, []),
  (95, .bipush 87, 2, []),
  (97, .if_icmp .ge 21, 3, []),
  (100, .aload_n 0, 1, []),
  (101, .getfield 7, 3, [927, 12, 0]),
  (104, .iload_n 2, 1, []),
  (105, .aload_n 0, 1, []),
  (106, .getfield 20, 3, [930, 12, 3]),
  (109, .iload_n 2, 1, []),
  (110, .iaload, 1, []),
  (111, .iastore, 1, []),
  (112, .iinc 2 1, 3, []),
  (115, .goto (-21), 3, []),
  (118, .sipush (-1000), 3, []),
  (121, .iload_n 1, 1, []),
  (122, .isub, 1, []),
  (123, .ireturn, 1, [])]
def c_156 : List (Nat × Instr × Nat × List Int) := [
  (0, .aload_n 0, 1, []),
  (1, .getfield 7, 3, [927, 12, 0]),
  (4, .bipush 8, 2, []),
  (6, .iaload, 1, []),
  (7, .aload_n 0, 1, []),
  (8, .getfield 7, 3, [927, 12, 0]),
  (11, .bipush 9, 2, []),
  (13, .iaload, 1, []),
  (14, .isub, 1, []),
  (15, .iconst 0, 1, []),
  (16, .invokestatic 164, 3, [3, 132, 2, 1125, 1126, 64, 1127]),
  (19, .ireturn, 1, [])]
def c_157 : List (Nat × Instr × Nat × List Int) := [
  (0, .aload_n 0, 1, []),
  (1, .getfield 7, 3, [927, 12, 0]),
  (4, .bipush 18, 2, []),
  (6, .iconst 3, 1, []),
  (7, .iload_n 1, 1, []),
  (8, .imul, 1, []),
  (9, .iadd, 1, []),
  (10, .iaload, 1, []),
  (11, .istore 4, 2, []),
  (13, .aload_n 0, 1, []),
  (14, .getfield 7, 3, [927, 12, 0]),
  (17, .bipush 18, 2, []),
  (19, .iconst 3, 1, []),
  (20, .iload_n 1, 1, []),
  (21, .imul, 1, []),
  (22, .iadd, 1, []),
  (23, .iconst 1, 1, []),
  (24, .iadd, 1, []),
  (25, .iaload, 1, []),
  (26, .aload_n 0, 1, []),
  (27, .getfield 7, 3, [927, 12, 0]),
  (30, .bipush 10, 2, []),
  (32, .iaload, 1, []),
  (33, .iload_n 2, 1, []),
  (34, .imul, 1, []),
  (35, .isub, 1, []),
  (36, .iconst 0, 1, []),
  (37, .invokestatic 164, 3, [3, 132, 2, 1125, 1126, 64, 1127]),
  (40, .istore 5, 2, []),
  (42, .aload_n 0, 1, []),
  (43, .getfield 7, 3, [927, 12, 0]),
  (46, .bipush 18, 2, []),
  (48, .iconst 3, 1, []),
  (49, .iload_n 1, 1, []),
  (50, .imul, 1, []),
  (51, .iadd, 1, []),
  (52, .iconst 1, 1, []),
  (53, .iadd, 1, []),
  (54, .iaload, 1, []),
  (55, .iload_n 3, 1, []),
  (56, .isub, 1, []),
  (57, .aload_n 0, 1, []),
  (58, .getfield 7, 3, [927, 12, 0]),
  (61, .bipush 10, 2, []),
  (63, .iaload, 1, []),
  (64, .iload_n 2, 1, []),
  (65, .imul, 1, []),
  (66, .isub, 1, []),
  (67, .iconst 0, 1, []),
  (68, .invokestatic 164, 3, [3, 132, 2, 1125, 1126, 64, 1127]),
  (71, .istore 6, 2, []),
  (73, .iload 6, 2, []),
  (75, .iconst 2, 1, []),
  (76, .idiv, 1, []),
  (77, .istore 7, 2, []),
  (79, .iload 4, 2, []),
  (81, .iconst 4, 1, []),
  (82, .if_icmp .ne 8, 3, []),
  (85, .iload 7, 2, []),
  (87, .goto 16, 3, []),
  (90, .iload 7, 2, []),
  (92, .ifCond .le 10, 3, []),
  (95, .iload 7, 2, []),
  (97, .iconst 1, 1, []),
  (98, .iadd, 1, []),
  (99, .goto 4, 3, []),
  (102, .iconst 0, 1, []),
  (103, .istore 8, 2, []),
  (105, .iload 4, 2, []),
  (107, .ifCond .ne 8, 3, []),
  (110, .iload 6, 2, []),
  (112, .goto 39, 3, []),
  (115, .iload 4, 2, []),
  (117, .iconst 1, 1, []),
  (118, .if_icmp .ne 14, 3, []),
  (121, .iload 6, 2, []),
  (123, .iconst 2, 1, []),
  (124, .isub, 1, []),
  (125, .iconst 0, 1, []),
  (126, .invokestatic 164, 3, [3, 132, 2, 1125, 1126, 64, 1127]),
  (129, .goto 22, 3, []),
  (132, .iload 4, 2, []),
  (134, .iconst 2, 1, []),
  (135, .if_icmp .eq 9, 3, []),
  (138, .iload 4, 2, []),
  (140, .iconst 3, 1, []),
  (141, .if_icmp .ne 8, 3, []),
  (144, .iload 5, 2, []),
  (146, .goto 5, 3, []),
  (149, .iload 8, 2, []),
  (151, .ireturn, 1, [])]
def c_158 : List (Nat × Instr × Nat × List Int) := [
  (0, .aload_n 0, 1, []),
  (1, .iload_n 1, 1, []),
  (2, .iload_n 2, 1, []),
  (3, .aload_n 0, 1, []),
  (4, .invokevirtual 167, 3, [6, 156, 0, 1121, 1123, 35, 64, 1124, 12]),
  (7, .invokevirtual 170, 3, [6, 157, 3, 1128, 1130, 36, 64, 1131, 12]),
  (10, .ireturn, 1, [])]
def c_159 : List (Nat × Instr × Nat × List Int) := [
  (0, .aload_n 0, 1, []),
  (1, .getfield 7, 3, [927, 12, 0]),
  (4, .bipush 18, 2, []),
  (6, .iconst 3, 1, []),
  (7, .iload_n 1, 1, []),
  (8, .imul, 1, []),
  (9, .iadd, 1, []),
  (10, .iaload, 1, []),
  (11, .istore_n 2, 1, []),
  (12, .aload_n 0, 1, []),
  (13, .getfield 7, 3, [927, 12, 0]),
  (16, .bipush 18, 2, []),
  (18, .iconst 3, 1, []),
  (19, .iload_n 1, 1, []),
  (20, .imul, 1, []),
  (21, .iadd, 1, []),
  (22, .iconst 2, 1, []),
  (23, .iadd, 1, []),
  (24, .iaload, 1, []),
  (25, .istore_n 3, 1, []),
  (26, .iload_n 3, 1, []),
  (27, .iconst 1, 1, []),
  (28, .isub, 1, []),
  (29, .iconst 1, 1, []),
  (30, .invokestatic 164, 3, [3, 132, 2, 1125, 1126, 64, 1127]),
  (33, .istore 4, 2, []),
  (35, .iload_n 2, 1, []),
  (36, .iconst 2, 1, []),
  (37, .if_icmp .ne 8, 3, []),
  (40, .iload 4, 2, []),
  (42, .goto 29, 3, []),
  (45, .iload_n 2, 1, []),
  (46, .iconst 3, 1, []),
  (47, .if_icmp .ne 10, 3, []),
  (50, .iconst 2, 1, []),
  (51, .iload 4, 2, []),
  (53, .imul, 1, []),
  (54, .goto 17, 3, []),
  (57, .iload_n 2, 1, []),
  (58, .iconst 4, 1, []),
  (59, .if_icmp .lt 11, 3, []),
  (62, .iload_n 3, 1, []),
  (63, .iconst 1, 1, []),
  (64, .iadd, 1, []),
  (65, .iconst 2, 1, []),
  (66, .idiv, 1, []),
  (67, .goto 4, 3, []),
  (70, .iload_n 3, 1, []),
  (71, .ireturn, 1, [])]
def c_160 : List (Nat × Instr × Nat × List Int) := [
  (0, .aload_n 0, 1, []),
  (1, .getfield 7, 3, [927, 12, 0]),
  (4, .bipush 6, 2, []),
  (6, .iaload, 1, []),
  (7, .bipush 8, 2, []),
  (9, .if_icmp .ne 48, 3, []),
  (12, .iconst 0, 1, []),
  (13, .istore_n 1, 1, []),
  (14, .iload_n 1, 1, []),
  (15, .bipush 28, 2, []),
  (17, .if_icmp .ge 29, 3, []),
  (20, .aload_n 0, 1, []),
  (21, .getfield 7, 3, [927, 12, 0]),
  (24, .bipush 55, 2, []),
  (26, .iload_n 1, 1, []),
  (27, .iadd, 1, []),
  (28, .aload_n 0, 1, []),
  (29, .getfield 7, 3, [927, 12, 0]),
  (32, .bipush 55, 2, []),
  (34, .iload_n 1, 1, []),
  (35, .iadd, 1, []),
  (36, .iconst 4, 1, []),
  (37, .iadd, 1, []),
  (38, .iaload, 1, []),
  (39, .iastore, 1, []),
  (40, .iinc 1 1, 3, []),
  (43, .goto (-29), 3, []),
  (46, .aload_n 0, 1, []),
  (47, .getfield 7, 3, [927, 12, 0]),
  (50, .bipush 6, 2, []),
  (52, .dup2, 1, []),
  (53, .iaload, 1, []),
  (54, .iconst 1, 1, []),
  (55, .isub, 1, []),
  (56, .iastore, 1, []),
  (57, .bipush 55, 2, []),
  (59, .iconst 4, 1, []),
  (60, .aload_n 0, 1, []),
  (61, .getfield 7, 3, [927, 12, 0]),
  (64, .bipush 6, 2, []),
  (66, .iaload, 1, []),
  (67, .imul, 1, []),
  (68, .iadd, 1, []),
  (69, .istore_n 1, 1, []),
  (70, .aload_n 0, 1, []),
  (71, .getfield 7, 3, [927, 12, 0]),
  (74, .iload_n 1, 1, []),
  (75, .aload_n 0, 1, []),
  (76, .getfield 7, 3, [927, 12, 0]),
  (79, .iconst 1, 1, []),
  (80, .iaload, 1, []),
  (81, .iastore, 1, []),
  (82, .aload_n 0, 1, []),
  (83, .getfield 7, 3, [927, 12, 0]),
  (86, .iload_n 1, 1, []),
  (87, .iconst 1, 1, []),
  (88, .iadd, 1, []),
  (89, .aload_n 0, 1, []),
  (90, .getfield 7, 3, [927, 12, 0]),
  (93, .iconst 2, 1, []),
  (94, .iaload, 1, []),
  (95, .iastore, 1, []),
  (96, .aload_n 0, 1, []),
  (97, .getfield 7, 3, [927, 12, 0]),
  (100, .iload_n 1, 1, []),
  (101, .iconst 2, 1, []),
  (102, .iadd, 1, []),
  (103, .aload_n 0, 1, []),
  (104, .getfield 7, 3, [927, 12, 0]),
  (107, .iconst 3, 1, []),
  (108, .iaload, 1, []),
  (109, .iastore, 1, []),
  (110, .aload_n 0, 1, []),
  (111, .getfield 7, 3, [927, 12, 0]),
  (114, .iload_n 1, 1, []),
  (115, .iconst 3, 1, []),
  (116, .iadd, 1, []),
  (117, .aload_n 0, 1, []),
  (118, .getfield 7, 3, [927, 12, 0]),
  (121, .bipush 7, 2, []),
  (123, .iaload, 1, []),
  (124, .iastore, 1, []),
  (125, .aload_n 0, 1, []),
  (126, .getfield 7, 3, [927, 12, 0]),
  (129, .bipush 6, 2, []),
  (131, .dup2, 1, []),
  (132, .iaload, 1, []),
  (133, .iconst 1, 1, []),
  (134, .iadd, 1, []),
  (135, .iastore, 1, []),
  (136, .return_, 1, [])]
def c_161 : List (Nat × Instr × Nat × List Int) := [
  (0, .iload_n 2, 1, []),
  (1, .ifCond .eq 12, 3, []),
  (4, .iload_n 1, 1, []),
  (5, .ifCond .ne 8, 3, []),
  (8, .aload_n 0, 1, []),
  (9, .invokevirtual 69, 3, [6, 136, 0, 1003, 1005, 24, 64, 1006, 12]),
  (12, .ireturn, 1, []),
  (13, .aload_n 0, 1, []),
  (14, .getfield 7, 3, [927, 12, 0]),
  (17, .bipush 7, 2, []),
  (19, .iaload, 1, []),
  (20, .iconst 1, 1, []),
  (21, .if_icmp .eq 18, 3, []),
  (24, .aload_n 0, 1, []),
  (25, .getfield 7, 3, [927, 12, 0]),
  (28, .iconst 1, 1, []),
  (29, .iaload, 1, []),
  (30, .aload_n 0, 1, []),
  (31, .getfield 7, 3, [927, 12, 0]),
  (34, .iconst 0, 1, []),
  (35, .iaload, 1, []),
  (36, .if_icmp .ne 8, 3, []),
  (39, .aload_n 0, 1, []),
  (40, .invokevirtual 173, 3, [6, 137, 0, 1093, 1095, 31, 64, 1096, 12]),
  (43, .ireturn, 1, []),
  (44, .aload_n 0, 1, []),
  (45, .invokevirtual 176, 3, [6, 160, 0, 1097, 1099, 32, 64, 1100, 12]),
  (48, .aload_n 0, 1, []),
  (49, .getfield 7, 3, [927, 12, 0]),
  (52, .bipush 7, 2, []),
  (54, .iload_n 2, 1, []),
  (55, .ifCond .eq 7, 3, []),
  (58, .iconst 1, 1, []),
  (59, .goto 4, 3, []),
  (62, .iconst 0, 1, []),
  (63, .iastore, 1, []),
  (64, .aload_n 0, 1, []),
  (65, .getfield 7, 3, [927, 12, 0]),
  (68, .iconst 1, 1, []),
  (69, .dup2, 1, []),
  (70, .iaload, 1, []),
  (71, .iconst 1, 1, []),
  (72, .iadd, 1, []),
  (73, .iastore, 1, []),
  (74, .aload_n 0, 1, []),
  (75, .getfield 7, 3, [927, 12, 0]),
  (78, .iconst 1, 1, []),
  (79, .iaload, 1, []),
  (80, .iconst 1, 1, []),
  (81, .isub, 1, []),
  (82, .ireturn, 1, [])]
def c_162 : List (Nat × Instr × Nat × List Int) := [
  (0, .aload_n 0, 1, []),
  (1, .getfield 7, 3, [927, 12, 0]),
  (4, .bipush 7, 2, []),
  (6, .iaload, 1, []),
  (7, .iconst 1, 1, []),
  (8, .if_icmp .eq 19, 3, []),
  (11, .aload_n 0, 1, []),
  (12, .getfield 7, 3, [927, 12, 0]),
  (15, .iconst 3, 1, []),
  (16, .iaload, 1, []),
  (17, .aload_n 0, 1, []),
  (18, .getfield 7, 3, [927, 12, 0]),
  (21, .bipush 11, 2, []),
  (23, .iaload, 1, []),
  (24, .if_icmp .lt 8, 3, []),
  (27, .aload_n 0, 1, []),
  (28, .invokevirtual 173, 3, [6, 137, 0, 1093, 1095, 31, 64, 1096, 12]),
  (31, .ireturn, 1, []),
  (32, .aload_n 0, 1, []),
  (33, .invokevirtual 176, 3, [6, 160, 0, 1097, 1099, 32, 64, 1100, 12]),
  (36, .aload_n 0, 1, []),
  (37, .getfield 7, 3, [927, 12, 0]),
  (40, .iconst 2, 1, []),
  (41, .dup2, 1, []),
  (42, .iaload, 1, []),
  (43, .aload_n 0, 1, []),
  (44, .getfield 7, 3, [927, 12, 0]),
  (47, .iconst 2, 1, []),
  (48, .iaload, 1, []),
  (49, .iconst 5, 1, []),
  (50, .if_icmp .ge 7, 3, []),
  (53, .iconst 1, 1, []),
  (54, .goto 4, 3, []),
  (57, .iconst 0, 1, []),
  (58, .iadd, 1, []),
  (59, .iastore, 1, []),
  (60, .aload_n 0, 1, []),
  (61, .getfield 7, 3, [927, 12, 0]),
  (64, .iconst 3, 1, []),
  (65, .dup2, 1, []),
  (66, .iaload, 1, []),
  (67, .iconst 1, 1, []),
  (68, .iadd, 1, []),
  (69, .iastore, 1, []),
  (70, .aload_n 0, 1, []),
  (71, .getfield 7, 3, [927, 12, 0]),
  (74, .iconst 2, 1, []),
  (75, .iaload, 1, []),
  (76, .ireturn, 1, [])]
def c_163 : List (Nat × Instr × Nat × List Int) := [
  (0, .aload_n 0, 1, []),
  (1, .getfield 7, 3, [927, 12, 0]),
  (4, .bipush 6, 2, []),
  (6, .iaload, 1, []),
  (7, .ifCond .ne 8, 3, []),
  (10, .aload_n 0, 1, []),
  (11, .invokevirtual 173, 3, [6, 137, 0, 1093, 1095, 31, 64, 1096, 12]),
  (14, .ireturn, 1, []),
  (15, .aload_n 0, 1, []),
  (16, .getfield 7, 3, [927, 12, 0]),
  (19, .bipush 6, 2, []),
  (21, .dup2, 1, []),
  (22, .iaload, 1, []),
  (23, .iconst 1, 1, []),
  (24, .isub, 1, []),
  (25, .iastore, 1, []),
  (26, .bipush 55, 2, []),
  (28, .iconst 4, 1, []),
  (29, .aload_n 0, 1, []),
  (30, .getfield 7, 3, [927, 12, 0]),
  (33, .bipush 6, 2, []),
  (35, .iaload, 1, []),
  (36, .imul, 1, []),
  (37, .iadd, 1, []),
  (38, .istore_n 1, 1, []),
  (39, .aload_n 0, 1, []),
  (40, .getfield 7, 3, [927, 12, 0]),
  (43, .iconst 1, 1, []),
  (44, .aload_n 0, 1, []),
  (45, .getfield 7, 3, [927, 12, 0]),
  (48, .iload_n 1, 1, []),
  (49, .iaload, 1, []),
  (50, .iastore, 1, []),
  (51, .aload_n 0, 1, []),
  (52, .getfield 7, 3, [927, 12, 0]),
  (55, .iconst 2, 1, []),
  (56, .aload_n 0, 1, []),
  (57, .getfield 7, 3, [927, 12, 0]),
  (60, .iload_n 1, 1, []),
  (61, .iconst 1, 1, []),
  (62, .iadd, 1, []),
  (63, .iaload, 1, []),
  (64, .iastore, 1, []),
  (65, .aload_n 0, 1, []),
  (66, .getfield 7, 3, [927, 12, 0]),
  (69, .iconst 3, 1, []),
  (70, .aload_n 0, 1, []),
  (71, .getfield 7, 3, [927, 12, 0]),
  (74, .iload_n 1, 1, []),
  (75, .iconst 2, 1, []),
  (76, .iadd, 1, []),
  (77, .iaload, 1, []),
  (78, .iastore, 1, []),
  (79, .aload_n 0, 1, []),
  (80, .getfield 7, 3, [927, 12, 0]),
  (83, .bipush 7, 2, []),
  (85, .aload_n 0, 1, []),
  (86, .getfield 7, 3, [927, 12, 0]),
  (89, .iload_n 1, 1, []),
  (90, .iconst 3, 1, []),
  (91, .iadd, 1, []),
  (92, .iaload, 1, []),
  (93, .iastore, 1, []),
  (94, .iconst 1, 1, []),
  (95, .ireturn, 1, [])]
def c_164 : List (Nat × Instr × Nat × List Int) := [
  (0, .aload_n 0, 1, []),
  (1, .iload_n 1, 1, []),
  (2, .invokevirtual 179, 3, [6, 140, 1, 1113, 1115, 33, 64, 1116, 12]),
  (5, .ifCond .eq 15, 3, []),
  (8, .iload_n 2, 1, []),
  (9, .i2l, 1, []),
  (10, .lconst 0, 1, []),
  (11, .ldc2_w 64, 3, [995, 3]),
  (14, .invokestatic 60, 3, [3, 131, 3, 996, 997, 64, 998]),
  (17, .ifCond .ne 8, 3, []),
  (20, .aload_n 0, 1, []),
  (21, .invokevirtual 69, 3, [6, 136, 0, 1003, 1005, 24, 64, 1006, 12]),
  (24, .ireturn, 1, []),
  (25, .iload_n 2, 1, []),
  (26, .iconst 2, 1, []),
  (27, .if_icmp .ge 19, 3, []),
  (30, .aload_n 0, 1, []),
  (31, .getfield 7, 3, [927, 12, 0]),
  (34, .bipush 18, 2, []),
  (36, .iconst 3, 1, []),
  (37, .iload_n 1, 1, []),
  (38, .imul, 1, []),
  (39, .iadd, 1, []),
  (40, .iload_n 2, 1, []),
  (41, .iadd, 1, []),
  (42, .iaload, 1, []),
  (43, .goto 27, 3, []),
  (46, .iload_n 2, 1, []),
  (47, .iconst 2, 1, []),
  (48, .if_icmp .ne 17, 3, []),
  (51, .aload_n 0, 1, []),
  (52, .iload_n 1, 1, []),
  (53, .aload_n 0, 1, []),
  (54, .getfield 7, 3, [927, 12, 0]),
  (57, .iconst 3, 1, []),
  (58, .iaload, 1, []),
  (59, .invokevirtual 182, 3, [6, 158, 2, 1117, 1119, 34, 64, 1120, 12]),
  (62, .goto 8, 3, []),
  (65, .aload_n 0, 1, []),
  (66, .iload_n 1, 1, []),
  (67, .invokevirtual 185, 3, [6, 159, 1, 1132, 1134, 37, 64, 1135, 12]),
  (70, .ireturn, 1, [])]
def c_165 : List (Nat × Instr × Nat × List Int) := [
  (0, .lload_n 0, 1, []),
  (1, .lstore 4, 2, []),
  (3, .lload_n 2, 1, []),
  (4, .lstore 6, 2, []),
  (6, .lload 6, 2, []),
  (8, .lconst 0, 1, []),
  (9, .lcmp, 1, []),
  (10, .ifCond .eq 21, 3, []),
  (13, .lload 4, 2, []),
  (15, .lload 6, 2, []),
  (17, .lrem, 1, []),
  (18, .lstore 8, 2, []),
  (20, .lload 6, 2, []),
  (22, .lstore 4, 2, []),
  (24, .lload 8, 2, []),
  (26, .lstore 6, 2, []),
  (28, .goto (-22), 3, []),
  (31, .lload 4, 2, []),
  (33, .lreturn, 1, [])]
def c_166 : List (Nat × Instr × Nat × List Int) := [
  (0, .lload_n 1, 1, []),
  (1, .lload_n 3, 1, []),
  (2, .invokestatic 188, 3, [3, 165, 2, 1144, 1145, 64, 1146]),
  (5, .lstore 5, 2, []),
  (7, .aload_n 0, 1, []),
  (8, .lload_n 1, 1, []),
  (9, .lload 5, 2, []),
  (11, .ldiv, 1, []),
  (12, .putfield 192, 3, [933, 12, 6]),
  (15, .aload_n 0, 1, []),
  (16, .lload_n 3, 1, []),
  (17, .lload 5, 2, []),
  (19, .ldiv, 1, []),
  (20, .putfield 45, 3, [934, 12, 7]),
  (23, .iconst 1, 1, []),
  (24, .ireturn, 1, [])]
def c_167 : List (Nat × Instr × Nat × List Int) := [
  (0, .lconst 1, 1, []),
  (1, .lstore_n 3, 1, []),
  (2, .iconst 0, 1, []),
  (3, .istore 5, 2, []),
  (5, .iload 5, 2, []),
  (7, .iload_n 2, 1, []),
  (8, .if_icmp .ge 13, 3, []),
  (11, .lload_n 3, 1, []),
  (12, .lload_n 0, 1, []),
  (13, .lmul, 1, []),
  (14, .lstore_n 3, 1, []),
  (15, .iinc 5 1, 3, []),
  (18, .goto (-13), 3, []),
  (21, .lload_n 3, 1, []),
  (22, .lreturn, 1, [])]
def c_168 : List (Nat × Instr × Nat × List Int) := [
  (0, .aload_n 0, 1, []),
  (1, .iload_n 1, 1, []),
  (2, .invokevirtual 179, 3, [6, 140, 1, 1113, 1115, 33, 64, 1116, 12]),
  (5, .ifCond .eq 13, 3, []),
  (8, .iload_n 2, 1, []),
  (9, .i2l, 1, []),
  (10, .lconst 0, 1, []),
  (11, .lconst 1, 1, []),
  (12, .invokestatic 60, 3, [3, 131, 3, 996, 997, 64, 998]),
  (15, .ifCond .ne 8, 3, []),
  (18, .aload_n 0, 1, []),
  (19, .invokevirtual 69, 3, [6, 136, 0, 1003, 1005, 24, 64, 1006, 12]),
  (22, .ireturn, 1, []),
  (23, .aload_n 0, 1, []),
  (24, .iload_n 1, 1, []),
  (25, .aload_n 0, 1, []),
  (26, .getfield 7, 3, [927, 12, 0]),
  (29, .iconst 3, 1, []),
  (30, .iaload, 1, []),
  (31, .invokevirtual 182, 3, [6, 158, 2, 1117, 1119, 34, 64, 1120, 12]),
  (34, .istore_n 3, 1, []),
  (35, .iload_n 2, 1, []),
  (36, .ifCond .ne 15, 3, []),
  (39, .aload_n 0, 1, []),
  (40, .iload_n 3, 1, []),
  (41, .i2l, 1, []),
  (42, .ldc2_w 75, 3, [1016, 10]),
  (45, .invokevirtual 195, 3, [6, 166, 2, 1140, 1142, 38, 64, 1143, 12]),
  (48, .goto 28, 3, []),
  (51, .aload_n 0, 1, []),
  (52, .iload_n 3, 1, []),
  (53, .i2l, 1, []),
  (54, .aload_n 0, 1, []),
  (55, .getfield 7, 3, [927, 12, 0]),
  (58, .bipush 12, 2, []),
  (60, .aload_n 0, 1, []),
  (61, .getfield 7, 3, [927, 12, 0]),
  (64, .iconst 2, 1, []),
  (65, .iaload, 1, []),
  (66, .iadd, 1, []),
  (67, .iaload, 1, []),
  (68, .i2l, 1, []),
  (69, .lmul, 1, []),
  (70, .ldc2_w 199, 3, [1147, 100]),
  (73, .invokevirtual 195, 3, [6, 166, 2, 1140, 1142, 38, 64, 1143, 12]),
  (76, .ireturn, 1, [])]
def c_169 : List (Nat × Instr × Nat × List Int) := [
  (0, .lconst 0, 1, []),
  (1, .lstore 4, 2, []),
  (3, .aload_n 0, 1, []),
  (4, .getfield 7, 3, [927, 12, 0]),
  (7, .iconst 0, 1, []),
  (8, .iaload, 1, []),
  (9, .iconst 1, 1, []),
  (10, .isub, 1, []),
  (11, .istore 6, 2, []),
  (13, .iload 6, 2, []),
  (15, .iload_n 1, 1, []),
  (16, .if_icmp .lt 61, 3, []),
  (19, .aload_n 0, 1, []),
  (20, .iload 6, 2, []),
  (22, .iload_n 3, 1, []),
  (23, .invokevirtual 182, 3, [6, 158, 2, 1117, 1119, 34, 64, 1120, 12]),
  (26, .aload_n 0, 1, []),
  (27, .getfield 7, 3, [927, 12, 0]),
  (30, .bipush 12, 2, []),
  (32, .iload_n 2, 1, []),
  (33, .iadd, 1, []),
  (34, .iaload, 1, []),
  (35, .imul, 1, []),
  (36, .i2l, 1, []),
  (37, .lstore 7, 2, []),
  (39, .lload 7, 2, []),
  (41, .ldc2_w 199, 3, [1147, 100]),
  (44, .aload_n 0, 1, []),
  (45, .getfield 7, 3, [927, 12, 0]),
  (48, .iconst 0, 1, []),
  (49, .iaload, 1, []),
  (50, .iconst 1, 1, []),
  (51, .isub, 1, []),
  (52, .iload 6, 2, []),
  (54, .isub, 1, []),
  (55, .invokestatic 201, 3, [3, 167, 2, 1156, 1157, 64, 1158]),
  (58, .lmul, 1, []),
  (59, .ldc2_w 199, 3, [1147, 100]),
  (62, .lload 7, 2, []),
  (64, .lsub, 1, []),
  (65, .lload 4, 2, []),
  (67, .lmul, 1, []),
  (68, .ladd, 1, []),
  (69, .lstore 4, 2, []),
  (71, .iinc 6 (-1), 3, []),
  (74, .goto (-61), 3, []),
  (77, .lload 4, 2, []),
  (79, .lreturn, 1, [])]
def c_170 : List (Nat × Instr × Nat × List Int) := [
  (0, .iload_n 0, 1, []),
  (1, .bipush 6, 2, []),
  (3, .imul, 1, []),
  (4, .iload_n 1, 1, []),
  (5, .iadd, 1, []),
  (6, .bipush 13, 2, []),
  (8, .imul, 1, []),
  (9, .iload_n 2, 1, []),
  (10, .iadd, 1, []),
  (11, .ireturn, 1, [])]
def c_171 : List (Nat × Instr × Nat × List Int) := [
  (0, .aload_n 0, 1, []),
  (1, .getfield 7, 3, [927, 12, 0]),
  (4, .iconst 0, 1, []),
  (5, .iaload, 1, []),
  (6, .istore_n 1, 1, []),
  (7, .aload_n 0, 1, []),
  (8, .iconst 0, 1, []),
  (9, .putfield 205, 3, [944, 12, 17]),
  (12, .iload_n 1, 1, []),
  (13, .istore_n 2, 1, []),
  (14, .iload_n 2, 1, []),
  (15, .aload_n 0, 1, []),
  (16, .getfield 7, 3, [927, 12, 0]),
  (19, .iconst 1, 1, []),
  (20, .iaload, 1, []),
  (21, .if_icmp .lt 219, 3, []),
  (24, .bipush 12, 2, []),
  (26, .istore_n 3, 1, []),
  (27, .iload_n 3, 1, []),
  (28, .aload_n 0, 1, []),
  (29, .getfield 7, 3, [927, 12, 0]),
  (32, .iconst 3, 1, []),
  (33, .iaload, 1, []),
  (34, .if_icmp .lt 200, 3, []),
  (37, .iconst 5, 1, []),
  (38, .istore 4, 2, []),
  (40, .iload 4, 2, []),
  (42, .aload_n 0, 1, []),
  (43, .getfield 7, 3, [927, 12, 0]),
  (46, .iconst 2, 1, []),
  (47, .iaload, 1, []),
  (48, .if_icmp .lt 180, 3, []),
  (51, .lconst 0, 1, []),
  (52, .lstore 5, 2, []),
  (54, .iconst 0, 1, []),
  (55, .istore 7, 2, []),
  (57, .iload_n 2, 1, []),
  (58, .iload_n 1, 1, []),
  (59, .if_icmp .ge 143, 3, []),
  (62, .aload_n 0, 1, []),
  (63, .iload_n 2, 1, []),
  (64, .iload_n 3, 1, []),
  (65, .invokevirtual 182, 3, [6, 158, 2, 1117, 1119, 34, 64, 1120, 12]),
  (68, .aload_n 0, 1, []),
  (69, .getfield 7, 3, [927, 12, 0]),
  (72, .bipush 12, 2, []),
  (74, .iload 4, 2, []),
  (76, .iadd, 1, []),
  (77, .iaload, 1, []),
  (78, .imul, 1, []),
  (79, .i2l, 1, []),
  (80, .lstore 8, 2, []),
  (82, .lload 8, 2, []),
  (84, .ldc2_w 199, 3, [1147, 100]),
  (87, .iload_n 1, 1, []),
  (88, .iconst 1, 1, []),
  (89, .isub, 1, []),
  (90, .iload_n 2, 1, []),
  (91, .isub, 1, []),
  (92, .invokestatic 201, 3, [3, 167, 2, 1156, 1157, 64, 1158]),
  (95, .lmul, 1, []),
  (96, .ldc2_w 199, 3, [1147, 100]),
  (99, .lload 8, 2, []),
  (101, .lsub, 1, []),
  (102, .aload_n 0, 1, []),
  (103, .getfield 32, 3, [943, 12, 16]),
  (106, .iload_n 2, 1, []),
  (107, .iconst 1, 1, []),
  (108, .iadd, 1, []),
  (109, .iload 4, 2, []),
  (111, .iload_n 3, 1, []),
  (112, .invokestatic 208, 3, [3, 170, 3, 1159, 1160, 64, 1161]),
  (115, .laload, 1, []),
  (116, .lmul, 1, []),
  (117, .ladd, 1, []),
  (118, .lstore 5, 2, []),
  (120, .iconst 1, 1, []),
  (121, .istore 7, 2, []),
  (123, .iload_n 3, 1, []),
  (124, .aload_n 0, 1, []),
  (125, .getfield 7, 3, [927, 12, 0]),
  (128, .bipush 11, 2, []),
  (130, .iaload, 1, []),
  (131, .if_icmp .ge 33, 3, []),
  (134, .aload_n 0, 1, []),
  (135, .getfield 32, 3, [943, 12, 16]),
  (138, .iload_n 2, 1, []),
  (139, .iload 4, 2, []),
  (141, .iconst 5, 1, []),
  (142, .if_icmp .ge 10, 3, []),
  (145, .iload 4, 2, []),
  (147, .iconst 1, 1, []),
  (148, .iadd, 1, []),
  (149, .goto 5, 3, []),
  (152, .iload 4, 2, []),
  (154, .iload_n 3, 1, []),
  (155, .iconst 1, 1, []),
  (156, .iadd, 1, []),
  (157, .invokestatic 208, 3, [3, 170, 3, 1159, 1160, 64, 1161]),
  (160, .laload, 1, []),
  (161, .goto 6, 3, []),
  (164, .ldc2_w 211, 3, [1162, -1]),
  (167, .lstore 10, 2, []),
  (169, .lload 10, 2, []),
  (171, .lload 5, 2, []),
  (173, .lcmp, 1, []),
  (174, .ifCond .le 7, 3, []),
  (177, .iconst 2, 1, []),
  (178, .goto 5, 3, []),
  (181, .iload 7, 2, []),
  (183, .istore 7, 2, []),
  (185, .lload 10, 2, []),
  (187, .lload 5, 2, []),
  (189, .lcmp, 1, []),
  (190, .ifCond .le 8, 3, []),
  (193, .lload 10, 2, []),
  (195, .goto 5, 3, []),
  (198, .lload 5, 2, []),
  (200, .lstore 5, 2, []),
  (202, .aload_n 0, 1, []),
  (203, .getfield 32, 3, [943, 12, 16]),
  (206, .iload_n 2, 1, []),
  (207, .iload 4, 2, []),
  (209, .iload_n 3, 1, []),
  (210, .invokestatic 208, 3, [3, 170, 3, 1159, 1160, 64, 1161]),
  (213, .lload 5, 2, []),
  (215, .lastore, 1, []),
  (216, .aload_n 0, 1, []),
  (217, .iload 7, 2, []),
  (219, .putfield 205, 3, [944, 12, 17]),
  (222, .iinc 4 (-1), 3, []),
  (225, .goto (-185), 3, []),
  (228, .iinc 3 (-1), 3, []),
  (231, .goto (-204), 3, []),
  (234, .iinc 2 (-1), 3, []),
  (237, .goto (-223), 3, []),
  (240, .aload_n 0, 1, []),
  (241, .getfield 32, 3, [943, 12, 16]),
  (244, .aload_n 0, 1, []),
  (245, .getfield 7, 3, [927, 12, 0]),
  (248, .iconst 1, 1, []),
  (249, .iaload, 1, []),
  (250, .aload_n 0, 1, []),
  (251, .getfield 7, 3, [927, 12, 0]),
  (254, .iconst 2, 1, []),
  (255, .iaload, 1, []),
  (256, .aload_n 0, 1, []),
  (257, .getfield 7, 3, [927, 12, 0]),
  (260, .iconst 3, 1, []),
  (261, .iaload, 1, []),
  (262, .invokestatic 208, 3, [3, 170, 3, 1159, 1160, 64, 1161]),
  (265, .laload, 1, []),
  (266, .lreturn, 1, [])]
def c_172 : List (Nat × Instr × Nat × List Int) := [
  (0, .ldc2_w 199, 3, [1147, 100]),
  (3, .aload_n 0, 1, []),
  (4, .getfield 7, 3, [927, 12, 0]),
  (7, .iconst 0, 1, []),
  (8, .iaload, 1, []),
  (9, .aload_n 0, 1, []),
  (10, .getfield 7, 3, [927, 12, 0]),
  (13, .iconst 1, 1, []),
  (14, .iaload, 1, []),
  (15, .isub, 1, []),
  (16, .invokestatic 201, 3, [3, 167, 2, 1156, 1157, 64, 1158]),
  (19, .lreturn, 1, [])]
def c_173 : List (Nat × Instr × Nat × List Int) := [
  (0, .aload_n 0, 1, []),
  (1, .aload_n 0, 1, []),
  (2, .invokevirtual 213, 3, [6, 171, 0, 1152, 1154, 39, 64, 1155, 12]),
  (5, .aload_n 0, 1, []),
  (6, .invokevirtual 217, 3, [6, 172, 0, 1163, 1165, 40, 64, 1166, 12]),
  (9, .invokevirtual 195, 3, [6, 166, 2, 1140, 1142, 38, 64, 1143, 12]),
  (12, .pop, 1, []),
  (13, .aload_n 0, 1, []),
  (14, .getfield 205, 3, [944, 12, 17]),
  (17, .ireturn, 1, [])]
def c_174 : List (Nat × Instr × Nat × List Int) := [
  (0, .aload_n 0, 1, []),
  (1, .getfield 7, 3, [927, 12, 0]),
  (4, .iconst 2, 1, []),
  (5, .iaload, 1, []),
  (6, .istore_n 2, 1, []),
  (7, .aload_n 0, 1, []),
  (8, .getfield 7, 3, [927, 12, 0]),
  (11, .iconst 3, 1, []),
  (12, .iaload, 1, []),
  (13, .istore_n 3, 1, []),
  (14, .iload_n 2, 1, []),
  (15, .iload_n 1, 1, []),
  (16, .if_icmp .ge 23, 3, []),
  (19, .iload_n 3, 1, []),
  (20, .aload_n 0, 1, []),
  (21, .getfield 7, 3, [927, 12, 0]),
  (24, .bipush 11, 2, []),
  (26, .iaload, 1, []),
  (27, .if_icmp .ge 12, 3, []),
  (30, .iinc 2 1, 3, []),
  (33, .iinc 3 1, 3, []),
  (36, .goto (-22), 3, []),
  (39, .aload_n 0, 1, []),
  (40, .aload_n 0, 1, []),
  (41, .getfield 7, 3, [927, 12, 0]),
  (44, .iconst 1, 1, []),
  (45, .iaload, 1, []),
  (46, .iload_n 2, 1, []),
  (47, .iload_n 3, 1, []),
  (48, .invokevirtual 220, 3, [6, 169, 3, 1175, 1177, 42, 64, 1178, 12]),
  (51, .lreturn, 1, [])]
def c_175 : List (Nat × Instr × Nat × List Int) := [
  (0, .iload_n 1, 1, []),
  (1, .i2l, 1, []),
  (2, .lconst 0, 1, []),
  (3, .ldc2_w 73, 3, [1015, 5]),
  (6, .invokestatic 60, 3, [3, 131, 3, 996, 997, 64, 998]),
  (9, .ifCond .eq 19, 3, []),
  (12, .aload_n 0, 1, []),
  (13, .aload_n 0, 1, []),
  (14, .iload_n 1, 1, []),
  (15, .invokevirtual 224, 3, [6, 174, 1, 1171, 1173, 41, 64, 1174, 12]),
  (18, .aload_n 0, 1, []),
  (19, .invokevirtual 217, 3, [6, 172, 0, 1163, 1165, 40, 64, 1166, 12]),
  (22, .invokevirtual 195, 3, [6, 166, 2, 1140, 1142, 38, 64, 1143, 12]),
  (25, .goto 7, 3, []),
  (28, .aload_n 0, 1, []),
  (29, .invokevirtual 69, 3, [6, 136, 0, 1003, 1005, 24, 64, 1006, 12]),
  (32, .ireturn, 1, [])]
def c_176 : List (Nat × Instr × Nat × List Int) := [
  (0, .iconst 0, 1, []),
  (1, .istore_n 1, 1, []),
  (2, .iconst 1, 1, []),
  (3, .istore_n 2, 1, []),
  (4, .iload_n 2, 1, []),
  (5, .iconst 5, 1, []),
  (6, .if_icmp .gt 29, 3, []),
  (9, .aload_n 0, 1, []),
  (10, .iload_n 2, 1, []),
  (11, .invokevirtual 224, 3, [6, 174, 1, 1171, 1173, 41, 64, 1174, 12]),
  (14, .aload_n 0, 1, []),
  (15, .iload_n 1, 1, []),
  (16, .invokevirtual 224, 3, [6, 174, 1, 1171, 1173, 41, 64, 1174, 12]),
  (19, .lcmp, 1, []),
  (20, .ifCond .le 7, 3, []),
  (23, .iload_n 2, 1, []),
  (24, .goto 4, 3, []),
  (27, .iload_n 1, 1, []),
  (28, .istore_n 1, 1, []),
  (29, .iinc 2 1, 3, []),
  (32, .goto (-28), 3, []),
  (35, .iload_n 1, 1, []),
  (36, .ireturn, 1, [])]
def c_177 : List (Nat × Instr × Nat × List Int) := [
  (0, .lload_n 0, 1, []),
  (1, .lload_n 2, 1, []),
  (2, .lcmp, 1, []),
  (3, .ifCond .le 7, 3, []),
  (6, .iconst 1, 1, []),
  (7, .goto 14, 3, []),
  (10, .lload_n 0, 1, []),
  (11, .lload_n 2, 1, []),
  (12, .lcmp, 1, []),
  (13, .ifCond .ne 7, 3, []),
  (16, .iconst 0, 1, []),
  (17, .goto 4, 3, []),
  (20, .iconst (-1), 1, []),
  (21, .ireturn, 1, [])]
def c_178 : List (Nat × Instr × Nat × List Int) := [
  (0, .aload_n 0, 1, []),
  (1, .getfield 7, 3, [927, 12, 0]),
  (4, .bipush 12, 2, []),
  (6, .aload_n 0, 1, []),
  (7, .getfield 7, 3, [927, 12, 0]),
  (10, .iconst 2, 1, []),
  (11, .iaload, 1, []),
  (12, .iadd, 1, []),
  (13, .iaload, 1, []),
  (14, .ireturn, 1, [])]
def c_179 : List (Nat × Instr × Nat × List Int) := [
  (0, .aload_n 0, 1, []),
  (1, .getfield 7, 3, [927, 12, 0]),
  (4, .iconst 1, 1, []),
  (5, .iaload, 1, []),
  (6, .istore_n 1, 1, []),
  (7, .iload_n 1, 1, []),
  (8, .aload_n 0, 1, []),
  (9, .getfield 7, 3, [927, 12, 0]),
  (12, .iconst 0, 1, []),
  (13, .iaload, 1, []),
  (14, .if_icmp .ne 8, 3, []),
  (17, .aload_n 0, 1, []),
  (18, .invokevirtual 173, 3, [6, 137, 0, 1093, 1095, 31, 64, 1096, 12]),
  (21, .ireturn, 1, []),
  (22, .aload_n 0, 1, []),
  (23, .getfield 7, 3, [927, 12, 0]),
  (26, .iconst 3, 1, []),
  (27, .iaload, 1, []),
  (28, .istore_n 2, 1, []),
  (29, .aload_n 0, 1, []),
  (30, .iload_n 1, 1, []),
  (31, .iconst 1, 1, []),
  (32, .iadd, 1, []),
  (33, .aload_n 0, 1, []),
  (34, .getfield 7, 3, [927, 12, 0]),
  (37, .iconst 2, 1, []),
  (38, .iaload, 1, []),
  (39, .iload_n 2, 1, []),
  (40, .invokevirtual 220, 3, [6, 169, 3, 1175, 1177, 42, 64, 1178, 12]),
  (43, .lstore_n 3, 1, []),
  (44, .ldc2_w 199, 3, [1147, 100]),
  (47, .aload_n 0, 1, []),
  (48, .getfield 7, 3, [927, 12, 0]),
  (51, .iconst 0, 1, []),
  (52, .iaload, 1, []),
  (53, .iconst 1, 1, []),
  (54, .isub, 1, []),
  (55, .iload_n 1, 1, []),
  (56, .isub, 1, []),
  (57, .invokestatic 201, 3, [3, 167, 2, 1156, 1157, 64, 1158]),
  (60, .lstore 5, 2, []),
  (62, .aload_n 0, 1, []),
  (63, .iload_n 1, 1, []),
  (64, .iload_n 2, 1, []),
  (65, .invokevirtual 182, 3, [6, 158, 2, 1117, 1119, 34, 64, 1120, 12]),
  (68, .iconst 2, 1, []),
  (69, .idiv, 1, []),
  (70, .aload_n 0, 1, []),
  (71, .invokevirtual 228, 3, [6, 178, 0, 1187, 1189, 43, 64, 1190, 12]),
  (74, .imul, 1, []),
  (75, .i2l, 1, []),
  (76, .lstore 7, 2, []),
  (78, .lload 7, 2, []),
  (80, .lload 5, 2, []),
  (82, .lmul, 1, []),
  (83, .ldc2_w 199, 3, [1147, 100]),
  (86, .lload 7, 2, []),
  (88, .lsub, 1, []),
  (89, .lload_n 3, 1, []),
  (90, .lmul, 1, []),
  (91, .ladd, 1, []),
  (92, .lstore 9, 2, []),
  (94, .lload 7, 2, []),
  (96, .ldc2_w 199, 3, [1147, 100]),
  (99, .lmul, 1, []),
  (100, .lload 5, 2, []),
  (102, .lmul, 1, []),
  (103, .ldc2_w 199, 3, [1147, 100]),
  (106, .lload 7, 2, []),
  (108, .lsub, 1, []),
  (109, .lload 9, 2, []),
  (111, .lmul, 1, []),
  (112, .ladd, 1, []),
  (113, .lstore 11, 2, []),
  (115, .lload 11, 2, []),
  (117, .ldc2_w 199, 3, [1147, 100]),
  (120, .aload_n 0, 1, []),
  (121, .iload_n 1, 1, []),
  (122, .aload_n 0, 1, []),
  (123, .getfield 7, 3, [927, 12, 0]),
  (126, .iconst 2, 1, []),
  (127, .iaload, 1, []),
  (128, .iload_n 2, 1, []),
  (129, .invokevirtual 220, 3, [6, 169, 3, 1175, 1177, 42, 64, 1178, 12]),
  (132, .lmul, 1, []),
  (133, .invokestatic 231, 3, [3, 177, 2, 1191, 1192, 64, 1193]),
  (136, .ireturn, 1, [])]
def c_180 : List (Nat × Instr × Nat × List Int) := [
  (0, .aload_n 0, 1, []),
  (1, .getfield 7, 3, [927, 12, 0]),
  (4, .iconst 1, 1, []),
  (5, .iaload, 1, []),
  (6, .istore_n 1, 1, []),
  (7, .aload_n 0, 1, []),
  (8, .getfield 7, 3, [927, 12, 0]),
  (11, .iconst 0, 1, []),
  (12, .iaload, 1, []),
  (13, .iload_n 1, 1, []),
  (14, .isub, 1, []),
  (15, .iconst 2, 1, []),
  (16, .if_icmp .ge 8, 3, []),
  (19, .aload_n 0, 1, []),
  (20, .invokevirtual 173, 3, [6, 137, 0, 1093, 1095, 31, 64, 1096, 12]),
  (23, .ireturn, 1, []),
  (24, .aload_n 0, 1, []),
  (25, .getfield 7, 3, [927, 12, 0]),
  (28, .iconst 3, 1, []),
  (29, .iaload, 1, []),
  (30, .istore_n 2, 1, []),
  (31, .aload_n 0, 1, []),
  (32, .iload_n 1, 1, []),
  (33, .iconst 2, 1, []),
  (34, .iadd, 1, []),
  (35, .aload_n 0, 1, []),
  (36, .getfield 7, 3, [927, 12, 0]),
  (39, .iconst 2, 1, []),
  (40, .iaload, 1, []),
  (41, .iload_n 2, 1, []),
  (42, .invokevirtual 220, 3, [6, 169, 3, 1175, 1177, 42, 64, 1178, 12]),
  (45, .lstore_n 3, 1, []),
  (46, .ldc2_w 199, 3, [1147, 100]),
  (49, .aload_n 0, 1, []),
  (50, .getfield 7, 3, [927, 12, 0]),
  (53, .iconst 0, 1, []),
  (54, .iaload, 1, []),
  (55, .iconst 2, 1, []),
  (56, .isub, 1, []),
  (57, .iload_n 1, 1, []),
  (58, .isub, 1, []),
  (59, .invokestatic 201, 3, [3, 167, 2, 1156, 1157, 64, 1158]),
  (62, .lstore 5, 2, []),
  (64, .ldc2_w 199, 3, [1147, 100]),
  (67, .ldc2_w 75, 3, [1016, 10]),
  (70, .aload_n 0, 1, []),
  (71, .iload_n 1, 1, []),
  (72, .iload_n 2, 1, []),
  (73, .invokevirtual 182, 3, [6, 158, 2, 1117, 1119, 34, 64, 1120, 12]),
  (76, .i2l, 1, []),
  (77, .lsub, 1, []),
  (78, .ldc2_w 75, 3, [1016, 10]),
  (81, .aload_n 0, 1, []),
  (82, .iload_n 1, 1, []),
  (83, .iconst 1, 1, []),
  (84, .iadd, 1, []),
  (85, .iload_n 2, 1, []),
  (86, .invokevirtual 182, 3, [6, 158, 2, 1117, 1119, 34, 64, 1120, 12]),
  (89, .i2l, 1, []),
  (90, .lsub, 1, []),
  (91, .lmul, 1, []),
  (92, .lsub, 1, []),
  (93, .aload_n 0, 1, []),
  (94, .invokevirtual 228, 3, [6, 178, 0, 1187, 1189, 43, 64, 1190, 12]),
  (97, .i2l, 1, []),
  (98, .lmul, 1, []),
  (99, .lstore 7, 2, []),
  (101, .lload 7, 2, []),
  (103, .lload 5, 2, []),
  (105, .lmul, 1, []),
  (106, .ldc2_w 234, 3, [1198, 1000]),
  (109, .lload 7, 2, []),
  (111, .lsub, 1, []),
  (112, .lload_n 3, 1, []),
  (113, .lmul, 1, []),
  (114, .ladd, 1, []),
  (115, .lstore 9, 2, []),
  (117, .ldc2_w 75, 3, [1016, 10]),
  (120, .lload 9, 2, []),
  (122, .lmul, 1, []),
  (123, .aload_n 0, 1, []),
  (124, .iload_n 1, 1, []),
  (125, .aload_n 0, 1, []),
  (126, .getfield 7, 3, [927, 12, 0]),
  (129, .iconst 2, 1, []),
  (130, .iaload, 1, []),
  (131, .iload_n 2, 1, []),
  (132, .invokevirtual 220, 3, [6, 169, 3, 1175, 1177, 42, 64, 1178, 12]),
  (135, .invokestatic 231, 3, [3, 177, 2, 1191, 1192, 64, 1193]),
  (138, .ireturn, 1, [])]
def c_181 : List (Nat × Instr × Nat × List Int) := [
  (0, .iload_n 1, 1, []),
  (1, .i2l, 1, []),
  (2, .lconst 1, 1, []),
  (3, .ldc2_w 236, 3, [1203, 6]),
  (6, .invokestatic 60, 3, [3, 131, 3, 996, 997, 64, 998]),
  (9, .ifCond .ne 8, 3, []),
  (12, .aload_n 0, 1, []),
  (13, .invokevirtual 69, 3, [6, 136, 0, 1003, 1005, 24, 64, 1006, 12]),
  (16, .ireturn, 1, []),
  (17, .aload_n 0, 1, []),
  (18, .getfield 7, 3, [927, 12, 0]),
  (21, .iconst 1, 1, []),
  (22, .iaload, 1, []),
  (23, .istore_n 2, 1, []),
  (24, .iload_n 2, 1, []),
  (25, .aload_n 0, 1, []),
  (26, .getfield 7, 3, [927, 12, 0]),
  (29, .iconst 0, 1, []),
  (30, .iaload, 1, []),
  (31, .if_icmp .ne 8, 3, []),
  (34, .aload_n 0, 1, []),
  (35, .invokevirtual 173, 3, [6, 137, 0, 1093, 1095, 31, 64, 1096, 12]),
  (38, .ireturn, 1, []),
  (39, .aload_n 0, 1, []),
  (40, .iload_n 2, 1, []),
  (41, .aload_n 0, 1, []),
  (42, .getfield 7, 3, [927, 12, 0]),
  (45, .iconst 3, 1, []),
  (46, .iaload, 1, []),
  (47, .invokevirtual 182, 3, [6, 158, 2, 1117, 1119, 34, 64, 1120, 12]),
  (50, .istore_n 3, 1, []),
  (51, .ldc2_w 199, 3, [1147, 100]),
  (54, .aload_n 0, 1, []),
  (55, .getfield 7, 3, [927, 12, 0]),
  (58, .iconst 0, 1, []),
  (59, .iaload, 1, []),
  (60, .iconst 1, 1, []),
  (61, .isub, 1, []),
  (62, .iload_n 2, 1, []),
  (63, .isub, 1, []),
  (64, .invokestatic 201, 3, [3, 167, 2, 1156, 1157, 64, 1158]),
  (67, .lstore 4, 2, []),
  (69, .ldc2_w 75, 3, [1016, 10]),
  (72, .iload_n 1, 1, []),
  (73, .invokestatic 201, 3, [3, 167, 2, 1156, 1157, 64, 1158]),
  (76, .lstore 6, 2, []),
  (78, .lload 6, 2, []),
  (80, .ldc2_w 75, 3, [1016, 10]),
  (83, .aload_n 0, 1, []),
  (84, .invokevirtual 228, 3, [6, 178, 0, 1187, 1189, 43, 64, 1190, 12]),
  (87, .i2l, 1, []),
  (88, .lsub, 1, []),
  (89, .iload_n 1, 1, []),
  (90, .invokestatic 201, 3, [3, 167, 2, 1156, 1157, 64, 1158]),
  (93, .lsub, 1, []),
  (94, .lstore 8, 2, []),
  (96, .aload_n 0, 1, []),
  (97, .iload_n 2, 1, []),
  (98, .iconst 1, 1, []),
  (99, .iadd, 1, []),
  (100, .aload_n 0, 1, []),
  (101, .getfield 7, 3, [927, 12, 0]),
  (104, .iconst 2, 1, []),
  (105, .iaload, 1, []),
  (106, .aload_n 0, 1, []),
  (107, .getfield 7, 3, [927, 12, 0]),
  (110, .iconst 3, 1, []),
  (111, .iaload, 1, []),
  (112, .invokevirtual 220, 3, [6, 169, 3, 1175, 1177, 42, 64, 1178, 12]),
  (115, .lstore 10, 2, []),
  (117, .aload_n 0, 1, []),
  (118, .iload_n 3, 1, []),
  (119, .i2l, 1, []),
  (120, .lload 8, 2, []),
  (122, .lmul, 1, []),
  (123, .lload 4, 2, []),
  (125, .lmul, 1, []),
  (126, .ldc2_w 75, 3, [1016, 10]),
  (129, .iload_n 3, 1, []),
  (130, .i2l, 1, []),
  (131, .lsub, 1, []),
  (132, .lload 10, 2, []),
  (134, .lmul, 1, []),
  (135, .lload 6, 2, []),
  (137, .lmul, 1, []),
  (138, .ladd, 1, []),
  (139, .ldc2_w 75, 3, [1016, 10]),
  (142, .lload 6, 2, []),
  (144, .lmul, 1, []),
  (145, .lload 4, 2, []),
  (147, .lmul, 1, []),
  (148, .invokevirtual 195, 3, [6, 166, 2, 1140, 1142, 38, 64, 1143, 12]),
  (151, .ireturn, 1, [])]
def c_182 : List (Nat × Instr × Nat × List Int) := [
  (0, .iload_n 1, 1, []),
  (1, .i2l, 1, []),
  (2, .lconst 0, 1, []),
  (3, .ldc2_w 73, 3, [1015, 5]),
  (6, .invokestatic 60, 3, [3, 131, 3, 996, 997, 64, 998]),
  (9, .ifCond .eq 27, 3, []),
  (12, .iload_n 2, 1, []),
  (13, .i2l, 1, []),
  (14, .lconst 0, 1, []),
  (15, .ldc2_w 75, 3, [1016, 10]),
  (18, .invokestatic 60, 3, [3, 131, 3, 996, 997, 64, 998]),
  (21, .ifCond .eq 15, 3, []),
  (24, .iload_n 3, 1, []),
  (25, .i2l, 1, []),
  (26, .lconst 0, 1, []),
  (27, .ldc2_w 75, 3, [1016, 10]),
  (30, .invokestatic 60, 3, [3, 131, 3, 996, 997, 64, 998]),
  (33, .ifCond .ne 8, 3, []),
  (36, .aload_n 0, 1, []),
  (37, .invokevirtual 69, 3, [6, 136, 0, 1003, 1005, 24, 64, 1006, 12]),
  (40, .ireturn, 1, []),
  (41, .iload_n 2, 1, []),
  (42, .i2l, 1, []),
  (43, .iload_n 3, 1, []),
  (44, .i2l, 1, []),
  (45, .iload_n 1, 1, []),
  (46, .invokestatic 201, 3, [3, 167, 2, 1156, 1157, 64, 1158]),
  (49, .lmul, 1, []),
  (50, .aload_n 0, 1, []),
  (51, .invokevirtual 217, 3, [6, 172, 0, 1163, 1165, 40, 64, 1166, 12]),
  (54, .lmul, 1, []),
  (55, .aload_n 0, 1, []),
  (56, .invokevirtual 213, 3, [6, 171, 0, 1152, 1154, 39, 64, 1155, 12]),
  (59, .ldc2_w 75, 3, [1016, 10]),
  (62, .iload_n 1, 1, []),
  (63, .iconst 1, 1, []),
  (64, .iadd, 1, []),
  (65, .invokestatic 201, 3, [3, 167, 2, 1156, 1157, 64, 1158]),
  (68, .lmul, 1, []),
  (69, .invokestatic 231, 3, [3, 177, 2, 1191, 1192, 64, 1193]),
  (72, .ireturn, 1, [])]
def c_183 : List (Nat × Instr × Nat × List Int) := [
  (0, .iload_n 1, 1, []),
  (1, .istore 4, 2, []),
  (3, .iconst 0, 1, []),
  (4, .istore 5, 2, []),
  (6, .iload_n 2, 1, []),
  (7, .iconst 1, 1, []),
  (8, .isub, 1, []),
  (9, .istore 6, 2, []),
  (11, .iload 6, 2, []),
  (13, .ifCond .lt 39, 3, []),
  (16, .aload_n 0, 1, []),
  (17, .getfield 36, 3, [945, 12, 18]),
  (20, .iload 6, 2, []),
  (22, .iload_n 3, 1, []),
  (23, .iload 4, 2, []),
  (25, .iload_n 2, 1, []),
  (26, .irem, 1, []),
  (27, .iadd, 1, []),
  (28, .iastore, 1, []),
  (29, .iload 5, 2, []),
  (31, .iconst 1, 1, []),
  (32, .iload 4, 2, []),
  (34, .iload_n 2, 1, []),
  (35, .irem, 1, []),
  (36, .ishl, 1, []),
  (37, .ior, 1, []),
  (38, .istore 5, 2, []),
  (40, .iload 4, 2, []),
  (42, .iload_n 2, 1, []),
  (43, .idiv, 1, []),
  (44, .istore 4, 2, []),
  (46, .iinc 6 (-1), 3, []),
  (49, .goto (-38), 3, []),
  (52, .iload 5, 2, []),
  (54, .iconst 1, 1, []),
  (55, .iload_n 2, 1, []),
  (56, .ishl, 1, []),
  (57, .iconst 1, 1, []),
  (58, .isub, 1, []),
  (59, .if_icmp .ne 7, 3, []),
  (62, .iconst 1, 1, []),
  (63, .goto 4, 3, []),
  (66, .iconst 0, 1, []),
  (67, .ireturn, 1, [])]
def c_184 : List (Nat × Instr × Nat × List Int) := [
  (0, .iconst 0, 1, []),
  (1, .istore_n 2, 1, []),
  (2, .iload_n 2, 1, []),
  (3, .iload_n 1, 1, []),
  (4, .if_icmp .ge 21, 3, []),
  (7, .aload_n 0, 1, []),
  (8, .getfield 39, 3, [946, 12, 19]),
  (11, .iload_n 2, 1, []),
  (12, .aload_n 0, 1, []),
  (13, .getfield 36, 3, [945, 12, 18]),
  (16, .iload_n 2, 1, []),
  (17, .iaload, 1, []),
  (18, .iastore, 1, []),
  (19, .iinc 2 1, 3, []),
  (22, .goto (-20), 3, []),
  (25, .return_, 1, [])]
def c_185 : List (Nat × Instr × Nat × List Int) := [
  (0, .iconst 1, 1, []),
  (1, .istore_n 1, 1, []),
  (2, .iconst 0, 1, []),
  (3, .istore_n 2, 1, []),
  (4, .iload_n 2, 1, []),
  (5, .iload_n 0, 1, []),
  (6, .if_icmp .ge 13, 3, []),
  (9, .iload_n 1, 1, []),
  (10, .iload_n 0, 1, []),
  (11, .imul, 1, []),
  (12, .istore_n 1, 1, []),
  (13, .iinc 2 1, 3, []),
  (16, .goto (-12), 3, []),
  (19, .iload_n 1, 1, []),
  (20, .ireturn, 1, [])]
def c_186 : List (Nat × Instr × Nat × List Int) := [
  (0, .iload_n 1, 1, []),
  (1, .ifCond .ge 11, 3, []),
  (4, .aload_n 0, 1, []),
  (5, .iconst 0, 1, []),
  (6, .bipush (-10), 2, []),
  (8, .invokevirtual 56, 3, [6, 135, 2, 1007, 1009, 25, 64, 1010, 12]),
  (11, .ireturn, 1, []),
  (12, .aload_n 0, 1, []),
  (13, .getfield 7, 3, [927, 12, 0]),
  (16, .iconst 0, 1, []),
  (17, .iaload, 1, []),
  (18, .aload_n 0, 1, []),
  (19, .getfield 7, 3, [927, 12, 0]),
  (22, .iconst 1, 1, []),
  (23, .iaload, 1, []),
  (24, .isub, 1, []),
  (25, .istore_n 2, 1, []),
  (26, .ldc2_w 211, 3, [1162, -1]),
  (29, .lstore_n 3, 1, []),
  (30, .iload_n 2, 1, []),
  (31, .invokestatic 238, 3, [3, 185, 1, 1212, 1213, 64, 1214]),
  (34, .istore 5, 2, []),
  (36, .iconst 0, 1, []),
  (37, .istore 6, 2, []),
  (39, .iload 6, 2, []),
  (41, .iload 5, 2, []),
  (43, .if_icmp .ge 114, 3, []),
  (46, .aload_n 0, 1, []),
  (47, .iload 6, 2, []),
  (49, .iload_n 2, 1, []),
  (50, .aload_n 0, 1, []),
  (51, .getfield 7, 3, [927, 12, 0]),
  (54, .iconst 1, 1, []),
  (55, .iaload, 1, []),
  (56, .invokevirtual 241, 3, [6, 183, 3, 1215, 1217, 44, 64, 1218, 12]),
  (59, .ifCond .eq 92, 3, []),
  (62, .lconst 0, 1, []),
  (63, .lstore 7, 2, []),
  (65, .iload_n 2, 1, []),
  (66, .iconst 1, 1, []),
  (67, .isub, 1, []),
  (68, .istore 9, 2, []),
  (70, .iload 9, 2, []),
  (72, .ifCond .lt 64, 3, []),
  (75, .aload_n 0, 1, []),
  (76, .aload_n 0, 1, []),
  (77, .getfield 36, 3, [945, 12, 18]),
  (80, .iload 9, 2, []),
  (82, .iaload, 1, []),
  (83, .aload_n 0, 1, []),
  (84, .getfield 7, 3, [927, 12, 0]),
  (87, .iconst 3, 1, []),
  (88, .iaload, 1, []),
  (89, .iload 9, 2, []),
  (91, .iadd, 1, []),
  (92, .invokevirtual 182, 3, [6, 158, 2, 1117, 1119, 34, 64, 1120, 12]),
  (95, .aload_n 0, 1, []),
  (96, .invokevirtual 228, 3, [6, 178, 0, 1187, 1189, 43, 64, 1190, 12]),
  (99, .imul, 1, []),
  (100, .i2l, 1, []),
  (101, .lstore 10, 2, []),
  (103, .lload 10, 2, []),
  (105, .ldc2_w 199, 3, [1147, 100]),
  (108, .iload_n 2, 1, []),
  (109, .iconst 1, 1, []),
  (110, .isub, 1, []),
  (111, .iload 9, 2, []),
  (113, .isub, 1, []),
  (114, .invokestatic 201, 3, [3, 167, 2, 1156, 1157, 64, 1158]),
  (117, .lmul, 1, []),
  (118, .ldc2_w 199, 3, [1147, 100]),
  (121, .lload 10, 2, []),
  (123, .lsub, 1, []),
  (124, .lload 7, 2, []),
  (126, .lmul, 1, []),
  (127, .ladd, 1, []),
  (128, .lstore 7, 2, []),
  (130, .iinc 9 (-1), 3, []),
  (133, .goto (-63), 3, []),
  (136, .lload 7, 2, []),
  (138, .lload_n 3, 1, []),
  (139, .lcmp, 1, []),
  (140, .ifCond .le 11, 3, []),
  (143, .lload 7, 2, []),
  (145, .lstore_n 3, 1, []),
  (146, .aload_n 0, 1, []),
  (147, .iload_n 2, 1, []),
  (148, .invokevirtual 245, 3, [6, 184, 1, 1219, 1221, 45, 64, 1222, 12]),
  (151, .iinc 6 1, 3, []),
  (154, .goto (-115), 3, []),
  (157, .aload_n 0, 1, []),
  (158, .lload_n 3, 1, []),
  (159, .aload_n 0, 1, []),
  (160, .invokevirtual 217, 3, [6, 172, 0, 1163, 1165, 40, 64, 1166, 12]),
  (163, .invokevirtual 195, 3, [6, 166, 2, 1140, 1142, 38, 64, 1143, 12]),
  (166, .pop, 1, []),
  (167, .iload_n 1, 1, []),
  (168, .iload_n 2, 1, []),
  (169, .if_icmp .ge 12, 3, []),
  (172, .aload_n 0, 1, []),
  (173, .getfield 39, 3, [946, 12, 19]),
  (176, .iload_n 1, 1, []),
  (177, .iaload, 1, []),
  (178, .goto 5, 3, []),
  (181, .bipush (-5), 2, []),
  (183, .ireturn, 1, [])]
def c_187 : List (Nat × Instr × Nat × List Int) := [
  (0, .aload_n 0, 1, []),
  (1, .getfield 7, 3, [927, 12, 0]),
  (4, .bipush 36, 2, []),
  (6, .iconst 2, 1, []),
  (7, .iload_n 1, 1, []),
  (8, .imul, 1, []),
  (9, .iadd, 1, []),
  (10, .iaload, 1, []),
  (11, .ireturn, 1, [])]
def c_188 : List (Nat × Instr × Nat × List Int) := [
  (0, .aload_n 0, 1, []),
  (1, .getfield 7, 3, [927, 12, 0]),
  (4, .iconst 4, 1, []),
  (5, .iaload, 1, []),
  (6, .istore_n 3, 1, []),
  (7, .iload_n 1, 1, []),
  (8, .i2l, 1, []),
  (9, .lconst 0, 1, []),
  (10, .iconst 1, 1, []),
  (11, .iload_n 3, 1, []),
  (12, .ishl, 1, []),
  (13, .iconst 1, 1, []),
  (14, .isub, 1, []),
  (15, .i2l, 1, []),
  (16, .invokestatic 60, 3, [3, 131, 3, 996, 997, 64, 998]),
  (19, .ifCond .eq 18, 3, []),
  (22, .iload_n 2, 1, []),
  (23, .i2l, 1, []),
  (24, .ldc2_w 211, 3, [1162, -1]),
  (27, .iload_n 3, 1, []),
  (28, .iconst 1, 1, []),
  (29, .isub, 1, []),
  (30, .i2l, 1, []),
  (31, .invokestatic 60, 3, [3, 131, 3, 996, 997, 64, 998]),
  (34, .ifCond .ne 11, 3, []),
  (37, .aload_n 0, 1, []),
  (38, .iconst 0, 1, []),
  (39, .bipush (-10), 2, []),
  (41, .invokevirtual 56, 3, [6, 135, 2, 1007, 1009, 25, 64, 1010, 12]),
  (44, .ireturn, 1, []),
  (45, .iconst 0, 1, []),
  (46, .istore 4, 2, []),
  (48, .iload 4, 2, []),
  (50, .iload_n 3, 1, []),
  (51, .if_icmp .ge 31, 3, []),
  (54, .aload_n 0, 1, []),
  (55, .getfield 42, 3, [947, 12, 20]),
  (58, .iload 4, 2, []),
  (60, .iload_n 1, 1, []),
  (61, .iload 4, 2, []),
  (63, .ishr, 1, []),
  (64, .iconst 1, 1, []),
  (65, .iand, 1, []),
  (66, .iconst 1, 1, []),
  (67, .if_icmp .ne 7, 3, []),
  (70, .iconst 0, 1, []),
  (71, .goto 4, 3, []),
  (74, .iconst (-1), 1, []),
  (75, .iastore, 1, []),
  (76, .iinc 4 1, 3, []),
  (79, .goto (-31), 3, []),
  (82, .iconst 1, 1, []),
  (83, .istore 4, 2, []),
  (85, .iload 4, 2, []),
  (87, .bipush 100, 2, []),
  (89, .if_icmp .ge 175, 3, []),
  (92, .iconst 0, 1, []),
  (93, .istore 5, 2, []),
  (95, .iload 5, 2, []),
  (97, .iload_n 3, 1, []),
  (98, .if_icmp .ge 160, 3, []),
  (101, .iconst 0, 1, []),
  (102, .istore 6, 2, []),
  (104, .iconst 0, 1, []),
  (105, .istore 7, 2, []),
  (107, .iload 7, 2, []),
  (109, .iload_n 3, 1, []),
  (110, .if_icmp .ge 101, 3, []),
  (113, .aload_n 0, 1, []),
  (114, .getfield 42, 3, [947, 12, 20]),
  (117, .iload 7, 2, []),
  (119, .iaload, 1, []),
  (120, .iconst (-1), 1, []),
  (121, .if_icmp .eq 38, 3, []),
  (124, .aload_n 0, 1, []),
  (125, .getfield 42, 3, [947, 12, 20]),
  (128, .iload 7, 2, []),
  (130, .iaload, 1, []),
  (131, .iload 4, 2, []),
  (133, .if_icmp .ge 26, 3, []),
  (136, .iload 4, 2, []),
  (138, .aload_n 0, 1, []),
  (139, .getfield 42, 3, [947, 12, 20]),
  (142, .iload 7, 2, []),
  (144, .iaload, 1, []),
  (145, .aload_n 0, 1, []),
  (146, .iload 7, 2, []),
  (148, .invokevirtual 249, 3, [6, 187, 1, 1227, 1229, 46, 64, 1230, 12]),
  (151, .iadd, 1, []),
  (152, .if_icmp .gt 7, 3, []),
  (155, .iconst 1, 1, []),
  (156, .goto 4, 3, []),
  (159, .iconst 0, 1, []),
  (160, .istore 8, 2, []),
  (162, .iload 6, 2, []),
  (164, .iload 8, 2, []),
  (166, .ifCond .eq 35, 3, []),
  (169, .aload_n 0, 1, []),
  (170, .getfield 7, 3, [927, 12, 0]),
  (173, .bipush 36, 2, []),
  (175, .iconst 2, 1, []),
  (176, .iload 5, 2, []),
  (178, .imul, 1, []),
  (179, .iadd, 1, []),
  (180, .iconst 1, 1, []),
  (181, .iadd, 1, []),
  (182, .iaload, 1, []),
  (183, .iload 7, 2, []),
  (185, .ishr, 1, []),
  (186, .iconst 1, 1, []),
  (187, .iand, 1, []),
  (188, .iconst 1, 1, []),
  (189, .if_icmp .ne 12, 3, []),
  (192, .aload_n 0, 1, []),
  (193, .iload 7, 2, []),
  (195, .invokevirtual 249, 3, [6, 187, 1, 1227, 1229, 46, 64, 1230, 12]),
  (198, .goto 4, 3, []),
  (201, .iconst 0, 1, []),
  (202, .iadd, 1, []),
  (203, .istore 6, 2, []),
  (205, .iinc 7 1, 3, []),
  (208, .goto (-101), 3, []),
  (211, .aload_n 0, 1, []),
  (212, .getfield 42, 3, [947, 12, 20]),
  (215, .iload 5, 2, []),
  (217, .aload_n 0, 1, []),
  (218, .getfield 42, 3, [947, 12, 20]),
  (221, .iload 5, 2, []),
  (223, .iaload, 1, []),
  (224, .iconst (-1), 1, []),
  (225, .if_icmp .ne 19, 3, []),
  (228, .iload 6, 2, []),
  (230, .aload_n 0, 1, []),
  (231, .iload 5, 2, []),
  (233, .invokevirtual 249, 3, [6, 187, 1, 1227, 1229, 46, 64, 1230, 12]),
  (236, .if_icmp .lt 8, 3, []),
  (239, .iload 4, 2, []),
  (241, .goto 10, 3, []),
  (244, .aload_n 0, 1, []),
  (245, .getfield 42, 3, [947, 12, 20]),
  (248, .iload 5, 2, []),
  (250, .iaload, 1, []),
  (251, .iastore, 1, []),
  (252, .iinc 5 1, 3, []),
  (255, .goto (-160), 3, []),
  (258, .iinc 4 1, 3, []),
  (261, .goto (-176), 3, []),
  (264, .iconst 0, 1, []),
  (265, .istore 4, 2, []),
  (267, .iconst 0, 1, []),
  (268, .istore 5, 2, []),
  (270, .iload 5, 2, []),
  (272, .iload_n 3, 1, []),
  (273, .if_icmp .ge 33, 3, []),
  (276, .iload 4, 2, []),
  (278, .aload_n 0, 1, []),
  (279, .getfield 42, 3, [947, 12, 20]),
  (282, .iload 5, 2, []),
  (284, .iaload, 1, []),
  (285, .iconst (-1), 1, []),
  (286, .if_icmp .ne 7, 3, []),
  (289, .iconst 0, 1, []),
  (290, .goto 7, 3, []),
  (293, .iconst 1, 1, []),
  (294, .iload 5, 2, []),
  (296, .ishl, 1, []),
  (297, .ior, 1, []),
  (298, .istore 4, 2, []),
  (300, .iinc 5 1, 3, []),
  (303, .goto (-33), 3, []),
  (306, .iload_n 2, 1, []),
  (307, .iconst (-1), 1, []),
  (308, .if_icmp .ne 8, 3, []),
  (311, .iload 4, 2, []),
  (313, .goto 9, 3, []),
  (316, .aload_n 0, 1, []),
  (317, .getfield 42, 3, [947, 12, 20]),
  (320, .iload_n 2, 1, []),
  (321, .iaload, 1, []),
  (322, .ireturn, 1, [])]
def c_189 : List (Nat × Instr × Nat × List Int) := [
  (0, .iload_n 1, 1, []),
  (1, .i2l, 1, []),
  (2, .lconst 1, 1, []),
  (3, .ldc2_w 77, 3, [1021, 9]),
  (6, .invokestatic 60, 3, [3, 131, 3, 996, 997, 64, 998]),
  (9, .ifCond .eq 8, 3, []),
  (12, .iload_n 2, 1, []),
  (13, .iconst (-1), 1, []),
  (14, .if_icmp .ge 11, 3, []),
  (17, .aload_n 0, 1, []),
  (18, .iconst 0, 1, []),
  (19, .bipush (-10), 2, []),
  (21, .invokevirtual 56, 3, [6, 135, 2, 1007, 1009, 25, 64, 1010, 12]),
  (24, .ireturn, 1, []),
  (25, .aload_n 0, 1, []),
  (26, .getfield 7, 3, [927, 12, 0]),
  (29, .iconst 4, 1, []),
  (30, .iaload, 1, []),
  (31, .istore_n 3, 1, []),
  (32, .iconst (-1), 1, []),
  (33, .istore 4, 2, []),
  (35, .iload_n 3, 1, []),
  (36, .invokestatic 238, 3, [3, 185, 1, 1212, 1213, 64, 1214]),
  (39, .istore 5, 2, []),
  (41, .iconst 0, 1, []),
  (42, .istore 6, 2, []),
  (44, .iload 6, 2, []),
  (46, .iload 5, 2, []),
  (48, .if_icmp .ge 140, 3, []),
  (51, .aload_n 0, 1, []),
  (52, .iload 6, 2, []),
  (54, .iload_n 3, 1, []),
  (55, .iconst 0, 1, []),
  (56, .invokevirtual 241, 3, [6, 183, 3, 1215, 1217, 44, 64, 1218, 12]),
  (59, .ifCond .eq 123, 3, []),
  (62, .iconst 0, 1, []),
  (63, .istore 7, 2, []),
  (65, .iconst 1, 1, []),
  (66, .istore 8, 2, []),
  (68, .iconst 0, 1, []),
  (69, .istore 9, 2, []),
  (71, .iload 9, 2, []),
  (73, .iload_n 3, 1, []),
  (74, .if_icmp .ge 92, 3, []),
  (77, .iload 8, 2, []),
  (79, .ifCond .eq 87, 3, []),
  (82, .iload 9, 2, []),
  (84, .ifCond .ne 25, 3, []),
  (87, .iload_n 1, 1, []),
  (88, .aload_n 0, 1, []),
  (89, .aload_n 0, 1, []),
  (90, .getfield 36, 3, [945, 12, 18]),
  (93, .iconst 0, 1, []),
  (94, .iaload, 1, []),
  (95, .invokevirtual 249, 3, [6, 187, 1, 1227, 1229, 46, 64, 1230, 12]),
  (98, .if_icmp .lt 7, 3, []),
  (101, .iconst 1, 1, []),
  (102, .goto 41, 3, []),
  (105, .iconst 0, 1, []),
  (106, .goto 37, 3, []),
  (109, .aload_n 0, 1, []),
  (110, .aload_n 0, 1, []),
  (111, .getfield 36, 3, [945, 12, 18]),
  (114, .iload 9, 2, []),
  (116, .iconst 1, 1, []),
  (117, .isub, 1, []),
  (118, .iaload, 1, []),
  (119, .invokevirtual 249, 3, [6, 187, 1, 1227, 1229, 46, 64, 1230, 12]),
  (122, .aload_n 0, 1, []),
  (123, .aload_n 0, 1, []),
  (124, .getfield 36, 3, [945, 12, 18]),
  (127, .iload 9, 2, []),
  (129, .iaload, 1, []),
  (130, .invokevirtual 249, 3, [6, 187, 1, 1227, 1229, 46, 64, 1230, 12]),
  (133, .iconst 2, 1, []),
  (134, .isub, 1, []),
  (135, .if_icmp .lt 7, 3, []),
  (138, .iconst 1, 1, []),
  (139, .goto 4, 3, []),
  (142, .iconst 0, 1, []),
  (143, .istore 8, 2, []),
  (145, .iload 7, 2, []),
  (147, .iload 8, 2, []),
  (149, .ifCond .eq 7, 3, []),
  (152, .iconst 1, 1, []),
  (153, .goto 4, 3, []),
  (156, .iconst 0, 1, []),
  (157, .iadd, 1, []),
  (158, .istore 7, 2, []),
  (160, .iinc 9 1, 3, []),
  (163, .goto (-92), 3, []),
  (166, .iload 7, 2, []),
  (168, .iload 4, 2, []),
  (170, .if_icmp .le 12, 3, []),
  (173, .iload 7, 2, []),
  (175, .istore 4, 2, []),
  (177, .aload_n 0, 1, []),
  (178, .iload_n 3, 1, []),
  (179, .invokevirtual 245, 3, [6, 184, 1, 1219, 1221, 45, 64, 1222, 12]),
  (182, .iinc 6 1, 3, []),
  (185, .goto (-141), 3, []),
  (188, .iload_n 2, 1, []),
  (189, .iconst (-1), 1, []),
  (190, .if_icmp .ne 8, 3, []),
  (193, .iload 4, 2, []),
  (195, .goto 19, 3, []),
  (198, .iload_n 2, 1, []),
  (199, .iload_n 3, 1, []),
  (200, .if_icmp .ge 12, 3, []),
  (203, .aload_n 0, 1, []),
  (204, .getfield 39, 3, [946, 12, 19]),
  (207, .iload_n 2, 1, []),
  (208, .iaload, 1, []),
  (209, .goto 5, 3, []),
  (212, .bipush (-5), 2, []),
  (214, .ireturn, 1, [])]
def c_190 : List (Nat × Instr × Nat × List Int) := [
  (0, .iload_n 1, 1, []),
  (1, .i2l, 1, []),
  (2, .lconst 0, 1, []),
  (3, .ldc2_w 252, 3, [1239, 99]),
  (6, .invokestatic 60, 3, [3, 131, 3, 996, 997, 64, 998]),
  (9, .ifCond .eq 46, 3, []),
  (12, .iload_n 2, 1, []),
  (13, .i2l, 1, []),
  (14, .lconst 1, 1, []),
  (15, .ldc2_w 77, 3, [1021, 9]),
  (18, .invokestatic 60, 3, [3, 131, 3, 996, 997, 64, 998]),
  (21, .ifCond .eq 34, 3, []),
  (24, .iload_n 3, 1, []),
  (25, .i2l, 1, []),
  (26, .lconst 1, 1, []),
  (27, .ldc2_w 252, 3, [1239, 99]),
  (30, .invokestatic 60, 3, [3, 131, 3, 996, 997, 64, 998]),
  (33, .ifCond .eq 22, 3, []),
  (36, .iload 4, 2, []),
  (38, .i2l, 1, []),
  (39, .lconst 0, 1, []),
  (40, .ldc2_w 252, 3, [1239, 99]),
  (43, .invokestatic 60, 3, [3, 131, 3, 996, 997, 64, 998]),
  (46, .ifCond .eq 9, 3, []),
  (49, .iload 5, 2, []),
  (51, .iconst (-1), 1, []),
  (52, .if_icmp .ge 11, 3, []),
  (55, .aload_n 0, 1, []),
  (56, .iconst 0, 1, []),
  (57, .bipush (-10), 2, []),
  (59, .invokevirtual 56, 3, [6, 135, 2, 1007, 1009, 25, 64, 1010, 12]),
  (62, .ireturn, 1, []),
  (63, .iload_n 1, 1, []),
  (64, .iload_n 3, 1, []),
  (65, .if_icmp .ge 7, 3, []),
  (68, .iload_n 1, 1, []),
  (69, .goto 4, 3, []),
  (72, .iload_n 3, 1, []),
  (73, .istore 6, 2, []),
  (75, .iconst 0, 1, []),
  (76, .istore 7, 2, []),
  (78, .bipush (-5), 2, []),
  (80, .istore 8, 2, []),
  (82, .iconst 0, 1, []),
  (83, .istore 9, 2, []),
  (85, .iload 9, 2, []),
  (87, .iload 4, 2, []),
  (89, .if_icmp .ge 46, 3, []),
  (92, .iload 6, 2, []),
  (94, .ifCond .ne 25, 3, []),
  (97, .iload_n 3, 1, []),
  (98, .istore 6, 2, []),
  (100, .iload 7, 2, []),
  (102, .iload 5, 2, []),
  (104, .if_icmp .ne 8, 3, []),
  (107, .iload 9, 2, []),
  (109, .goto 5, 3, []),
  (112, .iload 8, 2, []),
  (114, .istore 8, 2, []),
  (116, .iinc 7 1, 3, []),
  (119, .iload 6, 2, []),
  (121, .iload_n 2, 1, []),
  (122, .isub, 1, []),
  (123, .iconst 0, 1, []),
  (124, .invokestatic 164, 3, [3, 132, 2, 1125, 1126, 64, 1127]),
  (127, .istore 6, 2, []),
  (129, .iinc 9 1, 3, []),
  (132, .goto (-47), 3, []),
  (135, .iload 5, 2, []),
  (137, .iconst (-1), 1, []),
  (138, .if_icmp .ne 8, 3, []),
  (141, .iload 7, 2, []),
  (143, .goto 5, 3, []),
  (146, .iload 8, 2, []),
  (148, .ireturn, 1, [])]
def c_191 : List (Nat × Instr × Nat × List Int) := [
  (0, .iload_n 1, 1, []),
  (1, .i2l, 1, []),
  (2, .lconst 0, 1, []),
  (3, .lconst 1, 1, []),
  (4, .invokestatic 60, 3, [3, 131, 3, 996, 997, 64, 998]),
  (7, .ifCond .ne 11, 3, []),
  (10, .aload_n 0, 1, []),
  (11, .iconst 0, 1, []),
  (12, .bipush (-10), 2, []),
  (14, .invokevirtual 56, 3, [6, 135, 2, 1007, 1009, 25, 64, 1010, 12]),
  (17, .ireturn, 1, []),
  (18, .aload_n 0, 1, []),
  (19, .getfield 7, 3, [927, 12, 0]),
  (22, .iconst 5, 1, []),
  (23, .iaload, 1, []),
  (24, .istore_n 2, 1, []),
  (25, .iconst 0, 1, []),
  (26, .istore_n 3, 1, []),
  (27, .iconst (-1), 1, []),
  (28, .istore 4, 2, []),
  (30, .iconst 1, 1, []),
  (31, .istore 5, 2, []),
  (33, .iconst 0, 1, []),
  (34, .istore 6, 2, []),
  (36, .iload 6, 2, []),
  (38, .iload_n 2, 1, []),
  (39, .if_icmp .ge 20, 3, []),
  (42, .iload 5, 2, []),
  (44, .aload_n 0, 1, []),
  (45, .getfield 7, 3, [927, 12, 0]),
  (48, .iconst 0, 1, []),
  (49, .iaload, 1, []),
  (50, .imul, 1, []),
  (51, .istore 5, 2, []),
  (53, .iinc 6 1, 3, []),
  (56, .goto (-20), 3, []),
  (59, .iconst 0, 1, []),
  (60, .istore 6, 2, []),
  (62, .iload 6, 2, []),
  (64, .iload 5, 2, []),
  (66, .if_icmp .ge 145, 3, []),
  (69, .iload 6, 2, []),
  (71, .istore 7, 2, []),
  (73, .iconst 0, 1, []),
  (74, .istore 8, 2, []),
  (76, .iconst 1, 1, []),
  (77, .istore 9, 2, []),
  (79, .iconst (-1), 1, []),
  (80, .istore 10, 2, []),
  (82, .iload_n 2, 1, []),
  (83, .iconst 1, 1, []),
  (84, .isub, 1, []),
  (85, .istore 11, 2, []),
  (87, .iload 11, 2, []),
  (89, .ifCond .lt 85, 3, []),
  (92, .iload 7, 2, []),
  (94, .aload_n 0, 1, []),
  (95, .getfield 7, 3, [927, 12, 0]),
  (98, .iconst 0, 1, []),
  (99, .iaload, 1, []),
  (100, .irem, 1, []),
  (101, .istore 12, 2, []),
  (103, .iload 7, 2, []),
  (105, .aload_n 0, 1, []),
  (106, .getfield 7, 3, [927, 12, 0]),
  (109, .iconst 0, 1, []),
  (110, .iaload, 1, []),
  (111, .idiv, 1, []),
  (112, .istore 7, 2, []),
  (114, .iload 9, 2, []),
  (116, .ifCond .eq 36, 3, []),
  (119, .iload 8, 2, []),
  (121, .iload 12, 2, []),
  (123, .ishr, 1, []),
  (124, .iconst 1, 1, []),
  (125, .iand, 1, []),
  (126, .ifCond .ne 26, 3, []),
  (129, .aload_n 0, 1, []),
  (130, .iload 12, 2, []),
  (132, .invokevirtual 185, 3, [6, 159, 1, 1132, 1134, 37, 64, 1135, 12]),
  (135, .aload_n 0, 1, []),
  (136, .getfield 7, 3, [927, 12, 0]),
  (139, .bipush 50, 2, []),
  (141, .iload 11, 2, []),
  (143, .iadd, 1, []),
  (144, .iaload, 1, []),
  (145, .if_icmp .ne 7, 3, []),
  (148, .iconst 1, 1, []),
  (149, .goto 4, 3, []),
  (152, .iconst 0, 1, []),
  (153, .istore 9, 2, []),
  (155, .iload 8, 2, []),
  (157, .iconst 1, 1, []),
  (158, .iload 12, 2, []),
  (160, .ishl, 1, []),
  (161, .ior, 1, []),
  (162, .istore 8, 2, []),
  (164, .iload 12, 2, []),
  (166, .istore 10, 2, []),
  (168, .iinc 11 (-1), 3, []),
  (171, .goto (-84), 3, []),
  (174, .iload 9, 2, []),
  (176, .ifCond .eq 12, 3, []),
  (179, .iload_n 3, 1, []),
  (180, .ifCond .ne 8, 3, []),
  (183, .iload 10, 2, []),
  (185, .goto 5, 3, []),
  (188, .iload 4, 2, []),
  (190, .istore 4, 2, []),
  (192, .iload_n 3, 1, []),
  (193, .iload 9, 2, []),
  (195, .ifCond .eq 7, 3, []),
  (198, .iconst 1, 1, []),
  (199, .goto 4, 3, []),
  (202, .iconst 0, 1, []),
  (203, .iadd, 1, []),
  (204, .istore_n 3, 1, []),
  (205, .iinc 6 1, 3, []),
  (208, .goto (-146), 3, []),
  (211, .iload_n 1, 1, []),
  (212, .ifCond .ne 7, 3, []),
  (215, .iload_n 3, 1, []),
  (216, .goto 5, 3, []),
  (219, .iload 4, 2, []),
  (221, .ireturn, 1, [])]
def c_192 : List (Nat × Instr × Nat × List Int) := [
  (0, .aload_n 0, 1, []),
  (1, .iload_n 1, 1, []),
  (2, .invokevirtual 179, 3, [6, 140, 1, 1113, 1115, 33, 64, 1116, 12]),
  (5, .ifCond .eq 39, 3, []),
  (8, .iload_n 2, 1, []),
  (9, .i2l, 1, []),
  (10, .lconst 0, 1, []),
  (11, .ldc2_w 254, 3, [1248, 12]),
  (14, .invokestatic 60, 3, [3, 131, 3, 996, 997, 64, 998]),
  (17, .ifCond .eq 27, 3, []),
  (20, .iload_n 3, 1, []),
  (21, .i2l, 1, []),
  (22, .lconst 0, 1, []),
  (23, .ldc2_w 82, 3, [1034, 18]),
  (26, .invokestatic 60, 3, [3, 131, 3, 996, 997, 64, 998]),
  (29, .ifCond .eq 15, 3, []),
  (32, .iload 4, 2, []),
  (34, .i2l, 1, []),
  (35, .lconst 0, 1, []),
  (36, .iload_n 3, 1, []),
  (37, .i2l, 1, []),
  (38, .invokestatic 60, 3, [3, 131, 3, 996, 997, 64, 998]),
  (41, .ifCond .ne 11, 3, []),
  (44, .aload_n 0, 1, []),
  (45, .iconst 0, 1, []),
  (46, .bipush (-10), 2, []),
  (48, .invokevirtual 56, 3, [6, 135, 2, 1007, 1009, 25, 64, 1010, 12]),
  (51, .ireturn, 1, []),
  (52, .lconst 0, 1, []),
  (53, .lstore 5, 2, []),
  (55, .iconst (-1), 1, []),
  (56, .istore 7, 2, []),
  (58, .iconst 0, 1, []),
  (59, .istore 8, 2, []),
  (61, .iload 8, 2, []),
  (63, .bipush 10, 2, []),
  (65, .if_icmp .ge 90, 3, []),
  (68, .aload_n 0, 1, []),
  (69, .iload_n 1, 1, []),
  (70, .iload_n 2, 1, []),
  (71, .iload 8, 2, []),
  (73, .aload_n 0, 1, []),
  (74, .getfield 7, 3, [927, 12, 0]),
  (77, .bipush 9, 2, []),
  (79, .iaload, 1, []),
  (80, .isub, 1, []),
  (81, .iconst 0, 1, []),
  (82, .invokestatic 164, 3, [3, 132, 2, 1125, 1126, 64, 1127]),
  (85, .invokevirtual 170, 3, [6, 157, 3, 1128, 1130, 36, 64, 1131, 12]),
  (88, .istore 9, 2, []),
  (90, .iload 9, 2, []),
  (92, .i2l, 1, []),
  (93, .iload 4, 2, []),
  (95, .invokestatic 201, 3, [3, 167, 2, 1156, 1157, 64, 1158]),
  (98, .ldc2_w 75, 3, [1016, 10]),
  (101, .iload 9, 2, []),
  (103, .i2l, 1, []),
  (104, .lsub, 1, []),
  (105, .iload_n 3, 1, []),
  (106, .iload 4, 2, []),
  (108, .isub, 1, []),
  (109, .invokestatic 201, 3, [3, 167, 2, 1156, 1157, 64, 1158]),
  (112, .lmul, 1, []),
  (113, .lstore 10, 2, []),
  (115, .lload 10, 2, []),
  (117, .lload 5, 2, []),
  (119, .lcmp, 1, []),
  (120, .ifCond .le 8, 3, []),
  (123, .iload 8, 2, []),
  (125, .goto 5, 3, []),
  (128, .iload 7, 2, []),
  (130, .istore 7, 2, []),
  (132, .lload 10, 2, []),
  (134, .lload 5, 2, []),
  (136, .lcmp, 1, []),
  (137, .ifCond .le 8, 3, []),
  (140, .lload 10, 2, []),
  (142, .goto 5, 3, []),
  (145, .lload 5, 2, []),
  (147, .lstore 5, 2, []),
  (149, .iinc 8 1, 3, []),
  (152, .goto (-91), 3, []),
  (155, .iload 7, 2, []),
  (157, .ireturn, 1, [])]
def c_193 : List (Nat × Instr × Nat × List Int) := [
  (0, .iload_n 1, 1, []),
  (1, .i2l, 1, []),
  (2, .lconst 0, 1, []),
  (3, .ldc2_w 256, 3, [1253, 60]),
  (6, .invokestatic 60, 3, [3, 131, 3, 996, 997, 64, 998]),
  (9, .ifCond .eq 15, 3, []),
  (12, .iload_n 2, 1, []),
  (13, .i2l, 1, []),
  (14, .lconst 0, 1, []),
  (15, .ldc2_w 258, 3, [1254, 999999]),
  (18, .invokestatic 60, 3, [3, 131, 3, 996, 997, 64, 998]),
  (21, .ifCond .ne 8, 3, []),
  (24, .aload_n 0, 1, []),
  (25, .invokevirtual 69, 3, [6, 136, 0, 1003, 1005, 24, 64, 1006, 12]),
  (28, .ireturn, 1, []),
  (29, .iload_n 2, 1, []),
  (30, .i2l, 1, []),
  (31, .lstore_n 3, 1, []),
  (32, .iconst 0, 1, []),
  (33, .istore 5, 2, []),
  (35, .iconst 0, 1, []),
  (36, .istore 6, 2, []),
  (38, .iload 6, 2, []),
  (40, .iload_n 1, 1, []),
  (41, .if_icmp .ge 109, 3, []),
  (44, .iconst 0, 1, []),
  (45, .istore 7, 2, []),
  (47, .aload_n 0, 1, []),
  (48, .getfield 7, 3, [927, 12, 0]),
  (51, .iconst 1, 1, []),
  (52, .iaload, 1, []),
  (53, .istore 8, 2, []),
  (55, .iload 8, 2, []),
  (57, .aload_n 0, 1, []),
  (58, .getfield 7, 3, [927, 12, 0]),
  (61, .iconst 0, 1, []),
  (62, .iaload, 1, []),
  (63, .if_icmp .ge 66, 3, []),
  (66, .iload 7, 2, []),
  (68, .ifCond .ne 61, 3, []),
  (71, .lload_n 3, 1, []),
  (72, .ldc2_w 260, 3, [1255, 1103515245]),
  (75, .lmul, 1, []),
  (76, .ldc2_w 262, 3, [1256, 12345]),
  (79, .ladd, 1, []),
  (80, .ldc2_w 264, 3, [1257, 2147483648]),
  (83, .lrem, 1, []),
  (84, .lstore_n 3, 1, []),
  (85, .lload_n 3, 1, []),
  (86, .ldc2_w 266, 3, [1258, 65536]),
  (89, .ldiv, 1, []),
  (90, .ldc2_w 199, 3, [1147, 100]),
  (93, .lrem, 1, []),
  (94, .aload_n 0, 1, []),
  (95, .iload 8, 2, []),
  (97, .aload_n 0, 1, []),
  (98, .getfield 7, 3, [927, 12, 0]),
  (101, .iconst 3, 1, []),
  (102, .iaload, 1, []),
  (103, .invokevirtual 182, 3, [6, 158, 2, 1117, 1119, 34, 64, 1120, 12]),
  (106, .aload_n 0, 1, []),
  (107, .invokevirtual 228, 3, [6, 178, 0, 1187, 1189, 43, 64, 1190, 12]),
  (110, .imul, 1, []),
  (111, .i2l, 1, []),
  (112, .lcmp, 1, []),
  (113, .ifCond .ge 7, 3, []),
  (116, .iconst 1, 1, []),
  (117, .goto 4, 3, []),
  (120, .iconst 0, 1, []),
  (121, .istore 7, 2, []),
  (123, .iinc 8 1, 3, []),
  (126, .goto (-71), 3, []),
  (129, .iload 5, 2, []),
  (131, .iload 7, 2, []),
  (133, .ifCond .eq 7, 3, []),
  (136, .iconst 1, 1, []),
  (137, .goto 4, 3, []),
  (140, .iconst 0, 1, []),
  (141, .iadd, 1, []),
  (142, .istore 5, 2, []),
  (144, .iinc 6 1, 3, []),
  (147, .goto (-109), 3, []),
  (150, .iload 5, 2, []),
  (152, .ireturn, 1, [])]
def c_194 : List (Nat × Instr × Nat × List Int) := [
  (0, .iload_n 1, 1, []),
  (1, .ifCond .ne 10, 3, []),
  (4, .aload_n 0, 1, []),
  (5, .getfield 192, 3, [933, 12, 6]),
  (8, .goto 20, 3, []),
  (11, .iload_n 1, 1, []),
  (12, .iconst 1, 1, []),
  (13, .if_icmp .ne 10, 3, []),
  (16, .aload_n 0, 1, []),
  (17, .getfield 45, 3, [934, 12, 7]),
  (20, .goto 8, 3, []),
  (23, .aload_n 0, 1, []),
  (24, .invokevirtual 69, 3, [6, 136, 0, 1003, 1005, 24, 64, 1006, 12]),
  (27, .i2l, 1, []),
  (28, .lreturn, 1, [])]
def c_195 : List (Nat × Instr × Nat × List Int) := [
  (0, .iload_n 1, 1, []),
  (1, .i2l, 1, []),
  (2, .lconst 0, 1, []),
  (3, .lconst 1, 1, []),
  (4, .invokestatic 60, 3, [3, 131, 3, 996, 997, 64, 998]),
  (7, .ifCond .ne 8, 3, []),
  (10, .aload_n 0, 1, []),
  (11, .invokevirtual 69, 3, [6, 136, 0, 1003, 1005, 24, 64, 1006, 12]),
  (14, .ireturn, 1, []),
  (15, .iconst 0, 1, []),
  (16, .istore_n 2, 1, []),
  (17, .iload_n 2, 1, []),
  (18, .bipush 87, 2, []),
  (20, .if_icmp .ge 26, 3, []),
  (23, .aload_n 0, 1, []),
  (24, .getfield 13, 3, [928, 12, 1]),
  (27, .bipush 87, 2, []),
  (29, .iload_n 1, 1, []),
  (30, .imul, 1, []),
  (31, .iload_n 2, 1, []),
  (32, .iadd, 1, []),
  (33, .aload_n 0, 1, []),
  (34, .getfield 7, 3, [927, 12, 0]),
  (37, .iload_n 2, 1, []),
  (38, .iaload, 1, []),
  (39, .iastore, 1, []),
  (40, .iinc 2 1, 3, []),
  (43, .goto (-26), 3, []),
  (46, .aload_n 0, 1, []),
  (47, .getfield 16, 3, [929, 12, 2]),
  (50, .iload_n 1, 1, []),
  (51, .iconst 1, 1, []),
  (52, .bastore, 1, []),
  (53, .iconst 1, 1, []),
  (54, .ireturn, 1, [])]
def c_196 : List (Nat × Instr × Nat × List Int) := [
  (0, .iload_n 1, 1, []),
  (1, .i2l, 1, []),
  (2, .lconst 0, 1, []),
  (3, .lconst 1, 1, []),
  (4, .invokestatic 60, 3, [3, 131, 3, 996, 997, 64, 998]),
  (7, .ifCond .ne 8, 3, []),
  (10, .aload_n 0, 1, []),
  (11, .invokevirtual 69, 3, [6, 136, 0, 1003, 1005, 24, 64, 1006, 12]),
  (14, .ireturn, 1, []),
  (15, .aload_n 0, 1, []),
  (16, .getfield 16, 3, [929, 12, 2]),
  (19, .iload_n 1, 1, []),
  (20, .baload, 1, []),
  (21, .ifCond .ne 8, 3, []),
  (24, .aload_n 0, 1, []),
  (25, .invokevirtual 173, 3, [6, 137, 0, 1093, 1095, 31, 64, 1096, 12]),
  (28, .ireturn, 1, []),
  (29, .iconst 0, 1, []),
  (30, .istore_n 2, 1, []),
  (31, .iload_n 2, 1, []),
  (32, .bipush 87, 2, []),
  (34, .if_icmp .ge 26, 3, []),
  (37, .aload_n 0, 1, []),
  (38, .getfield 7, 3, [927, 12, 0]),
  (41, .iload_n 2, 1, []),
  (42, .aload_n 0, 1, []),
  (43, .getfield 13, 3, [928, 12, 1]),
  (46, .bipush 87, 2, []),
  (48, .iload_n 1, 1, []),
  (49, .imul, 1, []),
  (50, .iload_n 2, 1, []),
  (51, .iadd, 1, []),
  (52, .iaload, 1, []),
  (53, .iastore, 1, []),
  (54, .iinc 2 1, 3, []),
  (57, .goto (-26), 3, []),
  (60, .iconst 1, 1, []),
  (61, .ireturn, 1, [])]
def c_197 : List (Nat × Instr × Nat × List Int) := [
  (0, .iload_n 1, 1, []),
  (1, .i2l, 1, []),
  (2, .lconst 0, 1, []),
  (3, .ldc2_w 268, 3, [1275, 2]),
  (6, .invokestatic 60, 3, [3, 131, 3, 996, 997, 64, 998]),
  (9, .ifCond .eq 12, 3, []),
  (12, .aload_n 0, 1, []),
  (13, .getfield 23, 3, [931, 12, 4]),
  (16, .iload_n 1, 1, []),
  (17, .iaload, 1, []),
  (18, .goto 9, 3, []),
  (21, .aload_n 0, 1, []),
  (22, .iconst 0, 1, []),
  (23, .iconst (-1), 1, []),
  (24, .invokevirtual 56, 3, [6, 135, 2, 1007, 1009, 25, 64, 1010, 12]),
  (27, .ireturn, 1, [])]
def c_198 : List (Nat × Instr × Nat × List Int) := [
  (0, .iload_n 1, 1, []),
  (1, .bipush 7, 2, []),
  (3, .if_icmp .ge 12, 3, []),
  (6, .aload_n 0, 1, []),
  (7, .getfield 7, 3, [927, 12, 0]),
  (10, .iload_n 1, 1, []),
  (11, .iaload, 1, []),
  (12, .goto 23, 3, []),
  (15, .iload_n 1, 1, []),
  (16, .bipush 7, 2, []),
  (18, .if_icmp .ne 10, 3, []),
  (21, .aload_n 0, 1, []),
  (22, .getfield 86, 3, [936, 12, 9]),
  (25, .goto 10, 3, []),
  (28, .aload_n 0, 1, []),
  (29, .getfield 7, 3, [927, 12, 0]),
  (32, .bipush 7, 2, []),
  (34, .iaload, 1, []),
  (35, .ireturn, 1, [])]
def c_199 : List (Nat × Instr × Nat × List Int) := [
  (0, .iload_n 1, 1, []),
  (1, .i2l, 1, []),
  (2, .lconst 0, 1, []),
  (3, .ldc2_w 270, 3, [1280, 8]),
  (6, .invokestatic 60, 3, [3, 131, 3, 996, 997, 64, 998]),
  (9, .ifCond .eq 11, 3, []),
  (12, .aload_n 0, 1, []),
  (13, .iload_n 1, 1, []),
  (14, .invokevirtual 272, 3, [6, 198, 1, 1281, 1283, 47, 64, 1284, 12]),
  (17, .goto 7, 3, []),
  (20, .aload_n 0, 1, []),
  (21, .invokevirtual 69, 3, [6, 136, 0, 1003, 1005, 24, 64, 1006, 12]),
  (24, .ireturn, 1, [])]
def c_200 : List (Nat × Instr × Nat × List Int) := [
  (0, .lload_n 1, 1, []),
  (1, .lstore 5, 2, []),
  (3, .iconst 0, 1, []),
  (4, .istore 7, 2, []),
  (6, .iload 7, 2, []),
  (8, .iload 4, 2, []),
  (10, .if_icmp .ge 28, 3, []),
  (13, .ldc2_w 275, 3, [1290, 31]),
  (16, .lload 5, 2, []),
  (18, .lmul, 1, []),
  (19, .aload_n 0, 1, []),
  (20, .getfield 7, 3, [927, 12, 0]),
  (23, .iload_n 3, 1, []),
  (24, .iload 7, 2, []),
  (26, .iadd, 1, []),
  (27, .iaload, 1, []),
  (28, .i2l, 1, []),
  (29, .ladd, 1, []),
  (30, .lstore 5, 2, []),
  (32, .iinc 7 1, 3, []),
  (35, .goto (-29), 3, []),
  (38, .lload 5, 2, []),
  (40, .lreturn, 1, [])]
def c_201 : List (Nat × Instr × Nat × List Int) := [
  (0, .ldc2_w 277, 3, [1289, 881]),
  (3, .lstore_n 1, 1, []),
  (4, .iconst 0, 1, []),
  (5, .istore_n 3, 1, []),
  (6, .iload_n 3, 1, []),
  (7, .bipush 9, 2, []),
  (9, .if_icmp .ge 22, 3, []),
  (12, .ldc2_w 275, 3, [1290, 31]),
  (15, .lload_n 1, 1, []),
  (16, .lmul, 1, []),
  (17, .aload_n 0, 1, []),
  (18, .iload_n 3, 1, []),
  (19, .invokevirtual 272, 3, [6, 198, 1, 1281, 1283, 47, 64, 1284, 12]),
  (22, .i2l, 1, []),
  (23, .ladd, 1, []),
  (24, .lstore_n 1, 1, []),
  (25, .iinc 3 1, 3, []),
  (28, .goto (-22), 3, []),
  (31, .aload_n 0, 1, []),
  (32, .lload_n 1, 1, []),
  (33, .bipush 8, 2, []),
  (35, .bipush 10, 2, []),
  (37, .invokevirtual 279, 3, [6, 200, 3, 1291, 1293, 48, 64, 1294, 12]),
  (40, .lstore_n 1, 1, []),
  (41, .aload_n 0, 1, []),
  (42, .lload_n 1, 1, []),
  (43, .bipush 18, 2, []),
  (45, .iconst 3, 1, []),
  (46, .aload_n 0, 1, []),
  (47, .getfield 7, 3, [927, 12, 0]),
  (50, .iconst 0, 1, []),
  (51, .iaload, 1, []),
  (52, .imul, 1, []),
  (53, .invokevirtual 279, 3, [6, 200, 3, 1291, 1293, 48, 64, 1294, 12]),
  (56, .lstore_n 1, 1, []),
  (57, .aload_n 0, 1, []),
  (58, .lload_n 1, 1, []),
  (59, .bipush 36, 2, []),
  (61, .iconst 2, 1, []),
  (62, .aload_n 0, 1, []),
  (63, .getfield 7, 3, [927, 12, 0]),
  (66, .iconst 4, 1, []),
  (67, .iaload, 1, []),
  (68, .imul, 1, []),
  (69, .invokevirtual 279, 3, [6, 200, 3, 1291, 1293, 48, 64, 1294, 12]),
  (72, .lstore_n 1, 1, []),
  (73, .aload_n 0, 1, []),
  (74, .lload_n 1, 1, []),
  (75, .bipush 50, 2, []),
  (77, .aload_n 0, 1, []),
  (78, .getfield 7, 3, [927, 12, 0]),
  (81, .iconst 5, 1, []),
  (82, .iaload, 1, []),
  (83, .invokevirtual 279, 3, [6, 200, 3, 1291, 1293, 48, 64, 1294, 12]),
  (86, .lstore_n 1, 1, []),
  (87, .ldc2_w 275, 3, [1290, 31]),
  (90, .ldc2_w 275, 3, [1290, 31]),
  (93, .lload_n 1, 1, []),
  (94, .lmul, 1, []),
  (95, .aload_n 0, 1, []),
  (96, .getfield 192, 3, [933, 12, 6]),
  (99, .ladd, 1, []),
  (100, .lmul, 1, []),
  (101, .aload_n 0, 1, []),
  (102, .getfield 45, 3, [934, 12, 7]),
  (105, .ladd, 1, []),
  (106, .lreturn, 1, [])]
def c_202 : List (Nat × Instr × Nat × List Int) := [
  (0, .iload_n 0, 1, []),
  (1, .iload_n 1, 1, []),
  (2, .if_icmp .lt 7, 3, []),
  (5, .iload_n 0, 1, []),
  (6, .goto 4, 3, []),
  (9, .iload_n 1, 1, []),
  (10, .ireturn, 1, [])]
def c_203 : List (Nat × Instr × Nat × List Int) := [
  (0, .lload_n 0, 1, []),
  (1, .lload_n 2, 1, []),
  (2, .lcmp, 1, []),
  (3, .ifCond .lt 7, 3, []),
  (6, .lload_n 0, 1, []),
  (7, .goto 4, 3, []),
  (10, .lload_n 2, 1, []),
  (11, .lreturn, 1, [])]
def c_204 : List (Nat × Instr × Nat × List Int) := [
  (0, .iload_n 0, 1, []),
  (1, .iload_n 1, 1, []),
  (2, .if_icmp .gt 7, 3, []),
  (5, .iload_n 0, 1, []),
  (6, .goto 4, 3, []),
  (9, .iload_n 1, 1, []),
  (10, .ireturn, 1, [])]
def c_205 : List (Nat × Instr × Nat × List Int) := [
  (0, .aload_n 0, 1, []),
  (1, .getfield 9, 3, [1302, 99, 0]),
  (4, .arraylength, 1, []),
  (5, .aload_n 0, 1, []),
  (6, .invokevirtual 335, 3, [7, 207, 0, 471, 472, 473, 65, 474]),
  (9, .ishr, 1, []),
  (10, .ireturn, 1, [])]
def c_206 : List (Nat × Instr × Nat × List Int) := [
  (0, .aload_n 0, 1, []),
  (1, .invokevirtual 492, 3, [7, 208, 0, 481, 482, 483, 65, 484]),
  (4, .ifCond .eq 12, 3, []),
  (7, .aload_n 0, 1, []),
  (8, .getfield 9, 3, [1302, 99, 0]),
  (11, .iload_n 1, 1, []),
  (12, .invokestatic 495, 3, [3, 210, 2, 485, 486, 66, 487]),
  (15, .ireturn, 1, []),
  (16, .aload_n 0, 1, []),
  (17, .getfield 9, 3, [1302, 99, 0]),
  (20, .iload_n 1, 1, []),
  (21, .invokestatic 498, 3, [3, 213, 2, 496, 497, 68, 498]),
  (24, .ireturn, 1, [])]
def c_207 : List (Nat × Instr × Nat × List Int) := [
  (0, .getstatic 38, 3, [475, 3, 0]),
  (3, .ifCond .eq 10, 3, []),
  (6, .aload_n 0, 1, []),
  (7, .getfield 15, 3, [1303, 99, 1]),
  (10, .goto 4, 3, []),
  (13, .iconst 1, 1, []),
  (14, .ireturn, 1, [])]
def c_208 : List (Nat × Instr × Nat × List Int) := [
  (0, .getstatic 38, 3, [475, 3, 0]),
  (3, .ifCond .eq 14, 3, []),
  (6, .aload_n 0, 1, []),
  (7, .getfield 15, 3, [1303, 99, 1]),
  (10, .ifCond .ne 7, 3, []),
  (13, .iconst 1, 1, []),
  (14, .goto 4, 3, []),
  (17, .iconst 0, 1, []),
  (18, .ireturn, 1, [])]
def c_209 : List (Nat × Instr × Nat × List Int) := [
  (0, .iload_n 0, 1, []),
  (1, .iload_n 1, 1, []),
  (2, .getstatic 1053, 3, [491, 4, 0]),
  (5, .invokestatic 1059, 3, [3, 215, 3, 493, 494, 67, 495]),
  (8, .pop, 1, []),
  (9, .return_, 1, [])]
def c_210 : List (Nat × Instr × Nat × List Int) := [
  (0, .iload_n 1, 1, []),
  (1, .aload_n 0, 1, []),
  (2, .arraylength, 1, []),
  (3, .invokestatic 9, 3, [3, 209, 2, 488, 489, 65, 490]),
  (6, .aload_n 0, 1, []),
  (7, .iload_n 1, 1, []),
  (8, .baload, 1, []),
  (9, .sipush 255, 3, []),
  (12, .iand, 1, []),
  (13, .i2c, 1, []),
  (14, .ireturn, 1, [])]
def c_211 : List (Nat × Instr × Nat × List Int) := [
  (0, .getstatic 44, 3, []),
  (3, .ifCond .ne 25, 3, []),
  (6, .iload_n 1, 1, []),
  (7, .ifCond .lt 11, 3, []),
  (10, .iload_n 1, 1, []),
  (11, .aload_n 0, 1, []),
  (12, .invokestatic 48, 3, [3, 212, 1, 502, 503, 68, 504]),
  (15, .if_icmp .lt 13, 3, []),
  (18, .new 52, 3, []),
  (21, .dup, 1, []),
  (22, .ldc 54, 2, []),
  (24, .invokespecial 56, 3, []),
  (27, .athrow, 1, []),
  (28, .iload_n 1, 1, []),
  (29, .iconst 1, 1, []),
  (30, .ishl, 1, []),
  (31, .istore_n 1, 1, []),
  (32, .aload_n 0, 1, []),
  (33, .iload_n 1, 1, []),
  (34, .iinc 1 1, 3, []),
  (37, .baload, 1, []),
  (38, .sipush 255, 3, []),
  (41, .iand, 1, []),
  (42, .getstatic 59, 3, []),
  (45, .ishl, 1, []),
  (46, .aload_n 0, 1, []),
  (47, .iload_n 1, 1, []),
  (48, .baload, 1, []),
  (49, .sipush 255, 3, []),
  (52, .iand, 1, []),
  (53, .getstatic 63, 3, []),
  (56, .ishl, 1, []),
  (57, .ior, 1, []),
  (58, .i2c, 1, []),
  (59, .ireturn, 1, [])]
def c_212 : List (Nat × Instr × Nat × List Int) := [
  (0, .aload_n 0, 1, []),
  (1, .arraylength, 1, []),
  (2, .iconst 1, 1, []),
  (3, .ishr, 1, []),
  (4, .ireturn, 1, [])]
def c_213 : List (Nat × Instr × Nat × List Int) := [
  (0, .iload_n 1, 1, []),
  (1, .aload_n 0, 1, []),
  (2, .invokestatic 67, 3, [3, 214, 2, 499, 500, 68, 501]),
  (5, .aload_n 0, 1, []),
  (6, .iload_n 1, 1, []),
  (7, .invokestatic 71, 3, [3, 211, 2, 506, 507, 68, 508]),
  (10, .ireturn, 1, [])]
def c_214 : List (Nat × Instr × Nat × List Int) := [
  (0, .iload_n 0, 1, []),
  (1, .aload_n 1, 1, []),
  (2, .invokestatic 48, 3, [3, 212, 1, 502, 503, 68, 504]),
  (5, .invokestatic 414, 3, [3, 209, 2, 505, 489, 65, 490]),
  (8, .return_, 1, [])]
def c_215 : List (Nat × Instr × Nat × List Int) := [
  (0, .iload_n 0, 1, []),
  (1, .ifCond .lt 8, 3, []),
  (4, .iload_n 0, 1, []),
  (5, .iload_n 1, 1, []),
  (6, .if_icmp .lt 10, 3, []),
  (9, .aload_n 2, 1, []),
  (10, .iload_n 0, 1, []),
  (11, .iload_n 1, 1, []),
  (12, .invokestatic 95, 3, []),
  (15, .athrow, 1, []),
  (16, .iload_n 0, 1, []),
  (17, .ireturn, 1, [])]
def c_216 : List (Nat × Instr × Nat × List Int) := [
  (0, .new 7, 3, [69, 70, 50, 11]),
  (3, .dup, 1, []),
  (4, .invokespecial 9, 3, [1, 86, 0, 71, 72, 50, 73]),
  (7, .astore_n 1, 1, []),
  (8, .new 10, 3, [917, 918, 64, 12]),
  (11, .dup, 1, []),
  (12, .invokespecial 12, 3, [1, 133, 0, 919, 920, 64, 921]),
  (15, .astore_n 2, 1, []),
  (16, .iconst 0, 1, []),
  (17, .istore_n 3, 1, []),
  (18, .iload_n 3, 1, []),
  (19, .aload_n 0, 1, []),
  (20, .arraylength, 1, []),
  (21, .bipush 6, 2, []),
  (23, .isub, 1, []),
  (24, .if_icmp .gt 1092, 3, []),
  (27, .aload_n 0, 1, []),
  (28, .iload_n 3, 1, []),
  (29, .iaload, 1, []),
  (30, .bipush 63, 2, []),
  (32, .iand, 1, []),
  (33, .tableswitch 1077 0 33 #[151, 184, 217, 260, 293, 316, 339, 362, 375, 388, 453, 466, 479, 512, 545, 558, 581, 594, 607, 620, 643, 686, 709, 742, 775, 838, 861, 914, 947, 971, 994, 1017, 1040, 1063], 151, []),
  (184, .aload_n 1, 1, []),
  (185, .aload_n 0, 1, []),
  (186, .iload_n 3, 1, []),
  (187, .iconst 1, 1, []),
  (188, .iadd, 1, []),
  (189, .iaload, 1, []),
  (190, .aload_n 0, 1, []),
  (191, .iload_n 3, 1, []),
  (192, .iconst 2, 1, []),
  (193, .iadd, 1, []),
  (194, .iaload, 1, []),
  (195, .invokevirtual 13, 3, [6, 87, 2, 338, 339, 340, 50, 341, 11]),
  (198, .aload_n 2, 1, []),
  (199, .aload_n 0, 1, []),
  (200, .iload_n 3, 1, []),
  (201, .iconst 1, 1, []),
  (202, .iadd, 1, []),
  (203, .iaload, 1, []),
  (204, .aload_n 0, 1, []),
  (205, .iload_n 3, 1, []),
  (206, .iconst 2, 1, []),
  (207, .iadd, 1, []),
  (208, .iaload, 1, []),
  (209, .invokevirtual 17, 3, [6, 141, 2, 991, 992, 993, 64, 994, 12]),
  (212, .if_icmp .eq 898, 3, []),
  (215, .iconst 0, 1, []),
  (216, .ireturn, 1, []),
  (217, .aload_n 1, 1, []),
  (218, .aload_n 0, 1, []),
  (219, .iload_n 3, 1, []),
  (220, .iconst 1, 1, []),
  (221, .iadd, 1, []),
  (222, .iaload, 1, []),
  (223, .aload_n 0, 1, []),
  (224, .iload_n 3, 1, []),
  (225, .iconst 2, 1, []),
  (226, .iadd, 1, []),
  (227, .iaload, 1, []),
  (228, .invokevirtual 18, 3, [6, 88, 2, 355, 356, 357, 50, 358, 11]),
  (231, .aload_n 2, 1, []),
  (232, .aload_n 0, 1, []),
  (233, .iload_n 3, 1, []),
  (234, .iconst 1, 1, []),
  (235, .iadd, 1, []),
  (236, .iaload, 1, []),
  (237, .aload_n 0, 1, []),
  (238, .iload_n 3, 1, []),
  (239, .iconst 2, 1, []),
  (240, .iadd, 1, []),
  (241, .iaload, 1, []),
  (242, .invokevirtual 21, 3, [6, 142, 2, 1011, 1012, 1013, 64, 1014, 12]),
  (245, .if_icmp .eq 865, 3, []),
  (248, .iconst 0, 1, []),
  (249, .ireturn, 1, []),
  (250, .aload_n 1, 1, []),
  (251, .aload_n 0, 1, []),
  (252, .iload_n 3, 1, []),
  (253, .iconst 1, 1, []),
  (254, .iadd, 1, []),
  (255, .iaload, 1, []),
  (256, .aload_n 0, 1, []),
  (257, .iload_n 3, 1, []),
  (258, .iconst 2, 1, []),
  (259, .iadd, 1, []),
  (260, .iaload, 1, []),
  (261, .aload_n 0, 1, []),
  (262, .iload_n 3, 1, []),
  (263, .iconst 3, 1, []),
  (264, .iadd, 1, []),
  (265, .iaload, 1, []),
  (266, .invokevirtual 22, 3, [6, 89, 3, 363, 364, 365, 50, 366, 11]),
  (269, .aload_n 2, 1, []),
  (270, .aload_n 0, 1, []),
  (271, .iload_n 3, 1, []),
  (272, .iconst 1, 1, []),
  (273, .iadd, 1, []),
  (274, .iaload, 1, []),
  (275, .aload_n 0, 1, []),
  (276, .iload_n 3, 1, []),
  (277, .iconst 2, 1, []),
  (278, .iadd, 1, []),
  (279, .iaload, 1, []),
  (280, .aload_n 0, 1, []),
  (281, .iload_n 3, 1, []),
  (282, .iconst 3, 1, []),
  (283, .iadd, 1, []),
  (284, .iaload, 1, []),
  (285, .invokevirtual 26, 3, [6, 143, 3, 1017, 1018, 1019, 64, 1020, 12]),
  (288, .if_icmp .eq 822, 3, []),
  (291, .iconst 0, 1, []),
  (292, .ireturn, 1, []),
  (293, .aload_n 1, 1, []),
  (294, .aload_n 0, 1, []),
  (295, .iload_n 3, 1, []),
  (296, .iconst 1, 1, []),
  (297, .iadd, 1, []),
  (298, .iaload, 1, []),
  (299, .aload_n 0, 1, []),
  (300, .iload_n 3, 1, []),
  (301, .iconst 2, 1, []),
  (302, .iadd, 1, []),
  (303, .iaload, 1, []),
  (304, .invokevirtual 27, 3, [6, 90, 2, 374, 375, 376, 50, 377, 11]),
  (307, .aload_n 2, 1, []),
  (308, .aload_n 0, 1, []),
  (309, .iload_n 3, 1, []),
  (310, .iconst 1, 1, []),
  (311, .iadd, 1, []),
  (312, .iaload, 1, []),
  (313, .aload_n 0, 1, []),
  (314, .iload_n 3, 1, []),
  (315, .iconst 2, 1, []),
  (316, .iadd, 1, []),
  (317, .iaload, 1, []),
  (318, .invokevirtual 30, 3, [6, 144, 2, 1026, 1027, 1028, 64, 1029, 12]),
  (321, .if_icmp .eq 789, 3, []),
  (324, .iconst 0, 1, []),
  (325, .ireturn, 1, []),
  (326, .aload_n 1, 1, []),
  (327, .aload_n 0, 1, []),
  (328, .iload_n 3, 1, []),
  (329, .iconst 1, 1, []),
  (330, .iadd, 1, []),
  (331, .iaload, 1, []),
  (332, .invokevirtual 31, 3, [6, 91, 1, 386, 387, 388, 50, 389, 11]),
  (335, .aload_n 2, 1, []),
  (336, .aload_n 0, 1, []),
  (337, .iload_n 3, 1, []),
  (338, .iconst 1, 1, []),
  (339, .iadd, 1, []),
  (340, .iaload, 1, []),
  (341, .invokevirtual 35, 3, [6, 145, 1, 1030, 1031, 1032, 64, 1033, 12]),
  (344, .if_icmp .eq 766, 3, []),
  (347, .iconst 0, 1, []),
  (348, .ireturn, 1, []),
  (349, .aload_n 1, 1, []),
  (350, .aload_n 0, 1, []),
  (351, .iload_n 3, 1, []),
  (352, .iconst 1, 1, []),
  (353, .iadd, 1, []),
  (354, .iaload, 1, []),
  (355, .invokevirtual 36, 3, [6, 92, 1, 394, 395, 396, 50, 397, 11]),
  (358, .aload_n 2, 1, []),
  (359, .aload_n 0, 1, []),
  (360, .iload_n 3, 1, []),
  (361, .iconst 1, 1, []),
  (362, .iadd, 1, []),
  (363, .iaload, 1, []),
  (364, .invokevirtual 39, 3, [6, 146, 1, 1035, 1036, 1037, 64, 1038, 12]),
  (367, .if_icmp .eq 743, 3, []),
  (370, .iconst 0, 1, []),
  (371, .ireturn, 1, []),
  (372, .aload_n 1, 1, []),
  (373, .aload_n 0, 1, []),
  (374, .iload_n 3, 1, []),
  (375, .iconst 1, 1, []),
  (376, .iadd, 1, []),
  (377, .iaload, 1, []),
  (378, .invokevirtual 40, 3, [6, 93, 1, 402, 403, 404, 50, 405, 11]),
  (381, .aload_n 2, 1, []),
  (382, .aload_n 0, 1, []),
  (383, .iload_n 3, 1, []),
  (384, .iconst 1, 1, []),
  (385, .iadd, 1, []),
  (386, .iaload, 1, []),
  (387, .invokevirtual 43, 3, [6, 147, 1, 1039, 1040, 1041, 64, 1042, 12]),
  (390, .if_icmp .eq 720, 3, []),
  (393, .iconst 0, 1, []),
  (394, .ireturn, 1, []),
  (395, .aload_n 1, 1, []),
  (396, .invokevirtual 44, 3, [6, 94, 0, 411, 412, 413, 50, 414, 11]),
  (399, .aload_n 2, 1, []),
  (400, .invokevirtual 48, 3, [6, 148, 0, 1044, 1045, 1046, 64, 1047, 12]),
  (403, .if_icmp .eq 707, 3, []),
  (406, .iconst 0, 1, []),
  (407, .ireturn, 1, []),
  (408, .aload_n 1, 1, []),
  (409, .invokevirtual 49, 3, [6, 95, 0, 419, 420, 421, 50, 422, 11]),
  (412, .aload_n 2, 1, []),
  (413, .invokevirtual 52, 3, [6, 155, 0, 1048, 1049, 1050, 64, 1051, 12]),
  (416, .if_icmp .eq 694, 3, []),
  (419, .iconst 0, 1, []),
  (420, .ireturn, 1, []),
  (421, .aload_n 1, 1, []),
  (422, .aload_n 0, 1, []),
  (423, .iload_n 3, 1, []),
  (424, .iconst 1, 1, []),
  (425, .iadd, 1, []),
  (426, .iaload, 1, []),
  (427, .ifCond .eq 7, 3, []),
  (430, .iconst 1, 1, []),
  (431, .goto 4, 3, []),
  (434, .iconst 0, 1, []),
  (435, .aload_n 0, 1, []),
  (436, .iload_n 3, 1, []),
  (437, .iconst 2, 1, []),
  (438, .iadd, 1, []),
  (439, .iaload, 1, []),
  (440, .ifCond .eq 7, 3, []),
  (443, .iconst 1, 1, []),
  (444, .goto 4, 3, []),
  (447, .iconst 0, 1, []),
  (448, .invokevirtual 53, 3, [6, 96, 2, 535, 536, 537, 50, 538, 11]),
  (451, .aload_n 2, 1, []),
  (452, .aload_n 0, 1, []),
  (453, .iload_n 3, 1, []),
  (454, .iconst 1, 1, []),
  (455, .iadd, 1, []),
  (456, .iaload, 1, []),
  (457, .ifCond .eq 7, 3, []),
  (460, .iconst 1, 1, []),
  (461, .goto 4, 3, []),
  (464, .iconst 0, 1, []),
  (465, .aload_n 0, 1, []),
  (466, .iload_n 3, 1, []),
  (467, .iconst 2, 1, []),
  (468, .iadd, 1, []),
  (469, .iaload, 1, []),
  (470, .ifCond .eq 7, 3, []),
  (473, .iconst 1, 1, []),
  (474, .goto 4, 3, []),
  (477, .iconst 0, 1, []),
  (478, .invokevirtual 57, 3, [6, 161, 2, 1089, 1090, 1091, 64, 1092, 12]),
  (481, .if_icmp .eq 629, 3, []),
  (484, .iconst 0, 1, []),
  (485, .ireturn, 1, []),
  (486, .aload_n 1, 1, []),
  (487, .invokevirtual 58, 3, [6, 97, 0, 552, 553, 554, 50, 555, 11]),
  (490, .aload_n 2, 1, []),
  (491, .invokevirtual 61, 3, [6, 162, 0, 1101, 1102, 1103, 64, 1104, 12]),
  (494, .if_icmp .eq 616, 3, []),
  (497, .iconst 0, 1, []),
  (498, .ireturn, 1, []),
  (499, .aload_n 1, 1, []),
  (500, .invokevirtual 62, 3, [6, 98, 0, 565, 566, 567, 50, 568, 11]),
  (503, .aload_n 2, 1, []),
  (504, .invokevirtual 65, 3, [6, 163, 0, 1105, 1106, 1107, 64, 1108, 12]),
  (507, .if_icmp .eq 603, 3, []),
  (510, .iconst 0, 1, []),
  (511, .ireturn, 1, []),
  (512, .aload_n 1, 1, []),
  (513, .aload_n 0, 1, []),
  (514, .iload_n 3, 1, []),
  (515, .iconst 1, 1, []),
  (516, .iadd, 1, []),
  (517, .iaload, 1, []),
  (518, .aload_n 0, 1, []),
  (519, .iload_n 3, 1, []),
  (520, .iconst 2, 1, []),
  (521, .iadd, 1, []),
  (522, .iaload, 1, []),
  (523, .invokevirtual 66, 3, [6, 99, 2, 573, 574, 575, 50, 576, 11]),
  (526, .aload_n 2, 1, []),
  (527, .aload_n 0, 1, []),
  (528, .iload_n 3, 1, []),
  (529, .iconst 1, 1, []),
  (530, .iadd, 1, []),
  (531, .iaload, 1, []),
  (532, .aload_n 0, 1, []),
  (533, .iload_n 3, 1, []),
  (534, .iconst 2, 1, []),
  (535, .iadd, 1, []),
  (536, .iaload, 1, []),
  (537, .invokevirtual 69, 3, [6, 164, 2, 1109, 1110, 1111, 64, 1112, 12]),
  (540, .if_icmp .eq 570, 3, []),
  (543, .iconst 0, 1, []),
  (544, .ireturn, 1, []),
  (545, .aload_n 1, 1, []),
  (546, .aload_n 0, 1, []),
  (547, .iload_n 3, 1, []),
  (548, .iconst 1, 1, []),
  (549, .iadd, 1, []),
  (550, .iaload, 1, []),
  (551, .aload_n 0, 1, []),
  (552, .iload_n 3, 1, []),
  (553, .iconst 2, 1, []),
  (554, .iadd, 1, []),
  (555, .iaload, 1, []),
  (556, .invokevirtual 70, 3, [6, 100, 2, 648, 649, 650, 50, 651, 11]),
  (559, .aload_n 2, 1, []),
  (560, .aload_n 0, 1, []),
  (561, .iload_n 3, 1, []),
  (562, .iconst 1, 1, []),
  (563, .iadd, 1, []),
  (564, .iaload, 1, []),
  (565, .aload_n 0, 1, []),
  (566, .iload_n 3, 1, []),
  (567, .iconst 2, 1, []),
  (568, .iadd, 1, []),
  (569, .iaload, 1, []),
  (570, .invokevirtual 73, 3, [6, 168, 2, 1136, 1137, 1138, 64, 1139, 12]),
  (573, .if_icmp .eq 537, 3, []),
  (576, .iconst 0, 1, []),
  (577, .ireturn, 1, []),
  (578, .aload_n 1, 1, []),
  (579, .invokevirtual 74, 3, [6, 101, 0, 666, 667, 668, 50, 669, 11]),
  (582, .aload_n 2, 1, []),
  (583, .invokevirtual 77, 3, [6, 173, 0, 1148, 1149, 1150, 64, 1151, 12]),
  (586, .if_icmp .eq 524, 3, []),
  (589, .iconst 0, 1, []),
  (590, .ireturn, 1, []),
  (591, .aload_n 1, 1, []),
  (592, .aload_n 0, 1, []),
  (593, .iload_n 3, 1, []),
  (594, .iconst 1, 1, []),
  (595, .iadd, 1, []),
  (596, .iaload, 1, []),
  (597, .invokevirtual 78, 3, [6, 102, 1, 697, 698, 699, 50, 700, 11]),
  (600, .aload_n 2, 1, []),
  (601, .aload_n 0, 1, []),
  (602, .iload_n 3, 1, []),
  (603, .iconst 1, 1, []),
  (604, .iadd, 1, []),
  (605, .iaload, 1, []),
  (606, .invokevirtual 81, 3, [6, 175, 1, 1167, 1168, 1169, 64, 1170, 12]),
  (609, .if_icmp .eq 501, 3, []),
  (612, .iconst 0, 1, []),
  (613, .ireturn, 1, []),
  (614, .aload_n 1, 1, []),
  (615, .invokevirtual 82, 3, [6, 103, 0, 707, 708, 709, 50, 710, 11]),
  (618, .aload_n 2, 1, []),
  (619, .invokevirtual 85, 3, [6, 176, 0, 1179, 1180, 1181, 64, 1182, 12]),
  (622, .if_icmp .eq 488, 3, []),
  (625, .iconst 0, 1, []),
  (626, .ireturn, 1, []),
  (627, .aload_n 1, 1, []),
  (628, .invokevirtual 86, 3, [6, 104, 0, 716, 717, 718, 50, 719, 11]),
  (631, .aload_n 2, 1, []),
  (632, .invokevirtual 89, 3, [6, 179, 0, 1183, 1184, 1185, 64, 1186, 12]),
  (635, .if_icmp .eq 475, 3, []),
  (638, .iconst 0, 1, []),
  (639, .ireturn, 1, []),
  (640, .aload_n 1, 1, []),
  (641, .invokevirtual 90, 3, [6, 105, 0, 731, 732, 733, 50, 734, 11]),
  (644, .aload_n 2, 1, []),
  (645, .invokevirtual 93, 3, [6, 180, 0, 1194, 1195, 1196, 64, 1197, 12]),
  (648, .if_icmp .eq 462, 3, []),
  (651, .iconst 0, 1, []),
  (652, .ireturn, 1, []),
  (653, .aload_n 1, 1, []),
  (654, .aload_n 0, 1, []),
  (655, .iload_n 3, 1, []),
  (656, .iconst 1, 1, []),
  (657, .iadd, 1, []),
  (658, .iaload, 1, []),
  (659, .invokevirtual 94, 3, [6, 106, 1, 739, 740, 741, 50, 742, 11]),
  (662, .aload_n 2, 1, []),
  (663, .aload_n 0, 1, []),
  (664, .iload_n 3, 1, []),
  (665, .iconst 1, 1, []),
  (666, .iadd, 1, []),
  (667, .iaload, 1, []),
  (668, .invokevirtual 97, 3, [6, 181, 1, 1199, 1200, 1201, 64, 1202, 12]),
  (671, .if_icmp .eq 439, 3, []),
  (674, .iconst 0, 1, []),
  (675, .ireturn, 1, []),
  (676, .aload_n 1, 1, []),
  (677, .aload_n 0, 1, []),
  (678, .iload_n 3, 1, []),
  (679, .iconst 1, 1, []),
  (680, .iadd, 1, []),
  (681, .iaload, 1, []),
  (682, .aload_n 0, 1, []),
  (683, .iload_n 3, 1, []),
  (684, .iconst 2, 1, []),
  (685, .iadd, 1, []),
  (686, .iaload, 1, []),
  (687, .aload_n 0, 1, []),
  (688, .iload_n 3, 1, []),
  (689, .iconst 3, 1, []),
  (690, .iadd, 1, []),
  (691, .iaload, 1, []),
  (692, .invokevirtual 98, 3, [6, 107, 3, 747, 748, 749, 50, 750, 11]),
  (695, .aload_n 2, 1, []),
  (696, .aload_n 0, 1, []),
  (697, .iload_n 3, 1, []),
  (698, .iconst 1, 1, []),
  (699, .iadd, 1, []),
  (700, .iaload, 1, []),
  (701, .aload_n 0, 1, []),
  (702, .iload_n 3, 1, []),
  (703, .iconst 2, 1, []),
  (704, .iadd, 1, []),
  (705, .iaload, 1, []),
  (706, .aload_n 0, 1, []),
  (707, .iload_n 3, 1, []),
  (708, .iconst 3, 1, []),
  (709, .iadd, 1, []),
  (710, .iaload, 1, []),
  (711, .invokevirtual 101, 3, [6, 182, 3, 1204, 1205, 1206, 64, 1207, 12]),
  (714, .if_icmp .eq 396, 3, []),
  (717, .iconst 0, 1, []),
  (718, .ireturn, 1, []),
  (719, .aload_n 1, 1, []),
  (720, .aload_n 0, 1, []),
  (721, .iload_n 3, 1, []),
  (722, .iconst 1, 1, []),
  (723, .iadd, 1, []),
  (724, .iaload, 1, []),
  (725, .invokevirtual 102, 3, [6, 108, 1, 756, 757, 758, 50, 759, 11]),
  (728, .aload_n 2, 1, []),
  (729, .aload_n 0, 1, []),
  (730, .iload_n 3, 1, []),
  (731, .iconst 1, 1, []),
  (732, .iadd, 1, []),
  (733, .iaload, 1, []),
  (734, .invokevirtual 105, 3, [6, 186, 1, 1208, 1209, 1210, 64, 1211, 12]),
  (737, .if_icmp .eq 373, 3, []),
  (740, .iconst 0, 1, []),
  (741, .ireturn, 1, []),
  (742, .aload_n 1, 1, []),
  (743, .aload_n 0, 1, []),
  (744, .iload_n 3, 1, []),
  (745, .iconst 1, 1, []),
  (746, .iadd, 1, []),
  (747, .iaload, 1, []),
  (748, .aload_n 0, 1, []),
  (749, .iload_n 3, 1, []),
  (750, .iconst 2, 1, []),
  (751, .iadd, 1, []),
  (752, .iaload, 1, []),
  (753, .invokevirtual 106, 3, [6, 109, 2, 779, 780, 781, 50, 782, 11]),
  (756, .aload_n 2, 1, []),
  (757, .aload_n 0, 1, []),
  (758, .iload_n 3, 1, []),
  (759, .iconst 1, 1, []),
  (760, .iadd, 1, []),
  (761, .iaload, 1, []),
  (762, .aload_n 0, 1, []),
  (763, .iload_n 3, 1, []),
  (764, .iconst 2, 1, []),
  (765, .iadd, 1, []),
  (766, .iaload, 1, []),
  (767, .invokevirtual 109, 3, [6, 188, 2, 1223, 1224, 1225, 64, 1226, 12]),
  (770, .if_icmp .eq 340, 3, []),
  (773, .iconst 0, 1, []),
  (774, .ireturn, 1, []),
  (775, .aload_n 1, 1, []),
  (776, .aload_n 0, 1, []),
  (777, .iload_n 3, 1, []),
  (778, .iconst 1, 1, []),
  (779, .iadd, 1, []),
  (780, .iaload, 1, []),
  (781, .aload_n 0, 1, []),
  (782, .iload_n 3, 1, []),
  (783, .iconst 2, 1, []),
  (784, .iadd, 1, []),
  (785, .iaload, 1, []),
  (786, .invokevirtual 110, 3, [6, 110, 2, 803, 804, 805, 50, 806, 11]),
  (789, .aload_n 2, 1, []),
  (790, .aload_n 0, 1, []),
  (791, .iload_n 3, 1, []),
  (792, .iconst 1, 1, []),
  (793, .iadd, 1, []),
  (794, .iaload, 1, []),
  (795, .aload_n 0, 1, []),
  (796, .iload_n 3, 1, []),
  (797, .iconst 2, 1, []),
  (798, .iadd, 1, []),
  (799, .iaload, 1, []),
  (800, .invokevirtual 113, 3, [6, 189, 2, 1231, 1232, 1233, 64, 1234, 12]),
  (803, .if_icmp .eq 307, 3, []),
  (806, .iconst 0, 1, []),
  (807, .ireturn, 1, []),
  (808, .aload_n 1, 1, []),
  (809, .aload_n 0, 1, []),
  (810, .iload_n 3, 1, []),
  (811, .iconst 1, 1, []),
  (812, .iadd, 1, []),
  (813, .iaload, 1, []),
  (814, .aload_n 0, 1, []),
  (815, .iload_n 3, 1, []),
  (816, .iconst 2, 1, []),
  (817, .iadd, 1, []),
  (818, .iaload, 1, []),
  (819, .aload_n 0, 1, []),
  (820, .iload_n 3, 1, []),
  (821, .iconst 3, 1, []),
  (822, .iadd, 1, []),
  (823, .iaload, 1, []),
  (824, .aload_n 0, 1, []),
  (825, .iload_n 3, 1, []),
  (826, .iconst 4, 1, []),
  (827, .iadd, 1, []),
  (828, .iaload, 1, []),
  (829, .aload_n 0, 1, []),
  (830, .iload_n 3, 1, []),
  (831, .iconst 5, 1, []),
  (832, .iadd, 1, []),
  (833, .iaload, 1, []),
  (834, .invokevirtual 114, 3, [6, 111, 5, 820, 821, 822, 50, 823, 11]),
  (837, .aload_n 2, 1, []),
  (838, .aload_n 0, 1, []),
  (839, .iload_n 3, 1, []),
  (840, .iconst 1, 1, []),
  (841, .iadd, 1, []),
  (842, .iaload, 1, []),
  (843, .aload_n 0, 1, []),
  (844, .iload_n 3, 1, []),
  (845, .iconst 2, 1, []),
  (846, .iadd, 1, []),
  (847, .iaload, 1, []),
  (848, .aload_n 0, 1, []),
  (849, .iload_n 3, 1, []),
  (850, .iconst 3, 1, []),
  (851, .iadd, 1, []),
  (852, .iaload, 1, []),
  (853, .aload_n 0, 1, []),
  (854, .iload_n 3, 1, []),
  (855, .iconst 4, 1, []),
  (856, .iadd, 1, []),
  (857, .iaload, 1, []),
  (858, .aload_n 0, 1, []),
  (859, .iload_n 3, 1, []),
  (860, .iconst 5, 1, []),
  (861, .iadd, 1, []),
  (862, .iaload, 1, []),
  (863, .invokevirtual 118, 3, [6, 190, 5, 1235, 1236, 1237, 64, 1238, 12]),
  (866, .if_icmp .eq 244, 3, []),
  (869, .iconst 0, 1, []),
  (870, .ireturn, 1, []),
  (871, .aload_n 1, 1, []),
  (872, .aload_n 0, 1, []),
  (873, .iload_n 3, 1, []),
  (874, .iconst 1, 1, []),
  (875, .iadd, 1, []),
  (876, .iaload, 1, []),
  (877, .invokevirtual 119, 3, [6, 112, 1, 829, 830, 831, 50, 832, 11]),
  (880, .aload_n 2, 1, []),
  (881, .aload_n 0, 1, []),
  (882, .iload_n 3, 1, []),
  (883, .iconst 1, 1, []),
  (884, .iadd, 1, []),
  (885, .iaload, 1, []),
  (886, .invokevirtual 122, 3, [6, 191, 1, 1240, 1241, 1242, 64, 1243, 12]),
  (889, .if_icmp .eq 221, 3, []),
  (892, .iconst 0, 1, []),
  (893, .ireturn, 1, []),
  (894, .aload_n 1, 1, []),
  (895, .aload_n 0, 1, []),
  (896, .iload_n 3, 1, []),
  (897, .iconst 1, 1, []),
  (898, .iadd, 1, []),
  (899, .iaload, 1, []),
  (900, .aload_n 0, 1, []),
  (901, .iload_n 3, 1, []),
  (902, .iconst 2, 1, []),
  (903, .iadd, 1, []),
  (904, .iaload, 1, []),
  (905, .aload_n 0, 1, []),
  (906, .iload_n 3, 1, []),
  (907, .iconst 3, 1, []),
  (908, .iadd, 1, []),
  (909, .iaload, 1, []),
  (910, .aload_n 0, 1, []),
  (911, .iload_n 3, 1, []),
  (912, .iconst 4, 1, []),
  (913, .iadd, 1, []),
  (914, .iaload, 1, []),
  (915, .invokevirtual 123, 3, [6, 113, 4, 848, 849, 850, 50, 851, 11]),
  (918, .aload_n 2, 1, []),
  (919, .aload_n 0, 1, []),
  (920, .iload_n 3, 1, []),
  (921, .iconst 1, 1, []),
  (922, .iadd, 1, []),
  (923, .iaload, 1, []),
  (924, .aload_n 0, 1, []),
  (925, .iload_n 3, 1, []),
  (926, .iconst 2, 1, []),
  (927, .iadd, 1, []),
  (928, .iaload, 1, []),
  (929, .aload_n 0, 1, []),
  (930, .iload_n 3, 1, []),
  (931, .iconst 3, 1, []),
  (932, .iadd, 1, []),
  (933, .iaload, 1, []),
  (934, .aload_n 0, 1, []),
  (935, .iload_n 3, 1, []),
  (936, .iconst 4, 1, []),
  (937, .iadd, 1, []),
  (938, .iaload, 1, []),
  (939, .invokevirtual 127, 3, [6, 192, 4, 1244, 1245, 1246, 64, 1247, 12]),
  (942, .if_icmp .eq 168, 3, []),
  (945, .iconst 0, 1, []),
  (946, .ireturn, 1, []),
  (947, .aload_n 1, 1, []),
  (948, .aload_n 0, 1, []),
  (949, .iload_n 3, 1, []),
  (950, .iconst 1, 1, []),
  (951, .iadd, 1, []),
  (952, .iaload, 1, []),
  (953, .aload_n 0, 1, []),
  (954, .iload_n 3, 1, []),
  (955, .iconst 2, 1, []),
  (956, .iadd, 1, []),
  (957, .iaload, 1, []),
  (958, .invokevirtual 128, 3, [6, 114, 2, 860, 861, 862, 50, 863, 11]),
  (961, .aload_n 2, 1, []),
  (962, .aload_n 0, 1, []),
  (963, .iload_n 3, 1, []),
  (964, .iconst 1, 1, []),
  (965, .iadd, 1, []),
  (966, .iaload, 1, []),
  (967, .aload_n 0, 1, []),
  (968, .iload_n 3, 1, []),
  (969, .iconst 2, 1, []),
  (970, .iadd, 1, []),
  (971, .iaload, 1, []),
  (972, .invokevirtual 131, 3, [6, 193, 2, 1249, 1250, 1251, 64, 1252, 12]),
  (975, .if_icmp .eq 135, 3, []),
  (978, .iconst 0, 1, []),
  (979, .ireturn, 1, []),
  (980, .aload_n 1, 1, []),
  (981, .aload_n 0, 1, []),
  (982, .iload_n 3, 1, []),
  (983, .iconst 1, 1, []),
  (984, .iadd, 1, []),
  (985, .iaload, 1, []),
  (986, .invokevirtual 132, 3, [6, 115, 1, 875, 876, 877, 50, 878, 11]),
  (989, .aload_n 2, 1, []),
  (990, .aload_n 0, 1, []),
  (991, .iload_n 3, 1, []),
  (992, .iconst 1, 1, []),
  (993, .iadd, 1, []),
  (994, .iaload, 1, []),
  (995, .invokevirtual 136, 3, [6, 194, 1, 1259, 1260, 1261, 64, 1262, 12]),
  (998, .lcmp, 1, []),
  (999, .ifCond .eq 111, 3, []),
  (1002, .iconst 0, 1, []),
  (1003, .ireturn, 1, []),
  (1004, .aload_n 1, 1, []),
  (1005, .aload_n 0, 1, []),
  (1006, .iload_n 3, 1, []),
  (1007, .iconst 1, 1, []),
  (1008, .iadd, 1, []),
  (1009, .iaload, 1, []),
  (1010, .invokevirtual 137, 3, [6, 116, 1, 879, 880, 881, 50, 882, 11]),
  (1013, .aload_n 2, 1, []),
  (1014, .aload_n 0, 1, []),
  (1015, .iload_n 3, 1, []),
  (1016, .iconst 1, 1, []),
  (1017, .iadd, 1, []),
  (1018, .iaload, 1, []),
  (1019, .invokevirtual 140, 3, [6, 195, 1, 1263, 1264, 1265, 64, 1266, 12]),
  (1022, .if_icmp .eq 88, 3, []),
  (1025, .iconst 0, 1, []),
  (1026, .ireturn, 1, []),
  (1027, .aload_n 1, 1, []),
  (1028, .aload_n 0, 1, []),
  (1029, .iload_n 3, 1, []),
  (1030, .iconst 1, 1, []),
  (1031, .iadd, 1, []),
  (1032, .iaload, 1, []),
  (1033, .invokevirtual 141, 3, [6, 117, 1, 887, 888, 889, 50, 890, 11]),
  (1036, .aload_n 2, 1, []),
  (1037, .aload_n 0, 1, []),
  (1038, .iload_n 3, 1, []),
  (1039, .iconst 1, 1, []),
  (1040, .iadd, 1, []),
  (1041, .iaload, 1, []),
  (1042, .invokevirtual 144, 3, [6, 196, 1, 1267, 1268, 1269, 64, 1270, 12]),
  (1045, .if_icmp .eq 65, 3, []),
  (1048, .iconst 0, 1, []),
  (1049, .ireturn, 1, []),
  (1050, .aload_n 1, 1, []),
  (1051, .aload_n 0, 1, []),
  (1052, .iload_n 3, 1, []),
  (1053, .iconst 1, 1, []),
  (1054, .iadd, 1, []),
  (1055, .iaload, 1, []),
  (1056, .invokevirtual 145, 3, [6, 118, 1, 891, 892, 893, 50, 894, 11]),
  (1059, .aload_n 2, 1, []),
  (1060, .aload_n 0, 1, []),
  (1061, .iload_n 3, 1, []),
  (1062, .iconst 1, 1, []),
  (1063, .iadd, 1, []),
  (1064, .iaload, 1, []),
  (1065, .invokevirtual 148, 3, [6, 197, 1, 1271, 1272, 1273, 64, 1274, 12]),
  (1068, .if_icmp .eq 42, 3, []),
  (1071, .iconst 0, 1, []),
  (1072, .ireturn, 1, []),
  (1073, .aload_n 1, 1, []),
  (1074, .aload_n 0, 1, []),
  (1075, .iload_n 3, 1, []),
  (1076, .iconst 1, 1, []),
  (1077, .iadd, 1, []),
  (1078, .iaload, 1, []),
  (1079, .invokevirtual 149, 3, [6, 119, 1, 895, 896, 897, 50, 898, 11]),
  (1082, .aload_n 2, 1, []),
  (1083, .aload_n 0, 1, []),
  (1084, .iload_n 3, 1, []),
  (1085, .iconst 1, 1, []),
  (1086, .iadd, 1, []),
  (1087, .iaload, 1, []),
  (1088, .invokevirtual 152, 3, [6, 199, 1, 1276, 1277, 1278, 64, 1279, 12]),
  (1091, .if_icmp .eq 19, 3, []),
  (1094, .iconst 0, 1, []),
  (1095, .ireturn, 1, []),
  (1096, .aload_n 1, 1, []),
  (1097, .invokevirtual 153, 3, [6, 120, 0, 903, 904, 905, 50, 906, 11]),
  (1100, .aload_n 2, 1, []),
  (1101, .invokevirtual 157, 3, [6, 201, 0, 1285, 1286, 1287, 64, 1288, 12]),
  (1104, .lcmp, 1, []),
  (1105, .ifCond .eq 5, 3, []),
  (1108, .iconst 0, 1, []),
  (1109, .ireturn, 1, []),
  (1110, .iinc 3 6, 3, []),
  (1113, .goto (-1095), 3, []),
  (1116, .iconst 1, 1, []),
  (1117, .ireturn, 1, [])]
def mC : Nat → List (Nat × Instr × Nat × List Int) := fun i => match i with
  | 0 => c_0
  | 1 => c_1
  | 2 => c_2
  | 3 => c_3
  | 4 => c_4
  | 5 => c_5
  | 6 => c_6
  | 7 => c_7
  | 8 => c_8
  | 9 => c_9
  | 10 => c_10
  | 11 => c_11
  | 12 => c_12
  | 13 => c_13
  | 14 => c_14
  | 15 => c_15
  | 16 => c_16
  | 17 => c_17
  | 18 => c_18
  | 19 => c_19
  | 20 => c_20
  | 21 => c_21
  | 22 => c_22
  | 23 => c_23
  | 24 => c_24
  | 25 => c_25
  | 26 => c_26
  | 27 => c_27
  | 28 => c_28
  | 29 => c_29
  | 30 => c_30
  | 31 => c_31
  | 32 => c_32
  | 33 => c_33
  | 34 => c_34
  | 35 => c_35
  | 36 => c_36
  | 37 => c_37
  | 38 => c_38
  | 39 => c_39
  | 40 => c_40
  | 41 => c_41
  | 42 => c_42
  | 43 => c_43
  | 44 => c_44
  | 45 => c_45
  | 46 => c_46
  | 47 => c_47
  | 48 => c_48
  | 49 => c_49
  | 50 => c_50
  | 51 => c_51
  | 52 => c_52
  | 53 => c_53
  | 54 => c_54
  | 55 => c_55
  | 56 => c_56
  | 57 => c_57
  | 58 => c_58
  | 59 => c_59
  | 60 => c_60
  | 61 => c_61
  | 62 => c_62
  | 63 => c_63
  | 64 => c_64
  | 65 => c_65
  | 66 => c_66
  | 67 => c_67
  | 68 => c_68
  | 69 => c_69
  | 70 => c_70
  | 71 => c_71
  | 72 => c_72
  | 73 => c_73
  | 74 => c_74
  | 75 => c_75
  | 76 => c_76
  | 77 => c_77
  | 78 => c_78
  | 79 => c_79
  | 80 => c_80
  | 81 => c_81
  | 82 => c_82
  | 83 => c_83
  | 84 => c_84
  | 85 => c_85
  | 86 => c_86
  | 87 => c_87
  | 88 => c_88
  | 89 => c_89
  | 90 => c_90
  | 91 => c_91
  | 92 => c_92
  | 93 => c_93
  | 94 => c_94
  | 95 => c_95
  | 96 => c_96
  | 97 => c_97
  | 98 => c_98
  | 99 => c_99
  | 100 => c_100
  | 101 => c_101
  | 102 => c_102
  | 103 => c_103
  | 104 => c_104
  | 105 => c_105
  | 106 => c_106
  | 107 => c_107
  | 108 => c_108
  | 109 => c_109
  | 110 => c_110
  | 111 => c_111
  | 112 => c_112
  | 113 => c_113
  | 114 => c_114
  | 115 => c_115
  | 116 => c_116
  | 117 => c_117
  | 118 => c_118
  | 119 => c_119
  | 120 => c_120
  | 121 => c_121
  | 122 => c_122
  | 123 => c_123
  | 124 => c_124
  | 125 => c_125
  | 126 => c_126
  | 127 => c_127
  | 128 => c_128
  | 129 => c_129
  | 130 => c_130
  | 131 => c_131
  | 132 => c_132
  | 133 => c_133
  | 134 => c_134
  | 135 => c_135
  | 136 => c_136
  | 137 => c_137
  | 138 => c_138
  | 139 => c_139
  | 140 => c_140
  | 141 => c_141
  | 142 => c_142
  | 143 => c_143
  | 144 => c_144
  | 145 => c_145
  | 146 => c_146
  | 147 => c_147
  | 148 => c_148
  | 149 => c_149
  | 150 => c_150
  | 151 => c_151
  | 152 => c_152
  | 153 => c_153
  | 154 => c_154
  | 155 => c_155
  | 156 => c_156
  | 157 => c_157
  | 158 => c_158
  | 159 => c_159
  | 160 => c_160
  | 161 => c_161
  | 162 => c_162
  | 163 => c_163
  | 164 => c_164
  | 165 => c_165
  | 166 => c_166
  | 167 => c_167
  | 168 => c_168
  | 169 => c_169
  | 170 => c_170
  | 171 => c_171
  | 172 => c_172
  | 173 => c_173
  | 174 => c_174
  | 175 => c_175
  | 176 => c_176
  | 177 => c_177
  | 178 => c_178
  | 179 => c_179
  | 180 => c_180
  | 181 => c_181
  | 182 => c_182
  | 183 => c_183
  | 184 => c_184
  | 185 => c_185
  | 186 => c_186
  | 187 => c_187
  | 188 => c_188
  | 189 => c_189
  | 190 => c_190
  | 191 => c_191
  | 192 => c_192
  | 193 => c_193
  | 194 => c_194
  | 195 => c_195
  | 196 => c_196
  | 197 => c_197
  | 198 => c_198
  | 199 => c_199
  | 200 => c_200
  | 201 => c_201
  | 202 => c_202
  | 203 => c_203
  | 204 => c_204
  | 205 => c_205
  | 206 => c_206
  | 207 => c_207
  | 208 => c_208
  | 209 => c_209
  | 210 => c_210
  | 211 => c_211
  | 212 => c_212
  | 213 => c_213
  | 214 => c_214
  | 215 => c_215
  | 216 => c_216
  | _ => []
