def RX0 : String := "CakePapers$Changes"
def TX0 : u_T := fun k => match k with
  | 0 => ("CakePapers$Changes", "kinds", "[I", true)
  | 1 => ("CakePapers$Changes", "steps", "[I", true)
  | 2 => ("CakePapers$Changes", "signs", "[I", true)
  | 3 => ("CakePapers$Changes", "otherSigns", "[I", true)
  | 4 => ("CakePapers$Changes", "count", "I", false)
  | 5 => ("CakePapers$Changes", "from", "LCakePapers$Paper;", false)
  | _ => ("CakePapers$Changes", "to", "LCakePapers$Paper;", false)
def tyX0 : Nat → FieldType := fun k => match k with
  | 0 => .array .int
  | 1 => .array .int
  | 2 => .array .int
  | 3 => .array .int
  | 4 => .int
  | 5 => .object "CakePapers$Paper"
  | _ => .object "CakePapers$Paper"
abbrev wsX00 : List Cond := u_ws RX0 TX0 7
theorem nmX0 : ∀ a, a < 7 → ∀ b, b < 7 → a ≠ b → (TX0 a).2.1 ≠ (TX0 b).2.1 := by decide +kernel
theorem tyX0_ok : ∀ k, k < 7 → parseFieldDescriptor (TX0 k).2.2.1 = some (tyX0 k) := by decide +kernel
abbrev cX0_init : ByteArray := prog_2_method_1_code
def yX0_init : MethodName := ⟨RX0, "<init>", "()V"⟩
def RX1 : String := "CakePapers$Desk"
def TX1 : u_T := fun k => match k with
  | 0 => ("CakePapers$Desk", "papers", "[LCakePapers$Paper;", true)
  | 1 => ("CakePapers$Desk", "joining", "LCakePapers$Joining;", true)
  | _ => ("CakePapers$Desk", "count", "I", false)
def tyX1 : Nat → FieldType := fun k => match k with
  | 0 => .array (.object "CakePapers$Paper")
  | 1 => .object "CakePapers$Joining"
  | _ => .int
abbrev wsX10 : List Cond := u_ws RX1 TX1 3
theorem nmX1 : ∀ a, a < 3 → ∀ b, b < 3 → a ≠ b → (TX1 a).2.1 ≠ (TX1 b).2.1 := by decide +kernel
theorem tyX1_ok : ∀ k, k < 3 → parseFieldDescriptor (TX1 k).2.2.1 = some (tyX1 k) := by decide +kernel
abbrev cX1_init : ByteArray := prog_3_method_1_code
def yX1_init : MethodName := ⟨RX1, "<init>", "()V"⟩
abbrev cX1_isFull : ByteArray := prog_3_method_2_code
def yX1_isFull : MethodName := ⟨RX1, "isFull", "()Z"⟩
abbrev cX1_get : ByteArray := prog_3_method_3_code
def yX1_get : MethodName := ⟨RX1, "get", "(I)LCakePapers$Paper;"⟩
def RX2 : String := "CakePapers$Draft"
def TX2 : u_T := fun k => match k with
  | 0 => ("CakePapers$Draft", "sheet", "LCakePapers$Paper;", true)
  | 1 => ("CakePapers$Draft", "wasMade", "[Z", true)
  | 2 => ("CakePapers$Draft", "order", "[I", true)
  | _ => ("CakePapers$Draft", "placed", "[Z", true)
def tyX2 : Nat → FieldType := fun k => match k with
  | 0 => .object "CakePapers$Paper"
  | 1 => .array .boolean
  | 2 => .array .int
  | _ => .array .boolean
abbrev wsX20 : List Cond := u_ws RX2 TX2 4
theorem nmX2 : ∀ a, a < 4 → ∀ b, b < 4 → a ≠ b → (TX2 a).2.1 ≠ (TX2 b).2.1 := by decide +kernel
theorem tyX2_ok : ∀ k, k < 4 → parseFieldDescriptor (TX2 k).2.2.1 = some (tyX2 k) := by decide +kernel
abbrev cX2_init : ByteArray := prog_4_method_1_code
def yX2_init : MethodName := ⟨RX2, "<init>", "()V"⟩
def RX3 : String := "CakePapers$Joiner"
def TX3 : u_T := fun k => match k with
  | 0 => ("CakePapers$Joiner", "draft", "LCakePapers$Draft;", true)
  | 1 => ("CakePapers$Joiner", "likeness", "LCakePapers$Likeness;", true)
  | 2 => ("CakePapers$Joiner", "trial", "LCakePapers$Joining;", true)
  | 3 => ("CakePapers$Joiner", "half", "LCakePapers$Paper;", true)
  | 4 => ("CakePapers$Joiner", "leftResult", "LCakePapers$Paper;", true)
  | 5 => ("CakePapers$Joiner", "rightResult", "LCakePapers$Paper;", true)
  | 6 => ("CakePapers$Joiner", "row", "[I", true)
  | 7 => ("CakePapers$Joiner", "bestRow", "[I", true)
  | 8 => ("CakePapers$Joiner", "bestKnown", "Z", false)
  | 9 => ("CakePapers$Joiner", "bestFound", "Z", false)
  | _ => ("CakePapers$Joiner", "bestWant", "I", false)
def tyX3 : Nat → FieldType := fun k => match k with
  | 0 => .object "CakePapers$Draft"
  | 1 => .object "CakePapers$Likeness"
  | 2 => .object "CakePapers$Joining"
  | 3 => .object "CakePapers$Paper"
  | 4 => .object "CakePapers$Paper"
  | 5 => .object "CakePapers$Paper"
  | 6 => .array .int
  | 7 => .array .int
  | 8 => .boolean
  | 9 => .boolean
  | _ => .int
abbrev wsX30 : List Cond := u_ws RX3 TX3 11
theorem nmX3 : ∀ a, a < 11 → ∀ b, b < 11 → a ≠ b → (TX3 a).2.1 ≠ (TX3 b).2.1 := by decide +kernel
theorem tyX3_ok : ∀ k, k < 11 → parseFieldDescriptor (TX3 k).2.2.1 = some (tyX3 k) := by decide +kernel
abbrev cX3_init : ByteArray := prog_5_method_1_code
def yX3_init : MethodName := ⟨RX3, "<init>", "(LCakePapers$Draft;LCakePapers$Likeness;)V"⟩
def RX4 : String := "CakePapers$Joining"
def TX4 : u_T := fun k => match k with
  | 0 => ("CakePapers$Joining", "base", "LCakePapers$Paper;", false)
  | 1 => ("CakePapers$Joining", "one", "LCakePapers$Paper;", false)
  | 2 => ("CakePapers$Joining", "other", "LCakePapers$Paper;", false)
  | 3 => ("CakePapers$Joining", "inBase", "[I", true)
  | 4 => ("CakePapers$Joining", "inOne", "[I", true)
  | 5 => ("CakePapers$Joining", "inOther", "[I", true)
  | 6 => ("CakePapers$Joining", "oneChanged", "[I", true)
  | 7 => ("CakePapers$Joining", "otherChanged", "[I", true)
  | 8 => ("CakePapers$Joining", "quarrelStep", "[I", true)
  | 9 => ("CakePapers$Joining", "quarrelField", "[I", true)
  | 10 => ("CakePapers$Joining", "sides", "[I", true)
  | 11 => ("CakePapers$Joining", "steps", "I", false)
  | _ => ("CakePapers$Joining", "quarrels", "I", false)
def tyX4 : Nat → FieldType := fun k => match k with
  | 0 => .object "CakePapers$Paper"
  | 1 => .object "CakePapers$Paper"
  | 2 => .object "CakePapers$Paper"
  | 3 => .array .int
  | 4 => .array .int
  | 5 => .array .int
  | 6 => .array .int
  | 7 => .array .int
  | 8 => .array .int
  | 9 => .array .int
  | 10 => .array .int
  | 11 => .int
  | _ => .int
abbrev wsX40 : List Cond := u_ws RX4 TX4 13
theorem nmX4 : ∀ a, a < 13 → ∀ b, b < 13 → a ≠ b → (TX4 a).2.1 ≠ (TX4 b).2.1 := by decide +kernel
theorem tyX4_ok : ∀ k, k < 13 → parseFieldDescriptor (TX4 k).2.2.1 = some (tyX4 k) := by decide +kernel
abbrev cX4_init : ByteArray := prog_6_method_1_code
def yX4_init : MethodName := ⟨RX4, "<init>", "()V"⟩
abbrev cX4_isThere : ByteArray := prog_6_method_2_code
def yX4_isThere : MethodName := ⟨RX4, "isThere", "()Z"⟩
abbrev cX4_hasQuarrel : ByteArray := prog_6_method_3_code
def yX4_hasQuarrel : MethodName := ⟨RX4, "hasQuarrel", "(I)Z"⟩
abbrev cX4_clear : ByteArray := prog_6_method_4_code
def yX4_clear : MethodName := ⟨RX4, "clear", "()V"⟩
abbrev cX4_copyFrom : ByteArray := prog_6_method_5_code
def yX4_copyFrom : MethodName := ⟨RX4, "copyFrom", "(LCakePapers$Joining;)V"⟩
def RX5 : String := "CakePapers$Likeness"
def TX5 : u_T := fun k => match k with
  | 0 => ("CakePapers$Likeness", "alikes", "[Z", true)
  | 1 => ("CakePapers$Likeness", "used", "[Z", true)
  | 2 => ("CakePapers$Likeness", "weights", "[I", true)
  | 3 => ("CakePapers$Likeness", "lightest", "[I", true)
  | 4 => ("CakePapers$Likeness", "first", "LCakePapers$Paper;", false)
  | _ => ("CakePapers$Likeness", "second", "LCakePapers$Paper;", false)
def tyX5 : Nat → FieldType := fun k => match k with
  | 0 => .array .boolean
  | 1 => .array .boolean
  | 2 => .array .int
  | 3 => .array .int
  | 4 => .object "CakePapers$Paper"
  | _ => .object "CakePapers$Paper"
abbrev wsX50 : List Cond := u_ws RX5 TX5 6
theorem nmX5 : ∀ a, a < 6 → ∀ b, b < 6 → a ≠ b → (TX5 a).2.1 ≠ (TX5 b).2.1 := by decide +kernel
theorem tyX5_ok : ∀ k, k < 6 → parseFieldDescriptor (TX5 k).2.2.1 = some (tyX5 k) := by decide +kernel
abbrev cX5_init : ByteArray := prog_7_method_1_code
def yX5_init : MethodName := ⟨RX5, "<init>", "()V"⟩
def RX6 : String := "CakePapers$Paper"
def TX6 : u_T := fun k => match k with
  | 0 => ("CakePapers$Paper", "makes", "[J", true)
  | 1 => ("CakePapers$Paper", "verbs", "[J", true)
  | 2 => ("CakePapers$Paper", "much", "[I", true)
  | 3 => ("CakePapers$Paper", "lasts", "[I", true)
  | 4 => ("CakePapers$Paper", "needCount", "[I", true)
  | 5 => ("CakePapers$Paper", "needs", "[J", true)
  | 6 => ("CakePapers$Paper", "makers", "[I", true)
  | 7 => ("CakePapers$Paper", "isEnd", "[Z", true)
  | 8 => ("CakePapers$Paper", "reach", "[I", true)
  | 9 => ("CakePapers$Paper", "steps", "I", false)
  | 10 => ("CakePapers$Paper", "ends", "I", false)
  | 11 => ("CakePapers$Paper", "path", "I", false)
  | 12 => ("CakePapers$Paper", "allMuch", "I", false)
  | _ => ("CakePapers$Paper", "allLong", "I", false)
def tyX6 : Nat → FieldType := fun k => match k with
  | 0 => .array .long
  | 1 => .array .long
  | 2 => .array .int
  | 3 => .array .int
  | 4 => .array .int
  | 5 => .array .long
  | 6 => .array .int
  | 7 => .array .boolean
  | 8 => .array .int
  | 9 => .int
  | 10 => .int
  | 11 => .int
  | 12 => .int
  | _ => .int
abbrev wsX60 : List Cond := u_ws RX6 TX6 14
theorem nmX6 : ∀ a, a < 14 → ∀ b, b < 14 → a ≠ b → (TX6 a).2.1 ≠ (TX6 b).2.1 := by decide +kernel
theorem tyX6_ok : ∀ k, k < 14 → parseFieldDescriptor (TX6 k).2.2.1 = some (tyX6 k) := by decide +kernel
abbrev cX6_init : ByteArray := prog_8_method_1_code
def yX6_init : MethodName := ⟨RX6, "<init>", "(I)V"⟩
abbrev cX6_workOut : ByteArray := prog_8_method_9_code
def yX6_workOut : MethodName := ⟨RX6, "workOut", "()V"⟩
def RX7 : String := "CakePapers$PaperReader"
def TX7 : u_T := fun k => match k with
  | 0 => ("CakePapers$PaperReader", "scanner", "LCakePapers$Scanner;", true)
  | 1 => ("CakePapers$PaperReader", "called", "[J", true)
  | 2 => ("CakePapers$PaperReader", "meant", "[J", true)
  | _ => ("CakePapers$PaperReader", "calls", "I", false)
def tyX7 : Nat → FieldType := fun k => match k with
  | 0 => .object "CakePapers$Scanner"
  | 1 => .array .long
  | 2 => .array .long
  | _ => .int
abbrev wsX70 : List Cond := u_ws RX7 TX7 4
theorem nmX7 : ∀ a, a < 4 → ∀ b, b < 4 → a ≠ b → (TX7 a).2.1 ≠ (TX7 b).2.1 := by decide +kernel
theorem tyX7_ok : ∀ k, k < 4 → parseFieldDescriptor (TX7 k).2.2.1 = some (tyX7 k) := by decide +kernel
abbrev cX7_init : ByteArray := prog_9_method_1_code
def yX7_init : MethodName := ⟨RX7, "<init>", "(LCakePapers$Scanner;)V"⟩
abbrev cX7_read : ByteArray := prog_9_method_2_code
def yX7_read : MethodName := ⟨RX7, "read", "(LCakePapers$Paper;)Z"⟩
def RX8 : String := "CakePapers$Scanner"
def TX8 : u_T := fun k => match k with
  | 0 => ("CakePapers$Scanner", "words", "[J", true)
  | 1 => ("CakePapers$Scanner", "bytes", "[I", false)
  | 2 => ("CakePapers$Scanner", "length", "I", false)
  | 3 => ("CakePapers$Scanner", "at", "I", false)
  | 4 => ("CakePapers$Scanner", "kind", "I", false)
  | 5 => ("CakePapers$Scanner", "place", "I", false)
  | 6 => ("CakePapers$Scanner", "number", "I", false)
  | 7 => ("CakePapers$Scanner", "name", "J", false)
  | 8 => ("CakePapers$Scanner", "fault", "I", false)
  | _ => ("CakePapers$Scanner", "faultPlace", "I", false)
def tyX8 : Nat → FieldType := fun k => match k with
  | 0 => .array .long
  | 1 => .array .int
  | 2 => .int
  | 3 => .int
  | 4 => .int
  | 5 => .int
  | 6 => .int
  | 7 => .long
  | 8 => .int
  | _ => .int
abbrev wsX80 : List Cond := u_ws RX8 TX8 10
theorem nmX8 : ∀ a, a < 10 → ∀ b, b < 10 → a ≠ b → (TX8 a).2.1 ≠ (TX8 b).2.1 := by decide +kernel
theorem tyX8_ok : ∀ k, k < 10 → parseFieldDescriptor (TX8 k).2.2.1 = some (tyX8 k) := by decide +kernel
abbrev cX8_start : ByteArray := prog_10_method_2_code
def yX8_start : MethodName := ⟨RX8, "start", "([II)V"⟩
abbrev cX8_next : ByteArray := prog_10_method_3_code
def yX8_next : MethodName := ⟨RX8, "next", "()V"⟩
abbrev cX8_blame : ByteArray := prog_10_method_8_code
def yX8_blame : MethodName := ⟨RX8, "blame", "(I)Z"⟩
abbrev cX8_refuse : ByteArray := prog_10_method_9_code
def yX8_refuse : MethodName := ⟨RX8, "refuse", "()Z"⟩
abbrev cX8_pass : ByteArray := prog_10_method_10_code
def yX8_pass : MethodName := ⟨RX8, "pass", "(I)Z"⟩
def RX9 : String := "CakePapers$Want"
def TX9 : u_T := fun k => match k with
  | 0 => ("CakePapers$Want", "codes", "[I", true)
  | 1 => ("CakePapers$Want", "values", "[J", true)
  | 2 => ("CakePapers$Want", "stack", "[I", true)
  | 3 => ("CakePapers$Want", "length", "I", false)
  | _ => ("CakePapers$Want", "units", "I", false)
def tyX9 : Nat → FieldType := fun k => match k with
  | 0 => .array .int
  | 1 => .array .long
  | 2 => .array .int
  | 3 => .int
  | _ => .int
abbrev wsX90 : List Cond := u_ws RX9 TX9 5
theorem nmX9 : ∀ a, a < 5 → ∀ b, b < 5 → a ≠ b → (TX9 a).2.1 ≠ (TX9 b).2.1 := by decide +kernel
theorem tyX9_ok : ∀ k, k < 5 → parseFieldDescriptor (TX9 k).2.2.1 = some (tyX9 k) := by decide +kernel
abbrev cX9_init : ByteArray := prog_11_method_1_code
def yX9_init : MethodName := ⟨RX9, "<init>", "()V"⟩
def RX10 : String := "CakePapers$WantReader"
def TX10 : u_T := fun k => match k with
  | 0 => ("CakePapers$WantReader", "scanner", "LCakePapers$Scanner;", true)
  | _ => ("CakePapers$WantReader", "into", "LCakePapers$Want;", false)
def tyX10 : Nat → FieldType := fun k => match k with
  | 0 => .object "CakePapers$Scanner"
  | _ => .object "CakePapers$Want"
abbrev wsX100 : List Cond := u_ws RX10 TX10 2
theorem nmX10 : ∀ a, a < 2 → ∀ b, b < 2 → a ≠ b → (TX10 a).2.1 ≠ (TX10 b).2.1 := by decide +kernel
theorem tyX10_ok : ∀ k, k < 2 → parseFieldDescriptor (TX10 k).2.2.1 = some (tyX10 k) := by decide +kernel
abbrev cX10_init : ByteArray := prog_12_method_1_code
def yX10_init : MethodName := ⟨RX10, "<init>", "(LCakePapers$Scanner;)V"⟩
abbrev cX10_read : ByteArray := prog_12_method_2_code
def yX10_read : MethodName := ⟨RX10, "read", "(LCakePapers$Want;)Z"⟩
def RX11 : String := "CakePapers"
def TX11 : u_T := fun k => match k with
  | 0 => ("CakePapers", "tape", "[I", true)
  | 1 => ("CakePapers", "taped", "I", false)
  | 2 => ("CakePapers", "scanner", "LCakePapers$Scanner;", true)
  | 3 => ("CakePapers", "paperReader", "LCakePapers$PaperReader;", true)
  | 4 => ("CakePapers", "wantReader", "LCakePapers$WantReader;", true)
  | 5 => ("CakePapers", "desk", "LCakePapers$Desk;", true)
  | 6 => ("CakePapers", "boxes", "[LCakePapers$Desk;", true)
  | 7 => ("CakePapers", "sparePaper", "LCakePapers$Paper;", false)
  | 8 => ("CakePapers", "wanted", "LCakePapers$Want;", false)
  | 9 => ("CakePapers", "spareWant", "LCakePapers$Want;", false)
  | 10 => ("CakePapers", "likeness", "LCakePapers$Likeness;", true)
  | 11 => ("CakePapers", "joiner", "LCakePapers$Joiner;", true)
  | 12 => ("CakePapers", "changesOfOne", "LCakePapers$Changes;", true)
  | 13 => ("CakePapers", "changesOfOther", "LCakePapers$Changes;", true)
  | 14 => ("CakePapers", "chosen", "[Z", true)
  | _ => ("CakePapers", "draft", "LCakePapers$Draft;", true)
def RX12 : String := "CakePapersModel"
def TX12 : u_T := fun k => match k with
  | 0 => ("CakePapersModel", "tape", "[B", true)
  | 1 => ("CakePapersModel", "text", "[B", true)
  | 2 => ("CakePapersModel", "taped", "I", false)
  | 3 => ("CakePapersModel", "size", "I", false)
  | 4 => ("CakePapersModel", "faultKind", "I", false)
  | 5 => ("CakePapersModel", "faultPlace", "I", false)
  | 6 => ("CakePapersModel", "at", "I", false)
  | 7 => ("CakePapersModel", "end", "I", false)
  | 8 => ("CakePapersModel", "token", "I", false)
  | 9 => ("CakePapersModel", "number", "I", false)
  | 10 => ("CakePapersModel", "name", "J", false)
  | 11 => ("CakePapersModel", "many", "[I", true)
  | 12 => ("CakePapersModel", "much", "[I", true)
  | 13 => ("CakePapersModel", "length", "[I", true)
  | 14 => ("CakePapersModel", "needMany", "[I", true)
  | 15 => ("CakePapersModel", "makes", "[J", true)
  | 16 => ("CakePapersModel", "verb", "[J", true)
  | 17 => ("CakePapersModel", "need", "[J", true)
  | 18 => ("CakePapersModel", "called", "[J", true)
  | 19 => ("CakePapersModel", "calledTo", "[J", true)
  | 20 => ("CakePapersModel", "papers", "I", false)
  | 21 => ("CakePapersModel", "calls", "I", false)
  | 22 => ("CakePapersModel", "way", "[I", true)
  | 23 => ("CakePapersModel", "sort", "[I", true)
  | 24 => ("CakePapersModel", "cMany", "[I", true)
  | 25 => ("CakePapersModel", "cKind", "[I", true)
  | 26 => ("CakePapersModel", "cStep", "[I", true)
  | 27 => ("CakePapersModel", "cFrom", "[I", true)
  | 28 => ("CakePapersModel", "cTo", "[I", true)
  | 29 => ("CakePapersModel", "oneRow", "[I", true)
  | 30 => ("CakePapersModel", "twoRow", "[I", true)
  | 31 => ("CakePapersModel", "oneMany", "I", false)
  | 32 => ("CakePapersModel", "twoMany", "I", false)
  | 33 => ("CakePapersModel", "least", "[I", true)
  | 34 => ("CakePapersModel", "then", "[I", true)
  | 35 => ("CakePapersModel", "isThere", "[Z", true)
  | 36 => ("CakePapersModel", "isPlaced", "[Z", true)
  | 37 => ("CakePapersModel", "wasMade", "[Z", true)
  | 38 => ("CakePapersModel", "order", "[I", true)
  | 39 => ("CakePapersModel", "rowMany", "I", false)
  | 40 => ("CakePapersModel", "placed", "I", false)
  | 41 => ("CakePapersModel", "breach", "I", false)
  | 42 => ("CakePapersModel", "breachStep", "I", false)
  | 43 => ("CakePapersModel", "isDone", "[Z", true)
  | 44 => ("CakePapersModel", "jBase", "[I", true)
  | 45 => ("CakePapersModel", "jOne", "[I", true)
  | 46 => ("CakePapersModel", "jOther", "[I", true)
  | 47 => ("CakePapersModel", "qStep", "[I", true)
  | 48 => ("CakePapersModel", "qField", "[I", true)
  | 49 => ("CakePapersModel", "qSide", "[I", true)
  | 50 => ("CakePapersModel", "jMany", "I", false)
  | 51 => ("CakePapersModel", "quarrels", "I", false)
  | 52 => ("CakePapersModel", "joinBase", "I", false)
  | 53 => ("CakePapersModel", "joinOne", "I", false)
  | 54 => ("CakePapersModel", "joinOther", "I", false)
  | 55 => ("CakePapersModel", "tSide", "[I", true)
  | 56 => ("CakePapersModel", "tBase", "I", false)
  | 57 => ("CakePapersModel", "tOne", "I", false)
  | 58 => ("CakePapersModel", "tOther", "I", false)
  | 59 => ("CakePapersModel", "tMany", "I", false)
  | 60 => ("CakePapersModel", "isJoining", "Z", false)
  | 61 => ("CakePapersModel", "bestWant", "I", false)
  | 62 => ("CakePapersModel", "bestRow", "I", false)
  | 63 => ("CakePapersModel", "isGoodAlone", "[Z", true)
  | 64 => ("CakePapersModel", "code", "[I", true)
  | 65 => ("CakePapersModel", "codeNumber", "[I", true)
  | 66 => ("CakePapersModel", "codes", "[I", true)
  | 67 => ("CakePapersModel", "unitsOf", "[I", true)
  | 68 => ("CakePapersModel", "eWhat", "[I", true)
  | 69 => ("CakePapersModel", "eSign", "[I", true)
  | 70 => ("CakePapersModel", "pile", "[I", true)
  | 71 => ("CakePapersModel", "codeName", "[J", true)
  | 72 => ("CakePapersModel", "wantBank", "I", false)
  | 73 => ("CakePapersModel", "wb", "I", false)
  | 74 => ("CakePapersModel", "within", "I", false)
  | 75 => ("CakePapersModel", "piled", "I", false)
  | 76 => ("CakePapersModel", "boxMany", "[I", true)
  | 77 => ("CakePapersModel", "boxJoin", "[I", true)
  | 78 => ("CakePapersModel", "boxSide", "[I", true)
  | _ => ("CakePapersModel", "boxJoining", "[Z", true)
theorem dX0_init_0 : decode cX0_init 0 = .ok (.aload_n 0, 1) := by decide +kernel
theorem dX0_init_1 : decode cX0_init 1 = .ok (.invokespecial 5, 3) := by decide +kernel
theorem dX0_init_4 : decode cX0_init 4 = .ok (.aload_n 0, 1) := by decide +kernel
theorem dX0_init_5 : decode cX0_init 5 = .ok (.bipush 60, 2) := by decide +kernel
theorem dX0_init_7 : decode cX0_init 7 = .ok (.newarray .int, 2) := by decide +kernel
theorem dX0_init_9 : decode cX0_init 9 = .ok (.putfield 13, 3) := by decide +kernel
theorem dX0_init_12 : decode cX0_init 12 = .ok (.aload_n 0, 1) := by decide +kernel
theorem dX0_init_13 : decode cX0_init 13 = .ok (.bipush 60, 2) := by decide +kernel
theorem dX0_init_15 : decode cX0_init 15 = .ok (.newarray .int, 2) := by decide +kernel
theorem dX0_init_17 : decode cX0_init 17 = .ok (.putfield 17, 3) := by decide +kernel
theorem dX0_init_20 : decode cX0_init 20 = .ok (.aload_n 0, 1) := by decide +kernel
theorem dX0_init_21 : decode cX0_init 21 = .ok (.bipush 10, 2) := by decide +kernel
theorem dX0_init_23 : decode cX0_init 23 = .ok (.newarray .int, 2) := by decide +kernel
theorem dX0_init_25 : decode cX0_init 25 = .ok (.putfield 20, 3) := by decide +kernel
theorem dX0_init_28 : decode cX0_init 28 = .ok (.aload_n 0, 1) := by decide +kernel
theorem dX0_init_29 : decode cX0_init 29 = .ok (.bipush 10, 2) := by decide +kernel
theorem dX0_init_31 : decode cX0_init 31 = .ok (.newarray .int, 2) := by decide +kernel
theorem dX0_init_33 : decode cX0_init 33 = .ok (.putfield 23, 3) := by decide +kernel
theorem dX0_init_36 : decode cX0_init 36 = .ok (.return_, 1) := by decide +kernel
theorem dX1_init_0 : decode cX1_init 0 = .ok (.aload_n 0, 1) := by decide +kernel
theorem dX1_init_1 : decode cX1_init 1 = .ok (.invokespecial 3, 3) := by decide +kernel
theorem dX1_init_4 : decode cX1_init 4 = .ok (.aload_n 0, 1) := by decide +kernel
theorem dX1_init_5 : decode cX1_init 5 = .ok (.bipush 8, 2) := by decide +kernel
theorem dX1_init_7 : decode cX1_init 7 = .ok (.anewarray 11, 3) := by decide +kernel
theorem dX1_init_10 : decode cX1_init 10 = .ok (.putfield 13, 3) := by decide +kernel
theorem dX1_init_13 : decode cX1_init 13 = .ok (.aload_n 0, 1) := by decide +kernel
theorem dX1_init_14 : decode cX1_init 14 = .ok (.new 17, 3) := by decide +kernel
theorem dX1_init_17 : decode cX1_init 17 = .ok (.dup, 1) := by decide +kernel
theorem dX1_init_18 : decode cX1_init 18 = .ok (.invokespecial 19, 3) := by decide +kernel
theorem dX1_init_21 : decode cX1_init 21 = .ok (.putfield 20, 3) := by decide +kernel
theorem dX1_init_24 : decode cX1_init 24 = .ok (.aload_n 0, 1) := by decide +kernel
theorem dX1_init_25 : decode cX1_init 25 = .ok (.iconst (-1), 1) := by decide +kernel
theorem dX1_init_26 : decode cX1_init 26 = .ok (.putfield 24, 3) := by decide +kernel
theorem dX1_init_29 : decode cX1_init 29 = .ok (.return_, 1) := by decide +kernel
theorem dX1_isFull_0 : decode cX1_isFull 0 = .ok (.aload_n 0, 1) := by decide +kernel
theorem dX1_isFull_1 : decode cX1_isFull 1 = .ok (.getfield 24, 3) := by decide +kernel
theorem dX1_isFull_4 : decode cX1_isFull 4 = .ok (.bipush 8, 2) := by decide +kernel
theorem dX1_isFull_6 : decode cX1_isFull 6 = .ok (.if_icmp .lt 7, 3) := by decide +kernel
theorem dX1_isFull_13 : decode cX1_isFull 13 = .ok (.iconst 0, 1) := by decide +kernel
theorem dX1_isFull_14 : decode cX1_isFull 14 = .ok (.ireturn, 1) := by decide +kernel
theorem dX1_get_0 : decode cX1_get 0 = .ok (.iload_n 1, 1) := by decide +kernel
theorem dX1_get_1 : decode cX1_get 1 = .ok (.ifCond .lt 20, 3) := by decide +kernel
theorem dX1_get_4 : decode cX1_get 4 = .ok (.iload_n 1, 1) := by decide +kernel
theorem dX1_get_5 : decode cX1_get 5 = .ok (.aload_n 0, 1) := by decide +kernel
theorem dX1_get_6 : decode cX1_get 6 = .ok (.getfield 24, 3) := by decide +kernel
theorem dX1_get_9 : decode cX1_get 9 = .ok (.if_icmp .ge 12, 3) := by decide +kernel
theorem dX1_get_21 : decode cX1_get 21 = .ok (.aconst_null, 1) := by decide +kernel
theorem dX1_get_22 : decode cX1_get 22 = .ok (.areturn, 1) := by decide +kernel
theorem dX2_init_0 : decode cX2_init 0 = .ok (.aload_n 0, 1) := by decide +kernel
theorem dX2_init_1 : decode cX2_init 1 = .ok (.invokespecial 5, 3) := by decide +kernel
theorem dX2_init_4 : decode cX2_init 4 = .ok (.aload_n 0, 1) := by decide +kernel
theorem dX2_init_5 : decode cX2_init 5 = .ok (.new 1, 3) := by decide +kernel
theorem dX2_init_8 : decode cX2_init 8 = .ok (.dup, 1) := by decide +kernel
theorem dX2_init_9 : decode cX2_init 9 = .ok (.bipush 36, 2) := by decide +kernel
theorem dX2_init_11 : decode cX2_init 11 = .ok (.invokespecial 13, 3) := by decide +kernel
theorem dX2_init_14 : decode cX2_init 14 = .ok (.putfield 16, 3) := by decide +kernel
theorem dX2_init_17 : decode cX2_init 17 = .ok (.aload_n 0, 1) := by decide +kernel
theorem dX2_init_18 : decode cX2_init 18 = .ok (.sipush 144, 3) := by decide +kernel
theorem dX2_init_21 : decode cX2_init 21 = .ok (.newarray .boolean, 2) := by decide +kernel
theorem dX2_init_23 : decode cX2_init 23 = .ok (.putfield 20, 3) := by decide +kernel
theorem dX2_init_26 : decode cX2_init 26 = .ok (.aload_n 0, 1) := by decide +kernel
theorem dX2_init_27 : decode cX2_init 27 = .ok (.bipush 12, 2) := by decide +kernel
theorem dX2_init_29 : decode cX2_init 29 = .ok (.newarray .int, 2) := by decide +kernel
theorem dX2_init_31 : decode cX2_init 31 = .ok (.putfield 24, 3) := by decide +kernel
theorem dX2_init_34 : decode cX2_init 34 = .ok (.aload_n 0, 1) := by decide +kernel
theorem dX2_init_35 : decode cX2_init 35 = .ok (.bipush 12, 2) := by decide +kernel
theorem dX2_init_37 : decode cX2_init 37 = .ok (.newarray .boolean, 2) := by decide +kernel
theorem dX2_init_39 : decode cX2_init 39 = .ok (.putfield 28, 3) := by decide +kernel
theorem dX2_init_42 : decode cX2_init 42 = .ok (.return_, 1) := by decide +kernel
theorem dX3_init_0 : decode cX3_init 0 = .ok (.aload_n 0, 1) := by decide +kernel
theorem dX3_init_1 : decode cX3_init 1 = .ok (.invokespecial 3, 3) := by decide +kernel
theorem dX3_init_4 : decode cX3_init 4 = .ok (.aload_n 0, 1) := by decide +kernel
theorem dX3_init_5 : decode cX3_init 5 = .ok (.aload_n 1, 1) := by decide +kernel
theorem dX3_init_6 : decode cX3_init 6 = .ok (.putfield 9, 3) := by decide +kernel
theorem dX3_init_9 : decode cX3_init 9 = .ok (.aload_n 0, 1) := by decide +kernel
theorem dX3_init_10 : decode cX3_init 10 = .ok (.aload_n 2, 1) := by decide +kernel
theorem dX3_init_11 : decode cX3_init 11 = .ok (.putfield 15, 3) := by decide +kernel
theorem dX3_init_14 : decode cX3_init 14 = .ok (.aload_n 0, 1) := by decide +kernel
theorem dX3_init_15 : decode cX3_init 15 = .ok (.new 19, 3) := by decide +kernel
theorem dX3_init_18 : decode cX3_init 18 = .ok (.dup, 1) := by decide +kernel
theorem dX3_init_19 : decode cX3_init 19 = .ok (.invokespecial 21, 3) := by decide +kernel
theorem dX3_init_22 : decode cX3_init 22 = .ok (.putfield 22, 3) := by decide +kernel
theorem dX3_init_25 : decode cX3_init 25 = .ok (.aload_n 0, 1) := by decide +kernel
theorem dX3_init_26 : decode cX3_init 26 = .ok (.new 26, 3) := by decide +kernel
theorem dX3_init_29 : decode cX3_init 29 = .ok (.dup, 1) := by decide +kernel
theorem dX3_init_30 : decode cX3_init 30 = .ok (.bipush 12, 2) := by decide +kernel
theorem dX3_init_32 : decode cX3_init 32 = .ok (.invokespecial 28, 3) := by decide +kernel
theorem dX3_init_35 : decode cX3_init 35 = .ok (.putfield 31, 3) := by decide +kernel
theorem dX3_init_38 : decode cX3_init 38 = .ok (.aload_n 0, 1) := by decide +kernel
theorem dX3_init_39 : decode cX3_init 39 = .ok (.new 26, 3) := by decide +kernel
theorem dX3_init_42 : decode cX3_init 42 = .ok (.dup, 1) := by decide +kernel
theorem dX3_init_43 : decode cX3_init 43 = .ok (.bipush 12, 2) := by decide +kernel
theorem dX3_init_45 : decode cX3_init 45 = .ok (.invokespecial 28, 3) := by decide +kernel
theorem dX3_init_48 : decode cX3_init 48 = .ok (.putfield 35, 3) := by decide +kernel
theorem dX3_init_51 : decode cX3_init 51 = .ok (.aload_n 0, 1) := by decide +kernel
theorem dX3_init_52 : decode cX3_init 52 = .ok (.new 26, 3) := by decide +kernel
theorem dX3_init_55 : decode cX3_init 55 = .ok (.dup, 1) := by decide +kernel
theorem dX3_init_56 : decode cX3_init 56 = .ok (.bipush 12, 2) := by decide +kernel
theorem dX3_init_58 : decode cX3_init 58 = .ok (.invokespecial 28, 3) := by decide +kernel
theorem dX3_init_61 : decode cX3_init 61 = .ok (.putfield 38, 3) := by decide +kernel
theorem dX3_init_64 : decode cX3_init 64 = .ok (.aload_n 0, 1) := by decide +kernel
theorem dX3_init_65 : decode cX3_init 65 = .ok (.bipush 64, 2) := by decide +kernel
theorem dX3_init_67 : decode cX3_init 67 = .ok (.newarray .int, 2) := by decide +kernel
theorem dX3_init_69 : decode cX3_init 69 = .ok (.putfield 41, 3) := by decide +kernel
theorem dX3_init_72 : decode cX3_init 72 = .ok (.aload_n 0, 1) := by decide +kernel
theorem dX3_init_73 : decode cX3_init 73 = .ok (.bipush 64, 2) := by decide +kernel
theorem dX3_init_75 : decode cX3_init 75 = .ok (.newarray .int, 2) := by decide +kernel
theorem dX3_init_77 : decode cX3_init 77 = .ok (.putfield 45, 3) := by decide +kernel
theorem dX3_init_80 : decode cX3_init 80 = .ok (.return_, 1) := by decide +kernel
theorem dX4_init_0 : decode cX4_init 0 = .ok (.aload_n 0, 1) := by decide +kernel
theorem dX4_init_1 : decode cX4_init 1 = .ok (.invokespecial 5, 3) := by decide +kernel
theorem dX4_init_4 : decode cX4_init 4 = .ok (.aload_n 0, 1) := by decide +kernel
theorem dX4_init_5 : decode cX4_init 5 = .ok (.bipush 36, 2) := by decide +kernel
theorem dX4_init_7 : decode cX4_init 7 = .ok (.newarray .int, 2) := by decide +kernel
theorem dX4_init_9 : decode cX4_init 9 = .ok (.putfield 13, 3) := by decide +kernel
theorem dX4_init_12 : decode cX4_init 12 = .ok (.aload_n 0, 1) := by decide +kernel
theorem dX4_init_13 : decode cX4_init 13 = .ok (.bipush 36, 2) := by decide +kernel
theorem dX4_init_15 : decode cX4_init 15 = .ok (.newarray .int, 2) := by decide +kernel
theorem dX4_init_17 : decode cX4_init 17 = .ok (.putfield 17, 3) := by decide +kernel
theorem dX4_init_20 : decode cX4_init 20 = .ok (.aload_n 0, 1) := by decide +kernel
theorem dX4_init_21 : decode cX4_init 21 = .ok (.bipush 36, 2) := by decide +kernel
theorem dX4_init_23 : decode cX4_init 23 = .ok (.newarray .int, 2) := by decide +kernel
theorem dX4_init_25 : decode cX4_init 25 = .ok (.putfield 20, 3) := by decide +kernel
theorem dX4_init_28 : decode cX4_init 28 = .ok (.aload_n 0, 1) := by decide +kernel
theorem dX4_init_29 : decode cX4_init 29 = .ok (.bipush 36, 2) := by decide +kernel
theorem dX4_init_31 : decode cX4_init 31 = .ok (.newarray .int, 2) := by decide +kernel
theorem dX4_init_33 : decode cX4_init 33 = .ok (.putfield 23, 3) := by decide +kernel
theorem dX4_init_36 : decode cX4_init 36 = .ok (.aload_n 0, 1) := by decide +kernel
theorem dX4_init_37 : decode cX4_init 37 = .ok (.bipush 36, 2) := by decide +kernel
theorem dX4_init_39 : decode cX4_init 39 = .ok (.newarray .int, 2) := by decide +kernel
theorem dX4_init_41 : decode cX4_init 41 = .ok (.putfield 26, 3) := by decide +kernel
theorem dX4_init_44 : decode cX4_init 44 = .ok (.aload_n 0, 1) := by decide +kernel
theorem dX4_init_45 : decode cX4_init 45 = .ok (.bipush 64, 2) := by decide +kernel
theorem dX4_init_47 : decode cX4_init 47 = .ok (.newarray .int, 2) := by decide +kernel
theorem dX4_init_49 : decode cX4_init 49 = .ok (.putfield 29, 3) := by decide +kernel
theorem dX4_init_52 : decode cX4_init 52 = .ok (.aload_n 0, 1) := by decide +kernel
theorem dX4_init_53 : decode cX4_init 53 = .ok (.bipush 64, 2) := by decide +kernel
theorem dX4_init_55 : decode cX4_init 55 = .ok (.newarray .int, 2) := by decide +kernel
theorem dX4_init_57 : decode cX4_init 57 = .ok (.putfield 32, 3) := by decide +kernel
theorem dX4_init_60 : decode cX4_init 60 = .ok (.aload_n 0, 1) := by decide +kernel
theorem dX4_init_61 : decode cX4_init 61 = .ok (.bipush 64, 2) := by decide +kernel
theorem dX4_init_63 : decode cX4_init 63 = .ok (.newarray .int, 2) := by decide +kernel
theorem dX4_init_65 : decode cX4_init 65 = .ok (.putfield 35, 3) := by decide +kernel
theorem dX4_init_68 : decode cX4_init 68 = .ok (.return_, 1) := by decide +kernel
theorem dX4_isThere_0 : decode cX4_isThere 0 = .ok (.aload_n 0, 1) := by decide +kernel
theorem dX4_isThere_1 : decode cX4_isThere 1 = .ok (.getfield 38, 3) := by decide +kernel
theorem dX4_isThere_4 : decode cX4_isThere 4 = .ok (.ifnull 21, 3) := by decide +kernel
theorem dX4_isThere_25 : decode cX4_isThere 25 = .ok (.iconst 0, 1) := by decide +kernel
theorem dX4_isThere_26 : decode cX4_isThere 26 = .ok (.ireturn, 1) := by decide +kernel
theorem dX4_hasQuarrel_0 : decode cX4_hasQuarrel 0 = .ok (.iload_n 1, 1) := by decide +kernel
theorem dX4_hasQuarrel_1 : decode cX4_hasQuarrel 1 = .ok (.ifCond .lt 15, 3) := by decide +kernel
theorem dX4_hasQuarrel_4 : decode cX4_hasQuarrel 4 = .ok (.iload_n 1, 1) := by decide +kernel
theorem dX4_hasQuarrel_5 : decode cX4_hasQuarrel 5 = .ok (.aload_n 0, 1) := by decide +kernel
theorem dX4_hasQuarrel_6 : decode cX4_hasQuarrel 6 = .ok (.getfield 48, 3) := by decide +kernel
theorem dX4_hasQuarrel_9 : decode cX4_hasQuarrel 9 = .ok (.if_icmp .ge 7, 3) := by decide +kernel
theorem dX4_hasQuarrel_16 : decode cX4_hasQuarrel 16 = .ok (.iconst 0, 1) := by decide +kernel
theorem dX4_hasQuarrel_17 : decode cX4_hasQuarrel 17 = .ok (.ireturn, 1) := by decide +kernel
theorem dX4_clear_0 : decode cX4_clear 0 = .ok (.aload_n 0, 1) := by decide +kernel
theorem dX4_clear_1 : decode cX4_clear 1 = .ok (.aconst_null, 1) := by decide +kernel
theorem dX4_clear_2 : decode cX4_clear 2 = .ok (.putfield 38, 3) := by decide +kernel
theorem dX4_clear_5 : decode cX4_clear 5 = .ok (.aload_n 0, 1) := by decide +kernel
theorem dX4_clear_6 : decode cX4_clear 6 = .ok (.aconst_null, 1) := by decide +kernel
theorem dX4_clear_7 : decode cX4_clear 7 = .ok (.putfield 42, 3) := by decide +kernel
theorem dX4_clear_10 : decode cX4_clear 10 = .ok (.aload_n 0, 1) := by decide +kernel
theorem dX4_clear_11 : decode cX4_clear 11 = .ok (.aconst_null, 1) := by decide +kernel
theorem dX4_clear_12 : decode cX4_clear 12 = .ok (.putfield 45, 3) := by decide +kernel
theorem dX4_clear_15 : decode cX4_clear 15 = .ok (.aload_n 0, 1) := by decide +kernel
theorem dX4_clear_16 : decode cX4_clear 16 = .ok (.iconst 0, 1) := by decide +kernel
theorem dX4_clear_17 : decode cX4_clear 17 = .ok (.putfield 52, 3) := by decide +kernel
theorem dX4_clear_20 : decode cX4_clear 20 = .ok (.aload_n 0, 1) := by decide +kernel
theorem dX4_clear_21 : decode cX4_clear 21 = .ok (.iconst 0, 1) := by decide +kernel
theorem dX4_clear_22 : decode cX4_clear 22 = .ok (.putfield 48, 3) := by decide +kernel
theorem dX4_clear_25 : decode cX4_clear 25 = .ok (.return_, 1) := by decide +kernel
theorem dX4_copyFrom_0 : decode cX4_copyFrom 0 = .ok (.aload_n 1, 1) := by decide +kernel
theorem dX4_copyFrom_1 : decode cX4_copyFrom 1 = .ok (.invokevirtual 55, 3) := by decide +kernel
theorem dX4_copyFrom_4 : decode cX4_copyFrom 4 = .ok (.ifCond .ne 8, 3) := by decide +kernel
theorem dX4_copyFrom_7 : decode cX4_copyFrom 7 = .ok (.aload_n 0, 1) := by decide +kernel
theorem dX4_copyFrom_8 : decode cX4_copyFrom 8 = .ok (.invokevirtual 59, 3) := by decide +kernel
theorem dX4_copyFrom_11 : decode cX4_copyFrom 11 = .ok (.return_, 1) := by decide +kernel
theorem dX5_init_0 : decode cX5_init 0 = .ok (.aload_n 0, 1) := by decide +kernel
theorem dX5_init_1 : decode cX5_init 1 = .ok (.invokespecial 5, 3) := by decide +kernel
theorem dX5_init_4 : decode cX5_init 4 = .ok (.aload_n 0, 1) := by decide +kernel
theorem dX5_init_5 : decode cX5_init 5 = .ok (.sipush 144, 3) := by decide +kernel
theorem dX5_init_8 : decode cX5_init 8 = .ok (.newarray .boolean, 2) := by decide +kernel
theorem dX5_init_10 : decode cX5_init 10 = .ok (.putfield 13, 3) := by decide +kernel
theorem dX5_init_13 : decode cX5_init 13 = .ok (.aload_n 0, 1) := by decide +kernel
theorem dX5_init_14 : decode cX5_init 14 = .ok (.bipush 12, 2) := by decide +kernel
theorem dX5_init_16 : decode cX5_init 16 = .ok (.newarray .boolean, 2) := by decide +kernel
theorem dX5_init_18 : decode cX5_init 18 = .ok (.putfield 17, 3) := by decide +kernel
theorem dX5_init_21 : decode cX5_init 21 = .ok (.aload_n 0, 1) := by decide +kernel
theorem dX5_init_22 : decode cX5_init 22 = .ok (.bipush 64, 2) := by decide +kernel
theorem dX5_init_24 : decode cX5_init 24 = .ok (.newarray .int, 2) := by decide +kernel
theorem dX5_init_26 : decode cX5_init 26 = .ok (.putfield 20, 3) := by decide +kernel
theorem dX5_init_29 : decode cX5_init 29 = .ok (.aload_n 0, 1) := by decide +kernel
theorem dX5_init_30 : decode cX5_init 30 = .ok (.sipush 256, 3) := by decide +kernel
theorem dX5_init_33 : decode cX5_init 33 = .ok (.newarray .int, 2) := by decide +kernel
theorem dX5_init_35 : decode cX5_init 35 = .ok (.putfield 24, 3) := by decide +kernel
theorem dX5_init_38 : decode cX5_init 38 = .ok (.return_, 1) := by decide +kernel
theorem dX6_init_0 : decode cX6_init 0 = .ok (.aload_n 0, 1) := by decide +kernel
theorem dX6_init_1 : decode cX6_init 1 = .ok (.invokespecial 3, 3) := by decide +kernel
theorem dX6_init_4 : decode cX6_init 4 = .ok (.iload_n 1, 1) := by decide +kernel
theorem dX6_init_5 : decode cX6_init 5 = .ok (.iconst 0, 1) := by decide +kernel
theorem dX6_init_6 : decode cX6_init 6 = .ok (.invokestatic 9, 3) := by decide +kernel
theorem dX6_init_9 : decode cX6_init 9 = .ok (.istore_n 2, 1) := by decide +kernel
theorem dX6_init_10 : decode cX6_init 10 = .ok (.aload_n 0, 1) := by decide +kernel
theorem dX6_init_11 : decode cX6_init 11 = .ok (.iload_n 2, 1) := by decide +kernel
theorem dX6_init_12 : decode cX6_init 12 = .ok (.newarray .long, 2) := by decide +kernel
theorem dX6_init_14 : decode cX6_init 14 = .ok (.putfield 15, 3) := by decide +kernel
theorem dX6_init_17 : decode cX6_init 17 = .ok (.aload_n 0, 1) := by decide +kernel
theorem dX6_init_18 : decode cX6_init 18 = .ok (.iload_n 2, 1) := by decide +kernel
theorem dX6_init_19 : decode cX6_init 19 = .ok (.newarray .long, 2) := by decide +kernel
theorem dX6_init_21 : decode cX6_init 21 = .ok (.putfield 21, 3) := by decide +kernel
theorem dX6_init_24 : decode cX6_init 24 = .ok (.aload_n 0, 1) := by decide +kernel
theorem dX6_init_25 : decode cX6_init 25 = .ok (.iload_n 2, 1) := by decide +kernel
theorem dX6_init_26 : decode cX6_init 26 = .ok (.newarray .int, 2) := by decide +kernel
theorem dX6_init_28 : decode cX6_init 28 = .ok (.putfield 24, 3) := by decide +kernel
theorem dX6_init_31 : decode cX6_init 31 = .ok (.aload_n 0, 1) := by decide +kernel
theorem dX6_init_32 : decode cX6_init 32 = .ok (.iload_n 2, 1) := by decide +kernel
theorem dX6_init_33 : decode cX6_init 33 = .ok (.newarray .int, 2) := by decide +kernel
theorem dX6_init_35 : decode cX6_init 35 = .ok (.putfield 28, 3) := by decide +kernel
theorem dX6_init_38 : decode cX6_init 38 = .ok (.aload_n 0, 1) := by decide +kernel
theorem dX6_init_39 : decode cX6_init 39 = .ok (.iload_n 2, 1) := by decide +kernel
theorem dX6_init_40 : decode cX6_init 40 = .ok (.newarray .int, 2) := by decide +kernel
theorem dX6_init_42 : decode cX6_init 42 = .ok (.putfield 31, 3) := by decide +kernel
theorem dX6_init_45 : decode cX6_init 45 = .ok (.aload_n 0, 1) := by decide +kernel
theorem dX6_init_46 : decode cX6_init 46 = .ok (.iload_n 2, 1) := by decide +kernel
theorem dX6_init_47 : decode cX6_init 47 = .ok (.iconst 4, 1) := by decide +kernel
theorem dX6_init_48 : decode cX6_init 48 = .ok (.imul, 1) := by decide +kernel
theorem dX6_init_49 : decode cX6_init 49 = .ok (.newarray .long, 2) := by decide +kernel
theorem dX6_init_51 : decode cX6_init 51 = .ok (.putfield 34, 3) := by decide +kernel
theorem dX6_init_54 : decode cX6_init 54 = .ok (.aload_n 0, 1) := by decide +kernel
theorem dX6_init_55 : decode cX6_init 55 = .ok (.iload_n 2, 1) := by decide +kernel
theorem dX6_init_56 : decode cX6_init 56 = .ok (.iconst 4, 1) := by decide +kernel
theorem dX6_init_57 : decode cX6_init 57 = .ok (.imul, 1) := by decide +kernel
theorem dX6_init_58 : decode cX6_init 58 = .ok (.newarray .int, 2) := by decide +kernel
theorem dX6_init_60 : decode cX6_init 60 = .ok (.putfield 37, 3) := by decide +kernel
theorem dX6_init_63 : decode cX6_init 63 = .ok (.aload_n 0, 1) := by decide +kernel
theorem dX6_init_64 : decode cX6_init 64 = .ok (.iload_n 2, 1) := by decide +kernel
theorem dX6_init_65 : decode cX6_init 65 = .ok (.newarray .boolean, 2) := by decide +kernel
theorem dX6_init_67 : decode cX6_init 67 = .ok (.putfield 40, 3) := by decide +kernel
theorem dX6_init_70 : decode cX6_init 70 = .ok (.aload_n 0, 1) := by decide +kernel
theorem dX6_init_71 : decode cX6_init 71 = .ok (.iload_n 2, 1) := by decide +kernel
theorem dX6_init_72 : decode cX6_init 72 = .ok (.newarray .int, 2) := by decide +kernel
theorem dX6_init_74 : decode cX6_init 74 = .ok (.putfield 44, 3) := by decide +kernel
theorem dX6_init_77 : decode cX6_init 77 = .ok (.return_, 1) := by decide +kernel
theorem dX6_workOut_0 : decode cX6_workOut 0 = .ok (.aload_n 0, 1) := by decide +kernel
theorem dX6_workOut_1 : decode cX6_workOut 1 = .ok (.iconst 0, 1) := by decide +kernel
theorem dX6_workOut_2 : decode cX6_workOut 2 = .ok (.putfield 65, 3) := by decide +kernel
theorem dX6_workOut_5 : decode cX6_workOut 5 = .ok (.aload_n 0, 1) := by decide +kernel
theorem dX6_workOut_6 : decode cX6_workOut 6 = .ok (.iconst 0, 1) := by decide +kernel
theorem dX6_workOut_7 : decode cX6_workOut 7 = .ok (.putfield 68, 3) := by decide +kernel
theorem dX6_workOut_10 : decode cX6_workOut 10 = .ok (.aload_n 0, 1) := by decide +kernel
theorem dX6_workOut_11 : decode cX6_workOut 11 = .ok (.iconst 0, 1) := by decide +kernel
theorem dX6_workOut_12 : decode cX6_workOut 12 = .ok (.putfield 71, 3) := by decide +kernel
theorem dX6_workOut_15 : decode cX6_workOut 15 = .ok (.aload_n 0, 1) := by decide +kernel
theorem dX6_workOut_16 : decode cX6_workOut 16 = .ok (.iconst 0, 1) := by decide +kernel
theorem dX6_workOut_17 : decode cX6_workOut 17 = .ok (.putfield 74, 3) := by decide +kernel
theorem dX6_workOut_20 : decode cX6_workOut 20 = .ok (.iconst 0, 1) := by decide +kernel
theorem dX6_workOut_21 : decode cX6_workOut 21 = .ok (.istore_n 1, 1) := by decide +kernel
theorem dX6_workOut_22 : decode cX6_workOut 22 = .ok (.iload_n 1, 1) := by decide +kernel
theorem dX6_workOut_23 : decode cX6_workOut 23 = .ok (.aload_n 0, 1) := by decide +kernel
theorem dX6_workOut_24 : decode cX6_workOut 24 = .ok (.getfield 47, 3) := by decide +kernel
theorem dX6_workOut_27 : decode cX6_workOut 27 = .ok (.if_icmp .ge 68, 3) := by decide +kernel
theorem dX6_workOut_95 : decode cX6_workOut 95 = .ok (.iconst 0, 1) := by decide +kernel
theorem dX6_workOut_96 : decode cX6_workOut 96 = .ok (.istore_n 1, 1) := by decide +kernel
theorem dX6_workOut_97 : decode cX6_workOut 97 = .ok (.iload_n 1, 1) := by decide +kernel
theorem dX6_workOut_98 : decode cX6_workOut 98 = .ok (.aload_n 0, 1) := by decide +kernel
theorem dX6_workOut_99 : decode cX6_workOut 99 = .ok (.getfield 47, 3) := by decide +kernel
theorem dX6_workOut_102 : decode cX6_workOut 102 = .ok (.if_icmp .ge 32, 3) := by decide +kernel
theorem dX6_workOut_134 : decode cX6_workOut 134 = .ok (.return_, 1) := by decide +kernel
theorem dX7_init_0 : decode cX7_init 0 = .ok (.aload_n 0, 1) := by decide +kernel
theorem dX7_init_1 : decode cX7_init 1 = .ok (.invokespecial 3, 3) := by decide +kernel
theorem dX7_init_4 : decode cX7_init 4 = .ok (.aload_n 0, 1) := by decide +kernel
theorem dX7_init_5 : decode cX7_init 5 = .ok (.aload_n 1, 1) := by decide +kernel
theorem dX7_init_6 : decode cX7_init 6 = .ok (.putfield 9, 3) := by decide +kernel
theorem dX7_init_9 : decode cX7_init 9 = .ok (.aload_n 0, 1) := by decide +kernel
theorem dX7_init_10 : decode cX7_init 10 = .ok (.bipush 6, 2) := by decide +kernel
theorem dX7_init_12 : decode cX7_init 12 = .ok (.newarray .long, 2) := by decide +kernel
theorem dX7_init_14 : decode cX7_init 14 = .ok (.putfield 15, 3) := by decide +kernel
theorem dX7_init_17 : decode cX7_init 17 = .ok (.aload_n 0, 1) := by decide +kernel
theorem dX7_init_18 : decode cX7_init 18 = .ok (.bipush 6, 2) := by decide +kernel
theorem dX7_init_20 : decode cX7_init 20 = .ok (.newarray .long, 2) := by decide +kernel
theorem dX7_init_22 : decode cX7_init 22 = .ok (.putfield 19, 3) := by decide +kernel
theorem dX7_init_25 : decode cX7_init 25 = .ok (.return_, 1) := by decide +kernel
theorem dX7_read_0 : decode cX7_read 0 = .ok (.aload_n 0, 1) := by decide +kernel
theorem dX7_read_1 : decode cX7_read 1 = .ok (.iconst 0, 1) := by decide +kernel
theorem dX7_read_2 : decode cX7_read 2 = .ok (.putfield 22, 3) := by decide +kernel
theorem dX7_read_5 : decode cX7_read 5 = .ok (.aload_n 1, 1) := by decide +kernel
theorem dX7_read_6 : decode cX7_read 6 = .ok (.iconst 0, 1) := by decide +kernel
theorem dX7_read_7 : decode cX7_read 7 = .ok (.putfield 26, 3) := by decide +kernel
theorem dX7_read_10 : decode cX7_read 10 = .ok (.iconst 0, 1) := by decide +kernel
theorem dX7_read_11 : decode cX7_read 11 = .ok (.istore_n 2, 1) := by decide +kernel
theorem dX7_read_12 : decode cX7_read 12 = .ok (.iload_n 2, 1) := by decide +kernel
theorem dX7_read_13 : decode cX7_read 13 = .ok (.bipush 6, 2) := by decide +kernel
theorem dX7_read_15 : decode cX7_read 15 = .ok (.if_icmp .gt 30, 3) := by decide +kernel
theorem dX7_read_18 : decode cX7_read 18 = .ok (.aload_n 0, 1) := by decide +kernel
theorem dX7_read_19 : decode cX7_read 19 = .ok (.getfield 9, 3) := by decide +kernel
theorem dX7_read_22 : decode cX7_read 22 = .ok (.getfield 31, 3) := by decide +kernel
theorem dX7_read_25 : decode cX7_read 25 = .ok (.bipush 100, 2) := by decide +kernel
theorem dX7_read_27 : decode cX7_read 27 = .ok (.if_icmp .ne 18, 3) := by decide +kernel
theorem dX7_read_45 : decode cX7_read 45 = .ok (.iconst 0, 1) := by decide +kernel
theorem dX7_read_46 : decode cX7_read 46 = .ok (.istore_n 2, 1) := by decide +kernel
theorem dX7_read_47 : decode cX7_read 47 = .ok (.iload_n 2, 1) := by decide +kernel
theorem dX7_read_48 : decode cX7_read 48 = .ok (.bipush 12, 2) := by decide +kernel
theorem dX7_read_50 : decode cX7_read 50 = .ok (.if_icmp .gt 31, 3) := by decide +kernel
theorem dX7_read_53 : decode cX7_read 53 = .ok (.aload_n 0, 1) := by decide +kernel
theorem dX7_read_54 : decode cX7_read 54 = .ok (.getfield 9, 3) := by decide +kernel
theorem dX7_read_57 : decode cX7_read 57 = .ok (.getfield 31, 3) := by decide +kernel
theorem dX7_read_60 : decode cX7_read 60 = .ok (.bipush 101, 2) := by decide +kernel
theorem dX7_read_62 : decode cX7_read 62 = .ok (.if_icmp .ne 19, 3) := by decide +kernel
theorem dX7_read_81 : decode cX7_read 81 = .ok (.aload_n 0, 1) := by decide +kernel
theorem dX7_read_82 : decode cX7_read 82 = .ok (.getfield 9, 3) := by decide +kernel
theorem dX7_read_85 : decode cX7_read 85 = .ok (.getfield 31, 3) := by decide +kernel
theorem dX7_read_88 : decode cX7_read 88 = .ok (.iconst 1, 1) := by decide +kernel
theorem dX7_read_89 : decode cX7_read 89 = .ok (.if_icmp .eq 11, 3) := by decide +kernel
theorem dX7_read_100 : decode cX7_read 100 = .ok (.aload_n 1, 1) := by decide +kernel
theorem dX7_read_101 : decode cX7_read 101 = .ok (.invokevirtual 47, 3) := by decide +kernel
theorem dX7_read_104 : decode cX7_read 104 = .ok (.iconst 1, 1) := by decide +kernel
theorem dX7_read_105 : decode cX7_read 105 = .ok (.ireturn, 1) := by decide +kernel
theorem dX8_start_0 : decode cX8_start 0 = .ok (.aload_n 0, 1) := by decide +kernel
theorem dX8_start_1 : decode cX8_start 1 = .ok (.aload_n 1, 1) := by decide +kernel
theorem dX8_start_2 : decode cX8_start 2 = .ok (.putfield 15, 3) := by decide +kernel
theorem dX8_start_5 : decode cX8_start 5 = .ok (.aload_n 0, 1) := by decide +kernel
theorem dX8_start_6 : decode cX8_start 6 = .ok (.iload_n 2, 1) := by decide +kernel
theorem dX8_start_7 : decode cX8_start 7 = .ok (.aload_n 1, 1) := by decide +kernel
theorem dX8_start_8 : decode cX8_start 8 = .ok (.arraylength, 1) := by decide +kernel
theorem dX8_start_9 : decode cX8_start 9 = .ok (.invokestatic 35, 3) := by decide +kernel
theorem dX8_start_12 : decode cX8_start 12 = .ok (.putfield 41, 3) := by decide +kernel
theorem dX8_start_15 : decode cX8_start 15 = .ok (.aload_n 0, 1) := by decide +kernel
theorem dX8_start_16 : decode cX8_start 16 = .ok (.iconst 0, 1) := by decide +kernel
theorem dX8_start_17 : decode cX8_start 17 = .ok (.putfield 43, 3) := by decide +kernel
theorem dX8_start_20 : decode cX8_start 20 = .ok (.aload_n 0, 1) := by decide +kernel
theorem dX8_start_21 : decode cX8_start 21 = .ok (.iconst 0, 1) := by decide +kernel
theorem dX8_start_22 : decode cX8_start 22 = .ok (.putfield 46, 3) := by decide +kernel
theorem dX8_start_25 : decode cX8_start 25 = .ok (.aload_n 0, 1) := by decide +kernel
theorem dX8_start_26 : decode cX8_start 26 = .ok (.iconst (-1), 1) := by decide +kernel
theorem dX8_start_27 : decode cX8_start 27 = .ok (.putfield 19, 3) := by decide +kernel
theorem dX8_start_30 : decode cX8_start 30 = .ok (.aload_n 0, 1) := by decide +kernel
theorem dX8_start_31 : decode cX8_start 31 = .ok (.invokevirtual 49, 3) := by decide +kernel
theorem dX8_start_34 : decode cX8_start 34 = .ok (.return_, 1) := by decide +kernel
theorem dX8_next_0 : decode cX8_next 0 = .ok (.aload_n 0, 1) := by decide +kernel
theorem dX8_next_1 : decode cX8_next 1 = .ok (.getfield 43, 3) := by decide +kernel
theorem dX8_next_4 : decode cX8_next 4 = .ok (.aload_n 0, 1) := by decide +kernel
theorem dX8_next_5 : decode cX8_next 5 = .ok (.getfield 41, 3) := by decide +kernel
theorem dX8_next_8 : decode cX8_next 8 = .ok (.if_icmp .ge 44, 3) := by decide +kernel
theorem dX8_next_52 : decode cX8_next 52 = .ok (.aload_n 0, 1) := by decide +kernel
theorem dX8_next_53 : decode cX8_next 53 = .ok (.aload_n 0, 1) := by decide +kernel
theorem dX8_next_54 : decode cX8_next 54 = .ok (.getfield 43, 3) := by decide +kernel
theorem dX8_next_57 : decode cX8_next 57 = .ok (.putfield 52, 3) := by decide +kernel
theorem dX8_next_60 : decode cX8_next 60 = .ok (.aload_n 0, 1) := by decide +kernel
theorem dX8_next_61 : decode cX8_next 61 = .ok (.getfield 43, 3) := by decide +kernel
theorem dX8_next_64 : decode cX8_next 64 = .ok (.aload_n 0, 1) := by decide +kernel
theorem dX8_next_65 : decode cX8_next 65 = .ok (.getfield 41, 3) := by decide +kernel
theorem dX8_next_68 : decode cX8_next 68 = .ok (.if_icmp .lt 11, 3) := by decide +kernel
theorem dX8_next_71 : decode cX8_next 71 = .ok (.aload_n 0, 1) := by decide +kernel
theorem dX8_next_72 : decode cX8_next 72 = .ok (.iconst 1, 1) := by decide +kernel
theorem dX8_next_73 : decode cX8_next 73 = .ok (.putfield 55, 3) := by decide +kernel
theorem dX8_next_76 : decode cX8_next 76 = .ok (.goto 92, 3) := by decide +kernel
theorem dX8_next_168 : decode cX8_next 168 = .ok (.return_, 1) := by decide +kernel
theorem dX8_blame_0 : decode cX8_blame 0 = .ok (.aload_n 0, 1) := by decide +kernel
theorem dX8_blame_1 : decode cX8_blame 1 = .ok (.iload_n 1, 1) := by decide +kernel
theorem dX8_blame_2 : decode cX8_blame 2 = .ok (.putfield 46, 3) := by decide +kernel
theorem dX8_blame_5 : decode cX8_blame 5 = .ok (.aload_n 0, 1) := by decide +kernel
theorem dX8_blame_6 : decode cX8_blame 6 = .ok (.aload_n 0, 1) := by decide +kernel
theorem dX8_blame_7 : decode cX8_blame 7 = .ok (.getfield 52, 3) := by decide +kernel
theorem dX8_blame_10 : decode cX8_blame 10 = .ok (.putfield 19, 3) := by decide +kernel
theorem dX8_blame_13 : decode cX8_blame 13 = .ok (.iconst 0, 1) := by decide +kernel
theorem dX8_blame_14 : decode cX8_blame 14 = .ok (.ireturn, 1) := by decide +kernel
theorem dX8_refuse_0 : decode cX8_refuse 0 = .ok (.aload_n 0, 1) := by decide +kernel
theorem dX8_refuse_1 : decode cX8_refuse 1 = .ok (.aload_n 0, 1) := by decide +kernel
theorem dX8_refuse_2 : decode cX8_refuse 2 = .ok (.getfield 55, 3) := by decide +kernel
theorem dX8_refuse_5 : decode cX8_refuse 5 = .ok (.ifCond .ne 7, 3) := by decide +kernel
theorem dX8_refuse_12 : decode cX8_refuse 12 = .ok (.iconst 2, 1) := by decide +kernel
theorem dX8_refuse_13 : decode cX8_refuse 13 = .ok (.invokevirtual 84, 3) := by decide +kernel
theorem dX8_refuse_16 : decode cX8_refuse 16 = .ok (.ireturn, 1) := by decide +kernel
theorem dX8_pass_0 : decode cX8_pass 0 = .ok (.aload_n 0, 1) := by decide +kernel
theorem dX8_pass_1 : decode cX8_pass 1 = .ok (.getfield 55, 3) := by decide +kernel
theorem dX8_pass_4 : decode cX8_pass 4 = .ok (.iload_n 1, 1) := by decide +kernel
theorem dX8_pass_5 : decode cX8_pass 5 = .ok (.if_icmp .eq 8, 3) := by decide +kernel
theorem dX8_pass_8 : decode cX8_pass 8 = .ok (.aload_n 0, 1) := by decide +kernel
theorem dX8_pass_9 : decode cX8_pass 9 = .ok (.invokevirtual 87, 3) := by decide +kernel
theorem dX8_pass_12 : decode cX8_pass 12 = .ok (.ireturn, 1) := by decide +kernel
theorem dX9_init_0 : decode cX9_init 0 = .ok (.aload_n 0, 1) := by decide +kernel
theorem dX9_init_1 : decode cX9_init 1 = .ok (.invokespecial 3, 3) := by decide +kernel
theorem dX9_init_4 : decode cX9_init 4 = .ok (.aload_n 0, 1) := by decide +kernel
theorem dX9_init_5 : decode cX9_init 5 = .ok (.sipush 400, 3) := by decide +kernel
theorem dX9_init_8 : decode cX9_init 8 = .ok (.newarray .int, 2) := by decide +kernel
theorem dX9_init_10 : decode cX9_init 10 = .ok (.putfield 9, 3) := by decide +kernel
theorem dX9_init_13 : decode cX9_init 13 = .ok (.aload_n 0, 1) := by decide +kernel
theorem dX9_init_14 : decode cX9_init 14 = .ok (.sipush 400, 3) := by decide +kernel
theorem dX9_init_17 : decode cX9_init 17 = .ok (.newarray .long, 2) := by decide +kernel
theorem dX9_init_19 : decode cX9_init 19 = .ok (.putfield 15, 3) := by decide +kernel
theorem dX9_init_22 : decode cX9_init 22 = .ok (.aload_n 0, 1) := by decide +kernel
theorem dX9_init_23 : decode cX9_init 23 = .ok (.bipush 41, 2) := by decide +kernel
theorem dX9_init_25 : decode cX9_init 25 = .ok (.newarray .int, 2) := by decide +kernel
theorem dX9_init_27 : decode cX9_init 27 = .ok (.putfield 19, 3) := by decide +kernel
theorem dX9_init_30 : decode cX9_init 30 = .ok (.return_, 1) := by decide +kernel
theorem dX10_init_0 : decode cX10_init 0 = .ok (.aload_n 0, 1) := by decide +kernel
theorem dX10_init_1 : decode cX10_init 1 = .ok (.invokespecial 3, 3) := by decide +kernel
theorem dX10_init_4 : decode cX10_init 4 = .ok (.aload_n 0, 1) := by decide +kernel
theorem dX10_init_5 : decode cX10_init 5 = .ok (.aload_n 1, 1) := by decide +kernel
theorem dX10_init_6 : decode cX10_init 6 = .ok (.putfield 9, 3) := by decide +kernel
theorem dX10_init_9 : decode cX10_init 9 = .ok (.return_, 1) := by decide +kernel
theorem dX10_read_0 : decode cX10_read 0 = .ok (.aload_n 0, 1) := by decide +kernel
theorem dX10_read_1 : decode cX10_read 1 = .ok (.aload_n 1, 1) := by decide +kernel
theorem dX10_read_2 : decode cX10_read 2 = .ok (.putfield 15, 3) := by decide +kernel
theorem dX10_read_5 : decode cX10_read 5 = .ok (.aload_n 0, 1) := by decide +kernel
theorem dX10_read_6 : decode cX10_read 6 = .ok (.getfield 15, 3) := by decide +kernel
theorem dX10_read_9 : decode cX10_read 9 = .ok (.iconst 0, 1) := by decide +kernel
theorem dX10_read_10 : decode cX10_read 10 = .ok (.putfield 19, 3) := by decide +kernel
theorem dX10_read_13 : decode cX10_read 13 = .ok (.aload_n 0, 1) := by decide +kernel
theorem dX10_read_14 : decode cX10_read 14 = .ok (.getfield 15, 3) := by decide +kernel
theorem dX10_read_17 : decode cX10_read 17 = .ok (.iconst 0, 1) := by decide +kernel
theorem dX10_read_18 : decode cX10_read 18 = .ok (.putfield 25, 3) := by decide +kernel
theorem dX10_read_21 : decode cX10_read 21 = .ok (.aload_n 0, 1) := by decide +kernel
theorem dX10_read_22 : decode cX10_read 22 = .ok (.getfield 9, 3) := by decide +kernel
theorem dX10_read_25 : decode cX10_read 25 = .ok (.bipush 106, 2) := by decide +kernel
theorem dX10_read_27 : decode cX10_read 27 = .ok (.invokevirtual 30, 3) := by decide +kernel
theorem dX10_read_30 : decode cX10_read 30 = .ok (.ifCond .eq 23, 3) := by decide +kernel
theorem dX10_read_53 : decode cX10_read 53 = .ok (.iconst 0, 1) := by decide +kernel
theorem dX10_read_54 : decode cX10_read 54 = .ok (.ireturn, 1) := by decide +kernel
abbrev vwCl : List vw_C := [(RX0, TX0, 7), (RX1, TX1, 3), (RX2, TX2, 4), (RX3, TX3, 11), (RX4, TX4, 13), (RX5, TX5, 6), (RX6, TX6, 14), (RX7, TX7, 4), (RX8, TX8, 10), (RX9, TX9, 5), (RX10, TX10, 2), (RX11, TX11, 16), (RX12, TX12, 80)]
