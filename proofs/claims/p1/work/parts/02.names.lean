def RX0 : String := "CakePapers$Changes"
def TX0 : u_T := fun k => match k with
  | 0 => ("CakePapers$Changes", "kinds", "[I", true)
  | 1 => ("CakePapers$Changes", "steps", "[I", true)
  | 2 => ("CakePapers$Changes", "signs", "[I", true)
  | 3 => ("CakePapers$Changes", "otherSigns", "[I", true)
  | 4 => ("CakePapers$Changes", "count", "I", false)
  | 5 => ("CakePapers$Changes", "from", "LCakePapers$Paper;", false)
  | _ => ("CakePapers$Changes", "to", "LCakePapers$Paper;", false)
def tyX0 : Nat → FieldType := fun k => match k with
  | 0 => .array .int
  | 1 => .array .int
  | 2 => .array .int
  | 3 => .array .int
  | 4 => .int
  | 5 => .object "CakePapers$Paper"
  | _ => .object "CakePapers$Paper"
abbrev wsX00 : List Cond := u_ws RX0 TX0 7
theorem nmX0 : ∀ a, a < 7 → ∀ b, b < 7 → a ≠ b → (TX0 a).2.1 ≠ (TX0 b).2.1 := by decide +kernel
theorem tyX0_ok : ∀ k, k < 7 → parseFieldDescriptor (TX0 k).2.2.1 = some (tyX0 k) := by decide +kernel
abbrev cX0_init : ByteArray := prog_2_method_1_code
def yX0_init : MethodName := ⟨RX0, "<init>", "()V"⟩
def RX1 : String := "CakePapers$Desk"
def TX1 : u_T := fun k => match k with
  | 0 => ("CakePapers$Desk", "papers", "[LCakePapers$Paper;", true)
  | 1 => ("CakePapers$Desk", "joining", "LCakePapers$Joining;", true)
  | _ => ("CakePapers$Desk", "count", "I", false)
def tyX1 : Nat → FieldType := fun k => match k with
  | 0 => .array (.object "CakePapers$Paper")
  | 1 => .object "CakePapers$Joining"
  | _ => .int
abbrev wsX10 : List Cond := u_ws RX1 TX1 3
theorem nmX1 : ∀ a, a < 3 → ∀ b, b < 3 → a ≠ b → (TX1 a).2.1 ≠ (TX1 b).2.1 := by decide +kernel
theorem tyX1_ok : ∀ k, k < 3 → parseFieldDescriptor (TX1 k).2.2.1 = some (tyX1 k) := by decide +kernel
abbrev cX1_init : ByteArray := prog_3_method_1_code
def yX1_init : MethodName := ⟨RX1, "<init>", "()V"⟩
abbrev cX1_isFull : ByteArray := prog_3_method_2_code
def yX1_isFull : MethodName := ⟨RX1, "isFull", "()Z"⟩
abbrev cX1_get : ByteArray := prog_3_method_3_code
def yX1_get : MethodName := ⟨RX1, "get", "(I)LCakePapers$Paper;"⟩
abbrev cX1_add : ByteArray := prog_3_method_4_code
def yX1_add : MethodName := ⟨RX1, "add", "(LCakePapers$Paper;)I"⟩
abbrev cX1_copyFrom : ByteArray := prog_3_method_6_code
def yX1_copyFrom : MethodName := ⟨RX1, "copyFrom", "(LCakePapers$Desk;)V"⟩
def RX2 : String := "CakePapers$Draft"
def TX2 : u_T := fun k => match k with
  | 0 => ("CakePapers$Draft", "sheet", "LCakePapers$Paper;", true)
  | 1 => ("CakePapers$Draft", "wasMade", "[Z", true)
  | 2 => ("CakePapers$Draft", "order", "[I", true)
  | _ => ("CakePapers$Draft", "placed", "[Z", true)
def tyX2 : Nat → FieldType := fun k => match k with
  | 0 => .object "CakePapers$Paper"
  | 1 => .array .boolean
  | 2 => .array .int
  | _ => .array .boolean
abbrev wsX20 : List Cond := u_ws RX2 TX2 4
theorem nmX2 : ∀ a, a < 4 → ∀ b, b < 4 → a ≠ b → (TX2 a).2.1 ≠ (TX2 b).2.1 := by decide +kernel
theorem tyX2_ok : ∀ k, k < 4 → parseFieldDescriptor (TX2 k).2.2.1 = some (tyX2 k) := by decide +kernel
abbrev cX2_init : ByteArray := prog_4_method_1_code
def yX2_init : MethodName := ⟨RX2, "<init>", "()V"⟩
def RX3 : String := "CakePapers$Joiner"
def TX3 : u_T := fun k => match k with
  | 0 => ("CakePapers$Joiner", "draft", "LCakePapers$Draft;", true)
  | 1 => ("CakePapers$Joiner", "likeness", "LCakePapers$Likeness;", true)
  | 2 => ("CakePapers$Joiner", "trial", "LCakePapers$Joining;", true)
  | 3 => ("CakePapers$Joiner", "half", "LCakePapers$Paper;", true)
  | 4 => ("CakePapers$Joiner", "leftResult", "LCakePapers$Paper;", true)
  | 5 => ("CakePapers$Joiner", "rightResult", "LCakePapers$Paper;", true)
  | 6 => ("CakePapers$Joiner", "row", "[I", true)
  | 7 => ("CakePapers$Joiner", "bestRow", "[I", true)
  | 8 => ("CakePapers$Joiner", "bestKnown", "Z", false)
  | 9 => ("CakePapers$Joiner", "bestFound", "Z", false)
  | _ => ("CakePapers$Joiner", "bestWant", "I", false)
def tyX3 : Nat → FieldType := fun k => match k with
  | 0 => .object "CakePapers$Draft"
  | 1 => .object "CakePapers$Likeness"
  | 2 => .object "CakePapers$Joining"
  | 3 => .object "CakePapers$Paper"
  | 4 => .object "CakePapers$Paper"
  | 5 => .object "CakePapers$Paper"
  | 6 => .array .int
  | 7 => .array .int
  | 8 => .boolean
  | 9 => .boolean
  | _ => .int
abbrev wsX30 : List Cond := u_ws RX3 TX3 11
theorem nmX3 : ∀ a, a < 11 → ∀ b, b < 11 → a ≠ b → (TX3 a).2.1 ≠ (TX3 b).2.1 := by decide +kernel
theorem tyX3_ok : ∀ k, k < 11 → parseFieldDescriptor (TX3 k).2.2.1 = some (tyX3 k) := by decide +kernel
abbrev cX3_init : ByteArray := prog_5_method_1_code
def yX3_init : MethodName := ⟨RX3, "<init>", "(LCakePapers$Draft;LCakePapers$Likeness;)V"⟩
def RX4 : String := "CakePapers$Joining"
def TX4 : u_T := fun k => match k with
  | 0 => ("CakePapers$Joining", "base", "LCakePapers$Paper;", false)
  | 1 => ("CakePapers$Joining", "one", "LCakePapers$Paper;", false)
  | 2 => ("CakePapers$Joining", "other", "LCakePapers$Paper;", false)
  | 3 => ("CakePapers$Joining", "inBase", "[I", true)
  | 4 => ("CakePapers$Joining", "inOne", "[I", true)
  | 5 => ("CakePapers$Joining", "inOther", "[I", true)
  | 6 => ("CakePapers$Joining", "oneChanged", "[I", true)
  | 7 => ("CakePapers$Joining", "otherChanged", "[I", true)
  | 8 => ("CakePapers$Joining", "quarrelStep", "[I", true)
  | 9 => ("CakePapers$Joining", "quarrelField", "[I", true)
  | 10 => ("CakePapers$Joining", "sides", "[I", true)
  | 11 => ("CakePapers$Joining", "steps", "I", false)
  | _ => ("CakePapers$Joining", "quarrels", "I", false)
def tyX4 : Nat → FieldType := fun k => match k with
  | 0 => .object "CakePapers$Paper"
  | 1 => .object "CakePapers$Paper"
  | 2 => .object "CakePapers$Paper"
  | 3 => .array .int
  | 4 => .array .int
  | 5 => .array .int
  | 6 => .array .int
  | 7 => .array .int
  | 8 => .array .int
  | 9 => .array .int
  | 10 => .array .int
  | 11 => .int
  | _ => .int
abbrev wsX40 : List Cond := u_ws RX4 TX4 13
theorem nmX4 : ∀ a, a < 13 → ∀ b, b < 13 → a ≠ b → (TX4 a).2.1 ≠ (TX4 b).2.1 := by decide +kernel
theorem tyX4_ok : ∀ k, k < 13 → parseFieldDescriptor (TX4 k).2.2.1 = some (tyX4 k) := by decide +kernel
abbrev cX4_init : ByteArray := prog_6_method_1_code
def yX4_init : MethodName := ⟨RX4, "<init>", "()V"⟩
abbrev cX4_isThere : ByteArray := prog_6_method_2_code
def yX4_isThere : MethodName := ⟨RX4, "isThere", "()Z"⟩
abbrev cX4_hasQuarrel : ByteArray := prog_6_method_3_code
def yX4_hasQuarrel : MethodName := ⟨RX4, "hasQuarrel", "(I)Z"⟩
abbrev cX4_clear : ByteArray := prog_6_method_4_code
def yX4_clear : MethodName := ⟨RX4, "clear", "()V"⟩
abbrev cX4_copyFrom : ByteArray := prog_6_method_5_code
def yX4_copyFrom : MethodName := ⟨RX4, "copyFrom", "(LCakePapers$Joining;)V"⟩
def RX5 : String := "CakePapers$Likeness"
def TX5 : u_T := fun k => match k with
  | 0 => ("CakePapers$Likeness", "alikes", "[Z", true)
  | 1 => ("CakePapers$Likeness", "used", "[Z", true)
  | 2 => ("CakePapers$Likeness", "weights", "[I", true)
  | 3 => ("CakePapers$Likeness", "lightest", "[I", true)
  | 4 => ("CakePapers$Likeness", "first", "LCakePapers$Paper;", false)
  | _ => ("CakePapers$Likeness", "second", "LCakePapers$Paper;", false)
def tyX5 : Nat → FieldType := fun k => match k with
  | 0 => .array .boolean
  | 1 => .array .boolean
  | 2 => .array .int
  | 3 => .array .int
  | 4 => .object "CakePapers$Paper"
  | _ => .object "CakePapers$Paper"
abbrev wsX50 : List Cond := u_ws RX5 TX5 6
theorem nmX5 : ∀ a, a < 6 → ∀ b, b < 6 → a ≠ b → (TX5 a).2.1 ≠ (TX5 b).2.1 := by decide +kernel
theorem tyX5_ok : ∀ k, k < 6 → parseFieldDescriptor (TX5 k).2.2.1 = some (tyX5 k) := by decide +kernel
abbrev cX5_init : ByteArray := prog_7_method_1_code
def yX5_init : MethodName := ⟨RX5, "<init>", "()V"⟩
def RX6 : String := "CakePapers$Paper"
def TX6 : u_T := fun k => match k with
  | 0 => ("CakePapers$Paper", "makes", "[J", true)
  | 1 => ("CakePapers$Paper", "verbs", "[J", true)
  | 2 => ("CakePapers$Paper", "much", "[I", true)
  | 3 => ("CakePapers$Paper", "lasts", "[I", true)
  | 4 => ("CakePapers$Paper", "needCount", "[I", true)
  | 5 => ("CakePapers$Paper", "needs", "[J", true)
  | 6 => ("CakePapers$Paper", "makers", "[I", true)
  | 7 => ("CakePapers$Paper", "isEnd", "[Z", true)
  | 8 => ("CakePapers$Paper", "reach", "[I", true)
  | 9 => ("CakePapers$Paper", "steps", "I", false)
  | 10 => ("CakePapers$Paper", "ends", "I", false)
  | 11 => ("CakePapers$Paper", "path", "I", false)
  | 12 => ("CakePapers$Paper", "allMuch", "I", false)
  | _ => ("CakePapers$Paper", "allLong", "I", false)
def tyX6 : Nat → FieldType := fun k => match k with
  | 0 => .array .long
  | 1 => .array .long
  | 2 => .array .int
  | 3 => .array .int
  | 4 => .array .int
  | 5 => .array .long
  | 6 => .array .int
  | 7 => .array .boolean
  | 8 => .array .int
  | 9 => .int
  | 10 => .int
  | 11 => .int
  | 12 => .int
  | _ => .int
abbrev wsX60 : List Cond := u_ws RX6 TX6 14
theorem nmX6 : ∀ a, a < 14 → ∀ b, b < 14 → a ≠ b → (TX6 a).2.1 ≠ (TX6 b).2.1 := by decide +kernel
theorem tyX6_ok : ∀ k, k < 14 → parseFieldDescriptor (TX6 k).2.2.1 = some (tyX6 k) := by decide +kernel
abbrev cX6_init : ByteArray := prog_8_method_1_code
def yX6_init : MethodName := ⟨RX6, "<init>", "(I)V"⟩
abbrev cX6_workOut : ByteArray := prog_8_method_9_code
def yX6_workOut : MethodName := ⟨RX6, "workOut", "()V"⟩
def RX7 : String := "CakePapers$PaperReader"
def TX7 : u_T := fun k => match k with
  | 0 => ("CakePapers$PaperReader", "scanner", "LCakePapers$Scanner;", true)
  | 1 => ("CakePapers$PaperReader", "called", "[J", true)
  | 2 => ("CakePapers$PaperReader", "meant", "[J", true)
  | _ => ("CakePapers$PaperReader", "calls", "I", false)
def tyX7 : Nat → FieldType := fun k => match k with
  | 0 => .object "CakePapers$Scanner"
  | 1 => .array .long
  | 2 => .array .long
  | _ => .int
abbrev wsX70 : List Cond := u_ws RX7 TX7 4
theorem nmX7 : ∀ a, a < 4 → ∀ b, b < 4 → a ≠ b → (TX7 a).2.1 ≠ (TX7 b).2.1 := by decide +kernel
theorem tyX7_ok : ∀ k, k < 4 → parseFieldDescriptor (TX7 k).2.2.1 = some (tyX7 k) := by decide +kernel
abbrev cX7_init : ByteArray := prog_9_method_1_code
def yX7_init : MethodName := ⟨RX7, "<init>", "(LCakePapers$Scanner;)V"⟩
abbrev cX7_read : ByteArray := prog_9_method_2_code
def yX7_read : MethodName := ⟨RX7, "read", "(LCakePapers$Paper;)Z"⟩
def RX8 : String := "CakePapers$Scanner"
def TX8 : u_T := fun k => match k with
  | 0 => ("CakePapers$Scanner", "words", "[J", true)
  | 1 => ("CakePapers$Scanner", "bytes", "[I", false)
  | 2 => ("CakePapers$Scanner", "length", "I", false)
  | 3 => ("CakePapers$Scanner", "at", "I", false)
  | 4 => ("CakePapers$Scanner", "kind", "I", false)
  | 5 => ("CakePapers$Scanner", "place", "I", false)
  | 6 => ("CakePapers$Scanner", "number", "I", false)
  | 7 => ("CakePapers$Scanner", "name", "J", false)
  | 8 => ("CakePapers$Scanner", "fault", "I", false)
  | _ => ("CakePapers$Scanner", "faultPlace", "I", false)
def tyX8 : Nat → FieldType := fun k => match k with
  | 0 => .array .long
  | 1 => .array .int
  | 2 => .int
  | 3 => .int
  | 4 => .int
  | 5 => .int
  | 6 => .int
  | 7 => .long
  | 8 => .int
  | _ => .int
abbrev wsX80 : List Cond := u_ws RX8 TX8 10
theorem nmX8 : ∀ a, a < 10 → ∀ b, b < 10 → a ≠ b → (TX8 a).2.1 ≠ (TX8 b).2.1 := by decide +kernel
theorem tyX8_ok : ∀ k, k < 10 → parseFieldDescriptor (TX8 k).2.2.1 = some (tyX8 k) := by decide +kernel
abbrev cX8_start : ByteArray := prog_10_method_2_code
def yX8_start : MethodName := ⟨RX8, "start", "([II)V"⟩
abbrev cX8_next : ByteArray := prog_10_method_3_code
def yX8_next : MethodName := ⟨RX8, "next", "()V"⟩
abbrev cX8_blame : ByteArray := prog_10_method_8_code
def yX8_blame : MethodName := ⟨RX8, "blame", "(I)Z"⟩
abbrev cX8_refuse : ByteArray := prog_10_method_9_code
def yX8_refuse : MethodName := ⟨RX8, "refuse", "()Z"⟩
abbrev cX8_pass : ByteArray := prog_10_method_10_code
def yX8_pass : MethodName := ⟨RX8, "pass", "(I)Z"⟩
def RX9 : String := "CakePapers$Want"
def TX9 : u_T := fun k => match k with
  | 0 => ("CakePapers$Want", "codes", "[I", true)
  | 1 => ("CakePapers$Want", "values", "[J", true)
  | 2 => ("CakePapers$Want", "stack", "[I", true)
  | 3 => ("CakePapers$Want", "length", "I", false)
  | _ => ("CakePapers$Want", "units", "I", false)
def tyX9 : Nat → FieldType := fun k => match k with
  | 0 => .array .int
  | 1 => .array .long
  | 2 => .array .int
  | 3 => .int
  | _ => .int
abbrev wsX90 : List Cond := u_ws RX9 TX9 5
theorem nmX9 : ∀ a, a < 5 → ∀ b, b < 5 → a ≠ b → (TX9 a).2.1 ≠ (TX9 b).2.1 := by decide +kernel
theorem tyX9_ok : ∀ k, k < 5 → parseFieldDescriptor (TX9 k).2.2.1 = some (tyX9 k) := by decide +kernel
abbrev cX9_init : ByteArray := prog_11_method_1_code
def yX9_init : MethodName := ⟨RX9, "<init>", "()V"⟩
def RX10 : String := "CakePapers$WantReader"
def TX10 : u_T := fun k => match k with
  | 0 => ("CakePapers$WantReader", "scanner", "LCakePapers$Scanner;", true)
  | _ => ("CakePapers$WantReader", "into", "LCakePapers$Want;", false)
def tyX10 : Nat → FieldType := fun k => match k with
  | 0 => .object "CakePapers$Scanner"
  | _ => .object "CakePapers$Want"
abbrev wsX100 : List Cond := u_ws RX10 TX10 2
theorem nmX10 : ∀ a, a < 2 → ∀ b, b < 2 → a ≠ b → (TX10 a).2.1 ≠ (TX10 b).2.1 := by decide +kernel
theorem tyX10_ok : ∀ k, k < 2 → parseFieldDescriptor (TX10 k).2.2.1 = some (tyX10 k) := by decide +kernel
abbrev cX10_init : ByteArray := prog_12_method_1_code
def yX10_init : MethodName := ⟨RX10, "<init>", "(LCakePapers$Scanner;)V"⟩
abbrev cX10_read : ByteArray := prog_12_method_2_code
def yX10_read : MethodName := ⟨RX10, "read", "(LCakePapers$Want;)Z"⟩
def RX11 : String := "CakePapers"
def TX11 : u_T := fun k => match k with
  | 0 => ("CakePapers", "tape", "[I", true)
  | 1 => ("CakePapers", "taped", "I", false)
  | 2 => ("CakePapers", "scanner", "LCakePapers$Scanner;", true)
  | 3 => ("CakePapers", "paperReader", "LCakePapers$PaperReader;", true)
  | 4 => ("CakePapers", "wantReader", "LCakePapers$WantReader;", true)
  | 5 => ("CakePapers", "desk", "LCakePapers$Desk;", true)
  | 6 => ("CakePapers", "boxes", "[LCakePapers$Desk;", true)
  | 7 => ("CakePapers", "sparePaper", "LCakePapers$Paper;", false)
  | 8 => ("CakePapers", "wanted", "LCakePapers$Want;", false)
  | 9 => ("CakePapers", "spareWant", "LCakePapers$Want;", false)
  | 10 => ("CakePapers", "likeness", "LCakePapers$Likeness;", true)
  | 11 => ("CakePapers", "joiner", "LCakePapers$Joiner;", true)
  | 12 => ("CakePapers", "changesOfOne", "LCakePapers$Changes;", true)
  | 13 => ("CakePapers", "changesOfOther", "LCakePapers$Changes;", true)
  | 14 => ("CakePapers", "chosen", "[Z", true)
  | _ => ("CakePapers", "draft", "LCakePapers$Draft;", true)
def tyX11 : Nat → FieldType := fun k => match k with
  | 0 => .array .int
  | 1 => .int
  | 2 => .object "CakePapers$Scanner"
  | 3 => .object "CakePapers$PaperReader"
  | 4 => .object "CakePapers$WantReader"
  | 5 => .object "CakePapers$Desk"
  | 6 => .array (.object "CakePapers$Desk")
  | 7 => .object "CakePapers$Paper"
  | 8 => .object "CakePapers$Want"
  | 9 => .object "CakePapers$Want"
  | 10 => .object "CakePapers$Likeness"
  | 11 => .object "CakePapers$Joiner"
  | 12 => .object "CakePapers$Changes"
  | 13 => .object "CakePapers$Changes"
  | 14 => .array .boolean
  | _ => .object "CakePapers$Draft"
abbrev wsX110 : List Cond := u_ws RX11 TX11 16
theorem nmX11 : ∀ a, a < 16 → ∀ b, b < 16 → a ≠ b → (TX11 a).2.1 ≠ (TX11 b).2.1 := by decide +kernel
theorem tyX11_ok : ∀ k, k < 16 → parseFieldDescriptor (TX11 k).2.2.1 = some (tyX11 k) := by decide +kernel
abbrev cX11_feed : ByteArray := prog_1_method_2_code
def yX11_feed : MethodName := ⟨RX11, "feed", "(IIIII)I"⟩
abbrev cX11_putFour : ByteArray := prog_1_method_3_code
def yX11_putFour : MethodName := ⟨RX11, "putFour", "(I)V"⟩
abbrev cX11_end : ByteArray := prog_1_method_4_code
def yX11_end : MethodName := ⟨RX11, "end", "(I)I"⟩
abbrev cX11_paper : ByteArray := prog_1_method_5_code
def yX11_paper : MethodName := ⟨RX11, "paper", "()I"⟩
abbrev cX11_keepSparePaper : ByteArray := prog_1_method_6_code
def yX11_keepSparePaper : MethodName := ⟨RX11, "keepSparePaper", "()I"⟩
abbrev cX11_want : ByteArray := prog_1_method_7_code
def yX11_want : MethodName := ⟨RX11, "want", "()I"⟩
abbrev cX11_fault : ByteArray := prog_1_method_8_code
def yX11_fault : MethodName := ⟨RX11, "fault", "(I)I"⟩
abbrev cX11_makes : ByteArray := prog_1_method_9_code
def yX11_makes : MethodName := ⟨RX11, "makes", "(II)I"⟩
abbrev cX11_step : ByteArray := prog_1_method_10_code
def yX11_step : MethodName := ⟨RX11, "step", "(III)I"⟩
abbrev cX11_same : ByteArray := prog_1_method_11_code
def yX11_same : MethodName := ⟨RX11, "same", "(II)I"⟩
abbrev cX11_alike : ByteArray := prog_1_method_12_code
def yX11_alike : MethodName := ⟨RX11, "alike", "(III)I"⟩
abbrev cX11_changes : ByteArray := prog_1_method_13_code
def yX11_changes : MethodName := ⟨RX11, "changes", "(II)I"⟩
abbrev cX11_listChanges : ByteArray := prog_1_method_14_code
def yX11_listChanges : MethodName := ⟨RX11, "listChanges", "(LCakePapers$Changes;II)Z"⟩
abbrev cX11_change : ByteArray := prog_1_method_15_code
def yX11_change : MethodName := ⟨RX11, "change", "(IIII)I"⟩
abbrev cX11_least : ByteArray := prog_1_method_16_code
def yX11_least : MethodName := ⟨RX11, "least", "(II)I"⟩
abbrev cX11_does : ByteArray := prog_1_method_17_code
def yX11_does : MethodName := ⟨RX11, "does", "(III)I"⟩
abbrev cX11_join : ByteArray := prog_1_method_19_code
def yX11_join : MethodName := ⟨RX11, "join", "(III)I"⟩
abbrev cX11_quarrel : ByteArray := prog_1_method_20_code
def yX11_quarrel : MethodName := ⟨RX11, "quarrel", "(II)I"⟩
abbrev cX11_settle : ByteArray := prog_1_method_21_code
def yX11_settle : MethodName := ⟨RX11, "settle", "(II)Z"⟩
abbrev cX11_joined : ByteArray := prog_1_method_22_code
def yX11_joined : MethodName := ⟨RX11, "joined", "()I"⟩
abbrev cX11_best : ByteArray := prog_1_method_23_code
def yX11_best : MethodName := ⟨RX11, "best", "(I)I"⟩
abbrev cX11_left : ByteArray := prog_1_method_24_code
def yX11_left : MethodName := ⟨RX11, "left", "(I)I"⟩
abbrev cX11_ruin : ByteArray := prog_1_method_25_code
def yX11_ruin : MethodName := ⟨RX11, "ruin", "(IIII)I"⟩
abbrev cX11_law : ByteArray := prog_1_method_28_code
def yX11_law : MethodName := ⟨RX11, "law", "(IIIII)I"⟩
abbrev cX11_three : ByteArray := prog_1_method_29_code
def yX11_three : MethodName := ⟨RX11, "three", "(IIIII)I"⟩
abbrev cX11_leans : ByteArray := prog_1_method_30_code
def yX11_leans : MethodName := ⟨RX11, "leans", "(III)I"⟩
abbrev cX11_begun : ByteArray := prog_1_method_32_code
def yX11_begun : MethodName := ⟨RX11, "begun", "(IIII)I"⟩
abbrev cX11_tear : ByteArray := prog_1_method_33_code
def yX11_tear : MethodName := ⟨RX11, "tear", "(I)Z"⟩
abbrev cX11_image : ByteArray := prog_1_method_34_code
def yX11_image : MethodName := ⟨RX11, "image", "(I)I"⟩
abbrev cX11_back : ByteArray := prog_1_method_35_code
def yX11_back : MethodName := ⟨RX11, "back", "(I)I"⟩
abbrev cX11_about : ByteArray := prog_1_method_36_code
def yX11_about : MethodName := ⟨RX11, "about", "(I)I"⟩
def RX12 : String := "CakePapersModel"
def TX12 : u_T := fun k => match k with
  | 0 => ("CakePapersModel", "tape", "[B", true)
  | 1 => ("CakePapersModel", "text", "[B", true)
  | 2 => ("CakePapersModel", "taped", "I", false)
  | 3 => ("CakePapersModel", "size", "I", false)
  | 4 => ("CakePapersModel", "faultKind", "I", false)
  | 5 => ("CakePapersModel", "faultPlace", "I", false)
  | 6 => ("CakePapersModel", "at", "I", false)
  | 7 => ("CakePapersModel", "end", "I", false)
  | 8 => ("CakePapersModel", "token", "I", false)
  | 9 => ("CakePapersModel", "number", "I", false)
  | 10 => ("CakePapersModel", "name", "J", false)
  | 11 => ("CakePapersModel", "many", "[I", true)
  | 12 => ("CakePapersModel", "much", "[I", true)
  | 13 => ("CakePapersModel", "length", "[I", true)
  | 14 => ("CakePapersModel", "needMany", "[I", true)
  | 15 => ("CakePapersModel", "makes", "[J", true)
  | 16 => ("CakePapersModel", "verb", "[J", true)
  | 17 => ("CakePapersModel", "need", "[J", true)
  | 18 => ("CakePapersModel", "called", "[J", true)
  | 19 => ("CakePapersModel", "calledTo", "[J", true)
  | 20 => ("CakePapersModel", "papers", "I", false)
  | 21 => ("CakePapersModel", "calls", "I", false)
  | 22 => ("CakePapersModel", "way", "[I", true)
  | 23 => ("CakePapersModel", "sort", "[I", true)
  | 24 => ("CakePapersModel", "cMany", "[I", true)
  | 25 => ("CakePapersModel", "cKind", "[I", true)
  | 26 => ("CakePapersModel", "cStep", "[I", true)
  | 27 => ("CakePapersModel", "cFrom", "[I", true)
  | 28 => ("CakePapersModel", "cTo", "[I", true)
  | 29 => ("CakePapersModel", "oneRow", "[I", true)
  | 30 => ("CakePapersModel", "twoRow", "[I", true)
  | 31 => ("CakePapersModel", "oneMany", "I", false)
  | 32 => ("CakePapersModel", "twoMany", "I", false)
  | 33 => ("CakePapersModel", "least", "[I", true)
  | 34 => ("CakePapersModel", "then", "[I", true)
  | 35 => ("CakePapersModel", "isThere", "[Z", true)
  | 36 => ("CakePapersModel", "isPlaced", "[Z", true)
  | 37 => ("CakePapersModel", "wasMade", "[Z", true)
  | 38 => ("CakePapersModel", "order", "[I", true)
  | 39 => ("CakePapersModel", "rowMany", "I", false)
  | 40 => ("CakePapersModel", "placed", "I", false)
  | 41 => ("CakePapersModel", "breach", "I", false)
  | 42 => ("CakePapersModel", "breachStep", "I", false)
  | 43 => ("CakePapersModel", "isDone", "[Z", true)
  | 44 => ("CakePapersModel", "jBase", "[I", true)
  | 45 => ("CakePapersModel", "jOne", "[I", true)
  | 46 => ("CakePapersModel", "jOther", "[I", true)
  | 47 => ("CakePapersModel", "qStep", "[I", true)
  | 48 => ("CakePapersModel", "qField", "[I", true)
  | 49 => ("CakePapersModel", "qSide", "[I", true)
  | 50 => ("CakePapersModel", "jMany", "I", false)
  | 51 => ("CakePapersModel", "quarrels", "I", false)
  | 52 => ("CakePapersModel", "joinBase", "I", false)
  | 53 => ("CakePapersModel", "joinOne", "I", false)
  | 54 => ("CakePapersModel", "joinOther", "I", false)
  | 55 => ("CakePapersModel", "tSide", "[I", true)
  | 56 => ("CakePapersModel", "tBase", "I", false)
  | 57 => ("CakePapersModel", "tOne", "I", false)
  | 58 => ("CakePapersModel", "tOther", "I", false)
  | 59 => ("CakePapersModel", "tMany", "I", false)
  | 60 => ("CakePapersModel", "isJoining", "Z", false)
  | 61 => ("CakePapersModel", "bestWant", "I", false)
  | 62 => ("CakePapersModel", "bestRow", "I", false)
  | 63 => ("CakePapersModel", "isGoodAlone", "[Z", true)
  | 64 => ("CakePapersModel", "code", "[I", true)
  | 65 => ("CakePapersModel", "codeNumber", "[I", true)
  | 66 => ("CakePapersModel", "codes", "[I", true)
  | 67 => ("CakePapersModel", "unitsOf", "[I", true)
  | 68 => ("CakePapersModel", "eWhat", "[I", true)
  | 69 => ("CakePapersModel", "eSign", "[I", true)
  | 70 => ("CakePapersModel", "pile", "[I", true)
  | 71 => ("CakePapersModel", "codeName", "[J", true)
  | 72 => ("CakePapersModel", "wantBank", "I", false)
  | 73 => ("CakePapersModel", "wb", "I", false)
  | 74 => ("CakePapersModel", "within", "I", false)
  | 75 => ("CakePapersModel", "piled", "I", false)
  | 76 => ("CakePapersModel", "boxMany", "[I", true)
  | 77 => ("CakePapersModel", "boxJoin", "[I", true)
  | 78 => ("CakePapersModel", "boxSide", "[I", true)
  | _ => ("CakePapersModel", "boxJoining", "[Z", true)
theorem dX0_init_0 : decode cX0_init 0 = .ok (.aload_n 0, 1) := by decide +kernel
theorem dX0_init_1 : decode cX0_init 1 = .ok (.invokespecial 5, 3) := by decide +kernel
theorem dX0_init_4 : decode cX0_init 4 = .ok (.aload_n 0, 1) := by decide +kernel
theorem dX0_init_5 : decode cX0_init 5 = .ok (.bipush 60, 2) := by decide +kernel
theorem dX0_init_7 : decode cX0_init 7 = .ok (.newarray .int, 2) := by decide +kernel
theorem dX0_init_9 : decode cX0_init 9 = .ok (.putfield 13, 3) := by decide +kernel
theorem dX0_init_12 : decode cX0_init 12 = .ok (.aload_n 0, 1) := by decide +kernel
theorem dX0_init_13 : decode cX0_init 13 = .ok (.bipush 60, 2) := by decide +kernel
theorem dX0_init_15 : decode cX0_init 15 = .ok (.newarray .int, 2) := by decide +kernel
theorem dX0_init_17 : decode cX0_init 17 = .ok (.putfield 17, 3) := by decide +kernel
theorem dX0_init_20 : decode cX0_init 20 = .ok (.aload_n 0, 1) := by decide +kernel
theorem dX0_init_21 : decode cX0_init 21 = .ok (.bipush 10, 2) := by decide +kernel
theorem dX0_init_23 : decode cX0_init 23 = .ok (.newarray .int, 2) := by decide +kernel
theorem dX0_init_25 : decode cX0_init 25 = .ok (.putfield 20, 3) := by decide +kernel
theorem dX0_init_28 : decode cX0_init 28 = .ok (.aload_n 0, 1) := by decide +kernel
theorem dX0_init_29 : decode cX0_init 29 = .ok (.bipush 10, 2) := by decide +kernel
theorem dX0_init_31 : decode cX0_init 31 = .ok (.newarray .int, 2) := by decide +kernel
theorem dX0_init_33 : decode cX0_init 33 = .ok (.putfield 23, 3) := by decide +kernel
theorem dX0_init_36 : decode cX0_init 36 = .ok (.return_, 1) := by decide +kernel
theorem dX1_init_0 : decode cX1_init 0 = .ok (.aload_n 0, 1) := by decide +kernel
theorem dX1_init_1 : decode cX1_init 1 = .ok (.invokespecial 3, 3) := by decide +kernel
theorem dX1_init_4 : decode cX1_init 4 = .ok (.aload_n 0, 1) := by decide +kernel
theorem dX1_init_5 : decode cX1_init 5 = .ok (.bipush 8, 2) := by decide +kernel
theorem dX1_init_7 : decode cX1_init 7 = .ok (.anewarray 11, 3) := by decide +kernel
theorem dX1_init_10 : decode cX1_init 10 = .ok (.putfield 13, 3) := by decide +kernel
theorem dX1_init_13 : decode cX1_init 13 = .ok (.aload_n 0, 1) := by decide +kernel
theorem dX1_init_14 : decode cX1_init 14 = .ok (.new 17, 3) := by decide +kernel
theorem dX1_init_17 : decode cX1_init 17 = .ok (.dup, 1) := by decide +kernel
theorem dX1_init_18 : decode cX1_init 18 = .ok (.invokespecial 19, 3) := by decide +kernel
theorem dX1_init_21 : decode cX1_init 21 = .ok (.putfield 20, 3) := by decide +kernel
theorem dX1_init_24 : decode cX1_init 24 = .ok (.aload_n 0, 1) := by decide +kernel
theorem dX1_init_25 : decode cX1_init 25 = .ok (.iconst (-1), 1) := by decide +kernel
theorem dX1_init_26 : decode cX1_init 26 = .ok (.putfield 24, 3) := by decide +kernel
theorem dX1_init_29 : decode cX1_init 29 = .ok (.return_, 1) := by decide +kernel
theorem dX1_isFull_0 : decode cX1_isFull 0 = .ok (.aload_n 0, 1) := by decide +kernel
theorem dX1_isFull_1 : decode cX1_isFull 1 = .ok (.getfield 24, 3) := by decide +kernel
theorem dX1_isFull_4 : decode cX1_isFull 4 = .ok (.bipush 8, 2) := by decide +kernel
theorem dX1_isFull_6 : decode cX1_isFull 6 = .ok (.if_icmp .lt 7, 3) := by decide +kernel
theorem dX1_isFull_13 : decode cX1_isFull 13 = .ok (.iconst 0, 1) := by decide +kernel
theorem dX1_isFull_14 : decode cX1_isFull 14 = .ok (.ireturn, 1) := by decide +kernel
theorem dX1_get_0 : decode cX1_get 0 = .ok (.iload_n 1, 1) := by decide +kernel
theorem dX1_get_1 : decode cX1_get 1 = .ok (.ifCond .lt 20, 3) := by decide +kernel
theorem dX1_get_4 : decode cX1_get 4 = .ok (.iload_n 1, 1) := by decide +kernel
theorem dX1_get_5 : decode cX1_get 5 = .ok (.aload_n 0, 1) := by decide +kernel
theorem dX1_get_6 : decode cX1_get 6 = .ok (.getfield 24, 3) := by decide +kernel
theorem dX1_get_9 : decode cX1_get 9 = .ok (.if_icmp .ge 12, 3) := by decide +kernel
theorem dX1_get_21 : decode cX1_get 21 = .ok (.aconst_null, 1) := by decide +kernel
theorem dX1_get_22 : decode cX1_get 22 = .ok (.areturn, 1) := by decide +kernel
theorem dX1_add_0 : decode cX1_add 0 = .ok (.aload_n 0, 1) := by decide +kernel
theorem dX1_add_1 : decode cX1_add 1 = .ok (.invokevirtual 28, 3) := by decide +kernel
theorem dX1_add_4 : decode cX1_add 4 = .ok (.ifCond .ne 10, 3) := by decide +kernel
theorem dX1_add_7 : decode cX1_add 7 = .ok (.aload_n 0, 1) := by decide +kernel
theorem dX1_add_8 : decode cX1_add 8 = .ok (.getfield 24, 3) := by decide +kernel
theorem dX1_add_11 : decode cX1_add 11 = .ok (.ifCond .ge 5, 3) := by decide +kernel
theorem dX1_add_16 : decode cX1_add 16 = .ok (.aload_n 0, 1) := by decide +kernel
theorem dX1_add_17 : decode cX1_add 17 = .ok (.getfield 13, 3) := by decide +kernel
theorem dX1_add_20 : decode cX1_add 20 = .ok (.aload_n 0, 1) := by decide +kernel
theorem dX1_add_21 : decode cX1_add 21 = .ok (.getfield 24, 3) := by decide +kernel
theorem dX1_add_24 : decode cX1_add 24 = .ok (.aload_n 1, 1) := by decide +kernel
theorem dX1_add_25 : decode cX1_add 25 = .ok (.aastore, 1) := by decide +kernel
theorem dX1_add_26 : decode cX1_add 26 = .ok (.aload_n 0, 1) := by decide +kernel
theorem dX1_add_27 : decode cX1_add 27 = .ok (.dup, 1) := by decide +kernel
theorem dX1_add_28 : decode cX1_add 28 = .ok (.getfield 24, 3) := by decide +kernel
theorem dX1_add_31 : decode cX1_add 31 = .ok (.iconst 1, 1) := by decide +kernel
theorem dX1_add_32 : decode cX1_add 32 = .ok (.iadd, 1) := by decide +kernel
theorem dX1_add_33 : decode cX1_add 33 = .ok (.putfield 24, 3) := by decide +kernel
theorem dX1_add_36 : decode cX1_add 36 = .ok (.aload_n 0, 1) := by decide +kernel
theorem dX1_add_37 : decode cX1_add 37 = .ok (.getfield 24, 3) := by decide +kernel
theorem dX1_add_40 : decode cX1_add 40 = .ok (.iconst 1, 1) := by decide +kernel
theorem dX1_add_41 : decode cX1_add 41 = .ok (.isub, 1) := by decide +kernel
theorem dX1_add_42 : decode cX1_add 42 = .ok (.ireturn, 1) := by decide +kernel
theorem dX1_copyFrom_0 : decode cX1_copyFrom 0 = .ok (.iconst 0, 1) := by decide +kernel
theorem dX1_copyFrom_1 : decode cX1_copyFrom 1 = .ok (.istore_n 2, 1) := by decide +kernel
theorem dX1_copyFrom_2 : decode cX1_copyFrom 2 = .ok (.iload_n 2, 1) := by decide +kernel
theorem dX1_copyFrom_3 : decode cX1_copyFrom 3 = .ok (.bipush 8, 2) := by decide +kernel
theorem dX1_copyFrom_5 : decode cX1_copyFrom 5 = .ok (.if_icmp .ge 21, 3) := by decide +kernel
theorem dX1_copyFrom_8 : decode cX1_copyFrom 8 = .ok (.aload_n 0, 1) := by decide +kernel
theorem dX1_copyFrom_9 : decode cX1_copyFrom 9 = .ok (.getfield 13, 3) := by decide +kernel
theorem dX1_copyFrom_12 : decode cX1_copyFrom 12 = .ok (.iload_n 2, 1) := by decide +kernel
theorem dX1_copyFrom_13 : decode cX1_copyFrom 13 = .ok (.aload_n 1, 1) := by decide +kernel
theorem dX1_copyFrom_14 : decode cX1_copyFrom 14 = .ok (.getfield 13, 3) := by decide +kernel
theorem dX1_copyFrom_17 : decode cX1_copyFrom 17 = .ok (.iload_n 2, 1) := by decide +kernel
theorem dX1_copyFrom_18 : decode cX1_copyFrom 18 = .ok (.aaload, 1) := by decide +kernel
theorem dX1_copyFrom_19 : decode cX1_copyFrom 19 = .ok (.aastore, 1) := by decide +kernel
theorem dX1_copyFrom_20 : decode cX1_copyFrom 20 = .ok (.iinc 2 1, 3) := by decide +kernel
theorem dX1_copyFrom_23 : decode cX1_copyFrom 23 = .ok (.goto (-21), 3) := by decide +kernel
theorem dX1_copyFrom_26 : decode cX1_copyFrom 26 = .ok (.aload_n 0, 1) := by decide +kernel
theorem dX1_copyFrom_27 : decode cX1_copyFrom 27 = .ok (.aload_n 1, 1) := by decide +kernel
theorem dX1_copyFrom_28 : decode cX1_copyFrom 28 = .ok (.getfield 24, 3) := by decide +kernel
theorem dX1_copyFrom_31 : decode cX1_copyFrom 31 = .ok (.putfield 24, 3) := by decide +kernel
theorem dX1_copyFrom_34 : decode cX1_copyFrom 34 = .ok (.aload_n 0, 1) := by decide +kernel
theorem dX1_copyFrom_35 : decode cX1_copyFrom 35 = .ok (.getfield 20, 3) := by decide +kernel
theorem dX1_copyFrom_38 : decode cX1_copyFrom 38 = .ok (.aload_n 1, 1) := by decide +kernel
theorem dX1_copyFrom_39 : decode cX1_copyFrom 39 = .ok (.getfield 20, 3) := by decide +kernel
theorem dX1_copyFrom_42 : decode cX1_copyFrom 42 = .ok (.invokevirtual 41, 3) := by decide +kernel
theorem dX1_copyFrom_45 : decode cX1_copyFrom 45 = .ok (.return_, 1) := by decide +kernel
theorem dX2_init_0 : decode cX2_init 0 = .ok (.aload_n 0, 1) := by decide +kernel
theorem dX2_init_1 : decode cX2_init 1 = .ok (.invokespecial 5, 3) := by decide +kernel
theorem dX2_init_4 : decode cX2_init 4 = .ok (.aload_n 0, 1) := by decide +kernel
theorem dX2_init_5 : decode cX2_init 5 = .ok (.new 1, 3) := by decide +kernel
theorem dX2_init_8 : decode cX2_init 8 = .ok (.dup, 1) := by decide +kernel
theorem dX2_init_9 : decode cX2_init 9 = .ok (.bipush 36, 2) := by decide +kernel
theorem dX2_init_11 : decode cX2_init 11 = .ok (.invokespecial 13, 3) := by decide +kernel
theorem dX2_init_14 : decode cX2_init 14 = .ok (.putfield 16, 3) := by decide +kernel
theorem dX2_init_17 : decode cX2_init 17 = .ok (.aload_n 0, 1) := by decide +kernel
theorem dX2_init_18 : decode cX2_init 18 = .ok (.sipush 144, 3) := by decide +kernel
theorem dX2_init_21 : decode cX2_init 21 = .ok (.newarray .boolean, 2) := by decide +kernel
theorem dX2_init_23 : decode cX2_init 23 = .ok (.putfield 20, 3) := by decide +kernel
theorem dX2_init_26 : decode cX2_init 26 = .ok (.aload_n 0, 1) := by decide +kernel
theorem dX2_init_27 : decode cX2_init 27 = .ok (.bipush 12, 2) := by decide +kernel
theorem dX2_init_29 : decode cX2_init 29 = .ok (.newarray .int, 2) := by decide +kernel
theorem dX2_init_31 : decode cX2_init 31 = .ok (.putfield 24, 3) := by decide +kernel
theorem dX2_init_34 : decode cX2_init 34 = .ok (.aload_n 0, 1) := by decide +kernel
theorem dX2_init_35 : decode cX2_init 35 = .ok (.bipush 12, 2) := by decide +kernel
theorem dX2_init_37 : decode cX2_init 37 = .ok (.newarray .boolean, 2) := by decide +kernel
theorem dX2_init_39 : decode cX2_init 39 = .ok (.putfield 28, 3) := by decide +kernel
theorem dX2_init_42 : decode cX2_init 42 = .ok (.return_, 1) := by decide +kernel
theorem dX3_init_0 : decode cX3_init 0 = .ok (.aload_n 0, 1) := by decide +kernel
theorem dX3_init_1 : decode cX3_init 1 = .ok (.invokespecial 3, 3) := by decide +kernel
theorem dX3_init_4 : decode cX3_init 4 = .ok (.aload_n 0, 1) := by decide +kernel
theorem dX3_init_5 : decode cX3_init 5 = .ok (.aload_n 1, 1) := by decide +kernel
theorem dX3_init_6 : decode cX3_init 6 = .ok (.putfield 9, 3) := by decide +kernel
theorem dX3_init_9 : decode cX3_init 9 = .ok (.aload_n 0, 1) := by decide +kernel
theorem dX3_init_10 : decode cX3_init 10 = .ok (.aload_n 2, 1) := by decide +kernel
theorem dX3_init_11 : decode cX3_init 11 = .ok (.putfield 15, 3) := by decide +kernel
theorem dX3_init_14 : decode cX3_init 14 = .ok (.aload_n 0, 1) := by decide +kernel
theorem dX3_init_15 : decode cX3_init 15 = .ok (.new 19, 3) := by decide +kernel
theorem dX3_init_18 : decode cX3_init 18 = .ok (.dup, 1) := by decide +kernel
theorem dX3_init_19 : decode cX3_init 19 = .ok (.invokespecial 21, 3) := by decide +kernel
theorem dX3_init_22 : decode cX3_init 22 = .ok (.putfield 22, 3) := by decide +kernel
theorem dX3_init_25 : decode cX3_init 25 = .ok (.aload_n 0, 1) := by decide +kernel
theorem dX3_init_26 : decode cX3_init 26 = .ok (.new 26, 3) := by decide +kernel
theorem dX3_init_29 : decode cX3_init 29 = .ok (.dup, 1) := by decide +kernel
theorem dX3_init_30 : decode cX3_init 30 = .ok (.bipush 12, 2) := by decide +kernel
theorem dX3_init_32 : decode cX3_init 32 = .ok (.invokespecial 28, 3) := by decide +kernel
theorem dX3_init_35 : decode cX3_init 35 = .ok (.putfield 31, 3) := by decide +kernel
theorem dX3_init_38 : decode cX3_init 38 = .ok (.aload_n 0, 1) := by decide +kernel
theorem dX3_init_39 : decode cX3_init 39 = .ok (.new 26, 3) := by decide +kernel
theorem dX3_init_42 : decode cX3_init 42 = .ok (.dup, 1) := by decide +kernel
theorem dX3_init_43 : decode cX3_init 43 = .ok (.bipush 12, 2) := by decide +kernel
theorem dX3_init_45 : decode cX3_init 45 = .ok (.invokespecial 28, 3) := by decide +kernel
theorem dX3_init_48 : decode cX3_init 48 = .ok (.putfield 35, 3) := by decide +kernel
theorem dX3_init_51 : decode cX3_init 51 = .ok (.aload_n 0, 1) := by decide +kernel
theorem dX3_init_52 : decode cX3_init 52 = .ok (.new 26, 3) := by decide +kernel
theorem dX3_init_55 : decode cX3_init 55 = .ok (.dup, 1) := by decide +kernel
theorem dX3_init_56 : decode cX3_init 56 = .ok (.bipush 12, 2) := by decide +kernel
theorem dX3_init_58 : decode cX3_init 58 = .ok (.invokespecial 28, 3) := by decide +kernel
theorem dX3_init_61 : decode cX3_init 61 = .ok (.putfield 38, 3) := by decide +kernel
theorem dX3_init_64 : decode cX3_init 64 = .ok (.aload_n 0, 1) := by decide +kernel
theorem dX3_init_65 : decode cX3_init 65 = .ok (.bipush 64, 2) := by decide +kernel
theorem dX3_init_67 : decode cX3_init 67 = .ok (.newarray .int, 2) := by decide +kernel
theorem dX3_init_69 : decode cX3_init 69 = .ok (.putfield 41, 3) := by decide +kernel
theorem dX3_init_72 : decode cX3_init 72 = .ok (.aload_n 0, 1) := by decide +kernel
theorem dX3_init_73 : decode cX3_init 73 = .ok (.bipush 64, 2) := by decide +kernel
theorem dX3_init_75 : decode cX3_init 75 = .ok (.newarray .int, 2) := by decide +kernel
theorem dX3_init_77 : decode cX3_init 77 = .ok (.putfield 45, 3) := by decide +kernel
theorem dX3_init_80 : decode cX3_init 80 = .ok (.return_, 1) := by decide +kernel
theorem dX4_init_0 : decode cX4_init 0 = .ok (.aload_n 0, 1) := by decide +kernel
theorem dX4_init_1 : decode cX4_init 1 = .ok (.invokespecial 5, 3) := by decide +kernel
theorem dX4_init_4 : decode cX4_init 4 = .ok (.aload_n 0, 1) := by decide +kernel
theorem dX4_init_5 : decode cX4_init 5 = .ok (.bipush 36, 2) := by decide +kernel
theorem dX4_init_7 : decode cX4_init 7 = .ok (.newarray .int, 2) := by decide +kernel
theorem dX4_init_9 : decode cX4_init 9 = .ok (.putfield 13, 3) := by decide +kernel
theorem dX4_init_12 : decode cX4_init 12 = .ok (.aload_n 0, 1) := by decide +kernel
theorem dX4_init_13 : decode cX4_init 13 = .ok (.bipush 36, 2) := by decide +kernel
theorem dX4_init_15 : decode cX4_init 15 = .ok (.newarray .int, 2) := by decide +kernel
theorem dX4_init_17 : decode cX4_init 17 = .ok (.putfield 17, 3) := by decide +kernel
theorem dX4_init_20 : decode cX4_init 20 = .ok (.aload_n 0, 1) := by decide +kernel
theorem dX4_init_21 : decode cX4_init 21 = .ok (.bipush 36, 2) := by decide +kernel
theorem dX4_init_23 : decode cX4_init 23 = .ok (.newarray .int, 2) := by decide +kernel
theorem dX4_init_25 : decode cX4_init 25 = .ok (.putfield 20, 3) := by decide +kernel
theorem dX4_init_28 : decode cX4_init 28 = .ok (.aload_n 0, 1) := by decide +kernel
theorem dX4_init_29 : decode cX4_init 29 = .ok (.bipush 36, 2) := by decide +kernel
theorem dX4_init_31 : decode cX4_init 31 = .ok (.newarray .int, 2) := by decide +kernel
theorem dX4_init_33 : decode cX4_init 33 = .ok (.putfield 23, 3) := by decide +kernel
theorem dX4_init_36 : decode cX4_init 36 = .ok (.aload_n 0, 1) := by decide +kernel
theorem dX4_init_37 : decode cX4_init 37 = .ok (.bipush 36, 2) := by decide +kernel
theorem dX4_init_39 : decode cX4_init 39 = .ok (.newarray .int, 2) := by decide +kernel
theorem dX4_init_41 : decode cX4_init 41 = .ok (.putfield 26, 3) := by decide +kernel
theorem dX4_init_44 : decode cX4_init 44 = .ok (.aload_n 0, 1) := by decide +kernel
theorem dX4_init_45 : decode cX4_init 45 = .ok (.bipush 64, 2) := by decide +kernel
theorem dX4_init_47 : decode cX4_init 47 = .ok (.newarray .int, 2) := by decide +kernel
theorem dX4_init_49 : decode cX4_init 49 = .ok (.putfield 29, 3) := by decide +kernel
theorem dX4_init_52 : decode cX4_init 52 = .ok (.aload_n 0, 1) := by decide +kernel
theorem dX4_init_53 : decode cX4_init 53 = .ok (.bipush 64, 2) := by decide +kernel
theorem dX4_init_55 : decode cX4_init 55 = .ok (.newarray .int, 2) := by decide +kernel
theorem dX4_init_57 : decode cX4_init 57 = .ok (.putfield 32, 3) := by decide +kernel
theorem dX4_init_60 : decode cX4_init 60 = .ok (.aload_n 0, 1) := by decide +kernel
theorem dX4_init_61 : decode cX4_init 61 = .ok (.bipush 64, 2) := by decide +kernel
theorem dX4_init_63 : decode cX4_init 63 = .ok (.newarray .int, 2) := by decide +kernel
theorem dX4_init_65 : decode cX4_init 65 = .ok (.putfield 35, 3) := by decide +kernel
theorem dX4_init_68 : decode cX4_init 68 = .ok (.return_, 1) := by decide +kernel
theorem dX4_isThere_0 : decode cX4_isThere 0 = .ok (.aload_n 0, 1) := by decide +kernel
theorem dX4_isThere_1 : decode cX4_isThere 1 = .ok (.getfield 38, 3) := by decide +kernel
theorem dX4_isThere_4 : decode cX4_isThere 4 = .ok (.ifnull 21, 3) := by decide +kernel
theorem dX4_isThere_25 : decode cX4_isThere 25 = .ok (.iconst 0, 1) := by decide +kernel
theorem dX4_isThere_26 : decode cX4_isThere 26 = .ok (.ireturn, 1) := by decide +kernel
theorem dX4_hasQuarrel_0 : decode cX4_hasQuarrel 0 = .ok (.iload_n 1, 1) := by decide +kernel
theorem dX4_hasQuarrel_1 : decode cX4_hasQuarrel 1 = .ok (.ifCond .lt 15, 3) := by decide +kernel
theorem dX4_hasQuarrel_4 : decode cX4_hasQuarrel 4 = .ok (.iload_n 1, 1) := by decide +kernel
theorem dX4_hasQuarrel_5 : decode cX4_hasQuarrel 5 = .ok (.aload_n 0, 1) := by decide +kernel
theorem dX4_hasQuarrel_6 : decode cX4_hasQuarrel 6 = .ok (.getfield 48, 3) := by decide +kernel
theorem dX4_hasQuarrel_9 : decode cX4_hasQuarrel 9 = .ok (.if_icmp .ge 7, 3) := by decide +kernel
theorem dX4_hasQuarrel_16 : decode cX4_hasQuarrel 16 = .ok (.iconst 0, 1) := by decide +kernel
theorem dX4_hasQuarrel_17 : decode cX4_hasQuarrel 17 = .ok (.ireturn, 1) := by decide +kernel
theorem dX4_clear_0 : decode cX4_clear 0 = .ok (.aload_n 0, 1) := by decide +kernel
theorem dX4_clear_1 : decode cX4_clear 1 = .ok (.aconst_null, 1) := by decide +kernel
theorem dX4_clear_2 : decode cX4_clear 2 = .ok (.putfield 38, 3) := by decide +kernel
theorem dX4_clear_5 : decode cX4_clear 5 = .ok (.aload_n 0, 1) := by decide +kernel
theorem dX4_clear_6 : decode cX4_clear 6 = .ok (.aconst_null, 1) := by decide +kernel
theorem dX4_clear_7 : decode cX4_clear 7 = .ok (.putfield 42, 3) := by decide +kernel
theorem dX4_clear_10 : decode cX4_clear 10 = .ok (.aload_n 0, 1) := by decide +kernel
theorem dX4_clear_11 : decode cX4_clear 11 = .ok (.aconst_null, 1) := by decide +kernel
theorem dX4_clear_12 : decode cX4_clear 12 = .ok (.putfield 45, 3) := by decide +kernel
theorem dX4_clear_15 : decode cX4_clear 15 = .ok (.aload_n 0, 1) := by decide +kernel
theorem dX4_clear_16 : decode cX4_clear 16 = .ok (.iconst 0, 1) := by decide +kernel
theorem dX4_clear_17 : decode cX4_clear 17 = .ok (.putfield 52, 3) := by decide +kernel
theorem dX4_clear_20 : decode cX4_clear 20 = .ok (.aload_n 0, 1) := by decide +kernel
theorem dX4_clear_21 : decode cX4_clear 21 = .ok (.iconst 0, 1) := by decide +kernel
theorem dX4_clear_22 : decode cX4_clear 22 = .ok (.putfield 48, 3) := by decide +kernel
theorem dX4_clear_25 : decode cX4_clear 25 = .ok (.return_, 1) := by decide +kernel
theorem dX4_copyFrom_0 : decode cX4_copyFrom 0 = .ok (.aload_n 1, 1) := by decide +kernel
theorem dX4_copyFrom_1 : decode cX4_copyFrom 1 = .ok (.invokevirtual 55, 3) := by decide +kernel
theorem dX4_copyFrom_4 : decode cX4_copyFrom 4 = .ok (.ifCond .ne 8, 3) := by decide +kernel
theorem dX4_copyFrom_7 : decode cX4_copyFrom 7 = .ok (.aload_n 0, 1) := by decide +kernel
theorem dX4_copyFrom_8 : decode cX4_copyFrom 8 = .ok (.invokevirtual 59, 3) := by decide +kernel
theorem dX4_copyFrom_11 : decode cX4_copyFrom 11 = .ok (.return_, 1) := by decide +kernel
theorem dX5_init_0 : decode cX5_init 0 = .ok (.aload_n 0, 1) := by decide +kernel
theorem dX5_init_1 : decode cX5_init 1 = .ok (.invokespecial 5, 3) := by decide +kernel
theorem dX5_init_4 : decode cX5_init 4 = .ok (.aload_n 0, 1) := by decide +kernel
theorem dX5_init_5 : decode cX5_init 5 = .ok (.sipush 144, 3) := by decide +kernel
theorem dX5_init_8 : decode cX5_init 8 = .ok (.newarray .boolean, 2) := by decide +kernel
theorem dX5_init_10 : decode cX5_init 10 = .ok (.putfield 13, 3) := by decide +kernel
theorem dX5_init_13 : decode cX5_init 13 = .ok (.aload_n 0, 1) := by decide +kernel
theorem dX5_init_14 : decode cX5_init 14 = .ok (.bipush 12, 2) := by decide +kernel
theorem dX5_init_16 : decode cX5_init 16 = .ok (.newarray .boolean, 2) := by decide +kernel
theorem dX5_init_18 : decode cX5_init 18 = .ok (.putfield 17, 3) := by decide +kernel
theorem dX5_init_21 : decode cX5_init 21 = .ok (.aload_n 0, 1) := by decide +kernel
theorem dX5_init_22 : decode cX5_init 22 = .ok (.bipush 64, 2) := by decide +kernel
theorem dX5_init_24 : decode cX5_init 24 = .ok (.newarray .int, 2) := by decide +kernel
theorem dX5_init_26 : decode cX5_init 26 = .ok (.putfield 20, 3) := by decide +kernel
theorem dX5_init_29 : decode cX5_init 29 = .ok (.aload_n 0, 1) := by decide +kernel
theorem dX5_init_30 : decode cX5_init 30 = .ok (.sipush 256, 3) := by decide +kernel
theorem dX5_init_33 : decode cX5_init 33 = .ok (.newarray .int, 2) := by decide +kernel
theorem dX5_init_35 : decode cX5_init 35 = .ok (.putfield 24, 3) := by decide +kernel
theorem dX5_init_38 : decode cX5_init 38 = .ok (.return_, 1) := by decide +kernel
theorem dX6_init_0 : decode cX6_init 0 = .ok (.aload_n 0, 1) := by decide +kernel
theorem dX6_init_1 : decode cX6_init 1 = .ok (.invokespecial 3, 3) := by decide +kernel
theorem dX6_init_4 : decode cX6_init 4 = .ok (.iload_n 1, 1) := by decide +kernel
theorem dX6_init_5 : decode cX6_init 5 = .ok (.iconst 0, 1) := by decide +kernel
theorem dX6_init_6 : decode cX6_init 6 = .ok (.invokestatic 9, 3) := by decide +kernel
theorem dX6_init_9 : decode cX6_init 9 = .ok (.istore_n 2, 1) := by decide +kernel
theorem dX6_init_10 : decode cX6_init 10 = .ok (.aload_n 0, 1) := by decide +kernel
theorem dX6_init_11 : decode cX6_init 11 = .ok (.iload_n 2, 1) := by decide +kernel
theorem dX6_init_12 : decode cX6_init 12 = .ok (.newarray .long, 2) := by decide +kernel
theorem dX6_init_14 : decode cX6_init 14 = .ok (.putfield 15, 3) := by decide +kernel
theorem dX6_init_17 : decode cX6_init 17 = .ok (.aload_n 0, 1) := by decide +kernel
theorem dX6_init_18 : decode cX6_init 18 = .ok (.iload_n 2, 1) := by decide +kernel
theorem dX6_init_19 : decode cX6_init 19 = .ok (.newarray .long, 2) := by decide +kernel
theorem dX6_init_21 : decode cX6_init 21 = .ok (.putfield 21, 3) := by decide +kernel
theorem dX6_init_24 : decode cX6_init 24 = .ok (.aload_n 0, 1) := by decide +kernel
theorem dX6_init_25 : decode cX6_init 25 = .ok (.iload_n 2, 1) := by decide +kernel
theorem dX6_init_26 : decode cX6_init 26 = .ok (.newarray .int, 2) := by decide +kernel
theorem dX6_init_28 : decode cX6_init 28 = .ok (.putfield 24, 3) := by decide +kernel
theorem dX6_init_31 : decode cX6_init 31 = .ok (.aload_n 0, 1) := by decide +kernel
theorem dX6_init_32 : decode cX6_init 32 = .ok (.iload_n 2, 1) := by decide +kernel
theorem dX6_init_33 : decode cX6_init 33 = .ok (.newarray .int, 2) := by decide +kernel
theorem dX6_init_35 : decode cX6_init 35 = .ok (.putfield 28, 3) := by decide +kernel
theorem dX6_init_38 : decode cX6_init 38 = .ok (.aload_n 0, 1) := by decide +kernel
theorem dX6_init_39 : decode cX6_init 39 = .ok (.iload_n 2, 1) := by decide +kernel
theorem dX6_init_40 : decode cX6_init 40 = .ok (.newarray .int, 2) := by decide +kernel
theorem dX6_init_42 : decode cX6_init 42 = .ok (.putfield 31, 3) := by decide +kernel
theorem dX6_init_45 : decode cX6_init 45 = .ok (.aload_n 0, 1) := by decide +kernel
theorem dX6_init_46 : decode cX6_init 46 = .ok (.iload_n 2, 1) := by decide +kernel
theorem dX6_init_47 : decode cX6_init 47 = .ok (.iconst 4, 1) := by decide +kernel
theorem dX6_init_48 : decode cX6_init 48 = .ok (.imul, 1) := by decide +kernel
theorem dX6_init_49 : decode cX6_init 49 = .ok (.newarray .long, 2) := by decide +kernel
theorem dX6_init_51 : decode cX6_init 51 = .ok (.putfield 34, 3) := by decide +kernel
theorem dX6_init_54 : decode cX6_init 54 = .ok (.aload_n 0, 1) := by decide +kernel
theorem dX6_init_55 : decode cX6_init 55 = .ok (.iload_n 2, 1) := by decide +kernel
theorem dX6_init_56 : decode cX6_init 56 = .ok (.iconst 4, 1) := by decide +kernel
theorem dX6_init_57 : decode cX6_init 57 = .ok (.imul, 1) := by decide +kernel
theorem dX6_init_58 : decode cX6_init 58 = .ok (.newarray .int, 2) := by decide +kernel
theorem dX6_init_60 : decode cX6_init 60 = .ok (.putfield 37, 3) := by decide +kernel
theorem dX6_init_63 : decode cX6_init 63 = .ok (.aload_n 0, 1) := by decide +kernel
theorem dX6_init_64 : decode cX6_init 64 = .ok (.iload_n 2, 1) := by decide +kernel
theorem dX6_init_65 : decode cX6_init 65 = .ok (.newarray .boolean, 2) := by decide +kernel
theorem dX6_init_67 : decode cX6_init 67 = .ok (.putfield 40, 3) := by decide +kernel
theorem dX6_init_70 : decode cX6_init 70 = .ok (.aload_n 0, 1) := by decide +kernel
theorem dX6_init_71 : decode cX6_init 71 = .ok (.iload_n 2, 1) := by decide +kernel
theorem dX6_init_72 : decode cX6_init 72 = .ok (.newarray .int, 2) := by decide +kernel
theorem dX6_init_74 : decode cX6_init 74 = .ok (.putfield 44, 3) := by decide +kernel
theorem dX6_init_77 : decode cX6_init 77 = .ok (.return_, 1) := by decide +kernel
theorem dX6_workOut_0 : decode cX6_workOut 0 = .ok (.aload_n 0, 1) := by decide +kernel
theorem dX6_workOut_1 : decode cX6_workOut 1 = .ok (.iconst 0, 1) := by decide +kernel
theorem dX6_workOut_2 : decode cX6_workOut 2 = .ok (.putfield 65, 3) := by decide +kernel
theorem dX6_workOut_5 : decode cX6_workOut 5 = .ok (.aload_n 0, 1) := by decide +kernel
theorem dX6_workOut_6 : decode cX6_workOut 6 = .ok (.iconst 0, 1) := by decide +kernel
theorem dX6_workOut_7 : decode cX6_workOut 7 = .ok (.putfield 68, 3) := by decide +kernel
theorem dX6_workOut_10 : decode cX6_workOut 10 = .ok (.aload_n 0, 1) := by decide +kernel
theorem dX6_workOut_11 : decode cX6_workOut 11 = .ok (.iconst 0, 1) := by decide +kernel
theorem dX6_workOut_12 : decode cX6_workOut 12 = .ok (.putfield 71, 3) := by decide +kernel
theorem dX6_workOut_15 : decode cX6_workOut 15 = .ok (.aload_n 0, 1) := by decide +kernel
theorem dX6_workOut_16 : decode cX6_workOut 16 = .ok (.iconst 0, 1) := by decide +kernel
theorem dX6_workOut_17 : decode cX6_workOut 17 = .ok (.putfield 74, 3) := by decide +kernel
theorem dX6_workOut_20 : decode cX6_workOut 20 = .ok (.iconst 0, 1) := by decide +kernel
theorem dX6_workOut_21 : decode cX6_workOut 21 = .ok (.istore_n 1, 1) := by decide +kernel
theorem dX6_workOut_22 : decode cX6_workOut 22 = .ok (.iload_n 1, 1) := by decide +kernel
theorem dX6_workOut_23 : decode cX6_workOut 23 = .ok (.aload_n 0, 1) := by decide +kernel
theorem dX6_workOut_24 : decode cX6_workOut 24 = .ok (.getfield 47, 3) := by decide +kernel
theorem dX6_workOut_27 : decode cX6_workOut 27 = .ok (.if_icmp .ge 68, 3) := by decide +kernel
theorem dX6_workOut_95 : decode cX6_workOut 95 = .ok (.iconst 0, 1) := by decide +kernel
theorem dX6_workOut_96 : decode cX6_workOut 96 = .ok (.istore_n 1, 1) := by decide +kernel
theorem dX6_workOut_97 : decode cX6_workOut 97 = .ok (.iload_n 1, 1) := by decide +kernel
theorem dX6_workOut_98 : decode cX6_workOut 98 = .ok (.aload_n 0, 1) := by decide +kernel
theorem dX6_workOut_99 : decode cX6_workOut 99 = .ok (.getfield 47, 3) := by decide +kernel
theorem dX6_workOut_102 : decode cX6_workOut 102 = .ok (.if_icmp .ge 32, 3) := by decide +kernel
theorem dX6_workOut_134 : decode cX6_workOut 134 = .ok (.return_, 1) := by decide +kernel
theorem dX7_init_0 : decode cX7_init 0 = .ok (.aload_n 0, 1) := by decide +kernel
theorem dX7_init_1 : decode cX7_init 1 = .ok (.invokespecial 3, 3) := by decide +kernel
theorem dX7_init_4 : decode cX7_init 4 = .ok (.aload_n 0, 1) := by decide +kernel
theorem dX7_init_5 : decode cX7_init 5 = .ok (.aload_n 1, 1) := by decide +kernel
theorem dX7_init_6 : decode cX7_init 6 = .ok (.putfield 9, 3) := by decide +kernel
theorem dX7_init_9 : decode cX7_init 9 = .ok (.aload_n 0, 1) := by decide +kernel
theorem dX7_init_10 : decode cX7_init 10 = .ok (.bipush 6, 2) := by decide +kernel
theorem dX7_init_12 : decode cX7_init 12 = .ok (.newarray .long, 2) := by decide +kernel
theorem dX7_init_14 : decode cX7_init 14 = .ok (.putfield 15, 3) := by decide +kernel
theorem dX7_init_17 : decode cX7_init 17 = .ok (.aload_n 0, 1) := by decide +kernel
theorem dX7_init_18 : decode cX7_init 18 = .ok (.bipush 6, 2) := by decide +kernel
theorem dX7_init_20 : decode cX7_init 20 = .ok (.newarray .long, 2) := by decide +kernel
theorem dX7_init_22 : decode cX7_init 22 = .ok (.putfield 19, 3) := by decide +kernel
theorem dX7_init_25 : decode cX7_init 25 = .ok (.return_, 1) := by decide +kernel
theorem dX7_read_0 : decode cX7_read 0 = .ok (.aload_n 0, 1) := by decide +kernel
theorem dX7_read_1 : decode cX7_read 1 = .ok (.iconst 0, 1) := by decide +kernel
theorem dX7_read_2 : decode cX7_read 2 = .ok (.putfield 22, 3) := by decide +kernel
theorem dX7_read_5 : decode cX7_read 5 = .ok (.aload_n 1, 1) := by decide +kernel
theorem dX7_read_6 : decode cX7_read 6 = .ok (.iconst 0, 1) := by decide +kernel
theorem dX7_read_7 : decode cX7_read 7 = .ok (.putfield 26, 3) := by decide +kernel
theorem dX7_read_10 : decode cX7_read 10 = .ok (.iconst 0, 1) := by decide +kernel
theorem dX7_read_11 : decode cX7_read 11 = .ok (.istore_n 2, 1) := by decide +kernel
theorem dX7_read_12 : decode cX7_read 12 = .ok (.iload_n 2, 1) := by decide +kernel
theorem dX7_read_13 : decode cX7_read 13 = .ok (.bipush 6, 2) := by decide +kernel
theorem dX7_read_15 : decode cX7_read 15 = .ok (.if_icmp .gt 30, 3) := by decide +kernel
theorem dX7_read_18 : decode cX7_read 18 = .ok (.aload_n 0, 1) := by decide +kernel
theorem dX7_read_19 : decode cX7_read 19 = .ok (.getfield 9, 3) := by decide +kernel
theorem dX7_read_22 : decode cX7_read 22 = .ok (.getfield 31, 3) := by decide +kernel
theorem dX7_read_25 : decode cX7_read 25 = .ok (.bipush 100, 2) := by decide +kernel
theorem dX7_read_27 : decode cX7_read 27 = .ok (.if_icmp .ne 18, 3) := by decide +kernel
theorem dX7_read_45 : decode cX7_read 45 = .ok (.iconst 0, 1) := by decide +kernel
theorem dX7_read_46 : decode cX7_read 46 = .ok (.istore_n 2, 1) := by decide +kernel
theorem dX7_read_47 : decode cX7_read 47 = .ok (.iload_n 2, 1) := by decide +kernel
theorem dX7_read_48 : decode cX7_read 48 = .ok (.bipush 12, 2) := by decide +kernel
theorem dX7_read_50 : decode cX7_read 50 = .ok (.if_icmp .gt 31, 3) := by decide +kernel
theorem dX7_read_53 : decode cX7_read 53 = .ok (.aload_n 0, 1) := by decide +kernel
theorem dX7_read_54 : decode cX7_read 54 = .ok (.getfield 9, 3) := by decide +kernel
theorem dX7_read_57 : decode cX7_read 57 = .ok (.getfield 31, 3) := by decide +kernel
theorem dX7_read_60 : decode cX7_read 60 = .ok (.bipush 101, 2) := by decide +kernel
theorem dX7_read_62 : decode cX7_read 62 = .ok (.if_icmp .ne 19, 3) := by decide +kernel
theorem dX7_read_81 : decode cX7_read 81 = .ok (.aload_n 0, 1) := by decide +kernel
theorem dX7_read_82 : decode cX7_read 82 = .ok (.getfield 9, 3) := by decide +kernel
theorem dX7_read_85 : decode cX7_read 85 = .ok (.getfield 31, 3) := by decide +kernel
theorem dX7_read_88 : decode cX7_read 88 = .ok (.iconst 1, 1) := by decide +kernel
theorem dX7_read_89 : decode cX7_read 89 = .ok (.if_icmp .eq 11, 3) := by decide +kernel
theorem dX7_read_100 : decode cX7_read 100 = .ok (.aload_n 1, 1) := by decide +kernel
theorem dX7_read_101 : decode cX7_read 101 = .ok (.invokevirtual 47, 3) := by decide +kernel
theorem dX7_read_104 : decode cX7_read 104 = .ok (.iconst 1, 1) := by decide +kernel
theorem dX7_read_105 : decode cX7_read 105 = .ok (.ireturn, 1) := by decide +kernel
theorem dX8_start_0 : decode cX8_start 0 = .ok (.aload_n 0, 1) := by decide +kernel
theorem dX8_start_1 : decode cX8_start 1 = .ok (.aload_n 1, 1) := by decide +kernel
theorem dX8_start_2 : decode cX8_start 2 = .ok (.putfield 15, 3) := by decide +kernel
theorem dX8_start_5 : decode cX8_start 5 = .ok (.aload_n 0, 1) := by decide +kernel
theorem dX8_start_6 : decode cX8_start 6 = .ok (.iload_n 2, 1) := by decide +kernel
theorem dX8_start_7 : decode cX8_start 7 = .ok (.aload_n 1, 1) := by decide +kernel
theorem dX8_start_8 : decode cX8_start 8 = .ok (.arraylength, 1) := by decide +kernel
theorem dX8_start_9 : decode cX8_start 9 = .ok (.invokestatic 35, 3) := by decide +kernel
theorem dX8_start_12 : decode cX8_start 12 = .ok (.putfield 41, 3) := by decide +kernel
theorem dX8_start_15 : decode cX8_start 15 = .ok (.aload_n 0, 1) := by decide +kernel
theorem dX8_start_16 : decode cX8_start 16 = .ok (.iconst 0, 1) := by decide +kernel
theorem dX8_start_17 : decode cX8_start 17 = .ok (.putfield 43, 3) := by decide +kernel
theorem dX8_start_20 : decode cX8_start 20 = .ok (.aload_n 0, 1) := by decide +kernel
theorem dX8_start_21 : decode cX8_start 21 = .ok (.iconst 0, 1) := by decide +kernel
theorem dX8_start_22 : decode cX8_start 22 = .ok (.putfield 46, 3) := by decide +kernel
theorem dX8_start_25 : decode cX8_start 25 = .ok (.aload_n 0, 1) := by decide +kernel
theorem dX8_start_26 : decode cX8_start 26 = .ok (.iconst (-1), 1) := by decide +kernel
theorem dX8_start_27 : decode cX8_start 27 = .ok (.putfield 19, 3) := by decide +kernel
theorem dX8_start_30 : decode cX8_start 30 = .ok (.aload_n 0, 1) := by decide +kernel
theorem dX8_start_31 : decode cX8_start 31 = .ok (.invokevirtual 49, 3) := by decide +kernel
theorem dX8_start_34 : decode cX8_start 34 = .ok (.return_, 1) := by decide +kernel
theorem dX8_next_0 : decode cX8_next 0 = .ok (.aload_n 0, 1) := by decide +kernel
theorem dX8_next_1 : decode cX8_next 1 = .ok (.getfield 43, 3) := by decide +kernel
theorem dX8_next_4 : decode cX8_next 4 = .ok (.aload_n 0, 1) := by decide +kernel
theorem dX8_next_5 : decode cX8_next 5 = .ok (.getfield 41, 3) := by decide +kernel
theorem dX8_next_8 : decode cX8_next 8 = .ok (.if_icmp .ge 44, 3) := by decide +kernel
theorem dX8_next_52 : decode cX8_next 52 = .ok (.aload_n 0, 1) := by decide +kernel
theorem dX8_next_53 : decode cX8_next 53 = .ok (.aload_n 0, 1) := by decide +kernel
theorem dX8_next_54 : decode cX8_next 54 = .ok (.getfield 43, 3) := by decide +kernel
theorem dX8_next_57 : decode cX8_next 57 = .ok (.putfield 52, 3) := by decide +kernel
theorem dX8_next_60 : decode cX8_next 60 = .ok (.aload_n 0, 1) := by decide +kernel
theorem dX8_next_61 : decode cX8_next 61 = .ok (.getfield 43, 3) := by decide +kernel
theorem dX8_next_64 : decode cX8_next 64 = .ok (.aload_n 0, 1) := by decide +kernel
theorem dX8_next_65 : decode cX8_next 65 = .ok (.getfield 41, 3) := by decide +kernel
theorem dX8_next_68 : decode cX8_next 68 = .ok (.if_icmp .lt 11, 3) := by decide +kernel
theorem dX8_next_71 : decode cX8_next 71 = .ok (.aload_n 0, 1) := by decide +kernel
theorem dX8_next_72 : decode cX8_next 72 = .ok (.iconst 1, 1) := by decide +kernel
theorem dX8_next_73 : decode cX8_next 73 = .ok (.putfield 55, 3) := by decide +kernel
theorem dX8_next_76 : decode cX8_next 76 = .ok (.goto 92, 3) := by decide +kernel
theorem dX8_next_168 : decode cX8_next 168 = .ok (.return_, 1) := by decide +kernel
theorem dX8_blame_0 : decode cX8_blame 0 = .ok (.aload_n 0, 1) := by decide +kernel
theorem dX8_blame_1 : decode cX8_blame 1 = .ok (.iload_n 1, 1) := by decide +kernel
theorem dX8_blame_2 : decode cX8_blame 2 = .ok (.putfield 46, 3) := by decide +kernel
theorem dX8_blame_5 : decode cX8_blame 5 = .ok (.aload_n 0, 1) := by decide +kernel
theorem dX8_blame_6 : decode cX8_blame 6 = .ok (.aload_n 0, 1) := by decide +kernel
theorem dX8_blame_7 : decode cX8_blame 7 = .ok (.getfield 52, 3) := by decide +kernel
theorem dX8_blame_10 : decode cX8_blame 10 = .ok (.putfield 19, 3) := by decide +kernel
theorem dX8_blame_13 : decode cX8_blame 13 = .ok (.iconst 0, 1) := by decide +kernel
theorem dX8_blame_14 : decode cX8_blame 14 = .ok (.ireturn, 1) := by decide +kernel
theorem dX8_refuse_0 : decode cX8_refuse 0 = .ok (.aload_n 0, 1) := by decide +kernel
theorem dX8_refuse_1 : decode cX8_refuse 1 = .ok (.aload_n 0, 1) := by decide +kernel
theorem dX8_refuse_2 : decode cX8_refuse 2 = .ok (.getfield 55, 3) := by decide +kernel
theorem dX8_refuse_5 : decode cX8_refuse 5 = .ok (.ifCond .ne 7, 3) := by decide +kernel
theorem dX8_refuse_12 : decode cX8_refuse 12 = .ok (.iconst 2, 1) := by decide +kernel
theorem dX8_refuse_13 : decode cX8_refuse 13 = .ok (.invokevirtual 84, 3) := by decide +kernel
theorem dX8_refuse_16 : decode cX8_refuse 16 = .ok (.ireturn, 1) := by decide +kernel
theorem dX8_pass_0 : decode cX8_pass 0 = .ok (.aload_n 0, 1) := by decide +kernel
theorem dX8_pass_1 : decode cX8_pass 1 = .ok (.getfield 55, 3) := by decide +kernel
theorem dX8_pass_4 : decode cX8_pass 4 = .ok (.iload_n 1, 1) := by decide +kernel
theorem dX8_pass_5 : decode cX8_pass 5 = .ok (.if_icmp .eq 8, 3) := by decide +kernel
theorem dX8_pass_8 : decode cX8_pass 8 = .ok (.aload_n 0, 1) := by decide +kernel
theorem dX8_pass_9 : decode cX8_pass 9 = .ok (.invokevirtual 87, 3) := by decide +kernel
theorem dX8_pass_12 : decode cX8_pass 12 = .ok (.ireturn, 1) := by decide +kernel
theorem dX9_init_0 : decode cX9_init 0 = .ok (.aload_n 0, 1) := by decide +kernel
theorem dX9_init_1 : decode cX9_init 1 = .ok (.invokespecial 3, 3) := by decide +kernel
theorem dX9_init_4 : decode cX9_init 4 = .ok (.aload_n 0, 1) := by decide +kernel
theorem dX9_init_5 : decode cX9_init 5 = .ok (.sipush 400, 3) := by decide +kernel
theorem dX9_init_8 : decode cX9_init 8 = .ok (.newarray .int, 2) := by decide +kernel
theorem dX9_init_10 : decode cX9_init 10 = .ok (.putfield 9, 3) := by decide +kernel
theorem dX9_init_13 : decode cX9_init 13 = .ok (.aload_n 0, 1) := by decide +kernel
theorem dX9_init_14 : decode cX9_init 14 = .ok (.sipush 400, 3) := by decide +kernel
theorem dX9_init_17 : decode cX9_init 17 = .ok (.newarray .long, 2) := by decide +kernel
theorem dX9_init_19 : decode cX9_init 19 = .ok (.putfield 15, 3) := by decide +kernel
theorem dX9_init_22 : decode cX9_init 22 = .ok (.aload_n 0, 1) := by decide +kernel
theorem dX9_init_23 : decode cX9_init 23 = .ok (.bipush 41, 2) := by decide +kernel
theorem dX9_init_25 : decode cX9_init 25 = .ok (.newarray .int, 2) := by decide +kernel
theorem dX9_init_27 : decode cX9_init 27 = .ok (.putfield 19, 3) := by decide +kernel
theorem dX9_init_30 : decode cX9_init 30 = .ok (.return_, 1) := by decide +kernel
theorem dX10_init_0 : decode cX10_init 0 = .ok (.aload_n 0, 1) := by decide +kernel
theorem dX10_init_1 : decode cX10_init 1 = .ok (.invokespecial 3, 3) := by decide +kernel
theorem dX10_init_4 : decode cX10_init 4 = .ok (.aload_n 0, 1) := by decide +kernel
theorem dX10_init_5 : decode cX10_init 5 = .ok (.aload_n 1, 1) := by decide +kernel
theorem dX10_init_6 : decode cX10_init 6 = .ok (.putfield 9, 3) := by decide +kernel
theorem dX10_init_9 : decode cX10_init 9 = .ok (.return_, 1) := by decide +kernel
theorem dX10_read_0 : decode cX10_read 0 = .ok (.aload_n 0, 1) := by decide +kernel
theorem dX10_read_1 : decode cX10_read 1 = .ok (.aload_n 1, 1) := by decide +kernel
theorem dX10_read_2 : decode cX10_read 2 = .ok (.putfield 15, 3) := by decide +kernel
theorem dX10_read_5 : decode cX10_read 5 = .ok (.aload_n 0, 1) := by decide +kernel
theorem dX10_read_6 : decode cX10_read 6 = .ok (.getfield 15, 3) := by decide +kernel
theorem dX10_read_9 : decode cX10_read 9 = .ok (.iconst 0, 1) := by decide +kernel
theorem dX10_read_10 : decode cX10_read 10 = .ok (.putfield 19, 3) := by decide +kernel
theorem dX10_read_13 : decode cX10_read 13 = .ok (.aload_n 0, 1) := by decide +kernel
theorem dX10_read_14 : decode cX10_read 14 = .ok (.getfield 15, 3) := by decide +kernel
theorem dX10_read_17 : decode cX10_read 17 = .ok (.iconst 0, 1) := by decide +kernel
theorem dX10_read_18 : decode cX10_read 18 = .ok (.putfield 25, 3) := by decide +kernel
theorem dX10_read_21 : decode cX10_read 21 = .ok (.aload_n 0, 1) := by decide +kernel
theorem dX10_read_22 : decode cX10_read 22 = .ok (.getfield 9, 3) := by decide +kernel
theorem dX10_read_25 : decode cX10_read 25 = .ok (.bipush 106, 2) := by decide +kernel
theorem dX10_read_27 : decode cX10_read 27 = .ok (.invokevirtual 30, 3) := by decide +kernel
theorem dX10_read_30 : decode cX10_read 30 = .ok (.ifCond .eq 23, 3) := by decide +kernel
theorem dX10_read_53 : decode cX10_read 53 = .ok (.iconst 0, 1) := by decide +kernel
theorem dX10_read_54 : decode cX10_read 54 = .ok (.ireturn, 1) := by decide +kernel
theorem dX11_feed_0 : decode cX11_feed 0 = .ok (.aload_n 0, 1) := by decide +kernel
theorem dX11_feed_1 : decode cX11_feed 1 = .ok (.getfield 107, 3) := by decide +kernel
theorem dX11_feed_4 : decode cX11_feed 4 = .ok (.bipush 20, 2) := by decide +kernel
theorem dX11_feed_6 : decode cX11_feed 6 = .ok (.iadd, 1) := by decide +kernel
theorem dX11_feed_7 : decode cX11_feed 7 = .ok (.sipush 1200, 3) := by decide +kernel
theorem dX11_feed_10 : decode cX11_feed 10 = .ok (.if_icmp .le 5, 3) := by decide +kernel
theorem dX11_feed_15 : decode cX11_feed 15 = .ok (.aload_n 0, 1) := by decide +kernel
theorem dX11_feed_16 : decode cX11_feed 16 = .ok (.iload_n 1, 1) := by decide +kernel
theorem dX11_feed_17 : decode cX11_feed 17 = .ok (.invokevirtual 110, 3) := by decide +kernel
theorem dX11_feed_20 : decode cX11_feed 20 = .ok (.aload_n 0, 1) := by decide +kernel
theorem dX11_feed_21 : decode cX11_feed 21 = .ok (.iload_n 2, 1) := by decide +kernel
theorem dX11_feed_22 : decode cX11_feed 22 = .ok (.invokevirtual 110, 3) := by decide +kernel
theorem dX11_feed_25 : decode cX11_feed 25 = .ok (.aload_n 0, 1) := by decide +kernel
theorem dX11_feed_26 : decode cX11_feed 26 = .ok (.iload_n 3, 1) := by decide +kernel
theorem dX11_feed_27 : decode cX11_feed 27 = .ok (.invokevirtual 110, 3) := by decide +kernel
theorem dX11_feed_30 : decode cX11_feed 30 = .ok (.aload_n 0, 1) := by decide +kernel
theorem dX11_feed_31 : decode cX11_feed 31 = .ok (.iload 4, 2) := by decide +kernel
theorem dX11_feed_33 : decode cX11_feed 33 = .ok (.invokevirtual 110, 3) := by decide +kernel
theorem dX11_feed_36 : decode cX11_feed 36 = .ok (.aload_n 0, 1) := by decide +kernel
theorem dX11_feed_37 : decode cX11_feed 37 = .ok (.iload 5, 2) := by decide +kernel
theorem dX11_feed_39 : decode cX11_feed 39 = .ok (.invokevirtual 110, 3) := by decide +kernel
theorem dX11_feed_42 : decode cX11_feed 42 = .ok (.aload_n 0, 1) := by decide +kernel
theorem dX11_feed_43 : decode cX11_feed 43 = .ok (.getfield 107, 3) := by decide +kernel
theorem dX11_feed_46 : decode cX11_feed 46 = .ok (.ireturn, 1) := by decide +kernel
theorem dX11_putFour_0 : decode cX11_putFour 0 = .ok (.bipush 24, 2) := by decide +kernel
theorem dX11_putFour_2 : decode cX11_putFour 2 = .ok (.istore_n 2, 1) := by decide +kernel
theorem dX11_putFour_3 : decode cX11_putFour 3 = .ok (.iload_n 2, 1) := by decide +kernel
theorem dX11_putFour_4 : decode cX11_putFour 4 = .ok (.ifCond .lt 35, 3) := by decide +kernel
theorem dX11_putFour_7 : decode cX11_putFour 7 = .ok (.aload_n 0, 1) := by decide +kernel
theorem dX11_putFour_8 : decode cX11_putFour 8 = .ok (.getfield 9, 3) := by decide +kernel
theorem dX11_putFour_11 : decode cX11_putFour 11 = .ok (.aload_n 0, 1) := by decide +kernel
theorem dX11_putFour_12 : decode cX11_putFour 12 = .ok (.getfield 107, 3) := by decide +kernel
theorem dX11_putFour_15 : decode cX11_putFour 15 = .ok (.iload_n 1, 1) := by decide +kernel
theorem dX11_putFour_16 : decode cX11_putFour 16 = .ok (.iload_n 2, 1) := by decide +kernel
theorem dX11_putFour_17 : decode cX11_putFour 17 = .ok (.iushr, 1) := by decide +kernel
theorem dX11_putFour_18 : decode cX11_putFour 18 = .ok (.sipush 255, 3) := by decide +kernel
theorem dX11_putFour_21 : decode cX11_putFour 21 = .ok (.iand, 1) := by decide +kernel
theorem dX11_putFour_22 : decode cX11_putFour 22 = .ok (.iastore, 1) := by decide +kernel
theorem dX11_putFour_23 : decode cX11_putFour 23 = .ok (.aload_n 0, 1) := by decide +kernel
theorem dX11_putFour_24 : decode cX11_putFour 24 = .ok (.dup, 1) := by decide +kernel
theorem dX11_putFour_25 : decode cX11_putFour 25 = .ok (.getfield 107, 3) := by decide +kernel
theorem dX11_putFour_28 : decode cX11_putFour 28 = .ok (.iconst 1, 1) := by decide +kernel
theorem dX11_putFour_29 : decode cX11_putFour 29 = .ok (.iadd, 1) := by decide +kernel
theorem dX11_putFour_30 : decode cX11_putFour 30 = .ok (.putfield 107, 3) := by decide +kernel
theorem dX11_putFour_33 : decode cX11_putFour 33 = .ok (.iinc 2 (-8), 3) := by decide +kernel
theorem dX11_putFour_36 : decode cX11_putFour 36 = .ok (.goto (-33), 3) := by decide +kernel
theorem dX11_putFour_39 : decode cX11_putFour 39 = .ok (.return_, 1) := by decide +kernel
theorem dX11_end_0 : decode cX11_end 0 = .ok (.iload_n 1, 1) := by decide +kernel
theorem dX11_end_1 : decode cX11_end 1 = .ok (.ifCond .lt 11, 3) := by decide +kernel
theorem dX11_end_4 : decode cX11_end 4 = .ok (.iload_n 1, 1) := by decide +kernel
theorem dX11_end_5 : decode cX11_end 5 = .ok (.aload_n 0, 1) := by decide +kernel
theorem dX11_end_6 : decode cX11_end 6 = .ok (.getfield 107, 3) := by decide +kernel
theorem dX11_end_9 : decode cX11_end 9 = .ok (.if_icmp .le 5, 3) := by decide +kernel
theorem dX11_end_12 : decode cX11_end 12 = .ok (.iconst (-1), 1) := by decide +kernel
theorem dX11_end_13 : decode cX11_end 13 = .ok (.ireturn, 1) := by decide +kernel
theorem dX11_end_14 : decode cX11_end 14 = .ok (.aload_n 0, 1) := by decide +kernel
theorem dX11_end_15 : decode cX11_end 15 = .ok (.iload_n 1, 1) := by decide +kernel
theorem dX11_end_16 : decode cX11_end 16 = .ok (.putfield 107, 3) := by decide +kernel
theorem dX11_end_19 : decode cX11_end 19 = .ok (.iload_n 1, 1) := by decide +kernel
theorem dX11_end_20 : decode cX11_end 20 = .ok (.ireturn, 1) := by decide +kernel
theorem dX11_paper_0 : decode cX11_paper 0 = .ok (.aload_n 0, 1) := by decide +kernel
theorem dX11_paper_1 : decode cX11_paper 1 = .ok (.getfield 39, 3) := by decide +kernel
theorem dX11_paper_4 : decode cX11_paper 4 = .ok (.invokevirtual 113, 3) := by decide +kernel
theorem dX11_paper_7 : decode cX11_paper 7 = .ok (.ifCond .eq 11, 3) := by decide +kernel
theorem dX11_paper_18 : decode cX11_paper 18 = .ok (.aload_n 0, 1) := by decide +kernel
theorem dX11_paper_19 : decode cX11_paper 19 = .ok (.getfield 16, 3) := by decide +kernel
theorem dX11_paper_22 : decode cX11_paper 22 = .ok (.aload_n 0, 1) := by decide +kernel
theorem dX11_paper_23 : decode cX11_paper 23 = .ok (.getfield 9, 3) := by decide +kernel
theorem dX11_paper_26 : decode cX11_paper 26 = .ok (.aload_n 0, 1) := by decide +kernel
theorem dX11_paper_27 : decode cX11_paper 27 = .ok (.getfield 107, 3) := by decide +kernel
theorem dX11_paper_30 : decode cX11_paper 30 = .ok (.invokevirtual 117, 3) := by decide +kernel
theorem dX11_paper_33 : decode cX11_paper 33 = .ok (.aload_n 0, 1) := by decide +kernel
theorem dX11_paper_34 : decode cX11_paper 34 = .ok (.getfield 25, 3) := by decide +kernel
theorem dX11_paper_37 : decode cX11_paper 37 = .ok (.aload_n 0, 1) := by decide +kernel
theorem dX11_paper_38 : decode cX11_paper 38 = .ok (.getfield 56, 3) := by decide +kernel
theorem dX11_paper_41 : decode cX11_paper 41 = .ok (.invokevirtual 121, 3) := by decide +kernel
theorem dX11_paper_44 : decode cX11_paper 44 = .ok (.ifCond .ne 5, 3) := by decide +kernel
theorem dX11_paper_49 : decode cX11_paper 49 = .ok (.aload_n 0, 1) := by decide +kernel
theorem dX11_paper_50 : decode cX11_paper 50 = .ok (.iconst 0, 1) := by decide +kernel
theorem dX11_paper_51 : decode cX11_paper 51 = .ok (.putfield 107, 3) := by decide +kernel
theorem dX11_paper_54 : decode cX11_paper 54 = .ok (.aload_n 0, 1) := by decide +kernel
theorem dX11_paper_55 : decode cX11_paper 55 = .ok (.invokevirtual 125, 3) := by decide +kernel
theorem dX11_paper_58 : decode cX11_paper 58 = .ok (.ireturn, 1) := by decide +kernel
theorem dX11_keepSparePaper_0 : decode cX11_keepSparePaper 0 = .ok (.aload_n 0, 1) := by decide +kernel
theorem dX11_keepSparePaper_1 : decode cX11_keepSparePaper 1 = .ok (.getfield 39, 3) := by decide +kernel
theorem dX11_keepSparePaper_4 : decode cX11_keepSparePaper 4 = .ok (.aload_n 0, 1) := by decide +kernel
theorem dX11_keepSparePaper_5 : decode cX11_keepSparePaper 5 = .ok (.getfield 56, 3) := by decide +kernel
theorem dX11_keepSparePaper_8 : decode cX11_keepSparePaper 8 = .ok (.invokevirtual 129, 3) := by decide +kernel
theorem dX11_keepSparePaper_11 : decode cX11_keepSparePaper 11 = .ok (.istore_n 1, 1) := by decide +kernel
theorem dX11_keepSparePaper_12 : decode cX11_keepSparePaper 12 = .ok (.aload_n 0, 1) := by decide +kernel
theorem dX11_keepSparePaper_13 : decode cX11_keepSparePaper 13 = .ok (.new 51, 3) := by decide +kernel
theorem dX11_keepSparePaper_16 : decode cX11_keepSparePaper 16 = .ok (.dup, 1) := by decide +kernel
theorem dX11_keepSparePaper_17 : decode cX11_keepSparePaper 17 = .ok (.bipush 12, 2) := by decide +kernel
theorem dX11_keepSparePaper_19 : decode cX11_keepSparePaper 19 = .ok (.invokespecial 53, 3) := by decide +kernel
theorem dX11_keepSparePaper_22 : decode cX11_keepSparePaper 22 = .ok (.putfield 56, 3) := by decide +kernel
theorem dX11_keepSparePaper_25 : decode cX11_keepSparePaper 25 = .ok (.iload_n 1, 1) := by decide +kernel
theorem dX11_keepSparePaper_26 : decode cX11_keepSparePaper 26 = .ok (.ireturn, 1) := by decide +kernel
theorem dX11_want_0 : decode cX11_want 0 = .ok (.aload_n 0, 1) := by decide +kernel
theorem dX11_want_1 : decode cX11_want 1 = .ok (.getfield 107, 3) := by decide +kernel
theorem dX11_want_4 : decode cX11_want 4 = .ok (.sipush 400, 3) := by decide +kernel
theorem dX11_want_7 : decode cX11_want 7 = .ok (.if_icmp .le 6, 3) := by decide +kernel
theorem dX11_want_13 : decode cX11_want 13 = .ok (.aload_n 0, 1) := by decide +kernel
theorem dX11_want_14 : decode cX11_want 14 = .ok (.getfield 16, 3) := by decide +kernel
theorem dX11_want_17 : decode cX11_want 17 = .ok (.aload_n 0, 1) := by decide +kernel
theorem dX11_want_18 : decode cX11_want 18 = .ok (.getfield 9, 3) := by decide +kernel
theorem dX11_want_21 : decode cX11_want 21 = .ok (.aload_n 0, 1) := by decide +kernel
theorem dX11_want_22 : decode cX11_want 22 = .ok (.getfield 107, 3) := by decide +kernel
theorem dX11_want_25 : decode cX11_want 25 = .ok (.invokevirtual 117, 3) := by decide +kernel
theorem dX11_want_28 : decode cX11_want 28 = .ok (.aload_n 0, 1) := by decide +kernel
theorem dX11_want_29 : decode cX11_want 29 = .ok (.getfield 32, 3) := by decide +kernel
theorem dX11_want_32 : decode cX11_want 32 = .ok (.aload_n 0, 1) := by decide +kernel
theorem dX11_want_33 : decode cX11_want 33 = .ok (.getfield 67, 3) := by decide +kernel
theorem dX11_want_36 : decode cX11_want 36 = .ok (.invokevirtual 133, 3) := by decide +kernel
theorem dX11_want_39 : decode cX11_want 39 = .ok (.ifCond .ne 5, 3) := by decide +kernel
theorem dX11_want_42 : decode cX11_want 42 = .ok (.iconst (-1), 1) := by decide +kernel
theorem dX11_want_43 : decode cX11_want 43 = .ok (.ireturn, 1) := by decide +kernel
theorem dX11_fault_0 : decode cX11_fault 0 = .ok (.iload_n 1, 1) := by decide +kernel
theorem dX11_fault_1 : decode cX11_fault 1 = .ok (.ifCond .ne 11, 3) := by decide +kernel
theorem dX11_fault_4 : decode cX11_fault 4 = .ok (.aload_n 0, 1) := by decide +kernel
theorem dX11_fault_5 : decode cX11_fault 5 = .ok (.getfield 16, 3) := by decide +kernel
theorem dX11_fault_8 : decode cX11_fault 8 = .ok (.getfield 142, 3) := by decide +kernel
theorem dX11_fault_11 : decode cX11_fault 11 = .ok (.ireturn, 1) := by decide +kernel
theorem dX11_fault_12 : decode cX11_fault 12 = .ok (.iload_n 1, 1) := by decide +kernel
theorem dX11_fault_13 : decode cX11_fault 13 = .ok (.iconst 1, 1) := by decide +kernel
theorem dX11_fault_14 : decode cX11_fault 14 = .ok (.if_icmp .ne 13, 3) := by decide +kernel
theorem dX11_fault_17 : decode cX11_fault 17 = .ok (.aload_n 0, 1) := by decide +kernel
theorem dX11_fault_18 : decode cX11_fault 18 = .ok (.getfield 16, 3) := by decide +kernel
theorem dX11_fault_21 : decode cX11_fault 21 = .ok (.getfield 145, 3) := by decide +kernel
theorem dX11_fault_24 : decode cX11_fault 24 = .ok (.goto 4, 3) := by decide +kernel
theorem dX11_fault_27 : decode cX11_fault 27 = .ok (.iconst (-1), 1) := by decide +kernel
theorem dX11_fault_28 : decode cX11_fault 28 = .ok (.ireturn, 1) := by decide +kernel
theorem dX11_makes_0 : decode cX11_makes 0 = .ok (.aload_n 0, 1) := by decide +kernel
theorem dX11_makes_1 : decode cX11_makes 1 = .ok (.getfield 39, 3) := by decide +kernel
theorem dX11_makes_4 : decode cX11_makes 4 = .ok (.iload_n 1, 1) := by decide +kernel
theorem dX11_makes_5 : decode cX11_makes 5 = .ok (.invokevirtual 148, 3) := by decide +kernel
theorem dX11_makes_8 : decode cX11_makes 8 = .ok (.astore_n 3, 1) := by decide +kernel
theorem dX11_makes_9 : decode cX11_makes 9 = .ok (.aload_n 3, 1) := by decide +kernel
theorem dX11_makes_10 : decode cX11_makes 10 = .ok (.ifnonnull 5, 3) := by decide +kernel
theorem dX11_makes_13 : decode cX11_makes 13 = .ok (.iconst (-1), 1) := by decide +kernel
theorem dX11_makes_14 : decode cX11_makes 14 = .ok (.ireturn, 1) := by decide +kernel
theorem dX11_step_0 : decode cX11_step 0 = .ok (.aload_n 0, 1) := by decide +kernel
theorem dX11_step_1 : decode cX11_step 1 = .ok (.getfield 39, 3) := by decide +kernel
theorem dX11_step_4 : decode cX11_step 4 = .ok (.iload_n 1, 1) := by decide +kernel
theorem dX11_step_5 : decode cX11_step 5 = .ok (.invokevirtual 148, 3) := by decide +kernel
theorem dX11_step_8 : decode cX11_step 8 = .ok (.astore 4, 2) := by decide +kernel
theorem dX11_step_10 : decode cX11_step 10 = .ok (.aload 4, 2) := by decide +kernel
theorem dX11_step_12 : decode cX11_step 12 = .ok (.ifnull 12, 3) := by decide +kernel
theorem dX11_step_24 : decode cX11_step 24 = .ok (.iconst (-1), 1) := by decide +kernel
theorem dX11_step_25 : decode cX11_step 25 = .ok (.ireturn, 1) := by decide +kernel
theorem dX11_same_0 : decode cX11_same 0 = .ok (.aload_n 0, 1) := by decide +kernel
theorem dX11_same_1 : decode cX11_same 1 = .ok (.getfield 39, 3) := by decide +kernel
theorem dX11_same_4 : decode cX11_same 4 = .ok (.iload_n 1, 1) := by decide +kernel
theorem dX11_same_5 : decode cX11_same 5 = .ok (.invokevirtual 148, 3) := by decide +kernel
theorem dX11_same_8 : decode cX11_same 8 = .ok (.astore_n 3, 1) := by decide +kernel
theorem dX11_same_9 : decode cX11_same 9 = .ok (.aload_n 0, 1) := by decide +kernel
theorem dX11_same_10 : decode cX11_same 10 = .ok (.getfield 39, 3) := by decide +kernel
theorem dX11_same_13 : decode cX11_same 13 = .ok (.iload_n 2, 1) := by decide +kernel
theorem dX11_same_14 : decode cX11_same 14 = .ok (.invokevirtual 148, 3) := by decide +kernel
theorem dX11_same_17 : decode cX11_same 17 = .ok (.astore 4, 2) := by decide +kernel
theorem dX11_same_19 : decode cX11_same 19 = .ok (.aload_n 3, 1) := by decide +kernel
theorem dX11_same_20 : decode cX11_same 20 = .ok (.ifnull 8, 3) := by decide +kernel
theorem dX11_same_28 : decode cX11_same 28 = .ok (.iconst (-1), 1) := by decide +kernel
theorem dX11_same_29 : decode cX11_same 29 = .ok (.ireturn, 1) := by decide +kernel
theorem dX11_alike_0 : decode cX11_alike 0 = .ok (.aload_n 0, 1) := by decide +kernel
theorem dX11_alike_1 : decode cX11_alike 1 = .ok (.getfield 39, 3) := by decide +kernel
theorem dX11_alike_4 : decode cX11_alike 4 = .ok (.iload_n 1, 1) := by decide +kernel
theorem dX11_alike_5 : decode cX11_alike 5 = .ok (.invokevirtual 148, 3) := by decide +kernel
theorem dX11_alike_8 : decode cX11_alike 8 = .ok (.astore 4, 2) := by decide +kernel
theorem dX11_alike_10 : decode cX11_alike 10 = .ok (.aload_n 0, 1) := by decide +kernel
theorem dX11_alike_11 : decode cX11_alike 11 = .ok (.getfield 39, 3) := by decide +kernel
theorem dX11_alike_14 : decode cX11_alike 14 = .ok (.iload_n 3, 1) := by decide +kernel
theorem dX11_alike_15 : decode cX11_alike 15 = .ok (.invokevirtual 148, 3) := by decide +kernel
theorem dX11_alike_18 : decode cX11_alike 18 = .ok (.astore 5, 2) := by decide +kernel
theorem dX11_alike_20 : decode cX11_alike 20 = .ok (.aload 4, 2) := by decide +kernel
theorem dX11_alike_22 : decode cX11_alike 22 = .ok (.ifnull 17, 3) := by decide +kernel
theorem dX11_alike_39 : decode cX11_alike 39 = .ok (.iconst (-1), 1) := by decide +kernel
theorem dX11_alike_40 : decode cX11_alike 40 = .ok (.ireturn, 1) := by decide +kernel
theorem dX11_changes_0 : decode cX11_changes 0 = .ok (.aload_n 0, 1) := by decide +kernel
theorem dX11_changes_1 : decode cX11_changes 1 = .ok (.aload_n 0, 1) := by decide +kernel
theorem dX11_changes_2 : decode cX11_changes 2 = .ok (.getfield 96, 3) := by decide +kernel
theorem dX11_changes_5 : decode cX11_changes 5 = .ok (.iload_n 1, 1) := by decide +kernel
theorem dX11_changes_6 : decode cX11_changes 6 = .ok (.iload_n 2, 1) := by decide +kernel
theorem dX11_changes_7 : decode cX11_changes 7 = .ok (.invokevirtual 201, 3) := by decide +kernel
theorem dX11_changes_10 : decode cX11_changes 10 = .ok (.ifCond .eq 13, 3) := by decide +kernel
theorem dX11_changes_23 : decode cX11_changes 23 = .ok (.iconst (-1), 1) := by decide +kernel
theorem dX11_changes_24 : decode cX11_changes 24 = .ok (.ireturn, 1) := by decide +kernel
theorem dX11_listChanges_0 : decode cX11_listChanges 0 = .ok (.aload_n 0, 1) := by decide +kernel
theorem dX11_listChanges_1 : decode cX11_listChanges 1 = .ok (.getfield 39, 3) := by decide +kernel
theorem dX11_listChanges_4 : decode cX11_listChanges 4 = .ok (.iload_n 2, 1) := by decide +kernel
theorem dX11_listChanges_5 : decode cX11_listChanges 5 = .ok (.invokevirtual 148, 3) := by decide +kernel
theorem dX11_listChanges_8 : decode cX11_listChanges 8 = .ok (.astore 4, 2) := by decide +kernel
theorem dX11_listChanges_10 : decode cX11_listChanges 10 = .ok (.aload_n 0, 1) := by decide +kernel
theorem dX11_listChanges_11 : decode cX11_listChanges 11 = .ok (.getfield 39, 3) := by decide +kernel
theorem dX11_listChanges_14 : decode cX11_listChanges 14 = .ok (.iload_n 3, 1) := by decide +kernel
theorem dX11_listChanges_15 : decode cX11_listChanges 15 = .ok (.invokevirtual 148, 3) := by decide +kernel
theorem dX11_listChanges_18 : decode cX11_listChanges 18 = .ok (.astore 5, 2) := by decide +kernel
theorem dX11_listChanges_20 : decode cX11_listChanges 20 = .ok (.aload 4, 2) := by decide +kernel
theorem dX11_listChanges_22 : decode cX11_listChanges 22 = .ok (.ifnull 8, 3) := by decide +kernel
theorem dX11_listChanges_30 : decode cX11_listChanges 30 = .ok (.iconst 0, 1) := by decide +kernel
theorem dX11_listChanges_31 : decode cX11_listChanges 31 = .ok (.ireturn, 1) := by decide +kernel
theorem dX11_change_0 : decode cX11_change 0 = .ok (.aload_n 0, 1) := by decide +kernel
theorem dX11_change_1 : decode cX11_change 1 = .ok (.aload_n 0, 1) := by decide +kernel
theorem dX11_change_2 : decode cX11_change 2 = .ok (.getfield 96, 3) := by decide +kernel
theorem dX11_change_5 : decode cX11_change 5 = .ok (.iload_n 1, 1) := by decide +kernel
theorem dX11_change_6 : decode cX11_change 6 = .ok (.iload_n 2, 1) := by decide +kernel
theorem dX11_change_7 : decode cX11_change 7 = .ok (.invokevirtual 201, 3) := by decide +kernel
theorem dX11_change_10 : decode cX11_change 10 = .ok (.ifCond .eq 14, 3) := by decide +kernel
theorem dX11_change_24 : decode cX11_change 24 = .ok (.iconst (-1), 1) := by decide +kernel
theorem dX11_change_25 : decode cX11_change 25 = .ok (.ireturn, 1) := by decide +kernel
theorem dX11_least_0 : decode cX11_least 0 = .ok (.aload_n 0, 1) := by decide +kernel
theorem dX11_least_1 : decode cX11_least 1 = .ok (.getfield 39, 3) := by decide +kernel
theorem dX11_least_4 : decode cX11_least 4 = .ok (.iload_n 1, 1) := by decide +kernel
theorem dX11_least_5 : decode cX11_least 5 = .ok (.invokevirtual 148, 3) := by decide +kernel
theorem dX11_least_8 : decode cX11_least 8 = .ok (.astore_n 3, 1) := by decide +kernel
theorem dX11_least_9 : decode cX11_least 9 = .ok (.aload_n 0, 1) := by decide +kernel
theorem dX11_least_10 : decode cX11_least 10 = .ok (.getfield 39, 3) := by decide +kernel
theorem dX11_least_13 : decode cX11_least 13 = .ok (.iload_n 2, 1) := by decide +kernel
theorem dX11_least_14 : decode cX11_least 14 = .ok (.invokevirtual 148, 3) := by decide +kernel
theorem dX11_least_17 : decode cX11_least 17 = .ok (.astore 4, 2) := by decide +kernel
theorem dX11_least_19 : decode cX11_least 19 = .ok (.aload_n 3, 1) := by decide +kernel
theorem dX11_least_20 : decode cX11_least 20 = .ok (.ifnull 8, 3) := by decide +kernel
theorem dX11_least_28 : decode cX11_least 28 = .ok (.iconst (-1), 1) := by decide +kernel
theorem dX11_least_29 : decode cX11_least 29 = .ok (.ireturn, 1) := by decide +kernel
theorem dX11_does_0 : decode cX11_does 0 = .ok (.aload_n 0, 1) := by decide +kernel
theorem dX11_does_1 : decode cX11_does 1 = .ok (.aload_n 0, 1) := by decide +kernel
theorem dX11_does_2 : decode cX11_does 2 = .ok (.getfield 96, 3) := by decide +kernel
theorem dX11_does_5 : decode cX11_does 5 = .ok (.iload_n 1, 1) := by decide +kernel
theorem dX11_does_6 : decode cX11_does 6 = .ok (.iload_n 2, 1) := by decide +kernel
theorem dX11_does_7 : decode cX11_does 7 = .ok (.invokevirtual 201, 3) := by decide +kernel
theorem dX11_does_10 : decode cX11_does 10 = .ok (.ifCond .ne 6, 3) := by decide +kernel
theorem dX11_does_13 : decode cX11_does 13 = .ok (.ldc 224, 2) := by decide +kernel
theorem dX11_does_15 : decode cX11_does 15 = .ok (.ireturn, 1) := by decide +kernel
theorem dX11_join_0 : decode cX11_join 0 = .ok (.aload_n 0, 1) := by decide +kernel
theorem dX11_join_1 : decode cX11_join 1 = .ok (.getfield 39, 3) := by decide +kernel
theorem dX11_join_4 : decode cX11_join 4 = .ok (.iload_n 1, 1) := by decide +kernel
theorem dX11_join_5 : decode cX11_join 5 = .ok (.invokevirtual 148, 3) := by decide +kernel
theorem dX11_join_8 : decode cX11_join 8 = .ok (.astore 4, 2) := by decide +kernel
theorem dX11_join_10 : decode cX11_join 10 = .ok (.aload_n 0, 1) := by decide +kernel
theorem dX11_join_11 : decode cX11_join 11 = .ok (.getfield 39, 3) := by decide +kernel
theorem dX11_join_14 : decode cX11_join 14 = .ok (.iload_n 2, 1) := by decide +kernel
theorem dX11_join_15 : decode cX11_join 15 = .ok (.invokevirtual 148, 3) := by decide +kernel
theorem dX11_join_18 : decode cX11_join 18 = .ok (.astore 5, 2) := by decide +kernel
theorem dX11_join_20 : decode cX11_join 20 = .ok (.aload_n 0, 1) := by decide +kernel
theorem dX11_join_21 : decode cX11_join 21 = .ok (.getfield 39, 3) := by decide +kernel
theorem dX11_join_24 : decode cX11_join 24 = .ok (.iload_n 3, 1) := by decide +kernel
theorem dX11_join_25 : decode cX11_join 25 = .ok (.invokevirtual 148, 3) := by decide +kernel
theorem dX11_join_28 : decode cX11_join 28 = .ok (.astore 6, 2) := by decide +kernel
theorem dX11_join_30 : decode cX11_join 30 = .ok (.aload 4, 2) := by decide +kernel
theorem dX11_join_32 : decode cX11_join 32 = .ok (.ifnull 13, 3) := by decide +kernel
theorem dX11_join_45 : decode cX11_join 45 = .ok (.iconst (-1), 1) := by decide +kernel
theorem dX11_join_46 : decode cX11_join 46 = .ok (.ireturn, 1) := by decide +kernel
theorem dX11_quarrel_0 : decode cX11_quarrel 0 = .ok (.aload_n 0, 1) := by decide +kernel
theorem dX11_quarrel_1 : decode cX11_quarrel 1 = .ok (.getfield 39, 3) := by decide +kernel
theorem dX11_quarrel_4 : decode cX11_quarrel 4 = .ok (.getfield 251, 3) := by decide +kernel
theorem dX11_quarrel_7 : decode cX11_quarrel 7 = .ok (.astore_n 3, 1) := by decide +kernel
theorem dX11_quarrel_8 : decode cX11_quarrel 8 = .ok (.aload_n 3, 1) := by decide +kernel
theorem dX11_quarrel_9 : decode cX11_quarrel 9 = .ok (.iload_n 1, 1) := by decide +kernel
theorem dX11_quarrel_10 : decode cX11_quarrel 10 = .ok (.invokevirtual 264, 3) := by decide +kernel
theorem dX11_quarrel_13 : decode cX11_quarrel 13 = .ok (.ifCond .ne 5, 3) := by decide +kernel
theorem dX11_quarrel_16 : decode cX11_quarrel 16 = .ok (.iconst (-1), 1) := by decide +kernel
theorem dX11_quarrel_17 : decode cX11_quarrel 17 = .ok (.ireturn, 1) := by decide +kernel
theorem dX11_settle_0 : decode cX11_settle 0 = .ok (.aload_n 0, 1) := by decide +kernel
theorem dX11_settle_1 : decode cX11_settle 1 = .ok (.getfield 39, 3) := by decide +kernel
theorem dX11_settle_4 : decode cX11_settle 4 = .ok (.getfield 251, 3) := by decide +kernel
theorem dX11_settle_7 : decode cX11_settle 7 = .ok (.iload_n 1, 1) := by decide +kernel
theorem dX11_settle_8 : decode cX11_settle 8 = .ok (.invokevirtual 264, 3) := by decide +kernel
theorem dX11_settle_11 : decode cX11_settle 11 = .ok (.ifCond .eq 12, 3) := by decide +kernel
theorem dX11_settle_23 : decode cX11_settle 23 = .ok (.iconst 0, 1) := by decide +kernel
theorem dX11_settle_24 : decode cX11_settle 24 = .ok (.ireturn, 1) := by decide +kernel
theorem dX11_joined_0 : decode cX11_joined 0 = .ok (.aload_n 0, 1) := by decide +kernel
theorem dX11_joined_1 : decode cX11_joined 1 = .ok (.getfield 39, 3) := by decide +kernel
theorem dX11_joined_4 : decode cX11_joined 4 = .ok (.getfield 251, 3) := by decide +kernel
theorem dX11_joined_7 : decode cX11_joined 7 = .ok (.astore_n 1, 1) := by decide +kernel
theorem dX11_joined_8 : decode cX11_joined 8 = .ok (.aload_n 1, 1) := by decide +kernel
theorem dX11_joined_9 : decode cX11_joined 9 = .ok (.invokevirtual 280, 3) := by decide +kernel
theorem dX11_joined_12 : decode cX11_joined 12 = .ok (.ifCond .eq 13, 3) := by decide +kernel
theorem dX11_joined_25 : decode cX11_joined 25 = .ok (.iconst (-1), 1) := by decide +kernel
theorem dX11_joined_26 : decode cX11_joined 26 = .ok (.ireturn, 1) := by decide +kernel
theorem dX11_best_0 : decode cX11_best 0 = .ok (.aload_n 0, 1) := by decide +kernel
theorem dX11_best_1 : decode cX11_best 1 = .ok (.getfield 39, 3) := by decide +kernel
theorem dX11_best_4 : decode cX11_best 4 = .ok (.getfield 251, 3) := by decide +kernel
theorem dX11_best_7 : decode cX11_best 7 = .ok (.astore_n 2, 1) := by decide +kernel
theorem dX11_best_8 : decode cX11_best 8 = .ok (.aload_n 2, 1) := by decide +kernel
theorem dX11_best_9 : decode cX11_best 9 = .ok (.invokevirtual 280, 3) := by decide +kernel
theorem dX11_best_12 : decode cX11_best 12 = .ok (.ifCond .ne 6, 3) := by decide +kernel
theorem dX11_best_15 : decode cX11_best 15 = .ok (.ldc 224, 2) := by decide +kernel
theorem dX11_best_17 : decode cX11_best 17 = .ok (.ireturn, 1) := by decide +kernel
theorem dX11_left_0 : decode cX11_left 0 = .ok (.aload_n 0, 1) := by decide +kernel
theorem dX11_left_1 : decode cX11_left 1 = .ok (.getfield 39, 3) := by decide +kernel
theorem dX11_left_4 : decode cX11_left 4 = .ok (.getfield 251, 3) := by decide +kernel
theorem dX11_left_7 : decode cX11_left 7 = .ok (.astore_n 2, 1) := by decide +kernel
theorem dX11_left_8 : decode cX11_left 8 = .ok (.aload_n 2, 1) := by decide +kernel
theorem dX11_left_9 : decode cX11_left 9 = .ok (.invokevirtual 280, 3) := by decide +kernel
theorem dX11_left_12 : decode cX11_left 12 = .ok (.ifCond .ne 5, 3) := by decide +kernel
theorem dX11_left_15 : decode cX11_left 15 = .ok (.iconst (-1), 1) := by decide +kernel
theorem dX11_left_16 : decode cX11_left 16 = .ok (.ireturn, 1) := by decide +kernel
theorem dX11_ruin_0 : decode cX11_ruin 0 = .ok (.aload_n 0, 1) := by decide +kernel
theorem dX11_ruin_1 : decode cX11_ruin 1 = .ok (.aload_n 0, 1) := by decide +kernel
theorem dX11_ruin_2 : decode cX11_ruin 2 = .ok (.getfield 96, 3) := by decide +kernel
theorem dX11_ruin_5 : decode cX11_ruin 5 = .ok (.iload_n 1, 1) := by decide +kernel
theorem dX11_ruin_6 : decode cX11_ruin 6 = .ok (.iload_n 2, 1) := by decide +kernel
theorem dX11_ruin_7 : decode cX11_ruin 7 = .ok (.invokevirtual 201, 3) := by decide +kernel
theorem dX11_ruin_10 : decode cX11_ruin 10 = .ok (.ifCond .eq 16, 3) := by decide +kernel
theorem dX11_ruin_26 : decode cX11_ruin 26 = .ok (.iconst (-1), 1) := by decide +kernel
theorem dX11_ruin_27 : decode cX11_ruin 27 = .ok (.ireturn, 1) := by decide +kernel
theorem dX11_law_0 : decode cX11_law 0 = .ok (.aload_n 0, 1) := by decide +kernel
theorem dX11_law_1 : decode cX11_law 1 = .ok (.getfield 39, 3) := by decide +kernel
theorem dX11_law_4 : decode cX11_law 4 = .ok (.iload_n 2, 1) := by decide +kernel
theorem dX11_law_5 : decode cX11_law 5 = .ok (.invokevirtual 148, 3) := by decide +kernel
theorem dX11_law_8 : decode cX11_law 8 = .ok (.astore 6, 2) := by decide +kernel
theorem dX11_law_10 : decode cX11_law 10 = .ok (.aload_n 0, 1) := by decide +kernel
theorem dX11_law_11 : decode cX11_law 11 = .ok (.getfield 39, 3) := by decide +kernel
theorem dX11_law_14 : decode cX11_law 14 = .ok (.iload_n 3, 1) := by decide +kernel
theorem dX11_law_15 : decode cX11_law 15 = .ok (.invokevirtual 148, 3) := by decide +kernel
theorem dX11_law_18 : decode cX11_law 18 = .ok (.astore 7, 2) := by decide +kernel
theorem dX11_law_20 : decode cX11_law 20 = .ok (.iload_n 1, 1) := by decide +kernel
theorem dX11_law_21 : decode cX11_law 21 = .ok (.ifCond .lt 18, 3) := by decide +kernel
theorem dX11_law_24 : decode cX11_law 24 = .ok (.iload_n 1, 1) := by decide +kernel
theorem dX11_law_25 : decode cX11_law 25 = .ok (.iconst 2, 1) := by decide +kernel
theorem dX11_law_26 : decode cX11_law 26 = .ok (.if_icmp .gt 13, 3) := by decide +kernel
theorem dX11_law_29 : decode cX11_law 29 = .ok (.aload 6, 2) := by decide +kernel
theorem dX11_law_31 : decode cX11_law 31 = .ok (.ifnull 8, 3) := by decide +kernel
theorem dX11_law_39 : decode cX11_law 39 = .ok (.iconst (-1), 1) := by decide +kernel
theorem dX11_law_40 : decode cX11_law 40 = .ok (.ireturn, 1) := by decide +kernel
theorem dX11_three_0 : decode cX11_three 0 = .ok (.aload_n 0, 1) := by decide +kernel
theorem dX11_three_1 : decode cX11_three 1 = .ok (.getfield 39, 3) := by decide +kernel
theorem dX11_three_4 : decode cX11_three 4 = .ok (.iload_n 1, 1) := by decide +kernel
theorem dX11_three_5 : decode cX11_three 5 = .ok (.invokevirtual 148, 3) := by decide +kernel
theorem dX11_three_8 : decode cX11_three 8 = .ok (.astore 6, 2) := by decide +kernel
theorem dX11_three_10 : decode cX11_three 10 = .ok (.aload_n 0, 1) := by decide +kernel
theorem dX11_three_11 : decode cX11_three 11 = .ok (.getfield 39, 3) := by decide +kernel
theorem dX11_three_14 : decode cX11_three 14 = .ok (.iload_n 2, 1) := by decide +kernel
theorem dX11_three_15 : decode cX11_three 15 = .ok (.invokevirtual 148, 3) := by decide +kernel
theorem dX11_three_18 : decode cX11_three 18 = .ok (.astore 7, 2) := by decide +kernel
theorem dX11_three_20 : decode cX11_three 20 = .ok (.aload_n 0, 1) := by decide +kernel
theorem dX11_three_21 : decode cX11_three 21 = .ok (.getfield 39, 3) := by decide +kernel
theorem dX11_three_24 : decode cX11_three 24 = .ok (.iload_n 3, 1) := by decide +kernel
theorem dX11_three_25 : decode cX11_three 25 = .ok (.invokevirtual 148, 3) := by decide +kernel
theorem dX11_three_28 : decode cX11_three 28 = .ok (.astore 8, 2) := by decide +kernel
theorem dX11_three_30 : decode cX11_three 30 = .ok (.aload_n 0, 1) := by decide +kernel
theorem dX11_three_31 : decode cX11_three 31 = .ok (.getfield 39, 3) := by decide +kernel
theorem dX11_three_34 : decode cX11_three 34 = .ok (.iload 4, 2) := by decide +kernel
theorem dX11_three_36 : decode cX11_three 36 = .ok (.invokevirtual 148, 3) := by decide +kernel
theorem dX11_three_39 : decode cX11_three 39 = .ok (.astore 9, 2) := by decide +kernel
theorem dX11_three_41 : decode cX11_three 41 = .ok (.aload 6, 2) := by decide +kernel
theorem dX11_three_43 : decode cX11_three 43 = .ok (.ifnull 18, 3) := by decide +kernel
theorem dX11_three_61 : decode cX11_three 61 = .ok (.iconst (-1), 1) := by decide +kernel
theorem dX11_three_62 : decode cX11_three 62 = .ok (.ireturn, 1) := by decide +kernel
theorem dX11_leans_0 : decode cX11_leans 0 = .ok (.aload_n 0, 1) := by decide +kernel
theorem dX11_leans_1 : decode cX11_leans 1 = .ok (.aload_n 0, 1) := by decide +kernel
theorem dX11_leans_2 : decode cX11_leans 2 = .ok (.getfield 96, 3) := by decide +kernel
theorem dX11_leans_5 : decode cX11_leans 5 = .ok (.iload_n 1, 1) := by decide +kernel
theorem dX11_leans_6 : decode cX11_leans 6 = .ok (.iload_n 2, 1) := by decide +kernel
theorem dX11_leans_7 : decode cX11_leans 7 = .ok (.invokevirtual 201, 3) := by decide +kernel
theorem dX11_leans_10 : decode cX11_leans 10 = .ok (.ifCond .eq 14, 3) := by decide +kernel
theorem dX11_leans_24 : decode cX11_leans 24 = .ok (.iconst (-1), 1) := by decide +kernel
theorem dX11_leans_25 : decode cX11_leans 25 = .ok (.ireturn, 1) := by decide +kernel
theorem dX11_begun_0 : decode cX11_begun 0 = .ok (.aload_n 0, 1) := by decide +kernel
theorem dX11_begun_1 : decode cX11_begun 1 = .ok (.getfield 39, 3) := by decide +kernel
theorem dX11_begun_4 : decode cX11_begun 4 = .ok (.iload_n 1, 1) := by decide +kernel
theorem dX11_begun_5 : decode cX11_begun 5 = .ok (.invokevirtual 148, 3) := by decide +kernel
theorem dX11_begun_8 : decode cX11_begun 8 = .ok (.astore 5, 2) := by decide +kernel
theorem dX11_begun_10 : decode cX11_begun 10 = .ok (.aload_n 0, 1) := by decide +kernel
theorem dX11_begun_11 : decode cX11_begun 11 = .ok (.getfield 39, 3) := by decide +kernel
theorem dX11_begun_14 : decode cX11_begun 14 = .ok (.iload_n 3, 1) := by decide +kernel
theorem dX11_begun_15 : decode cX11_begun 15 = .ok (.invokevirtual 148, 3) := by decide +kernel
theorem dX11_begun_18 : decode cX11_begun 18 = .ok (.astore 6, 2) := by decide +kernel
theorem dX11_begun_20 : decode cX11_begun 20 = .ok (.aload 5, 2) := by decide +kernel
theorem dX11_begun_22 : decode cX11_begun 22 = .ok (.ifnull 21, 3) := by decide +kernel
theorem dX11_begun_43 : decode cX11_begun 43 = .ok (.iconst (-1), 1) := by decide +kernel
theorem dX11_begun_44 : decode cX11_begun 44 = .ok (.ireturn, 1) := by decide +kernel
theorem dX11_tear_0 : decode cX11_tear 0 = .ok (.aload_n 0, 1) := by decide +kernel
theorem dX11_tear_1 : decode cX11_tear 1 = .ok (.getfield 39, 3) := by decide +kernel
theorem dX11_tear_4 : decode cX11_tear 4 = .ok (.iload_n 1, 1) := by decide +kernel
theorem dX11_tear_5 : decode cX11_tear 5 = .ok (.invokevirtual 148, 3) := by decide +kernel
theorem dX11_tear_8 : decode cX11_tear 8 = .ok (.ifnonnull 5, 3) := by decide +kernel
theorem dX11_tear_11 : decode cX11_tear 11 = .ok (.iconst 0, 1) := by decide +kernel
theorem dX11_tear_12 : decode cX11_tear 12 = .ok (.ireturn, 1) := by decide +kernel
theorem dX11_image_0 : decode cX11_image 0 = .ok (.iload_n 1, 1) := by decide +kernel
theorem dX11_image_1 : decode cX11_image 1 = .ok (.ifCond .lt 8, 3) := by decide +kernel
theorem dX11_image_4 : decode cX11_image 4 = .ok (.iload_n 1, 1) := by decide +kernel
theorem dX11_image_5 : decode cX11_image 5 = .ok (.iconst 3, 1) := by decide +kernel
theorem dX11_image_6 : decode cX11_image 6 = .ok (.if_icmp .lt 5, 3) := by decide +kernel
theorem dX11_image_9 : decode cX11_image 9 = .ok (.iconst (-1), 1) := by decide +kernel
theorem dX11_image_10 : decode cX11_image 10 = .ok (.ireturn, 1) := by decide +kernel
theorem dX11_image_11 : decode cX11_image 11 = .ok (.aload_n 0, 1) := by decide +kernel
theorem dX11_image_12 : decode cX11_image 12 = .ok (.getfield 47, 3) := by decide +kernel
theorem dX11_image_15 : decode cX11_image 15 = .ok (.iload_n 1, 1) := by decide +kernel
theorem dX11_image_16 : decode cX11_image 16 = .ok (.aaload, 1) := by decide +kernel
theorem dX11_image_17 : decode cX11_image 17 = .ok (.aload_n 0, 1) := by decide +kernel
theorem dX11_image_18 : decode cX11_image 18 = .ok (.getfield 39, 3) := by decide +kernel
theorem dX11_image_21 : decode cX11_image 21 = .ok (.invokevirtual 362, 3) := by decide +kernel
theorem dX11_image_24 : decode cX11_image 24 = .ok (.aload_n 0, 1) := by decide +kernel
theorem dX11_image_25 : decode cX11_image 25 = .ok (.getfield 39, 3) := by decide +kernel
theorem dX11_image_28 : decode cX11_image 28 = .ok (.getfield 43, 3) := by decide +kernel
theorem dX11_image_31 : decode cX11_image 31 = .ok (.ireturn, 1) := by decide +kernel
theorem dX11_back_0 : decode cX11_back 0 = .ok (.iload_n 1, 1) := by decide +kernel
theorem dX11_back_1 : decode cX11_back 1 = .ok (.ifCond .lt 21, 3) := by decide +kernel
theorem dX11_back_4 : decode cX11_back 4 = .ok (.iload_n 1, 1) := by decide +kernel
theorem dX11_back_5 : decode cX11_back 5 = .ok (.iconst 3, 1) := by decide +kernel
theorem dX11_back_6 : decode cX11_back 6 = .ok (.if_icmp .ge 16, 3) := by decide +kernel
theorem dX11_back_9 : decode cX11_back 9 = .ok (.aload_n 0, 1) := by decide +kernel
theorem dX11_back_10 : decode cX11_back 10 = .ok (.getfield 47, 3) := by decide +kernel
theorem dX11_back_13 : decode cX11_back 13 = .ok (.iload_n 1, 1) := by decide +kernel
theorem dX11_back_14 : decode cX11_back 14 = .ok (.aaload, 1) := by decide +kernel
theorem dX11_back_15 : decode cX11_back 15 = .ok (.getfield 43, 3) := by decide +kernel
theorem dX11_back_18 : decode cX11_back 18 = .ok (.iconst (-1), 1) := by decide +kernel
theorem dX11_back_19 : decode cX11_back 19 = .ok (.if_icmp .ne 5, 3) := by decide +kernel
theorem dX11_back_22 : decode cX11_back 22 = .ok (.iconst (-1), 1) := by decide +kernel
theorem dX11_back_23 : decode cX11_back 23 = .ok (.ireturn, 1) := by decide +kernel
theorem dX11_about_0 : decode cX11_about 0 = .ok (.aload_n 0, 1) := by decide +kernel
theorem dX11_about_1 : decode cX11_about 1 = .ok (.getfield 39, 3) := by decide +kernel
theorem dX11_about_4 : decode cX11_about 4 = .ok (.getfield 251, 3) := by decide +kernel
theorem dX11_about_7 : decode cX11_about 7 = .ok (.invokevirtual 280, 3) := by decide +kernel
theorem dX11_about_10 : decode cX11_about 10 = .ok (.istore_n 2, 1) := by decide +kernel
theorem dX11_about_11 : decode cX11_about 11 = .ok (.iload_n 1, 1) := by decide +kernel
theorem dX11_about_12 : decode cX11_about 12 = .ok (.tableswitch 95 0 4 #[36, 44, 52, 71, 90], 36) := by decide +kernel
theorem dX11_about_48 : decode cX11_about 48 = .ok (.aload_n 0, 1) := by decide +kernel
theorem dX11_about_49 : decode cX11_about 49 = .ok (.getfield 39, 3) := by decide +kernel
theorem dX11_about_52 : decode cX11_about 52 = .ok (.getfield 43, 3) := by decide +kernel
theorem dX11_about_55 : decode cX11_about 55 = .ok (.ireturn, 1) := by decide +kernel
theorem dX11_about_56 : decode cX11_about 56 = .ok (.aload_n 0, 1) := by decide +kernel
theorem dX11_about_57 : decode cX11_about 57 = .ok (.getfield 63, 3) := by decide +kernel
theorem dX11_about_60 : decode cX11_about 60 = .ok (.getfield 139, 3) := by decide +kernel
theorem dX11_about_63 : decode cX11_about 63 = .ok (.ireturn, 1) := by decide +kernel
theorem dX11_about_64 : decode cX11_about 64 = .ok (.iload_n 2, 1) := by decide +kernel
theorem dX11_about_65 : decode cX11_about 65 = .ok (.ifCond .eq 16, 3) := by decide +kernel
theorem dX11_about_81 : decode cX11_about 81 = .ok (.iconst (-1), 1) := by decide +kernel
theorem dX11_about_82 : decode cX11_about 82 = .ok (.ireturn, 1) := by decide +kernel
theorem dX11_about_83 : decode cX11_about 83 = .ok (.iload_n 2, 1) := by decide +kernel
theorem dX11_about_84 : decode cX11_about 84 = .ok (.ifCond .eq 16, 3) := by decide +kernel
theorem dX11_about_100 : decode cX11_about 100 = .ok (.iconst (-1), 1) := by decide +kernel
theorem dX11_about_101 : decode cX11_about 101 = .ok (.ireturn, 1) := by decide +kernel
theorem dX11_about_102 : decode cX11_about 102 = .ok (.aload_n 0, 1) := by decide +kernel
theorem dX11_about_103 : decode cX11_about 103 = .ok (.getfield 107, 3) := by decide +kernel
theorem dX11_about_106 : decode cX11_about 106 = .ok (.ireturn, 1) := by decide +kernel
theorem dX11_about_107 : decode cX11_about 107 = .ok (.iconst (-1), 1) := by decide +kernel
theorem dX11_about_108 : decode cX11_about 108 = .ok (.ireturn, 1) := by decide +kernel
abbrev vwCl : List vw_C := [(RX0, TX0, 7), (RX1, TX1, 3), (RX2, TX2, 4), (RX3, TX3, 11), (RX4, TX4, 13), (RX5, TX5, 6), (RX6, TX6, 14), (RX7, TX7, 4), (RX8, TX8, 10), (RX9, TX9, 5), (RX10, TX10, 2), (RX11, TX11, 16), (RX12, TX12, 80)]
