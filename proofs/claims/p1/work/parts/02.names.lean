theorem goodIn_app {big a b : List Cond} (ha : GoodIn big a) (hb : GoodIn big b) : GoodIn big (a ++ b) := fun w h => (List.mem_append.mp h).elim (ha w) (hb w)
theorem goodIn_ca {big a b : List Cond} {c : Cond} (ha : GoodIn big (c :: a)) (hb : GoodIn big b) : GoodIn big (c :: (a ++ b)) := fun w h => (List.mem_cons.mp h).elim (fun e => ha w (List.mem_cons.mpr (Or.inl e))) (fun h => (List.mem_append.mp h).elim (fun h => ha w (List.mem_cons.mpr (Or.inr h))) (hb w))
theorem goodIn_sub {big ws : List Cond} (hm : ∀ w ∈ ws, w ∈ big) (h : ws.all goodWord = true) : GoodIn big ws := fun w hw => ⟨hm w hw, good_of_word (List.all_eq_true.mp h w hw)⟩
def RX0 : String := "CakePapers$Changes"
def TX0 : u_T := fun k => match k with
  | 0 => ("CakePapers$Changes", "kinds", "[I", true)
  | 1 => ("CakePapers$Changes", "steps", "[I", true)
  | 2 => ("CakePapers$Changes", "signs", "[I", true)
  | 3 => ("CakePapers$Changes", "otherSigns", "[I", true)
  | 4 => ("CakePapers$Changes", "count", "I", false)
  | 5 => ("CakePapers$Changes", "from", "LCakePapers$Paper;", false)
  | _ => ("CakePapers$Changes", "to", "LCakePapers$Paper;", false)
def tyX0 : Nat → FieldType := fun k => match k with
  | 0 => .array .int
  | 1 => .array .int
  | 2 => .array .int
  | 3 => .array .int
  | 4 => .int
  | 5 => .object "CakePapers$Paper"
  | _ => .object "CakePapers$Paper"
abbrev wsX00 : List Cond := u_ws RX0 TX0 7
theorem nmX0 : ∀ a, a < 7 → ∀ b, b < 7 → a ≠ b → (TX0 a).2.1 ≠ (TX0 b).2.1 := by decide +kernel
theorem tyX0_ok : ∀ k, k < 7 → parseFieldDescriptor (TX0 k).2.2.1 = some (tyX0 k) := by decide +kernel
abbrev cX0_init : ByteArray := prog_2_method_1_code
def yX0_init : MethodName := ⟨RX0, "<init>", "()V"⟩
def RX1 : String := "CakePapers$Desk"
def TX1 : u_T := fun k => match k with
  | 0 => ("CakePapers$Desk", "papers", "[LCakePapers$Paper;", true)
  | 1 => ("CakePapers$Desk", "joining", "LCakePapers$Joining;", true)
  | _ => ("CakePapers$Desk", "count", "I", false)
def tyX1 : Nat → FieldType := fun k => match k with
  | 0 => .array (.object "CakePapers$Paper")
  | 1 => .object "CakePapers$Joining"
  | _ => .int
abbrev wsX10 : List Cond := u_ws RX1 TX1 3
theorem nmX1 : ∀ a, a < 3 → ∀ b, b < 3 → a ≠ b → (TX1 a).2.1 ≠ (TX1 b).2.1 := by decide +kernel
theorem tyX1_ok : ∀ k, k < 3 → parseFieldDescriptor (TX1 k).2.2.1 = some (tyX1 k) := by decide +kernel
abbrev cX1_init : ByteArray := prog_3_method_1_code
def yX1_init : MethodName := ⟨RX1, "<init>", "()V"⟩
abbrev cX1_isFull : ByteArray := prog_3_method_2_code
def yX1_isFull : MethodName := ⟨RX1, "isFull", "()Z"⟩
abbrev cX1_get : ByteArray := prog_3_method_3_code
def yX1_get : MethodName := ⟨RX1, "get", "(I)LCakePapers$Paper;"⟩
abbrev cX1_add : ByteArray := prog_3_method_4_code
def yX1_add : MethodName := ⟨RX1, "add", "(LCakePapers$Paper;)I"⟩
abbrev cX1_copyFrom : ByteArray := prog_3_method_6_code
def yX1_copyFrom : MethodName := ⟨RX1, "copyFrom", "(LCakePapers$Desk;)V"⟩
def RX2 : String := "CakePapers$Draft"
def TX2 : u_T := fun k => match k with
  | 0 => ("CakePapers$Draft", "sheet", "LCakePapers$Paper;", true)
  | 1 => ("CakePapers$Draft", "wasMade", "[Z", true)
  | 2 => ("CakePapers$Draft", "order", "[I", true)
  | _ => ("CakePapers$Draft", "placed", "[Z", true)
def tyX2 : Nat → FieldType := fun k => match k with
  | 0 => .object "CakePapers$Paper"
  | 1 => .array .boolean
  | 2 => .array .int
  | _ => .array .boolean
abbrev wsX20 : List Cond := u_ws RX2 TX2 4
theorem nmX2 : ∀ a, a < 4 → ∀ b, b < 4 → a ≠ b → (TX2 a).2.1 ≠ (TX2 b).2.1 := by decide +kernel
theorem tyX2_ok : ∀ k, k < 4 → parseFieldDescriptor (TX2 k).2.2.1 = some (tyX2 k) := by decide +kernel
abbrev cX2_init : ByteArray := prog_4_method_1_code
def yX2_init : MethodName := ⟨RX2, "<init>", "()V"⟩
def RX3 : String := "CakePapers$Joiner"
def TX3 : u_T := fun k => match k with
  | 0 => ("CakePapers$Joiner", "draft", "LCakePapers$Draft;", true)
  | 1 => ("CakePapers$Joiner", "likeness", "LCakePapers$Likeness;", true)
  | 2 => ("CakePapers$Joiner", "trial", "LCakePapers$Joining;", true)
  | 3 => ("CakePapers$Joiner", "half", "LCakePapers$Paper;", true)
  | 4 => ("CakePapers$Joiner", "leftResult", "LCakePapers$Paper;", true)
  | 5 => ("CakePapers$Joiner", "rightResult", "LCakePapers$Paper;", true)
  | 6 => ("CakePapers$Joiner", "row", "[I", true)
  | 7 => ("CakePapers$Joiner", "bestRow", "[I", true)
  | 8 => ("CakePapers$Joiner", "bestKnown", "Z", false)
  | 9 => ("CakePapers$Joiner", "bestFound", "Z", false)
  | _ => ("CakePapers$Joiner", "bestWant", "I", false)
def tyX3 : Nat → FieldType := fun k => match k with
  | 0 => .object "CakePapers$Draft"
  | 1 => .object "CakePapers$Likeness"
  | 2 => .object "CakePapers$Joining"
  | 3 => .object "CakePapers$Paper"
  | 4 => .object "CakePapers$Paper"
  | 5 => .object "CakePapers$Paper"
  | 6 => .array .int
  | 7 => .array .int
  | 8 => .boolean
  | 9 => .boolean
  | _ => .int
abbrev wsX30 : List Cond := u_ws RX3 TX3 11
theorem nmX3 : ∀ a, a < 11 → ∀ b, b < 11 → a ≠ b → (TX3 a).2.1 ≠ (TX3 b).2.1 := by decide +kernel
theorem tyX3_ok : ∀ k, k < 11 → parseFieldDescriptor (TX3 k).2.2.1 = some (tyX3 k) := by decide +kernel
abbrev cX3_init : ByteArray := prog_5_method_1_code
def yX3_init : MethodName := ⟨RX3, "<init>", "(LCakePapers$Draft;LCakePapers$Likeness;)V"⟩
def RX4 : String := "CakePapers$Joining"
def TX4 : u_T := fun k => match k with
  | 0 => ("CakePapers$Joining", "base", "LCakePapers$Paper;", false)
  | 1 => ("CakePapers$Joining", "one", "LCakePapers$Paper;", false)
  | 2 => ("CakePapers$Joining", "other", "LCakePapers$Paper;", false)
  | 3 => ("CakePapers$Joining", "inBase", "[I", true)
  | 4 => ("CakePapers$Joining", "inOne", "[I", true)
  | 5 => ("CakePapers$Joining", "inOther", "[I", true)
  | 6 => ("CakePapers$Joining", "oneChanged", "[I", true)
  | 7 => ("CakePapers$Joining", "otherChanged", "[I", true)
  | 8 => ("CakePapers$Joining", "quarrelStep", "[I", true)
  | 9 => ("CakePapers$Joining", "quarrelField", "[I", true)
  | 10 => ("CakePapers$Joining", "sides", "[I", true)
  | 11 => ("CakePapers$Joining", "steps", "I", false)
  | _ => ("CakePapers$Joining", "quarrels", "I", false)
def tyX4 : Nat → FieldType := fun k => match k with
  | 0 => .object "CakePapers$Paper"
  | 1 => .object "CakePapers$Paper"
  | 2 => .object "CakePapers$Paper"
  | 3 => .array .int
  | 4 => .array .int
  | 5 => .array .int
  | 6 => .array .int
  | 7 => .array .int
  | 8 => .array .int
  | 9 => .array .int
  | 10 => .array .int
  | 11 => .int
  | _ => .int
abbrev wsX40 : List Cond := u_ws RX4 TX4 13
theorem nmX4 : ∀ a, a < 13 → ∀ b, b < 13 → a ≠ b → (TX4 a).2.1 ≠ (TX4 b).2.1 := by decide +kernel
theorem tyX4_ok : ∀ k, k < 13 → parseFieldDescriptor (TX4 k).2.2.1 = some (tyX4 k) := by decide +kernel
abbrev cX4_init : ByteArray := prog_6_method_1_code
def yX4_init : MethodName := ⟨RX4, "<init>", "()V"⟩
abbrev cX4_isThere : ByteArray := prog_6_method_2_code
def yX4_isThere : MethodName := ⟨RX4, "isThere", "()Z"⟩
abbrev cX4_hasQuarrel : ByteArray := prog_6_method_3_code
def yX4_hasQuarrel : MethodName := ⟨RX4, "hasQuarrel", "(I)Z"⟩
abbrev cX4_clear : ByteArray := prog_6_method_4_code
def yX4_clear : MethodName := ⟨RX4, "clear", "()V"⟩
abbrev cX4_copyFrom : ByteArray := prog_6_method_5_code
def yX4_copyFrom : MethodName := ⟨RX4, "copyFrom", "(LCakePapers$Joining;)V"⟩
def RX5 : String := "CakePapers$Likeness"
def TX5 : u_T := fun k => match k with
  | 0 => ("CakePapers$Likeness", "alikes", "[Z", true)
  | 1 => ("CakePapers$Likeness", "used", "[Z", true)
  | 2 => ("CakePapers$Likeness", "weights", "[I", true)
  | 3 => ("CakePapers$Likeness", "lightest", "[I", true)
  | 4 => ("CakePapers$Likeness", "first", "LCakePapers$Paper;", false)
  | _ => ("CakePapers$Likeness", "second", "LCakePapers$Paper;", false)
def tyX5 : Nat → FieldType := fun k => match k with
  | 0 => .array .boolean
  | 1 => .array .boolean
  | 2 => .array .int
  | 3 => .array .int
  | 4 => .object "CakePapers$Paper"
  | _ => .object "CakePapers$Paper"
abbrev wsX50 : List Cond := u_ws RX5 TX5 6
theorem nmX5 : ∀ a, a < 6 → ∀ b, b < 6 → a ≠ b → (TX5 a).2.1 ≠ (TX5 b).2.1 := by decide +kernel
theorem tyX5_ok : ∀ k, k < 6 → parseFieldDescriptor (TX5 k).2.2.1 = some (tyX5 k) := by decide +kernel
abbrev cX5_init : ByteArray := prog_7_method_1_code
def yX5_init : MethodName := ⟨RX5, "<init>", "()V"⟩
def RX6 : String := "CakePapers$Paper"
def TX6 : u_T := fun k => match k with
  | 0 => ("CakePapers$Paper", "makes", "[J", true)
  | 1 => ("CakePapers$Paper", "verbs", "[J", true)
  | 2 => ("CakePapers$Paper", "much", "[I", true)
  | 3 => ("CakePapers$Paper", "lasts", "[I", true)
  | 4 => ("CakePapers$Paper", "needCount", "[I", true)
  | 5 => ("CakePapers$Paper", "needs", "[J", true)
  | 6 => ("CakePapers$Paper", "makers", "[I", true)
  | 7 => ("CakePapers$Paper", "isEnd", "[Z", true)
  | 8 => ("CakePapers$Paper", "reach", "[I", true)
  | 9 => ("CakePapers$Paper", "steps", "I", false)
  | 10 => ("CakePapers$Paper", "ends", "I", false)
  | 11 => ("CakePapers$Paper", "path", "I", false)
  | 12 => ("CakePapers$Paper", "allMuch", "I", false)
  | _ => ("CakePapers$Paper", "allLong", "I", false)
def tyX6 : Nat → FieldType := fun k => match k with
  | 0 => .array .long
  | 1 => .array .long
  | 2 => .array .int
  | 3 => .array .int
  | 4 => .array .int
  | 5 => .array .long
  | 6 => .array .int
  | 7 => .array .boolean
  | 8 => .array .int
  | 9 => .int
  | 10 => .int
  | 11 => .int
  | 12 => .int
  | _ => .int
abbrev wsX60 : List Cond := u_ws RX6 TX6 14
theorem nmX6 : ∀ a, a < 14 → ∀ b, b < 14 → a ≠ b → (TX6 a).2.1 ≠ (TX6 b).2.1 := by decide +kernel
theorem tyX6_ok : ∀ k, k < 14 → parseFieldDescriptor (TX6 k).2.2.1 = some (tyX6 k) := by decide +kernel
abbrev cX6_init : ByteArray := prog_8_method_1_code
def yX6_init : MethodName := ⟨RX6, "<init>", "(I)V"⟩
abbrev cX6_workOut : ByteArray := prog_8_method_9_code
def yX6_workOut : MethodName := ⟨RX6, "workOut", "()V"⟩
def RX7 : String := "CakePapers$PaperReader"
def TX7 : u_T := fun k => match k with
  | 0 => ("CakePapers$PaperReader", "scanner", "LCakePapers$Scanner;", true)
  | 1 => ("CakePapers$PaperReader", "called", "[J", true)
  | 2 => ("CakePapers$PaperReader", "meant", "[J", true)
  | _ => ("CakePapers$PaperReader", "calls", "I", false)
def tyX7 : Nat → FieldType := fun k => match k with
  | 0 => .object "CakePapers$Scanner"
  | 1 => .array .long
  | 2 => .array .long
  | _ => .int
abbrev wsX70 : List Cond := u_ws RX7 TX7 4
theorem nmX7 : ∀ a, a < 4 → ∀ b, b < 4 → a ≠ b → (TX7 a).2.1 ≠ (TX7 b).2.1 := by decide +kernel
theorem tyX7_ok : ∀ k, k < 4 → parseFieldDescriptor (TX7 k).2.2.1 = some (tyX7 k) := by decide +kernel
abbrev cX7_init : ByteArray := prog_9_method_1_code
def yX7_init : MethodName := ⟨RX7, "<init>", "(LCakePapers$Scanner;)V"⟩
abbrev cX7_read : ByteArray := prog_9_method_2_code
def yX7_read : MethodName := ⟨RX7, "read", "(LCakePapers$Paper;)Z"⟩
def RX8 : String := "CakePapers$Scanner"
def TX8 : u_T := fun k => match k with
  | 0 => ("CakePapers$Scanner", "words", "[J", true)
  | 1 => ("CakePapers$Scanner", "bytes", "[I", false)
  | 2 => ("CakePapers$Scanner", "length", "I", false)
  | 3 => ("CakePapers$Scanner", "at", "I", false)
  | 4 => ("CakePapers$Scanner", "kind", "I", false)
  | 5 => ("CakePapers$Scanner", "place", "I", false)
  | 6 => ("CakePapers$Scanner", "number", "I", false)
  | 7 => ("CakePapers$Scanner", "name", "J", false)
  | 8 => ("CakePapers$Scanner", "fault", "I", false)
  | _ => ("CakePapers$Scanner", "faultPlace", "I", false)
def tyX8 : Nat → FieldType := fun k => match k with
  | 0 => .array .long
  | 1 => .array .int
  | 2 => .int
  | 3 => .int
  | 4 => .int
  | 5 => .int
  | 6 => .int
  | 7 => .long
  | 8 => .int
  | _ => .int
abbrev wsX80 : List Cond := u_ws RX8 TX8 10
theorem nmX8 : ∀ a, a < 10 → ∀ b, b < 10 → a ≠ b → (TX8 a).2.1 ≠ (TX8 b).2.1 := by decide +kernel
theorem tyX8_ok : ∀ k, k < 10 → parseFieldDescriptor (TX8 k).2.2.1 = some (tyX8 k) := by decide +kernel
abbrev cX8_init : ByteArray := prog_10_method_1_code
def yX8_init : MethodName := ⟨RX8, "<init>", "()V"⟩
abbrev cX8_start : ByteArray := prog_10_method_2_code
def yX8_start : MethodName := ⟨RX8, "start", "([II)V"⟩
abbrev cX8_next : ByteArray := prog_10_method_3_code
def yX8_next : MethodName := ⟨RX8, "next", "()V"⟩
abbrev cX8_blame : ByteArray := prog_10_method_8_code
def yX8_blame : MethodName := ⟨RX8, "blame", "(I)Z"⟩
abbrev cX8_refuse : ByteArray := prog_10_method_9_code
def yX8_refuse : MethodName := ⟨RX8, "refuse", "()Z"⟩
abbrev cX8_pass : ByteArray := prog_10_method_10_code
def yX8_pass : MethodName := ⟨RX8, "pass", "(I)Z"⟩
def RX9 : String := "CakePapers$Want"
def TX9 : u_T := fun k => match k with
  | 0 => ("CakePapers$Want", "codes", "[I", true)
  | 1 => ("CakePapers$Want", "values", "[J", true)
  | 2 => ("CakePapers$Want", "stack", "[I", true)
  | 3 => ("CakePapers$Want", "length", "I", false)
  | _ => ("CakePapers$Want", "units", "I", false)
def tyX9 : Nat → FieldType := fun k => match k with
  | 0 => .array .int
  | 1 => .array .long
  | 2 => .array .int
  | 3 => .int
  | _ => .int
abbrev wsX90 : List Cond := u_ws RX9 TX9 5
theorem nmX9 : ∀ a, a < 5 → ∀ b, b < 5 → a ≠ b → (TX9 a).2.1 ≠ (TX9 b).2.1 := by decide +kernel
theorem tyX9_ok : ∀ k, k < 5 → parseFieldDescriptor (TX9 k).2.2.1 = some (tyX9 k) := by decide +kernel
abbrev cX9_init : ByteArray := prog_11_method_1_code
def yX9_init : MethodName := ⟨RX9, "<init>", "()V"⟩
def RX10 : String := "CakePapers$WantReader"
def TX10 : u_T := fun k => match k with
  | 0 => ("CakePapers$WantReader", "scanner", "LCakePapers$Scanner;", true)
  | _ => ("CakePapers$WantReader", "into", "LCakePapers$Want;", false)
def tyX10 : Nat → FieldType := fun k => match k with
  | 0 => .object "CakePapers$Scanner"
  | _ => .object "CakePapers$Want"
abbrev wsX100 : List Cond := u_ws RX10 TX10 2
theorem nmX10 : ∀ a, a < 2 → ∀ b, b < 2 → a ≠ b → (TX10 a).2.1 ≠ (TX10 b).2.1 := by decide +kernel
theorem tyX10_ok : ∀ k, k < 2 → parseFieldDescriptor (TX10 k).2.2.1 = some (tyX10 k) := by decide +kernel
abbrev cX10_init : ByteArray := prog_12_method_1_code
def yX10_init : MethodName := ⟨RX10, "<init>", "(LCakePapers$Scanner;)V"⟩
abbrev cX10_read : ByteArray := prog_12_method_2_code
def yX10_read : MethodName := ⟨RX10, "read", "(LCakePapers$Want;)Z"⟩
def RX11 : String := "CakePapers"
def TX11 : u_T := fun k => match k with
  | 0 => ("CakePapers", "tape", "[I", true)
  | 1 => ("CakePapers", "taped", "I", false)
  | 2 => ("CakePapers", "scanner", "LCakePapers$Scanner;", true)
  | 3 => ("CakePapers", "paperReader", "LCakePapers$PaperReader;", true)
  | 4 => ("CakePapers", "wantReader", "LCakePapers$WantReader;", true)
  | 5 => ("CakePapers", "desk", "LCakePapers$Desk;", true)
  | 6 => ("CakePapers", "boxes", "[LCakePapers$Desk;", true)
  | 7 => ("CakePapers", "sparePaper", "LCakePapers$Paper;", false)
  | 8 => ("CakePapers", "wanted", "LCakePapers$Want;", false)
  | 9 => ("CakePapers", "spareWant", "LCakePapers$Want;", false)
  | 10 => ("CakePapers", "likeness", "LCakePapers$Likeness;", true)
  | 11 => ("CakePapers", "joiner", "LCakePapers$Joiner;", true)
  | 12 => ("CakePapers", "changesOfOne", "LCakePapers$Changes;", true)
  | 13 => ("CakePapers", "changesOfOther", "LCakePapers$Changes;", true)
  | 14 => ("CakePapers", "chosen", "[Z", true)
  | _ => ("CakePapers", "draft", "LCakePapers$Draft;", true)
def tyX11 : Nat → FieldType := fun k => match k with
  | 0 => .array .int
  | 1 => .int
  | 2 => .object "CakePapers$Scanner"
  | 3 => .object "CakePapers$PaperReader"
  | 4 => .object "CakePapers$WantReader"
  | 5 => .object "CakePapers$Desk"
  | 6 => .array (.object "CakePapers$Desk")
  | 7 => .object "CakePapers$Paper"
  | 8 => .object "CakePapers$Want"
  | 9 => .object "CakePapers$Want"
  | 10 => .object "CakePapers$Likeness"
  | 11 => .object "CakePapers$Joiner"
  | 12 => .object "CakePapers$Changes"
  | 13 => .object "CakePapers$Changes"
  | 14 => .array .boolean
  | _ => .object "CakePapers$Draft"
abbrev wsX110 : List Cond := u_ws RX11 TX11 16
theorem nmX11 : ∀ a, a < 16 → ∀ b, b < 16 → a ≠ b → (TX11 a).2.1 ≠ (TX11 b).2.1 := by decide +kernel
theorem tyX11_ok : ∀ k, k < 16 → parseFieldDescriptor (TX11 k).2.2.1 = some (tyX11 k) := by decide +kernel
abbrev cX11_init : ByteArray := prog_1_method_1_code
def yX11_init : MethodName := ⟨RX11, "<init>", "()V"⟩
abbrev cX11_feed : ByteArray := prog_1_method_2_code
def yX11_feed : MethodName := ⟨RX11, "feed", "(IIIII)I"⟩
abbrev cX11_putFour : ByteArray := prog_1_method_3_code
def yX11_putFour : MethodName := ⟨RX11, "putFour", "(I)V"⟩
abbrev cX11_end : ByteArray := prog_1_method_4_code
def yX11_end : MethodName := ⟨RX11, "end", "(I)I"⟩
abbrev cX11_paper : ByteArray := prog_1_method_5_code
def yX11_paper : MethodName := ⟨RX11, "paper", "()I"⟩
abbrev cX11_keepSparePaper : ByteArray := prog_1_method_6_code
def yX11_keepSparePaper : MethodName := ⟨RX11, "keepSparePaper", "()I"⟩
abbrev cX11_want : ByteArray := prog_1_method_7_code
def yX11_want : MethodName := ⟨RX11, "want", "()I"⟩
abbrev cX11_fault : ByteArray := prog_1_method_8_code
def yX11_fault : MethodName := ⟨RX11, "fault", "(I)I"⟩
abbrev cX11_makes : ByteArray := prog_1_method_9_code
def yX11_makes : MethodName := ⟨RX11, "makes", "(II)I"⟩
abbrev cX11_step : ByteArray := prog_1_method_10_code
def yX11_step : MethodName := ⟨RX11, "step", "(III)I"⟩
abbrev cX11_same : ByteArray := prog_1_method_11_code
def yX11_same : MethodName := ⟨RX11, "same", "(II)I"⟩
abbrev cX11_alike : ByteArray := prog_1_method_12_code
def yX11_alike : MethodName := ⟨RX11, "alike", "(III)I"⟩
abbrev cX11_changes : ByteArray := prog_1_method_13_code
def yX11_changes : MethodName := ⟨RX11, "changes", "(II)I"⟩
abbrev cX11_listChanges : ByteArray := prog_1_method_14_code
def yX11_listChanges : MethodName := ⟨RX11, "listChanges", "(LCakePapers$Changes;II)Z"⟩
abbrev cX11_change : ByteArray := prog_1_method_15_code
def yX11_change : MethodName := ⟨RX11, "change", "(IIII)I"⟩
abbrev cX11_least : ByteArray := prog_1_method_16_code
def yX11_least : MethodName := ⟨RX11, "least", "(II)I"⟩
abbrev cX11_does : ByteArray := prog_1_method_17_code
def yX11_does : MethodName := ⟨RX11, "does", "(III)I"⟩
abbrev cX11_join : ByteArray := prog_1_method_19_code
def yX11_join : MethodName := ⟨RX11, "join", "(III)I"⟩
abbrev cX11_quarrel : ByteArray := prog_1_method_20_code
def yX11_quarrel : MethodName := ⟨RX11, "quarrel", "(II)I"⟩
abbrev cX11_settle : ByteArray := prog_1_method_21_code
def yX11_settle : MethodName := ⟨RX11, "settle", "(II)Z"⟩
abbrev cX11_joined : ByteArray := prog_1_method_22_code
def yX11_joined : MethodName := ⟨RX11, "joined", "()I"⟩
abbrev cX11_best : ByteArray := prog_1_method_23_code
def yX11_best : MethodName := ⟨RX11, "best", "(I)I"⟩
abbrev cX11_left : ByteArray := prog_1_method_24_code
def yX11_left : MethodName := ⟨RX11, "left", "(I)I"⟩
abbrev cX11_ruin : ByteArray := prog_1_method_25_code
def yX11_ruin : MethodName := ⟨RX11, "ruin", "(IIII)I"⟩
abbrev cX11_law : ByteArray := prog_1_method_28_code
def yX11_law : MethodName := ⟨RX11, "law", "(IIIII)I"⟩
abbrev cX11_three : ByteArray := prog_1_method_29_code
def yX11_three : MethodName := ⟨RX11, "three", "(IIIII)I"⟩
abbrev cX11_leans : ByteArray := prog_1_method_30_code
def yX11_leans : MethodName := ⟨RX11, "leans", "(III)I"⟩
abbrev cX11_begun : ByteArray := prog_1_method_32_code
def yX11_begun : MethodName := ⟨RX11, "begun", "(IIII)I"⟩
abbrev cX11_tear : ByteArray := prog_1_method_33_code
def yX11_tear : MethodName := ⟨RX11, "tear", "(I)Z"⟩
abbrev cX11_image : ByteArray := prog_1_method_34_code
def yX11_image : MethodName := ⟨RX11, "image", "(I)I"⟩
abbrev cX11_back : ByteArray := prog_1_method_35_code
def yX11_back : MethodName := ⟨RX11, "back", "(I)I"⟩
abbrev cX11_about : ByteArray := prog_1_method_36_code
def yX11_about : MethodName := ⟨RX11, "about", "(I)I"⟩
def RX12 : String := "CakePapersModel"
def TX12 : u_T := fun k => match k with
  | 0 => ("CakePapersModel", "tape", "[B", true)
  | 1 => ("CakePapersModel", "text", "[B", true)
  | 2 => ("CakePapersModel", "taped", "I", false)
  | 3 => ("CakePapersModel", "size", "I", false)
  | 4 => ("CakePapersModel", "faultKind", "I", false)
  | 5 => ("CakePapersModel", "faultPlace", "I", false)
  | 6 => ("CakePapersModel", "at", "I", false)
  | 7 => ("CakePapersModel", "end", "I", false)
  | 8 => ("CakePapersModel", "token", "I", false)
  | 9 => ("CakePapersModel", "number", "I", false)
  | 10 => ("CakePapersModel", "name", "J", false)
  | 11 => ("CakePapersModel", "many", "[I", true)
  | 12 => ("CakePapersModel", "much", "[I", true)
  | 13 => ("CakePapersModel", "length", "[I", true)
  | 14 => ("CakePapersModel", "needMany", "[I", true)
  | 15 => ("CakePapersModel", "makes", "[J", true)
  | 16 => ("CakePapersModel", "verb", "[J", true)
  | 17 => ("CakePapersModel", "need", "[J", true)
  | 18 => ("CakePapersModel", "called", "[J", true)
  | 19 => ("CakePapersModel", "calledTo", "[J", true)
  | 20 => ("CakePapersModel", "papers", "I", false)
  | 21 => ("CakePapersModel", "calls", "I", false)
  | 22 => ("CakePapersModel", "way", "[I", true)
  | 23 => ("CakePapersModel", "sort", "[I", true)
  | 24 => ("CakePapersModel", "cMany", "[I", true)
  | 25 => ("CakePapersModel", "cKind", "[I", true)
  | 26 => ("CakePapersModel", "cStep", "[I", true)
  | 27 => ("CakePapersModel", "cFrom", "[I", true)
  | 28 => ("CakePapersModel", "cTo", "[I", true)
  | 29 => ("CakePapersModel", "oneRow", "[I", true)
  | 30 => ("CakePapersModel", "twoRow", "[I", true)
  | 31 => ("CakePapersModel", "oneMany", "I", false)
  | 32 => ("CakePapersModel", "twoMany", "I", false)
  | 33 => ("CakePapersModel", "least", "[I", true)
  | 34 => ("CakePapersModel", "then", "[I", true)
  | 35 => ("CakePapersModel", "isThere", "[Z", true)
  | 36 => ("CakePapersModel", "isPlaced", "[Z", true)
  | 37 => ("CakePapersModel", "wasMade", "[Z", true)
  | 38 => ("CakePapersModel", "order", "[I", true)
  | 39 => ("CakePapersModel", "rowMany", "I", false)
  | 40 => ("CakePapersModel", "placed", "I", false)
  | 41 => ("CakePapersModel", "breach", "I", false)
  | 42 => ("CakePapersModel", "breachStep", "I", false)
  | 43 => ("CakePapersModel", "isDone", "[Z", true)
  | 44 => ("CakePapersModel", "jBase", "[I", true)
  | 45 => ("CakePapersModel", "jOne", "[I", true)
  | 46 => ("CakePapersModel", "jOther", "[I", true)
  | 47 => ("CakePapersModel", "qStep", "[I", true)
  | 48 => ("CakePapersModel", "qField", "[I", true)
  | 49 => ("CakePapersModel", "qSide", "[I", true)
  | 50 => ("CakePapersModel", "jMany", "I", false)
  | 51 => ("CakePapersModel", "quarrels", "I", false)
  | 52 => ("CakePapersModel", "joinBase", "I", false)
  | 53 => ("CakePapersModel", "joinOne", "I", false)
  | 54 => ("CakePapersModel", "joinOther", "I", false)
  | 55 => ("CakePapersModel", "tSide", "[I", true)
  | 56 => ("CakePapersModel", "tBase", "I", false)
  | 57 => ("CakePapersModel", "tOne", "I", false)
  | 58 => ("CakePapersModel", "tOther", "I", false)
  | 59 => ("CakePapersModel", "tMany", "I", false)
  | 60 => ("CakePapersModel", "isJoining", "Z", false)
  | 61 => ("CakePapersModel", "bestWant", "I", false)
  | 62 => ("CakePapersModel", "bestRow", "I", false)
  | 63 => ("CakePapersModel", "isGoodAlone", "[Z", true)
  | 64 => ("CakePapersModel", "code", "[I", true)
  | 65 => ("CakePapersModel", "codeNumber", "[I", true)
  | 66 => ("CakePapersModel", "codes", "[I", true)
  | 67 => ("CakePapersModel", "unitsOf", "[I", true)
  | 68 => ("CakePapersModel", "eWhat", "[I", true)
  | 69 => ("CakePapersModel", "eSign", "[I", true)
  | 70 => ("CakePapersModel", "pile", "[I", true)
  | 71 => ("CakePapersModel", "codeName", "[J", true)
  | 72 => ("CakePapersModel", "wantBank", "I", false)
  | 73 => ("CakePapersModel", "wb", "I", false)
  | 74 => ("CakePapersModel", "within", "I", false)
  | 75 => ("CakePapersModel", "piled", "I", false)
  | 76 => ("CakePapersModel", "boxMany", "[I", true)
  | 77 => ("CakePapersModel", "boxJoin", "[I", true)
  | 78 => ("CakePapersModel", "boxSide", "[I", true)
  | _ => ("CakePapersModel", "boxJoining", "[Z", true)
def tyX12 : Nat → FieldType := fun k => match k with
  | 0 => .array .byte
  | 1 => .array .byte
  | 2 => .int
  | 3 => .int
  | 4 => .int
  | 5 => .int
  | 6 => .int
  | 7 => .int
  | 8 => .int
  | 9 => .int
  | 10 => .long
  | 11 => .array .int
  | 12 => .array .int
  | 13 => .array .int
  | 14 => .array .int
  | 15 => .array .long
  | 16 => .array .long
  | 17 => .array .long
  | 18 => .array .long
  | 19 => .array .long
  | 20 => .int
  | 21 => .int
  | 22 => .array .int
  | 23 => .array .int
  | 24 => .array .int
  | 25 => .array .int
  | 26 => .array .int
  | 27 => .array .int
  | 28 => .array .int
  | 29 => .array .int
  | 30 => .array .int
  | 31 => .int
  | 32 => .int
  | 33 => .array .int
  | 34 => .array .int
  | 35 => .array .boolean
  | 36 => .array .boolean
  | 37 => .array .boolean
  | 38 => .array .int
  | 39 => .int
  | 40 => .int
  | 41 => .int
  | 42 => .int
  | 43 => .array .boolean
  | 44 => .array .int
  | 45 => .array .int
  | 46 => .array .int
  | 47 => .array .int
  | 48 => .array .int
  | 49 => .array .int
  | 50 => .int
  | 51 => .int
  | 52 => .int
  | 53 => .int
  | 54 => .int
  | 55 => .array .int
  | 56 => .int
  | 57 => .int
  | 58 => .int
  | 59 => .int
  | 60 => .boolean
  | 61 => .int
  | 62 => .int
  | 63 => .array .boolean
  | 64 => .array .int
  | 65 => .array .int
  | 66 => .array .int
  | 67 => .array .int
  | 68 => .array .int
  | 69 => .array .int
  | 70 => .array .int
  | 71 => .array .long
  | 72 => .int
  | 73 => .int
  | 74 => .int
  | 75 => .int
  | 76 => .array .int
  | 77 => .array .int
  | 78 => .array .int
  | _ => .array .boolean
abbrev wsX120 : List Cond := u_ws RX12 TX12 80
theorem nmX12 : ∀ a, a < 80 → ∀ b, b < 80 → a ≠ b → (TX12 a).2.1 ≠ (TX12 b).2.1 := by decide +kernel
theorem tyX12_ok : ∀ k, k < 80 → parseFieldDescriptor (TX12 k).2.2.1 = some (tyX12 k) := by decide +kernel
abbrev cX12_init : ByteArray := prog_14_method_1_code
def yX12_init : MethodName := ⟨RX12, "<init>", "()V"⟩
abbrev cX12_sign : ByteArray := prog_14_method_2_code
def yX12_sign : MethodName := ⟨RX12, "sign", "(I)I"⟩
abbrev cX12_fails : ByteArray := prog_14_method_5_code
def yX12_fails : MethodName := ⟨RX12, "fails", "(II)V"⟩
abbrev cX12_isGood : ByteArray := prog_14_method_6_code
def yX12_isGood : MethodName := ⟨RX12, "isGood", "()Z"⟩
abbrev cX12_goOn : ByteArray := prog_14_method_9_code
def yX12_goOn : MethodName := ⟨RX12, "goOn", "()V"⟩
abbrev cX12_is : ByteArray := prog_14_method_10_code
def yX12_is : MethodName := ⟨RX12, "is", "(I)Z"⟩
abbrev cX12_isWord : ByteArray := prog_14_method_11_code
def yX12_isWord : MethodName := ⟨RX12, "isWord", "(J)Z"⟩
abbrev cX12_misplaced : ByteArray := prog_14_method_12_code
def yX12_misplaced : MethodName := ⟨RX12, "misplaced", "()V"⟩
abbrev cX12_must : ByteArray := prog_14_method_13_code
def yX12_must : MethodName := ⟨RX12, "must", "(Z)V"⟩
abbrev cX12_takeTape : ByteArray := prog_14_method_15_code
def yX12_takeTape : MethodName := ⟨RX12, "takeTape", "()V"⟩
abbrev cX12_paper : ByteArray := prog_14_method_17_code
def yX12_paper : MethodName := ⟨RX12, "paper", "()I"⟩
abbrev cX12_copyPaper : ByteArray := prog_14_method_25_code
def yX12_copyPaper : MethodName := ⟨RX12, "copyPaper", "(II)V"⟩
abbrev cX12_fault : ByteArray := prog_14_method_26_code
def yX12_fault : MethodName := ⟨RX12, "fault", "(I)I"⟩
abbrev cX12_isIn : ByteArray := prog_14_method_27_code
def yX12_isIn : MethodName := ⟨RX12, "isIn", "(III)Z"⟩
abbrev cX12_isPaper : ByteArray := prog_14_method_28_code
def yX12_isPaper : MethodName := ⟨RX12, "isPaper", "(I)Z"⟩
abbrev cX12_areTwo : ByteArray := prog_14_method_29_code
def yX12_areTwo : MethodName := ⟨RX12, "areTwo", "(II)Z"⟩
abbrev cX12_makes : ByteArray := prog_14_method_35_code
def yX12_makes : MethodName := ⟨RX12, "makes", "(II)I"⟩
abbrev cX12_step : ByteArray := prog_14_method_37_code
def yX12_step : MethodName := ⟨RX12, "step", "(III)I"⟩
abbrev cX12_same : ByteArray := prog_14_method_44_code
def yX12_same : MethodName := ⟨RX12, "same", "(II)I"⟩
abbrev cX12_alike : ByteArray := prog_14_method_45_code
def yX12_alike : MethodName := ⟨RX12, "alike", "(III)I"⟩
abbrev cX12_changes : ByteArray := prog_14_method_50_code
def yX12_changes : MethodName := ⟨RX12, "changes", "(II)I"⟩
abbrev cX12_change : ByteArray := prog_14_method_54_code
def yX12_change : MethodName := ⟨RX12, "change", "(IIII)I"⟩
abbrev cX12_least : ByteArray := prog_14_method_56_code
def yX12_least : MethodName := ⟨RX12, "least", "(II)I"⟩
abbrev cX12_does : ByteArray := prog_14_method_70_code
def yX12_does : MethodName := ⟨RX12, "does", "(III)I"⟩
abbrev cX12_join : ByteArray := prog_14_method_82_code
def yX12_join : MethodName := ⟨RX12, "join", "(III)I"⟩
abbrev cX12_isQuarrel : ByteArray := prog_14_method_85_code
def yX12_isQuarrel : MethodName := ⟨RX12, "isQuarrel", "(I)Z"⟩
abbrev cX12_quarrel : ByteArray := prog_14_method_87_code
def yX12_quarrel : MethodName := ⟨RX12, "quarrel", "(II)I"⟩
abbrev cX12_settle : ByteArray := prog_14_method_88_code
def yX12_settle : MethodName := ⟨RX12, "settle", "(II)Z"⟩
abbrev cX12_joined : ByteArray := prog_14_method_90_code
def yX12_joined : MethodName := ⟨RX12, "joined", "()I"⟩
abbrev cX12_best : ByteArray := prog_14_method_93_code
def yX12_best : MethodName := ⟨RX12, "best", "(I)I"⟩
abbrev cX12_left : ByteArray := prog_14_method_95_code
def yX12_left : MethodName := ⟨RX12, "left", "(I)I"⟩
abbrev cX12_ruin : ByteArray := prog_14_method_98_code
def yX12_ruin : MethodName := ⟨RX12, "ruin", "(IIII)I"⟩
abbrev cX12_law : ByteArray := prog_14_method_101_code
def yX12_law : MethodName := ⟨RX12, "law", "(IIIII)I"⟩
abbrev cX12_three : ByteArray := prog_14_method_102_code
def yX12_three : MethodName := ⟨RX12, "three", "(IIIII)I"⟩
abbrev cX12_leans : ByteArray := prog_14_method_104_code
def yX12_leans : MethodName := ⟨RX12, "leans", "(III)I"⟩
abbrev cX12_begun : ByteArray := prog_14_method_106_code
def yX12_begun : MethodName := ⟨RX12, "begun", "(IIII)I"⟩
abbrev cX12_want : ByteArray := prog_14_method_107_code
def yX12_want : MethodName := ⟨RX12, "want", "()I"⟩
abbrev cX12_tear : ByteArray := prog_14_method_119_code
def yX12_tear : MethodName := ⟨RX12, "tear", "(I)Z"⟩
abbrev cX12_image : ByteArray := prog_14_method_121_code
def yX12_image : MethodName := ⟨RX12, "image", "(I)I"⟩
abbrev cX12_back : ByteArray := prog_14_method_122_code
def yX12_back : MethodName := ⟨RX12, "back", "(I)I"⟩
abbrev cX12_about : ByteArray := prog_14_method_124_code
def yX12_about : MethodName := ⟨RX12, "about", "(I)I"⟩
abbrev cX12_feed : ByteArray := prog_14_method_125_code
def yX12_feed : MethodName := ⟨RX12, "feed", "(IIIII)I"⟩
abbrev cX12_end : ByteArray := prog_14_method_126_code
def yX12_end : MethodName := ⟨RX12, "end", "(I)I"⟩
def RJ0 : String := "java/lang/String"
def TJ0 : u_T := fun k => match k with
  | _ => ("", "", "", false)
abbrev wsJ00 : List Cond := u_ws RJ0 TJ0 0
abbrev cJ0_length_8abf5 : ByteArray := prog_18_method_54_code
def yJ0_length_8abf5 : MethodName := ⟨RJ0, "length", "()I"⟩
abbrev cJ0_charAt_5068e : ByteArray := prog_18_method_56_code
def yJ0_charAt_5068e : MethodName := ⟨RJ0, "charAt", "(I)C"⟩
def yJ0_indexOf_0f7a4 : MethodName := ⟨RJ0, "indexOf", "(I)I"⟩
def yJ0_indexOf_7cf53 : MethodName := ⟨RJ0, "indexOf", "(II)I"⟩
abbrev cJ0_coder_7d493 : ByteArray := prog_18_method_152_code
def yJ0_coder_7d493 : MethodName := ⟨RJ0, "coder", "()B"⟩
abbrev cJ0_isLatin1_aae02 : ByteArray := prog_18_method_154_code
def yJ0_isLatin1_aae02 : MethodName := ⟨RJ0, "isLatin1", "()Z"⟩
abbrev cJ0_checkIndex_df160 : ByteArray := prog_18_method_155_code
def yJ0_checkIndex_df160 : MethodName := ⟨RJ0, "checkIndex", "(II)V"⟩
def yJ0_checkBoundsBeginEnd_23922 : MethodName := ⟨RJ0, "checkBoundsBeginEnd", "(III)V"⟩
def RJ1 : String := "java/lang/StringLatin1"
def TJ1 : u_T := fun k => match k with
  | _ => ("", "", "", false)
abbrev wsJ10 : List Cond := u_ws RJ1 TJ1 0
abbrev cJ1_charAt_3b067 : ByteArray := prog_19_method_2_code
def yJ1_charAt_3b067 : MethodName := ⟨RJ1, "charAt", "([BI)C"⟩
def yJ1_canEncode_9a6ad : MethodName := ⟨RJ1, "canEncode", "(I)Z"⟩
def yJ1_indexOf_4cfef : MethodName := ⟨RJ1, "indexOf", "([BIII)I"⟩
def yJ1_indexOfChar_4cfef : MethodName := ⟨RJ1, "indexOfChar", "([BIII)I"⟩
def RJ3 : String := "jdk/internal/util/Preconditions"
def TJ3 : u_T := fun k => match k with
  | _ => ("", "", "", false)
abbrev wsJ30 : List Cond := u_ws RJ3 TJ3 0
abbrev cJ3_checkIndex_8e157 : ByteArray := prog_22_method_11_code
def yJ3_checkIndex_8e157 : MethodName := ⟨RJ3, "checkIndex", "(IILjava/util/function/BiFunction;)I"⟩
def yJ3_checkFromToIndex_8c36e : MethodName := ⟨RJ3, "checkFromToIndex", "(IIILjava/util/function/BiFunction;)I"⟩
def RL : String := "CakePapersLaw"
abbrev cL_law : ByteArray := code
theorem dX0_init_0 : decode cX0_init 0 = .ok (.aload_n 0, 1) := by decide +kernel
theorem dX0_init_1 : decode cX0_init 1 = .ok (.invokespecial 5, 3) := by decide +kernel
theorem dX0_init_4 : decode cX0_init 4 = .ok (.aload_n 0, 1) := by decide +kernel
theorem dX0_init_5 : decode cX0_init 5 = .ok (.bipush 60, 2) := by decide +kernel
theorem dX0_init_7 : decode cX0_init 7 = .ok (.newarray .int, 2) := by decide +kernel
theorem dX0_init_9 : decode cX0_init 9 = .ok (.putfield 13, 3) := by decide +kernel
theorem dX0_init_12 : decode cX0_init 12 = .ok (.aload_n 0, 1) := by decide +kernel
theorem dX0_init_13 : decode cX0_init 13 = .ok (.bipush 60, 2) := by decide +kernel
theorem dX0_init_15 : decode cX0_init 15 = .ok (.newarray .int, 2) := by decide +kernel
theorem dX0_init_17 : decode cX0_init 17 = .ok (.putfield 17, 3) := by decide +kernel
theorem dX0_init_20 : decode cX0_init 20 = .ok (.aload_n 0, 1) := by decide +kernel
theorem dX0_init_21 : decode cX0_init 21 = .ok (.bipush 10, 2) := by decide +kernel
theorem dX0_init_23 : decode cX0_init 23 = .ok (.newarray .int, 2) := by decide +kernel
theorem dX0_init_25 : decode cX0_init 25 = .ok (.putfield 20, 3) := by decide +kernel
theorem dX0_init_28 : decode cX0_init 28 = .ok (.aload_n 0, 1) := by decide +kernel
theorem dX0_init_29 : decode cX0_init 29 = .ok (.bipush 10, 2) := by decide +kernel
theorem dX0_init_31 : decode cX0_init 31 = .ok (.newarray .int, 2) := by decide +kernel
theorem dX0_init_33 : decode cX0_init 33 = .ok (.putfield 23, 3) := by decide +kernel
theorem dX0_init_36 : decode cX0_init 36 = .ok (.return_, 1) := by decide +kernel
theorem dX1_init_0 : decode cX1_init 0 = .ok (.aload_n 0, 1) := by decide +kernel
theorem dX1_init_1 : decode cX1_init 1 = .ok (.invokespecial 3, 3) := by decide +kernel
theorem dX1_init_4 : decode cX1_init 4 = .ok (.aload_n 0, 1) := by decide +kernel
theorem dX1_init_5 : decode cX1_init 5 = .ok (.bipush 8, 2) := by decide +kernel
theorem dX1_init_7 : decode cX1_init 7 = .ok (.anewarray 11, 3) := by decide +kernel
theorem dX1_init_10 : decode cX1_init 10 = .ok (.putfield 13, 3) := by decide +kernel
theorem dX1_init_13 : decode cX1_init 13 = .ok (.aload_n 0, 1) := by decide +kernel
theorem dX1_init_14 : decode cX1_init 14 = .ok (.new 17, 3) := by decide +kernel
theorem dX1_init_17 : decode cX1_init 17 = .ok (.dup, 1) := by decide +kernel
theorem dX1_init_18 : decode cX1_init 18 = .ok (.invokespecial 19, 3) := by decide +kernel
theorem dX1_init_21 : decode cX1_init 21 = .ok (.putfield 20, 3) := by decide +kernel
theorem dX1_init_24 : decode cX1_init 24 = .ok (.aload_n 0, 1) := by decide +kernel
theorem dX1_init_25 : decode cX1_init 25 = .ok (.iconst (-1), 1) := by decide +kernel
theorem dX1_init_26 : decode cX1_init 26 = .ok (.putfield 24, 3) := by decide +kernel
theorem dX1_init_29 : decode cX1_init 29 = .ok (.return_, 1) := by decide +kernel
theorem dX1_isFull_0 : decode cX1_isFull 0 = .ok (.aload_n 0, 1) := by decide +kernel
theorem dX1_isFull_1 : decode cX1_isFull 1 = .ok (.getfield 24, 3) := by decide +kernel
theorem dX1_isFull_4 : decode cX1_isFull 4 = .ok (.bipush 8, 2) := by decide +kernel
theorem dX1_isFull_6 : decode cX1_isFull 6 = .ok (.if_icmp .lt 7, 3) := by decide +kernel
theorem dX1_isFull_13 : decode cX1_isFull 13 = .ok (.iconst 0, 1) := by decide +kernel
theorem dX1_isFull_14 : decode cX1_isFull 14 = .ok (.ireturn, 1) := by decide +kernel
theorem dX1_get_0 : decode cX1_get 0 = .ok (.iload_n 1, 1) := by decide +kernel
theorem dX1_get_1 : decode cX1_get 1 = .ok (.ifCond .lt 20, 3) := by decide +kernel
theorem dX1_get_4 : decode cX1_get 4 = .ok (.iload_n 1, 1) := by decide +kernel
theorem dX1_get_5 : decode cX1_get 5 = .ok (.aload_n 0, 1) := by decide +kernel
theorem dX1_get_6 : decode cX1_get 6 = .ok (.getfield 24, 3) := by decide +kernel
theorem dX1_get_9 : decode cX1_get 9 = .ok (.if_icmp .ge 12, 3) := by decide +kernel
theorem dX1_get_21 : decode cX1_get 21 = .ok (.aconst_null, 1) := by decide +kernel
theorem dX1_get_22 : decode cX1_get 22 = .ok (.areturn, 1) := by decide +kernel
theorem dX1_add_0 : decode cX1_add 0 = .ok (.aload_n 0, 1) := by decide +kernel
theorem dX1_add_1 : decode cX1_add 1 = .ok (.invokevirtual 28, 3) := by decide +kernel
theorem dX1_add_4 : decode cX1_add 4 = .ok (.ifCond .ne 10, 3) := by decide +kernel
theorem dX1_add_7 : decode cX1_add 7 = .ok (.aload_n 0, 1) := by decide +kernel
theorem dX1_add_8 : decode cX1_add 8 = .ok (.getfield 24, 3) := by decide +kernel
theorem dX1_add_11 : decode cX1_add 11 = .ok (.ifCond .ge 5, 3) := by decide +kernel
theorem dX1_add_16 : decode cX1_add 16 = .ok (.aload_n 0, 1) := by decide +kernel
theorem dX1_add_17 : decode cX1_add 17 = .ok (.getfield 13, 3) := by decide +kernel
theorem dX1_add_20 : decode cX1_add 20 = .ok (.aload_n 0, 1) := by decide +kernel
theorem dX1_add_21 : decode cX1_add 21 = .ok (.getfield 24, 3) := by decide +kernel
theorem dX1_add_24 : decode cX1_add 24 = .ok (.aload_n 1, 1) := by decide +kernel
theorem dX1_add_25 : decode cX1_add 25 = .ok (.aastore, 1) := by decide +kernel
theorem dX1_add_26 : decode cX1_add 26 = .ok (.aload_n 0, 1) := by decide +kernel
theorem dX1_add_27 : decode cX1_add 27 = .ok (.dup, 1) := by decide +kernel
theorem dX1_add_28 : decode cX1_add 28 = .ok (.getfield 24, 3) := by decide +kernel
theorem dX1_add_31 : decode cX1_add 31 = .ok (.iconst 1, 1) := by decide +kernel
theorem dX1_add_32 : decode cX1_add 32 = .ok (.iadd, 1) := by decide +kernel
theorem dX1_add_33 : decode cX1_add 33 = .ok (.putfield 24, 3) := by decide +kernel
theorem dX1_add_36 : decode cX1_add 36 = .ok (.aload_n 0, 1) := by decide +kernel
theorem dX1_add_37 : decode cX1_add 37 = .ok (.getfield 24, 3) := by decide +kernel
theorem dX1_add_40 : decode cX1_add 40 = .ok (.iconst 1, 1) := by decide +kernel
theorem dX1_add_41 : decode cX1_add 41 = .ok (.isub, 1) := by decide +kernel
theorem dX1_add_42 : decode cX1_add 42 = .ok (.ireturn, 1) := by decide +kernel
theorem dX1_copyFrom_0 : decode cX1_copyFrom 0 = .ok (.iconst 0, 1) := by decide +kernel
theorem dX1_copyFrom_1 : decode cX1_copyFrom 1 = .ok (.istore_n 2, 1) := by decide +kernel
theorem dX1_copyFrom_2 : decode cX1_copyFrom 2 = .ok (.iload_n 2, 1) := by decide +kernel
theorem dX1_copyFrom_3 : decode cX1_copyFrom 3 = .ok (.bipush 8, 2) := by decide +kernel
theorem dX1_copyFrom_5 : decode cX1_copyFrom 5 = .ok (.if_icmp .ge 21, 3) := by decide +kernel
theorem dX1_copyFrom_8 : decode cX1_copyFrom 8 = .ok (.aload_n 0, 1) := by decide +kernel
theorem dX1_copyFrom_9 : decode cX1_copyFrom 9 = .ok (.getfield 13, 3) := by decide +kernel
theorem dX1_copyFrom_12 : decode cX1_copyFrom 12 = .ok (.iload_n 2, 1) := by decide +kernel
theorem dX1_copyFrom_13 : decode cX1_copyFrom 13 = .ok (.aload_n 1, 1) := by decide +kernel
theorem dX1_copyFrom_14 : decode cX1_copyFrom 14 = .ok (.getfield 13, 3) := by decide +kernel
theorem dX1_copyFrom_17 : decode cX1_copyFrom 17 = .ok (.iload_n 2, 1) := by decide +kernel
theorem dX1_copyFrom_18 : decode cX1_copyFrom 18 = .ok (.aaload, 1) := by decide +kernel
theorem dX1_copyFrom_19 : decode cX1_copyFrom 19 = .ok (.aastore, 1) := by decide +kernel
theorem dX1_copyFrom_20 : decode cX1_copyFrom 20 = .ok (.iinc 2 1, 3) := by decide +kernel
theorem dX1_copyFrom_23 : decode cX1_copyFrom 23 = .ok (.goto (-21), 3) := by decide +kernel
theorem dX1_copyFrom_26 : decode cX1_copyFrom 26 = .ok (.aload_n 0, 1) := by decide +kernel
theorem dX1_copyFrom_27 : decode cX1_copyFrom 27 = .ok (.aload_n 1, 1) := by decide +kernel
theorem dX1_copyFrom_28 : decode cX1_copyFrom 28 = .ok (.getfield 24, 3) := by decide +kernel
theorem dX1_copyFrom_31 : decode cX1_copyFrom 31 = .ok (.putfield 24, 3) := by decide +kernel
theorem dX1_copyFrom_34 : decode cX1_copyFrom 34 = .ok (.aload_n 0, 1) := by decide +kernel
theorem dX1_copyFrom_35 : decode cX1_copyFrom 35 = .ok (.getfield 20, 3) := by decide +kernel
theorem dX1_copyFrom_38 : decode cX1_copyFrom 38 = .ok (.aload_n 1, 1) := by decide +kernel
theorem dX1_copyFrom_39 : decode cX1_copyFrom 39 = .ok (.getfield 20, 3) := by decide +kernel
theorem dX1_copyFrom_42 : decode cX1_copyFrom 42 = .ok (.invokevirtual 41, 3) := by decide +kernel
theorem dX1_copyFrom_45 : decode cX1_copyFrom 45 = .ok (.return_, 1) := by decide +kernel
theorem dX2_init_0 : decode cX2_init 0 = .ok (.aload_n 0, 1) := by decide +kernel
theorem dX2_init_1 : decode cX2_init 1 = .ok (.invokespecial 5, 3) := by decide +kernel
theorem dX2_init_4 : decode cX2_init 4 = .ok (.aload_n 0, 1) := by decide +kernel
theorem dX2_init_5 : decode cX2_init 5 = .ok (.new 1, 3) := by decide +kernel
theorem dX2_init_8 : decode cX2_init 8 = .ok (.dup, 1) := by decide +kernel
theorem dX2_init_9 : decode cX2_init 9 = .ok (.bipush 36, 2) := by decide +kernel
theorem dX2_init_11 : decode cX2_init 11 = .ok (.invokespecial 13, 3) := by decide +kernel
theorem dX2_init_14 : decode cX2_init 14 = .ok (.putfield 16, 3) := by decide +kernel
theorem dX2_init_17 : decode cX2_init 17 = .ok (.aload_n 0, 1) := by decide +kernel
theorem dX2_init_18 : decode cX2_init 18 = .ok (.sipush 144, 3) := by decide +kernel
theorem dX2_init_21 : decode cX2_init 21 = .ok (.newarray .boolean, 2) := by decide +kernel
theorem dX2_init_23 : decode cX2_init 23 = .ok (.putfield 20, 3) := by decide +kernel
theorem dX2_init_26 : decode cX2_init 26 = .ok (.aload_n 0, 1) := by decide +kernel
theorem dX2_init_27 : decode cX2_init 27 = .ok (.bipush 12, 2) := by decide +kernel
theorem dX2_init_29 : decode cX2_init 29 = .ok (.newarray .int, 2) := by decide +kernel
theorem dX2_init_31 : decode cX2_init 31 = .ok (.putfield 24, 3) := by decide +kernel
theorem dX2_init_34 : decode cX2_init 34 = .ok (.aload_n 0, 1) := by decide +kernel
theorem dX2_init_35 : decode cX2_init 35 = .ok (.bipush 12, 2) := by decide +kernel
theorem dX2_init_37 : decode cX2_init 37 = .ok (.newarray .boolean, 2) := by decide +kernel
theorem dX2_init_39 : decode cX2_init 39 = .ok (.putfield 28, 3) := by decide +kernel
theorem dX2_init_42 : decode cX2_init 42 = .ok (.return_, 1) := by decide +kernel
theorem dX3_init_0 : decode cX3_init 0 = .ok (.aload_n 0, 1) := by decide +kernel
theorem dX3_init_1 : decode cX3_init 1 = .ok (.invokespecial 3, 3) := by decide +kernel
theorem dX3_init_4 : decode cX3_init 4 = .ok (.aload_n 0, 1) := by decide +kernel
theorem dX3_init_5 : decode cX3_init 5 = .ok (.aload_n 1, 1) := by decide +kernel
theorem dX3_init_6 : decode cX3_init 6 = .ok (.putfield 9, 3) := by decide +kernel
theorem dX3_init_9 : decode cX3_init 9 = .ok (.aload_n 0, 1) := by decide +kernel
theorem dX3_init_10 : decode cX3_init 10 = .ok (.aload_n 2, 1) := by decide +kernel
theorem dX3_init_11 : decode cX3_init 11 = .ok (.putfield 15, 3) := by decide +kernel
theorem dX3_init_14 : decode cX3_init 14 = .ok (.aload_n 0, 1) := by decide +kernel
theorem dX3_init_15 : decode cX3_init 15 = .ok (.new 19, 3) := by decide +kernel
theorem dX3_init_18 : decode cX3_init 18 = .ok (.dup, 1) := by decide +kernel
theorem dX3_init_19 : decode cX3_init 19 = .ok (.invokespecial 21, 3) := by decide +kernel
theorem dX3_init_22 : decode cX3_init 22 = .ok (.putfield 22, 3) := by decide +kernel
theorem dX3_init_25 : decode cX3_init 25 = .ok (.aload_n 0, 1) := by decide +kernel
theorem dX3_init_26 : decode cX3_init 26 = .ok (.new 26, 3) := by decide +kernel
theorem dX3_init_29 : decode cX3_init 29 = .ok (.dup, 1) := by decide +kernel
theorem dX3_init_30 : decode cX3_init 30 = .ok (.bipush 12, 2) := by decide +kernel
theorem dX3_init_32 : decode cX3_init 32 = .ok (.invokespecial 28, 3) := by decide +kernel
theorem dX3_init_35 : decode cX3_init 35 = .ok (.putfield 31, 3) := by decide +kernel
theorem dX3_init_38 : decode cX3_init 38 = .ok (.aload_n 0, 1) := by decide +kernel
theorem dX3_init_39 : decode cX3_init 39 = .ok (.new 26, 3) := by decide +kernel
theorem dX3_init_42 : decode cX3_init 42 = .ok (.dup, 1) := by decide +kernel
theorem dX3_init_43 : decode cX3_init 43 = .ok (.bipush 12, 2) := by decide +kernel
theorem dX3_init_45 : decode cX3_init 45 = .ok (.invokespecial 28, 3) := by decide +kernel
theorem dX3_init_48 : decode cX3_init 48 = .ok (.putfield 35, 3) := by decide +kernel
theorem dX3_init_51 : decode cX3_init 51 = .ok (.aload_n 0, 1) := by decide +kernel
theorem dX3_init_52 : decode cX3_init 52 = .ok (.new 26, 3) := by decide +kernel
theorem dX3_init_55 : decode cX3_init 55 = .ok (.dup, 1) := by decide +kernel
theorem dX3_init_56 : decode cX3_init 56 = .ok (.bipush 12, 2) := by decide +kernel
theorem dX3_init_58 : decode cX3_init 58 = .ok (.invokespecial 28, 3) := by decide +kernel
theorem dX3_init_61 : decode cX3_init 61 = .ok (.putfield 38, 3) := by decide +kernel
theorem dX3_init_64 : decode cX3_init 64 = .ok (.aload_n 0, 1) := by decide +kernel
theorem dX3_init_65 : decode cX3_init 65 = .ok (.bipush 64, 2) := by decide +kernel
theorem dX3_init_67 : decode cX3_init 67 = .ok (.newarray .int, 2) := by decide +kernel
theorem dX3_init_69 : decode cX3_init 69 = .ok (.putfield 41, 3) := by decide +kernel
theorem dX3_init_72 : decode cX3_init 72 = .ok (.aload_n 0, 1) := by decide +kernel
theorem dX3_init_73 : decode cX3_init 73 = .ok (.bipush 64, 2) := by decide +kernel
theorem dX3_init_75 : decode cX3_init 75 = .ok (.newarray .int, 2) := by decide +kernel
theorem dX3_init_77 : decode cX3_init 77 = .ok (.putfield 45, 3) := by decide +kernel
theorem dX3_init_80 : decode cX3_init 80 = .ok (.return_, 1) := by decide +kernel
theorem dX4_init_0 : decode cX4_init 0 = .ok (.aload_n 0, 1) := by decide +kernel
theorem dX4_init_1 : decode cX4_init 1 = .ok (.invokespecial 5, 3) := by decide +kernel
theorem dX4_init_4 : decode cX4_init 4 = .ok (.aload_n 0, 1) := by decide +kernel
theorem dX4_init_5 : decode cX4_init 5 = .ok (.bipush 36, 2) := by decide +kernel
theorem dX4_init_7 : decode cX4_init 7 = .ok (.newarray .int, 2) := by decide +kernel
theorem dX4_init_9 : decode cX4_init 9 = .ok (.putfield 13, 3) := by decide +kernel
theorem dX4_init_12 : decode cX4_init 12 = .ok (.aload_n 0, 1) := by decide +kernel
theorem dX4_init_13 : decode cX4_init 13 = .ok (.bipush 36, 2) := by decide +kernel
theorem dX4_init_15 : decode cX4_init 15 = .ok (.newarray .int, 2) := by decide +kernel
theorem dX4_init_17 : decode cX4_init 17 = .ok (.putfield 17, 3) := by decide +kernel
theorem dX4_init_20 : decode cX4_init 20 = .ok (.aload_n 0, 1) := by decide +kernel
theorem dX4_init_21 : decode cX4_init 21 = .ok (.bipush 36, 2) := by decide +kernel
theorem dX4_init_23 : decode cX4_init 23 = .ok (.newarray .int, 2) := by decide +kernel
theorem dX4_init_25 : decode cX4_init 25 = .ok (.putfield 20, 3) := by decide +kernel
theorem dX4_init_28 : decode cX4_init 28 = .ok (.aload_n 0, 1) := by decide +kernel
theorem dX4_init_29 : decode cX4_init 29 = .ok (.bipush 36, 2) := by decide +kernel
theorem dX4_init_31 : decode cX4_init 31 = .ok (.newarray .int, 2) := by decide +kernel
theorem dX4_init_33 : decode cX4_init 33 = .ok (.putfield 23, 3) := by decide +kernel
theorem dX4_init_36 : decode cX4_init 36 = .ok (.aload_n 0, 1) := by decide +kernel
theorem dX4_init_37 : decode cX4_init 37 = .ok (.bipush 36, 2) := by decide +kernel
theorem dX4_init_39 : decode cX4_init 39 = .ok (.newarray .int, 2) := by decide +kernel
theorem dX4_init_41 : decode cX4_init 41 = .ok (.putfield 26, 3) := by decide +kernel
theorem dX4_init_44 : decode cX4_init 44 = .ok (.aload_n 0, 1) := by decide +kernel
theorem dX4_init_45 : decode cX4_init 45 = .ok (.bipush 64, 2) := by decide +kernel
theorem dX4_init_47 : decode cX4_init 47 = .ok (.newarray .int, 2) := by decide +kernel
theorem dX4_init_49 : decode cX4_init 49 = .ok (.putfield 29, 3) := by decide +kernel
theorem dX4_init_52 : decode cX4_init 52 = .ok (.aload_n 0, 1) := by decide +kernel
theorem dX4_init_53 : decode cX4_init 53 = .ok (.bipush 64, 2) := by decide +kernel
theorem dX4_init_55 : decode cX4_init 55 = .ok (.newarray .int, 2) := by decide +kernel
theorem dX4_init_57 : decode cX4_init 57 = .ok (.putfield 32, 3) := by decide +kernel
theorem dX4_init_60 : decode cX4_init 60 = .ok (.aload_n 0, 1) := by decide +kernel
theorem dX4_init_61 : decode cX4_init 61 = .ok (.bipush 64, 2) := by decide +kernel
theorem dX4_init_63 : decode cX4_init 63 = .ok (.newarray .int, 2) := by decide +kernel
theorem dX4_init_65 : decode cX4_init 65 = .ok (.putfield 35, 3) := by decide +kernel
theorem dX4_init_68 : decode cX4_init 68 = .ok (.return_, 1) := by decide +kernel
theorem dX4_isThere_0 : decode cX4_isThere 0 = .ok (.aload_n 0, 1) := by decide +kernel
theorem dX4_isThere_1 : decode cX4_isThere 1 = .ok (.getfield 38, 3) := by decide +kernel
theorem dX4_isThere_4 : decode cX4_isThere 4 = .ok (.ifnull 21, 3) := by decide +kernel
theorem dX4_isThere_25 : decode cX4_isThere 25 = .ok (.iconst 0, 1) := by decide +kernel
theorem dX4_isThere_26 : decode cX4_isThere 26 = .ok (.ireturn, 1) := by decide +kernel
theorem dX4_hasQuarrel_0 : decode cX4_hasQuarrel 0 = .ok (.iload_n 1, 1) := by decide +kernel
theorem dX4_hasQuarrel_1 : decode cX4_hasQuarrel 1 = .ok (.ifCond .lt 15, 3) := by decide +kernel
theorem dX4_hasQuarrel_4 : decode cX4_hasQuarrel 4 = .ok (.iload_n 1, 1) := by decide +kernel
theorem dX4_hasQuarrel_5 : decode cX4_hasQuarrel 5 = .ok (.aload_n 0, 1) := by decide +kernel
theorem dX4_hasQuarrel_6 : decode cX4_hasQuarrel 6 = .ok (.getfield 48, 3) := by decide +kernel
theorem dX4_hasQuarrel_9 : decode cX4_hasQuarrel 9 = .ok (.if_icmp .ge 7, 3) := by decide +kernel
theorem dX4_hasQuarrel_16 : decode cX4_hasQuarrel 16 = .ok (.iconst 0, 1) := by decide +kernel
theorem dX4_hasQuarrel_17 : decode cX4_hasQuarrel 17 = .ok (.ireturn, 1) := by decide +kernel
theorem dX4_clear_0 : decode cX4_clear 0 = .ok (.aload_n 0, 1) := by decide +kernel
theorem dX4_clear_1 : decode cX4_clear 1 = .ok (.aconst_null, 1) := by decide +kernel
theorem dX4_clear_2 : decode cX4_clear 2 = .ok (.putfield 38, 3) := by decide +kernel
theorem dX4_clear_5 : decode cX4_clear 5 = .ok (.aload_n 0, 1) := by decide +kernel
theorem dX4_clear_6 : decode cX4_clear 6 = .ok (.aconst_null, 1) := by decide +kernel
theorem dX4_clear_7 : decode cX4_clear 7 = .ok (.putfield 42, 3) := by decide +kernel
theorem dX4_clear_10 : decode cX4_clear 10 = .ok (.aload_n 0, 1) := by decide +kernel
theorem dX4_clear_11 : decode cX4_clear 11 = .ok (.aconst_null, 1) := by decide +kernel
theorem dX4_clear_12 : decode cX4_clear 12 = .ok (.putfield 45, 3) := by decide +kernel
theorem dX4_clear_15 : decode cX4_clear 15 = .ok (.aload_n 0, 1) := by decide +kernel
theorem dX4_clear_16 : decode cX4_clear 16 = .ok (.iconst 0, 1) := by decide +kernel
theorem dX4_clear_17 : decode cX4_clear 17 = .ok (.putfield 52, 3) := by decide +kernel
theorem dX4_clear_20 : decode cX4_clear 20 = .ok (.aload_n 0, 1) := by decide +kernel
theorem dX4_clear_21 : decode cX4_clear 21 = .ok (.iconst 0, 1) := by decide +kernel
theorem dX4_clear_22 : decode cX4_clear 22 = .ok (.putfield 48, 3) := by decide +kernel
theorem dX4_clear_25 : decode cX4_clear 25 = .ok (.return_, 1) := by decide +kernel
theorem dX4_copyFrom_0 : decode cX4_copyFrom 0 = .ok (.aload_n 1, 1) := by decide +kernel
theorem dX4_copyFrom_1 : decode cX4_copyFrom 1 = .ok (.invokevirtual 55, 3) := by decide +kernel
theorem dX4_copyFrom_4 : decode cX4_copyFrom 4 = .ok (.ifCond .ne 8, 3) := by decide +kernel
theorem dX4_copyFrom_7 : decode cX4_copyFrom 7 = .ok (.aload_n 0, 1) := by decide +kernel
theorem dX4_copyFrom_8 : decode cX4_copyFrom 8 = .ok (.invokevirtual 59, 3) := by decide +kernel
theorem dX4_copyFrom_11 : decode cX4_copyFrom 11 = .ok (.return_, 1) := by decide +kernel
theorem dX5_init_0 : decode cX5_init 0 = .ok (.aload_n 0, 1) := by decide +kernel
theorem dX5_init_1 : decode cX5_init 1 = .ok (.invokespecial 5, 3) := by decide +kernel
theorem dX5_init_4 : decode cX5_init 4 = .ok (.aload_n 0, 1) := by decide +kernel
theorem dX5_init_5 : decode cX5_init 5 = .ok (.sipush 144, 3) := by decide +kernel
theorem dX5_init_8 : decode cX5_init 8 = .ok (.newarray .boolean, 2) := by decide +kernel
theorem dX5_init_10 : decode cX5_init 10 = .ok (.putfield 13, 3) := by decide +kernel
theorem dX5_init_13 : decode cX5_init 13 = .ok (.aload_n 0, 1) := by decide +kernel
theorem dX5_init_14 : decode cX5_init 14 = .ok (.bipush 12, 2) := by decide +kernel
theorem dX5_init_16 : decode cX5_init 16 = .ok (.newarray .boolean, 2) := by decide +kernel
theorem dX5_init_18 : decode cX5_init 18 = .ok (.putfield 17, 3) := by decide +kernel
theorem dX5_init_21 : decode cX5_init 21 = .ok (.aload_n 0, 1) := by decide +kernel
theorem dX5_init_22 : decode cX5_init 22 = .ok (.bipush 64, 2) := by decide +kernel
theorem dX5_init_24 : decode cX5_init 24 = .ok (.newarray .int, 2) := by decide +kernel
theorem dX5_init_26 : decode cX5_init 26 = .ok (.putfield 20, 3) := by decide +kernel
theorem dX5_init_29 : decode cX5_init 29 = .ok (.aload_n 0, 1) := by decide +kernel
theorem dX5_init_30 : decode cX5_init 30 = .ok (.sipush 256, 3) := by decide +kernel
theorem dX5_init_33 : decode cX5_init 33 = .ok (.newarray .int, 2) := by decide +kernel
theorem dX5_init_35 : decode cX5_init 35 = .ok (.putfield 24, 3) := by decide +kernel
theorem dX5_init_38 : decode cX5_init 38 = .ok (.return_, 1) := by decide +kernel
theorem dX6_init_0 : decode cX6_init 0 = .ok (.aload_n 0, 1) := by decide +kernel
theorem dX6_init_1 : decode cX6_init 1 = .ok (.invokespecial 3, 3) := by decide +kernel
theorem dX6_init_4 : decode cX6_init 4 = .ok (.iload_n 1, 1) := by decide +kernel
theorem dX6_init_5 : decode cX6_init 5 = .ok (.iconst 0, 1) := by decide +kernel
theorem dX6_init_6 : decode cX6_init 6 = .ok (.invokestatic 9, 3) := by decide +kernel
theorem dX6_init_9 : decode cX6_init 9 = .ok (.istore_n 2, 1) := by decide +kernel
theorem dX6_init_10 : decode cX6_init 10 = .ok (.aload_n 0, 1) := by decide +kernel
theorem dX6_init_11 : decode cX6_init 11 = .ok (.iload_n 2, 1) := by decide +kernel
theorem dX6_init_12 : decode cX6_init 12 = .ok (.newarray .long, 2) := by decide +kernel
theorem dX6_init_14 : decode cX6_init 14 = .ok (.putfield 15, 3) := by decide +kernel
theorem dX6_init_17 : decode cX6_init 17 = .ok (.aload_n 0, 1) := by decide +kernel
theorem dX6_init_18 : decode cX6_init 18 = .ok (.iload_n 2, 1) := by decide +kernel
theorem dX6_init_19 : decode cX6_init 19 = .ok (.newarray .long, 2) := by decide +kernel
theorem dX6_init_21 : decode cX6_init 21 = .ok (.putfield 21, 3) := by decide +kernel
theorem dX6_init_24 : decode cX6_init 24 = .ok (.aload_n 0, 1) := by decide +kernel
theorem dX6_init_25 : decode cX6_init 25 = .ok (.iload_n 2, 1) := by decide +kernel
theorem dX6_init_26 : decode cX6_init 26 = .ok (.newarray .int, 2) := by decide +kernel
theorem dX6_init_28 : decode cX6_init 28 = .ok (.putfield 24, 3) := by decide +kernel
theorem dX6_init_31 : decode cX6_init 31 = .ok (.aload_n 0, 1) := by decide +kernel
theorem dX6_init_32 : decode cX6_init 32 = .ok (.iload_n 2, 1) := by decide +kernel
theorem dX6_init_33 : decode cX6_init 33 = .ok (.newarray .int, 2) := by decide +kernel
theorem dX6_init_35 : decode cX6_init 35 = .ok (.putfield 28, 3) := by decide +kernel
theorem dX6_init_38 : decode cX6_init 38 = .ok (.aload_n 0, 1) := by decide +kernel
theorem dX6_init_39 : decode cX6_init 39 = .ok (.iload_n 2, 1) := by decide +kernel
theorem dX6_init_40 : decode cX6_init 40 = .ok (.newarray .int, 2) := by decide +kernel
theorem dX6_init_42 : decode cX6_init 42 = .ok (.putfield 31, 3) := by decide +kernel
theorem dX6_init_45 : decode cX6_init 45 = .ok (.aload_n 0, 1) := by decide +kernel
theorem dX6_init_46 : decode cX6_init 46 = .ok (.iload_n 2, 1) := by decide +kernel
theorem dX6_init_47 : decode cX6_init 47 = .ok (.iconst 4, 1) := by decide +kernel
theorem dX6_init_48 : decode cX6_init 48 = .ok (.imul, 1) := by decide +kernel
theorem dX6_init_49 : decode cX6_init 49 = .ok (.newarray .long, 2) := by decide +kernel
theorem dX6_init_51 : decode cX6_init 51 = .ok (.putfield 34, 3) := by decide +kernel
theorem dX6_init_54 : decode cX6_init 54 = .ok (.aload_n 0, 1) := by decide +kernel
theorem dX6_init_55 : decode cX6_init 55 = .ok (.iload_n 2, 1) := by decide +kernel
theorem dX6_init_56 : decode cX6_init 56 = .ok (.iconst 4, 1) := by decide +kernel
theorem dX6_init_57 : decode cX6_init 57 = .ok (.imul, 1) := by decide +kernel
theorem dX6_init_58 : decode cX6_init 58 = .ok (.newarray .int, 2) := by decide +kernel
theorem dX6_init_60 : decode cX6_init 60 = .ok (.putfield 37, 3) := by decide +kernel
theorem dX6_init_63 : decode cX6_init 63 = .ok (.aload_n 0, 1) := by decide +kernel
theorem dX6_init_64 : decode cX6_init 64 = .ok (.iload_n 2, 1) := by decide +kernel
theorem dX6_init_65 : decode cX6_init 65 = .ok (.newarray .boolean, 2) := by decide +kernel
theorem dX6_init_67 : decode cX6_init 67 = .ok (.putfield 40, 3) := by decide +kernel
theorem dX6_init_70 : decode cX6_init 70 = .ok (.aload_n 0, 1) := by decide +kernel
theorem dX6_init_71 : decode cX6_init 71 = .ok (.iload_n 2, 1) := by decide +kernel
theorem dX6_init_72 : decode cX6_init 72 = .ok (.newarray .int, 2) := by decide +kernel
theorem dX6_init_74 : decode cX6_init 74 = .ok (.putfield 44, 3) := by decide +kernel
theorem dX6_init_77 : decode cX6_init 77 = .ok (.return_, 1) := by decide +kernel
theorem dX6_workOut_0 : decode cX6_workOut 0 = .ok (.aload_n 0, 1) := by decide +kernel
theorem dX6_workOut_1 : decode cX6_workOut 1 = .ok (.iconst 0, 1) := by decide +kernel
theorem dX6_workOut_2 : decode cX6_workOut 2 = .ok (.putfield 65, 3) := by decide +kernel
theorem dX6_workOut_5 : decode cX6_workOut 5 = .ok (.aload_n 0, 1) := by decide +kernel
theorem dX6_workOut_6 : decode cX6_workOut 6 = .ok (.iconst 0, 1) := by decide +kernel
theorem dX6_workOut_7 : decode cX6_workOut 7 = .ok (.putfield 68, 3) := by decide +kernel
theorem dX6_workOut_10 : decode cX6_workOut 10 = .ok (.aload_n 0, 1) := by decide +kernel
theorem dX6_workOut_11 : decode cX6_workOut 11 = .ok (.iconst 0, 1) := by decide +kernel
theorem dX6_workOut_12 : decode cX6_workOut 12 = .ok (.putfield 71, 3) := by decide +kernel
theorem dX6_workOut_15 : decode cX6_workOut 15 = .ok (.aload_n 0, 1) := by decide +kernel
theorem dX6_workOut_16 : decode cX6_workOut 16 = .ok (.iconst 0, 1) := by decide +kernel
theorem dX6_workOut_17 : decode cX6_workOut 17 = .ok (.putfield 74, 3) := by decide +kernel
theorem dX6_workOut_20 : decode cX6_workOut 20 = .ok (.iconst 0, 1) := by decide +kernel
theorem dX6_workOut_21 : decode cX6_workOut 21 = .ok (.istore_n 1, 1) := by decide +kernel
theorem dX6_workOut_22 : decode cX6_workOut 22 = .ok (.iload_n 1, 1) := by decide +kernel
theorem dX6_workOut_23 : decode cX6_workOut 23 = .ok (.aload_n 0, 1) := by decide +kernel
theorem dX6_workOut_24 : decode cX6_workOut 24 = .ok (.getfield 47, 3) := by decide +kernel
theorem dX6_workOut_27 : decode cX6_workOut 27 = .ok (.if_icmp .ge 68, 3) := by decide +kernel
theorem dX6_workOut_95 : decode cX6_workOut 95 = .ok (.iconst 0, 1) := by decide +kernel
theorem dX6_workOut_96 : decode cX6_workOut 96 = .ok (.istore_n 1, 1) := by decide +kernel
theorem dX6_workOut_97 : decode cX6_workOut 97 = .ok (.iload_n 1, 1) := by decide +kernel
theorem dX6_workOut_98 : decode cX6_workOut 98 = .ok (.aload_n 0, 1) := by decide +kernel
theorem dX6_workOut_99 : decode cX6_workOut 99 = .ok (.getfield 47, 3) := by decide +kernel
theorem dX6_workOut_102 : decode cX6_workOut 102 = .ok (.if_icmp .ge 32, 3) := by decide +kernel
theorem dX6_workOut_134 : decode cX6_workOut 134 = .ok (.return_, 1) := by decide +kernel
theorem dX7_init_0 : decode cX7_init 0 = .ok (.aload_n 0, 1) := by decide +kernel
theorem dX7_init_1 : decode cX7_init 1 = .ok (.invokespecial 3, 3) := by decide +kernel
theorem dX7_init_4 : decode cX7_init 4 = .ok (.aload_n 0, 1) := by decide +kernel
theorem dX7_init_5 : decode cX7_init 5 = .ok (.aload_n 1, 1) := by decide +kernel
theorem dX7_init_6 : decode cX7_init 6 = .ok (.putfield 9, 3) := by decide +kernel
theorem dX7_init_9 : decode cX7_init 9 = .ok (.aload_n 0, 1) := by decide +kernel
theorem dX7_init_10 : decode cX7_init 10 = .ok (.bipush 6, 2) := by decide +kernel
theorem dX7_init_12 : decode cX7_init 12 = .ok (.newarray .long, 2) := by decide +kernel
theorem dX7_init_14 : decode cX7_init 14 = .ok (.putfield 15, 3) := by decide +kernel
theorem dX7_init_17 : decode cX7_init 17 = .ok (.aload_n 0, 1) := by decide +kernel
theorem dX7_init_18 : decode cX7_init 18 = .ok (.bipush 6, 2) := by decide +kernel
theorem dX7_init_20 : decode cX7_init 20 = .ok (.newarray .long, 2) := by decide +kernel
theorem dX7_init_22 : decode cX7_init 22 = .ok (.putfield 19, 3) := by decide +kernel
theorem dX7_init_25 : decode cX7_init 25 = .ok (.return_, 1) := by decide +kernel
theorem dX7_read_0 : decode cX7_read 0 = .ok (.aload_n 0, 1) := by decide +kernel
theorem dX7_read_1 : decode cX7_read 1 = .ok (.iconst 0, 1) := by decide +kernel
theorem dX7_read_2 : decode cX7_read 2 = .ok (.putfield 22, 3) := by decide +kernel
theorem dX7_read_5 : decode cX7_read 5 = .ok (.aload_n 1, 1) := by decide +kernel
theorem dX7_read_6 : decode cX7_read 6 = .ok (.iconst 0, 1) := by decide +kernel
theorem dX7_read_7 : decode cX7_read 7 = .ok (.putfield 26, 3) := by decide +kernel
theorem dX7_read_10 : decode cX7_read 10 = .ok (.iconst 0, 1) := by decide +kernel
theorem dX7_read_11 : decode cX7_read 11 = .ok (.istore_n 2, 1) := by decide +kernel
theorem dX7_read_12 : decode cX7_read 12 = .ok (.iload_n 2, 1) := by decide +kernel
theorem dX7_read_13 : decode cX7_read 13 = .ok (.bipush 6, 2) := by decide +kernel
theorem dX7_read_15 : decode cX7_read 15 = .ok (.if_icmp .gt 30, 3) := by decide +kernel
theorem dX7_read_18 : decode cX7_read 18 = .ok (.aload_n 0, 1) := by decide +kernel
theorem dX7_read_19 : decode cX7_read 19 = .ok (.getfield 9, 3) := by decide +kernel
theorem dX7_read_22 : decode cX7_read 22 = .ok (.getfield 31, 3) := by decide +kernel
theorem dX7_read_25 : decode cX7_read 25 = .ok (.bipush 100, 2) := by decide +kernel
theorem dX7_read_27 : decode cX7_read 27 = .ok (.if_icmp .ne 18, 3) := by decide +kernel
theorem dX7_read_45 : decode cX7_read 45 = .ok (.iconst 0, 1) := by decide +kernel
theorem dX7_read_46 : decode cX7_read 46 = .ok (.istore_n 2, 1) := by decide +kernel
theorem dX7_read_47 : decode cX7_read 47 = .ok (.iload_n 2, 1) := by decide +kernel
theorem dX7_read_48 : decode cX7_read 48 = .ok (.bipush 12, 2) := by decide +kernel
theorem dX7_read_50 : decode cX7_read 50 = .ok (.if_icmp .gt 31, 3) := by decide +kernel
theorem dX7_read_53 : decode cX7_read 53 = .ok (.aload_n 0, 1) := by decide +kernel
theorem dX7_read_54 : decode cX7_read 54 = .ok (.getfield 9, 3) := by decide +kernel
theorem dX7_read_57 : decode cX7_read 57 = .ok (.getfield 31, 3) := by decide +kernel
theorem dX7_read_60 : decode cX7_read 60 = .ok (.bipush 101, 2) := by decide +kernel
theorem dX7_read_62 : decode cX7_read 62 = .ok (.if_icmp .ne 19, 3) := by decide +kernel
theorem dX7_read_81 : decode cX7_read 81 = .ok (.aload_n 0, 1) := by decide +kernel
theorem dX7_read_82 : decode cX7_read 82 = .ok (.getfield 9, 3) := by decide +kernel
theorem dX7_read_85 : decode cX7_read 85 = .ok (.getfield 31, 3) := by decide +kernel
theorem dX7_read_88 : decode cX7_read 88 = .ok (.iconst 1, 1) := by decide +kernel
theorem dX7_read_89 : decode cX7_read 89 = .ok (.if_icmp .eq 11, 3) := by decide +kernel
theorem dX7_read_100 : decode cX7_read 100 = .ok (.aload_n 1, 1) := by decide +kernel
theorem dX7_read_101 : decode cX7_read 101 = .ok (.invokevirtual 47, 3) := by decide +kernel
theorem dX7_read_104 : decode cX7_read 104 = .ok (.iconst 1, 1) := by decide +kernel
theorem dX7_read_105 : decode cX7_read 105 = .ok (.ireturn, 1) := by decide +kernel
theorem dX8_init_0 : decode cX8_init 0 = .ok (.aload_n 0, 1) := by decide +kernel
theorem dX8_init_1 : decode cX8_init 1 = .ok (.invokespecial 3, 3) := by decide +kernel
theorem dX8_init_4 : decode cX8_init 4 = .ok (.aload_n 0, 1) := by decide +kernel
theorem dX8_init_5 : decode cX8_init 5 = .ok (.bipush 14, 2) := by decide +kernel
theorem dX8_init_7 : decode cX8_init 7 = .ok (.newarray .long, 2) := by decide +kernel
theorem dX8_init_9 : decode cX8_init 9 = .ok (.putfield 11, 3) := by decide +kernel
theorem dX8_init_12 : decode cX8_init 12 = .ok (.aload_n 0, 1) := by decide +kernel
theorem dX8_init_13 : decode cX8_init 13 = .ok (.iconst 0, 1) := by decide +kernel
theorem dX8_init_14 : decode cX8_init 14 = .ok (.newarray .int, 2) := by decide +kernel
theorem dX8_init_16 : decode cX8_init 16 = .ok (.putfield 15, 3) := by decide +kernel
theorem dX8_init_19 : decode cX8_init 19 = .ok (.aload_n 0, 1) := by decide +kernel
theorem dX8_init_20 : decode cX8_init 20 = .ok (.iconst (-1), 1) := by decide +kernel
theorem dX8_init_21 : decode cX8_init 21 = .ok (.putfield 19, 3) := by decide +kernel
theorem dX8_init_24 : decode cX8_init 24 = .ok (.iconst 0, 1) := by decide +kernel
theorem dX8_init_25 : decode cX8_init 25 = .ok (.istore_n 1, 1) := by decide +kernel
theorem dX8_init_26 : decode cX8_init 26 = .ok (.iconst 0, 1) := by decide +kernel
theorem dX8_init_27 : decode cX8_init 27 = .ok (.istore_n 2, 1) := by decide +kernel
theorem dX8_init_28 : decode cX8_init 28 = .ok (.iload_n 2, 1) := by decide +kernel
theorem dX8_init_29 : decode cX8_init 29 = .ok (.ldc 23, 2) := by decide +kernel
theorem dX8_init_31 : decode cX8_init 31 = .ok (.invokevirtual 25, 3) := by decide +kernel
theorem dX8_init_34 : decode cX8_init 34 = .ok (.if_icmp .ge 52, 3) := by decide +kernel
theorem dX8_init_37 : decode cX8_init 37 = .ok (.ldc 23, 2) := by decide +kernel
theorem dX8_init_39 : decode cX8_init 39 = .ok (.iload_n 2, 1) := by decide +kernel
theorem dX8_init_40 : decode cX8_init 40 = .ok (.invokevirtual 31, 3) := by decide +kernel
theorem dX8_init_43 : decode cX8_init 43 = .ok (.istore_n 3, 1) := by decide +kernel
theorem dX8_init_44 : decode cX8_init 44 = .ok (.iload_n 3, 1) := by decide +kernel
theorem dX8_init_45 : decode cX8_init 45 = .ok (.bipush 32, 2) := by decide +kernel
theorem dX8_init_47 : decode cX8_init 47 = .ok (.if_icmp .ne 9, 3) := by decide +kernel
theorem dX8_init_50 : decode cX8_init 50 = .ok (.iinc 1 1, 3) := by decide +kernel
theorem dX8_init_53 : decode cX8_init 53 = .ok (.goto 27, 3) := by decide +kernel
theorem dX8_init_56 : decode cX8_init 56 = .ok (.iload_n 1, 1) := by decide +kernel
theorem dX8_init_57 : decode cX8_init 57 = .ok (.bipush 14, 2) := by decide +kernel
theorem dX8_init_59 : decode cX8_init 59 = .ok (.if_icmp .ge 21, 3) := by decide +kernel
theorem dX8_init_62 : decode cX8_init 62 = .ok (.aload_n 0, 1) := by decide +kernel
theorem dX8_init_63 : decode cX8_init 63 = .ok (.getfield 11, 3) := by decide +kernel
theorem dX8_init_66 : decode cX8_init 66 = .ok (.iload_n 1, 1) := by decide +kernel
theorem dX8_init_67 : decode cX8_init 67 = .ok (.aload_n 0, 1) := by decide +kernel
theorem dX8_init_68 : decode cX8_init 68 = .ok (.getfield 11, 3) := by decide +kernel
theorem dX8_init_71 : decode cX8_init 71 = .ok (.iload_n 1, 1) := by decide +kernel
theorem dX8_init_72 : decode cX8_init 72 = .ok (.laload, 1) := by decide +kernel
theorem dX8_init_73 : decode cX8_init 73 = .ok (.bipush 8, 2) := by decide +kernel
theorem dX8_init_75 : decode cX8_init 75 = .ok (.lshl, 1) := by decide +kernel
theorem dX8_init_76 : decode cX8_init 76 = .ok (.iload_n 3, 1) := by decide +kernel
theorem dX8_init_77 : decode cX8_init 77 = .ok (.i2l, 1) := by decide +kernel
theorem dX8_init_78 : decode cX8_init 78 = .ok (.lor, 1) := by decide +kernel
theorem dX8_init_79 : decode cX8_init 79 = .ok (.lastore, 1) := by decide +kernel
theorem dX8_init_80 : decode cX8_init 80 = .ok (.iinc 2 1, 3) := by decide +kernel
theorem dX8_init_83 : decode cX8_init 83 = .ok (.goto (-55), 3) := by decide +kernel
theorem dX8_init_86 : decode cX8_init 86 = .ok (.return_, 1) := by decide +kernel
theorem dX8_start_0 : decode cX8_start 0 = .ok (.aload_n 0, 1) := by decide +kernel
theorem dX8_start_1 : decode cX8_start 1 = .ok (.aload_n 1, 1) := by decide +kernel
theorem dX8_start_2 : decode cX8_start 2 = .ok (.putfield 15, 3) := by decide +kernel
theorem dX8_start_5 : decode cX8_start 5 = .ok (.aload_n 0, 1) := by decide +kernel
theorem dX8_start_6 : decode cX8_start 6 = .ok (.iload_n 2, 1) := by decide +kernel
theorem dX8_start_7 : decode cX8_start 7 = .ok (.aload_n 1, 1) := by decide +kernel
theorem dX8_start_8 : decode cX8_start 8 = .ok (.arraylength, 1) := by decide +kernel
theorem dX8_start_9 : decode cX8_start 9 = .ok (.invokestatic 35, 3) := by decide +kernel
theorem dX8_start_12 : decode cX8_start 12 = .ok (.putfield 41, 3) := by decide +kernel
theorem dX8_start_15 : decode cX8_start 15 = .ok (.aload_n 0, 1) := by decide +kernel
theorem dX8_start_16 : decode cX8_start 16 = .ok (.iconst 0, 1) := by decide +kernel
theorem dX8_start_17 : decode cX8_start 17 = .ok (.putfield 43, 3) := by decide +kernel
theorem dX8_start_20 : decode cX8_start 20 = .ok (.aload_n 0, 1) := by decide +kernel
theorem dX8_start_21 : decode cX8_start 21 = .ok (.iconst 0, 1) := by decide +kernel
theorem dX8_start_22 : decode cX8_start 22 = .ok (.putfield 46, 3) := by decide +kernel
theorem dX8_start_25 : decode cX8_start 25 = .ok (.aload_n 0, 1) := by decide +kernel
theorem dX8_start_26 : decode cX8_start 26 = .ok (.iconst (-1), 1) := by decide +kernel
theorem dX8_start_27 : decode cX8_start 27 = .ok (.putfield 19, 3) := by decide +kernel
theorem dX8_start_30 : decode cX8_start 30 = .ok (.aload_n 0, 1) := by decide +kernel
theorem dX8_start_31 : decode cX8_start 31 = .ok (.invokevirtual 49, 3) := by decide +kernel
theorem dX8_start_34 : decode cX8_start 34 = .ok (.return_, 1) := by decide +kernel
theorem dX8_next_0 : decode cX8_next 0 = .ok (.aload_n 0, 1) := by decide +kernel
theorem dX8_next_1 : decode cX8_next 1 = .ok (.getfield 43, 3) := by decide +kernel
theorem dX8_next_4 : decode cX8_next 4 = .ok (.aload_n 0, 1) := by decide +kernel
theorem dX8_next_5 : decode cX8_next 5 = .ok (.getfield 41, 3) := by decide +kernel
theorem dX8_next_8 : decode cX8_next 8 = .ok (.if_icmp .ge 44, 3) := by decide +kernel
theorem dX8_next_52 : decode cX8_next 52 = .ok (.aload_n 0, 1) := by decide +kernel
theorem dX8_next_53 : decode cX8_next 53 = .ok (.aload_n 0, 1) := by decide +kernel
theorem dX8_next_54 : decode cX8_next 54 = .ok (.getfield 43, 3) := by decide +kernel
theorem dX8_next_57 : decode cX8_next 57 = .ok (.putfield 52, 3) := by decide +kernel
theorem dX8_next_60 : decode cX8_next 60 = .ok (.aload_n 0, 1) := by decide +kernel
theorem dX8_next_61 : decode cX8_next 61 = .ok (.getfield 43, 3) := by decide +kernel
theorem dX8_next_64 : decode cX8_next 64 = .ok (.aload_n 0, 1) := by decide +kernel
theorem dX8_next_65 : decode cX8_next 65 = .ok (.getfield 41, 3) := by decide +kernel
theorem dX8_next_68 : decode cX8_next 68 = .ok (.if_icmp .lt 11, 3) := by decide +kernel
theorem dX8_next_71 : decode cX8_next 71 = .ok (.aload_n 0, 1) := by decide +kernel
theorem dX8_next_72 : decode cX8_next 72 = .ok (.iconst 1, 1) := by decide +kernel
theorem dX8_next_73 : decode cX8_next 73 = .ok (.putfield 55, 3) := by decide +kernel
theorem dX8_next_76 : decode cX8_next 76 = .ok (.goto 92, 3) := by decide +kernel
theorem dX8_next_168 : decode cX8_next 168 = .ok (.return_, 1) := by decide +kernel
theorem dX8_blame_0 : decode cX8_blame 0 = .ok (.aload_n 0, 1) := by decide +kernel
theorem dX8_blame_1 : decode cX8_blame 1 = .ok (.iload_n 1, 1) := by decide +kernel
theorem dX8_blame_2 : decode cX8_blame 2 = .ok (.putfield 46, 3) := by decide +kernel
theorem dX8_blame_5 : decode cX8_blame 5 = .ok (.aload_n 0, 1) := by decide +kernel
theorem dX8_blame_6 : decode cX8_blame 6 = .ok (.aload_n 0, 1) := by decide +kernel
theorem dX8_blame_7 : decode cX8_blame 7 = .ok (.getfield 52, 3) := by decide +kernel
theorem dX8_blame_10 : decode cX8_blame 10 = .ok (.putfield 19, 3) := by decide +kernel
theorem dX8_blame_13 : decode cX8_blame 13 = .ok (.iconst 0, 1) := by decide +kernel
theorem dX8_blame_14 : decode cX8_blame 14 = .ok (.ireturn, 1) := by decide +kernel
theorem dX8_refuse_0 : decode cX8_refuse 0 = .ok (.aload_n 0, 1) := by decide +kernel
theorem dX8_refuse_1 : decode cX8_refuse 1 = .ok (.aload_n 0, 1) := by decide +kernel
theorem dX8_refuse_2 : decode cX8_refuse 2 = .ok (.getfield 55, 3) := by decide +kernel
theorem dX8_refuse_5 : decode cX8_refuse 5 = .ok (.ifCond .ne 7, 3) := by decide +kernel
theorem dX8_refuse_12 : decode cX8_refuse 12 = .ok (.iconst 2, 1) := by decide +kernel
theorem dX8_refuse_13 : decode cX8_refuse 13 = .ok (.invokevirtual 84, 3) := by decide +kernel
theorem dX8_refuse_16 : decode cX8_refuse 16 = .ok (.ireturn, 1) := by decide +kernel
theorem dX8_pass_0 : decode cX8_pass 0 = .ok (.aload_n 0, 1) := by decide +kernel
theorem dX8_pass_1 : decode cX8_pass 1 = .ok (.getfield 55, 3) := by decide +kernel
theorem dX8_pass_4 : decode cX8_pass 4 = .ok (.iload_n 1, 1) := by decide +kernel
theorem dX8_pass_5 : decode cX8_pass 5 = .ok (.if_icmp .eq 8, 3) := by decide +kernel
theorem dX8_pass_8 : decode cX8_pass 8 = .ok (.aload_n 0, 1) := by decide +kernel
theorem dX8_pass_9 : decode cX8_pass 9 = .ok (.invokevirtual 87, 3) := by decide +kernel
theorem dX8_pass_12 : decode cX8_pass 12 = .ok (.ireturn, 1) := by decide +kernel
theorem dX9_init_0 : decode cX9_init 0 = .ok (.aload_n 0, 1) := by decide +kernel
theorem dX9_init_1 : decode cX9_init 1 = .ok (.invokespecial 3, 3) := by decide +kernel
theorem dX9_init_4 : decode cX9_init 4 = .ok (.aload_n 0, 1) := by decide +kernel
theorem dX9_init_5 : decode cX9_init 5 = .ok (.sipush 400, 3) := by decide +kernel
theorem dX9_init_8 : decode cX9_init 8 = .ok (.newarray .int, 2) := by decide +kernel
theorem dX9_init_10 : decode cX9_init 10 = .ok (.putfield 9, 3) := by decide +kernel
theorem dX9_init_13 : decode cX9_init 13 = .ok (.aload_n 0, 1) := by decide +kernel
theorem dX9_init_14 : decode cX9_init 14 = .ok (.sipush 400, 3) := by decide +kernel
theorem dX9_init_17 : decode cX9_init 17 = .ok (.newarray .long, 2) := by decide +kernel
theorem dX9_init_19 : decode cX9_init 19 = .ok (.putfield 15, 3) := by decide +kernel
theorem dX9_init_22 : decode cX9_init 22 = .ok (.aload_n 0, 1) := by decide +kernel
theorem dX9_init_23 : decode cX9_init 23 = .ok (.bipush 41, 2) := by decide +kernel
theorem dX9_init_25 : decode cX9_init 25 = .ok (.newarray .int, 2) := by decide +kernel
theorem dX9_init_27 : decode cX9_init 27 = .ok (.putfield 19, 3) := by decide +kernel
theorem dX9_init_30 : decode cX9_init 30 = .ok (.return_, 1) := by decide +kernel
theorem dX10_init_0 : decode cX10_init 0 = .ok (.aload_n 0, 1) := by decide +kernel
theorem dX10_init_1 : decode cX10_init 1 = .ok (.invokespecial 3, 3) := by decide +kernel
theorem dX10_init_4 : decode cX10_init 4 = .ok (.aload_n 0, 1) := by decide +kernel
theorem dX10_init_5 : decode cX10_init 5 = .ok (.aload_n 1, 1) := by decide +kernel
theorem dX10_init_6 : decode cX10_init 6 = .ok (.putfield 9, 3) := by decide +kernel
theorem dX10_init_9 : decode cX10_init 9 = .ok (.return_, 1) := by decide +kernel
theorem dX10_read_0 : decode cX10_read 0 = .ok (.aload_n 0, 1) := by decide +kernel
theorem dX10_read_1 : decode cX10_read 1 = .ok (.aload_n 1, 1) := by decide +kernel
theorem dX10_read_2 : decode cX10_read 2 = .ok (.putfield 15, 3) := by decide +kernel
theorem dX10_read_5 : decode cX10_read 5 = .ok (.aload_n 0, 1) := by decide +kernel
theorem dX10_read_6 : decode cX10_read 6 = .ok (.getfield 15, 3) := by decide +kernel
theorem dX10_read_9 : decode cX10_read 9 = .ok (.iconst 0, 1) := by decide +kernel
theorem dX10_read_10 : decode cX10_read 10 = .ok (.putfield 19, 3) := by decide +kernel
theorem dX10_read_13 : decode cX10_read 13 = .ok (.aload_n 0, 1) := by decide +kernel
theorem dX10_read_14 : decode cX10_read 14 = .ok (.getfield 15, 3) := by decide +kernel
theorem dX10_read_17 : decode cX10_read 17 = .ok (.iconst 0, 1) := by decide +kernel
theorem dX10_read_18 : decode cX10_read 18 = .ok (.putfield 25, 3) := by decide +kernel
theorem dX10_read_21 : decode cX10_read 21 = .ok (.aload_n 0, 1) := by decide +kernel
theorem dX10_read_22 : decode cX10_read 22 = .ok (.getfield 9, 3) := by decide +kernel
theorem dX10_read_25 : decode cX10_read 25 = .ok (.bipush 106, 2) := by decide +kernel
theorem dX10_read_27 : decode cX10_read 27 = .ok (.invokevirtual 30, 3) := by decide +kernel
theorem dX10_read_30 : decode cX10_read 30 = .ok (.ifCond .eq 23, 3) := by decide +kernel
theorem dX10_read_53 : decode cX10_read 53 = .ok (.iconst 0, 1) := by decide +kernel
theorem dX10_read_54 : decode cX10_read 54 = .ok (.ireturn, 1) := by decide +kernel
theorem dX11_init_0 : decode cX11_init 0 = .ok (.aload_n 0, 1) := by decide +kernel
theorem dX11_init_1 : decode cX11_init 1 = .ok (.invokespecial 1, 3) := by decide +kernel
theorem dX11_init_4 : decode cX11_init 4 = .ok (.aload_n 0, 1) := by decide +kernel
theorem dX11_init_5 : decode cX11_init 5 = .ok (.sipush 1200, 3) := by decide +kernel
theorem dX11_init_8 : decode cX11_init 8 = .ok (.newarray .int, 2) := by decide +kernel
theorem dX11_init_10 : decode cX11_init 10 = .ok (.putfield 9, 3) := by decide +kernel
theorem dX11_init_13 : decode cX11_init 13 = .ok (.aload_n 0, 1) := by decide +kernel
theorem dX11_init_14 : decode cX11_init 14 = .ok (.new 13, 3) := by decide +kernel
theorem dX11_init_17 : decode cX11_init 17 = .ok (.dup, 1) := by decide +kernel
theorem dX11_init_18 : decode cX11_init 18 = .ok (.invokespecial 15, 3) := by decide +kernel
theorem dX11_init_21 : decode cX11_init 21 = .ok (.putfield 16, 3) := by decide +kernel
theorem dX11_init_24 : decode cX11_init 24 = .ok (.aload_n 0, 1) := by decide +kernel
theorem dX11_init_25 : decode cX11_init 25 = .ok (.new 20, 3) := by decide +kernel
theorem dX11_init_28 : decode cX11_init 28 = .ok (.dup, 1) := by decide +kernel
theorem dX11_init_29 : decode cX11_init 29 = .ok (.aload_n 0, 1) := by decide +kernel
theorem dX11_init_30 : decode cX11_init 30 = .ok (.getfield 16, 3) := by decide +kernel
theorem dX11_init_33 : decode cX11_init 33 = .ok (.invokespecial 22, 3) := by decide +kernel
theorem dX11_init_36 : decode cX11_init 36 = .ok (.putfield 25, 3) := by decide +kernel
theorem dX11_init_39 : decode cX11_init 39 = .ok (.aload_n 0, 1) := by decide +kernel
theorem dX11_init_40 : decode cX11_init 40 = .ok (.new 29, 3) := by decide +kernel
theorem dX11_init_43 : decode cX11_init 43 = .ok (.dup, 1) := by decide +kernel
theorem dX11_init_44 : decode cX11_init 44 = .ok (.aload_n 0, 1) := by decide +kernel
theorem dX11_init_45 : decode cX11_init 45 = .ok (.getfield 16, 3) := by decide +kernel
theorem dX11_init_48 : decode cX11_init 48 = .ok (.invokespecial 31, 3) := by decide +kernel
theorem dX11_init_51 : decode cX11_init 51 = .ok (.putfield 32, 3) := by decide +kernel
theorem dX11_init_54 : decode cX11_init 54 = .ok (.aload_n 0, 1) := by decide +kernel
theorem dX11_init_55 : decode cX11_init 55 = .ok (.new 36, 3) := by decide +kernel
theorem dX11_init_58 : decode cX11_init 58 = .ok (.dup, 1) := by decide +kernel
theorem dX11_init_59 : decode cX11_init 59 = .ok (.invokespecial 38, 3) := by decide +kernel
theorem dX11_init_62 : decode cX11_init 62 = .ok (.putfield 39, 3) := by decide +kernel
theorem dX11_init_65 : decode cX11_init 65 = .ok (.aload_n 0, 1) := by decide +kernel
theorem dX11_init_66 : decode cX11_init 66 = .ok (.getfield 39, 3) := by decide +kernel
theorem dX11_init_69 : decode cX11_init 69 = .ok (.iconst 0, 1) := by decide +kernel
theorem dX11_init_70 : decode cX11_init 70 = .ok (.putfield 43, 3) := by decide +kernel
theorem dX11_init_73 : decode cX11_init 73 = .ok (.aload_n 0, 1) := by decide +kernel
theorem dX11_init_74 : decode cX11_init 74 = .ok (.iconst 3, 1) := by decide +kernel
theorem dX11_init_75 : decode cX11_init 75 = .ok (.anewarray 36, 3) := by decide +kernel
theorem dX11_init_78 : decode cX11_init 78 = .ok (.putfield 47, 3) := by decide +kernel
theorem dX11_init_81 : decode cX11_init 81 = .ok (.iconst 0, 1) := by decide +kernel
theorem dX11_init_82 : decode cX11_init 82 = .ok (.istore_n 1, 1) := by decide +kernel
theorem dX11_init_83 : decode cX11_init 83 = .ok (.iload_n 1, 1) := by decide +kernel
theorem dX11_init_84 : decode cX11_init 84 = .ok (.iconst 3, 1) := by decide +kernel
theorem dX11_init_85 : decode cX11_init 85 = .ok (.if_icmp .ge 22, 3) := by decide +kernel
theorem dX11_init_88 : decode cX11_init 88 = .ok (.aload_n 0, 1) := by decide +kernel
theorem dX11_init_89 : decode cX11_init 89 = .ok (.getfield 47, 3) := by decide +kernel
theorem dX11_init_92 : decode cX11_init 92 = .ok (.iload_n 1, 1) := by decide +kernel
theorem dX11_init_93 : decode cX11_init 93 = .ok (.new 36, 3) := by decide +kernel
theorem dX11_init_96 : decode cX11_init 96 = .ok (.dup, 1) := by decide +kernel
theorem dX11_init_97 : decode cX11_init 97 = .ok (.invokespecial 38, 3) := by decide +kernel
theorem dX11_init_100 : decode cX11_init 100 = .ok (.aastore, 1) := by decide +kernel
theorem dX11_init_101 : decode cX11_init 101 = .ok (.iinc 1 1, 3) := by decide +kernel
theorem dX11_init_104 : decode cX11_init 104 = .ok (.goto (-21), 3) := by decide +kernel
theorem dX11_init_107 : decode cX11_init 107 = .ok (.aload_n 0, 1) := by decide +kernel
theorem dX11_init_108 : decode cX11_init 108 = .ok (.new 51, 3) := by decide +kernel
theorem dX11_init_111 : decode cX11_init 111 = .ok (.dup, 1) := by decide +kernel
theorem dX11_init_112 : decode cX11_init 112 = .ok (.bipush 12, 2) := by decide +kernel
theorem dX11_init_114 : decode cX11_init 114 = .ok (.invokespecial 53, 3) := by decide +kernel
theorem dX11_init_117 : decode cX11_init 117 = .ok (.putfield 56, 3) := by decide +kernel
theorem dX11_init_120 : decode cX11_init 120 = .ok (.aload_n 0, 1) := by decide +kernel
theorem dX11_init_121 : decode cX11_init 121 = .ok (.new 60, 3) := by decide +kernel
theorem dX11_init_124 : decode cX11_init 124 = .ok (.dup, 1) := by decide +kernel
theorem dX11_init_125 : decode cX11_init 125 = .ok (.invokespecial 62, 3) := by decide +kernel
theorem dX11_init_128 : decode cX11_init 128 = .ok (.putfield 63, 3) := by decide +kernel
theorem dX11_init_131 : decode cX11_init 131 = .ok (.aload_n 0, 1) := by decide +kernel
theorem dX11_init_132 : decode cX11_init 132 = .ok (.new 60, 3) := by decide +kernel
theorem dX11_init_135 : decode cX11_init 135 = .ok (.dup, 1) := by decide +kernel
theorem dX11_init_136 : decode cX11_init 136 = .ok (.invokespecial 62, 3) := by decide +kernel
theorem dX11_init_139 : decode cX11_init 139 = .ok (.putfield 67, 3) := by decide +kernel
theorem dX11_init_142 : decode cX11_init 142 = .ok (.aload_n 0, 1) := by decide +kernel
theorem dX11_init_143 : decode cX11_init 143 = .ok (.new 70, 3) := by decide +kernel
theorem dX11_init_146 : decode cX11_init 146 = .ok (.dup, 1) := by decide +kernel
theorem dX11_init_147 : decode cX11_init 147 = .ok (.invokespecial 72, 3) := by decide +kernel
theorem dX11_init_150 : decode cX11_init 150 = .ok (.putfield 73, 3) := by decide +kernel
theorem dX11_init_153 : decode cX11_init 153 = .ok (.aload_n 0, 1) := by decide +kernel
theorem dX11_init_154 : decode cX11_init 154 = .ok (.new 77, 3) := by decide +kernel
theorem dX11_init_157 : decode cX11_init 157 = .ok (.dup, 1) := by decide +kernel
theorem dX11_init_158 : decode cX11_init 158 = .ok (.invokespecial 79, 3) := by decide +kernel
theorem dX11_init_161 : decode cX11_init 161 = .ok (.putfield 80, 3) := by decide +kernel
theorem dX11_init_164 : decode cX11_init 164 = .ok (.aload_n 0, 1) := by decide +kernel
theorem dX11_init_165 : decode cX11_init 165 = .ok (.new 84, 3) := by decide +kernel
theorem dX11_init_168 : decode cX11_init 168 = .ok (.dup, 1) := by decide +kernel
theorem dX11_init_169 : decode cX11_init 169 = .ok (.aload_n 0, 1) := by decide +kernel
theorem dX11_init_170 : decode cX11_init 170 = .ok (.getfield 80, 3) := by decide +kernel
theorem dX11_init_173 : decode cX11_init 173 = .ok (.aload_n 0, 1) := by decide +kernel
theorem dX11_init_174 : decode cX11_init 174 = .ok (.getfield 73, 3) := by decide +kernel
theorem dX11_init_177 : decode cX11_init 177 = .ok (.invokespecial 86, 3) := by decide +kernel
theorem dX11_init_180 : decode cX11_init 180 = .ok (.putfield 89, 3) := by decide +kernel
theorem dX11_init_183 : decode cX11_init 183 = .ok (.aload_n 0, 1) := by decide +kernel
theorem dX11_init_184 : decode cX11_init 184 = .ok (.new 93, 3) := by decide +kernel
theorem dX11_init_187 : decode cX11_init 187 = .ok (.dup, 1) := by decide +kernel
theorem dX11_init_188 : decode cX11_init 188 = .ok (.invokespecial 95, 3) := by decide +kernel
theorem dX11_init_191 : decode cX11_init 191 = .ok (.putfield 96, 3) := by decide +kernel
theorem dX11_init_194 : decode cX11_init 194 = .ok (.aload_n 0, 1) := by decide +kernel
theorem dX11_init_195 : decode cX11_init 195 = .ok (.new 93, 3) := by decide +kernel
theorem dX11_init_198 : decode cX11_init 198 = .ok (.dup, 1) := by decide +kernel
theorem dX11_init_199 : decode cX11_init 199 = .ok (.invokespecial 95, 3) := by decide +kernel
theorem dX11_init_202 : decode cX11_init 202 = .ok (.putfield 100, 3) := by decide +kernel
theorem dX11_init_205 : decode cX11_init 205 = .ok (.aload_n 0, 1) := by decide +kernel
theorem dX11_init_206 : decode cX11_init 206 = .ok (.bipush 60, 2) := by decide +kernel
theorem dX11_init_208 : decode cX11_init 208 = .ok (.newarray .boolean, 2) := by decide +kernel
theorem dX11_init_210 : decode cX11_init 210 = .ok (.putfield 103, 3) := by decide +kernel
theorem dX11_init_213 : decode cX11_init 213 = .ok (.return_, 1) := by decide +kernel
theorem dX11_feed_0 : decode cX11_feed 0 = .ok (.aload_n 0, 1) := by decide +kernel
theorem dX11_feed_1 : decode cX11_feed 1 = .ok (.getfield 107, 3) := by decide +kernel
theorem dX11_feed_4 : decode cX11_feed 4 = .ok (.bipush 20, 2) := by decide +kernel
theorem dX11_feed_6 : decode cX11_feed 6 = .ok (.iadd, 1) := by decide +kernel
theorem dX11_feed_7 : decode cX11_feed 7 = .ok (.sipush 1200, 3) := by decide +kernel
theorem dX11_feed_10 : decode cX11_feed 10 = .ok (.if_icmp .le 5, 3) := by decide +kernel
theorem dX11_feed_15 : decode cX11_feed 15 = .ok (.aload_n 0, 1) := by decide +kernel
theorem dX11_feed_16 : decode cX11_feed 16 = .ok (.iload_n 1, 1) := by decide +kernel
theorem dX11_feed_17 : decode cX11_feed 17 = .ok (.invokevirtual 110, 3) := by decide +kernel
theorem dX11_feed_20 : decode cX11_feed 20 = .ok (.aload_n 0, 1) := by decide +kernel
theorem dX11_feed_21 : decode cX11_feed 21 = .ok (.iload_n 2, 1) := by decide +kernel
theorem dX11_feed_22 : decode cX11_feed 22 = .ok (.invokevirtual 110, 3) := by decide +kernel
theorem dX11_feed_25 : decode cX11_feed 25 = .ok (.aload_n 0, 1) := by decide +kernel
theorem dX11_feed_26 : decode cX11_feed 26 = .ok (.iload_n 3, 1) := by decide +kernel
theorem dX11_feed_27 : decode cX11_feed 27 = .ok (.invokevirtual 110, 3) := by decide +kernel
theorem dX11_feed_30 : decode cX11_feed 30 = .ok (.aload_n 0, 1) := by decide +kernel
theorem dX11_feed_31 : decode cX11_feed 31 = .ok (.iload 4, 2) := by decide +kernel
theorem dX11_feed_33 : decode cX11_feed 33 = .ok (.invokevirtual 110, 3) := by decide +kernel
theorem dX11_feed_36 : decode cX11_feed 36 = .ok (.aload_n 0, 1) := by decide +kernel
theorem dX11_feed_37 : decode cX11_feed 37 = .ok (.iload 5, 2) := by decide +kernel
theorem dX11_feed_39 : decode cX11_feed 39 = .ok (.invokevirtual 110, 3) := by decide +kernel
theorem dX11_feed_42 : decode cX11_feed 42 = .ok (.aload_n 0, 1) := by decide +kernel
theorem dX11_feed_43 : decode cX11_feed 43 = .ok (.getfield 107, 3) := by decide +kernel
theorem dX11_feed_46 : decode cX11_feed 46 = .ok (.ireturn, 1) := by decide +kernel
theorem dX11_putFour_0 : decode cX11_putFour 0 = .ok (.bipush 24, 2) := by decide +kernel
theorem dX11_putFour_2 : decode cX11_putFour 2 = .ok (.istore_n 2, 1) := by decide +kernel
theorem dX11_putFour_3 : decode cX11_putFour 3 = .ok (.iload_n 2, 1) := by decide +kernel
theorem dX11_putFour_4 : decode cX11_putFour 4 = .ok (.ifCond .lt 35, 3) := by decide +kernel
theorem dX11_putFour_7 : decode cX11_putFour 7 = .ok (.aload_n 0, 1) := by decide +kernel
theorem dX11_putFour_8 : decode cX11_putFour 8 = .ok (.getfield 9, 3) := by decide +kernel
theorem dX11_putFour_11 : decode cX11_putFour 11 = .ok (.aload_n 0, 1) := by decide +kernel
theorem dX11_putFour_12 : decode cX11_putFour 12 = .ok (.getfield 107, 3) := by decide +kernel
theorem dX11_putFour_15 : decode cX11_putFour 15 = .ok (.iload_n 1, 1) := by decide +kernel
theorem dX11_putFour_16 : decode cX11_putFour 16 = .ok (.iload_n 2, 1) := by decide +kernel
theorem dX11_putFour_17 : decode cX11_putFour 17 = .ok (.iushr, 1) := by decide +kernel
theorem dX11_putFour_18 : decode cX11_putFour 18 = .ok (.sipush 255, 3) := by decide +kernel
theorem dX11_putFour_21 : decode cX11_putFour 21 = .ok (.iand, 1) := by decide +kernel
theorem dX11_putFour_22 : decode cX11_putFour 22 = .ok (.iastore, 1) := by decide +kernel
theorem dX11_putFour_23 : decode cX11_putFour 23 = .ok (.aload_n 0, 1) := by decide +kernel
theorem dX11_putFour_24 : decode cX11_putFour 24 = .ok (.dup, 1) := by decide +kernel
theorem dX11_putFour_25 : decode cX11_putFour 25 = .ok (.getfield 107, 3) := by decide +kernel
theorem dX11_putFour_28 : decode cX11_putFour 28 = .ok (.iconst 1, 1) := by decide +kernel
theorem dX11_putFour_29 : decode cX11_putFour 29 = .ok (.iadd, 1) := by decide +kernel
theorem dX11_putFour_30 : decode cX11_putFour 30 = .ok (.putfield 107, 3) := by decide +kernel
theorem dX11_putFour_33 : decode cX11_putFour 33 = .ok (.iinc 2 (-8), 3) := by decide +kernel
theorem dX11_putFour_36 : decode cX11_putFour 36 = .ok (.goto (-33), 3) := by decide +kernel
theorem dX11_putFour_39 : decode cX11_putFour 39 = .ok (.return_, 1) := by decide +kernel
theorem dX11_end_0 : decode cX11_end 0 = .ok (.iload_n 1, 1) := by decide +kernel
theorem dX11_end_1 : decode cX11_end 1 = .ok (.ifCond .lt 11, 3) := by decide +kernel
theorem dX11_end_4 : decode cX11_end 4 = .ok (.iload_n 1, 1) := by decide +kernel
theorem dX11_end_5 : decode cX11_end 5 = .ok (.aload_n 0, 1) := by decide +kernel
theorem dX11_end_6 : decode cX11_end 6 = .ok (.getfield 107, 3) := by decide +kernel
theorem dX11_end_9 : decode cX11_end 9 = .ok (.if_icmp .le 5, 3) := by decide +kernel
theorem dX11_end_12 : decode cX11_end 12 = .ok (.iconst (-1), 1) := by decide +kernel
theorem dX11_end_13 : decode cX11_end 13 = .ok (.ireturn, 1) := by decide +kernel
theorem dX11_end_14 : decode cX11_end 14 = .ok (.aload_n 0, 1) := by decide +kernel
theorem dX11_end_15 : decode cX11_end 15 = .ok (.iload_n 1, 1) := by decide +kernel
theorem dX11_end_16 : decode cX11_end 16 = .ok (.putfield 107, 3) := by decide +kernel
theorem dX11_end_19 : decode cX11_end 19 = .ok (.iload_n 1, 1) := by decide +kernel
theorem dX11_end_20 : decode cX11_end 20 = .ok (.ireturn, 1) := by decide +kernel
theorem dX11_paper_0 : decode cX11_paper 0 = .ok (.aload_n 0, 1) := by decide +kernel
theorem dX11_paper_1 : decode cX11_paper 1 = .ok (.getfield 39, 3) := by decide +kernel
theorem dX11_paper_4 : decode cX11_paper 4 = .ok (.invokevirtual 113, 3) := by decide +kernel
theorem dX11_paper_7 : decode cX11_paper 7 = .ok (.ifCond .eq 11, 3) := by decide +kernel
theorem dX11_paper_18 : decode cX11_paper 18 = .ok (.aload_n 0, 1) := by decide +kernel
theorem dX11_paper_19 : decode cX11_paper 19 = .ok (.getfield 16, 3) := by decide +kernel
theorem dX11_paper_22 : decode cX11_paper 22 = .ok (.aload_n 0, 1) := by decide +kernel
theorem dX11_paper_23 : decode cX11_paper 23 = .ok (.getfield 9, 3) := by decide +kernel
theorem dX11_paper_26 : decode cX11_paper 26 = .ok (.aload_n 0, 1) := by decide +kernel
theorem dX11_paper_27 : decode cX11_paper 27 = .ok (.getfield 107, 3) := by decide +kernel
theorem dX11_paper_30 : decode cX11_paper 30 = .ok (.invokevirtual 117, 3) := by decide +kernel
theorem dX11_paper_33 : decode cX11_paper 33 = .ok (.aload_n 0, 1) := by decide +kernel
theorem dX11_paper_34 : decode cX11_paper 34 = .ok (.getfield 25, 3) := by decide +kernel
theorem dX11_paper_37 : decode cX11_paper 37 = .ok (.aload_n 0, 1) := by decide +kernel
theorem dX11_paper_38 : decode cX11_paper 38 = .ok (.getfield 56, 3) := by decide +kernel
theorem dX11_paper_41 : decode cX11_paper 41 = .ok (.invokevirtual 121, 3) := by decide +kernel
theorem dX11_paper_44 : decode cX11_paper 44 = .ok (.ifCond .ne 5, 3) := by decide +kernel
theorem dX11_paper_49 : decode cX11_paper 49 = .ok (.aload_n 0, 1) := by decide +kernel
theorem dX11_paper_50 : decode cX11_paper 50 = .ok (.iconst 0, 1) := by decide +kernel
theorem dX11_paper_51 : decode cX11_paper 51 = .ok (.putfield 107, 3) := by decide +kernel
theorem dX11_paper_54 : decode cX11_paper 54 = .ok (.aload_n 0, 1) := by decide +kernel
theorem dX11_paper_55 : decode cX11_paper 55 = .ok (.invokevirtual 125, 3) := by decide +kernel
theorem dX11_paper_58 : decode cX11_paper 58 = .ok (.ireturn, 1) := by decide +kernel
theorem dX11_keepSparePaper_0 : decode cX11_keepSparePaper 0 = .ok (.aload_n 0, 1) := by decide +kernel
theorem dX11_keepSparePaper_1 : decode cX11_keepSparePaper 1 = .ok (.getfield 39, 3) := by decide +kernel
theorem dX11_keepSparePaper_4 : decode cX11_keepSparePaper 4 = .ok (.aload_n 0, 1) := by decide +kernel
theorem dX11_keepSparePaper_5 : decode cX11_keepSparePaper 5 = .ok (.getfield 56, 3) := by decide +kernel
theorem dX11_keepSparePaper_8 : decode cX11_keepSparePaper 8 = .ok (.invokevirtual 129, 3) := by decide +kernel
theorem dX11_keepSparePaper_11 : decode cX11_keepSparePaper 11 = .ok (.istore_n 1, 1) := by decide +kernel
theorem dX11_keepSparePaper_12 : decode cX11_keepSparePaper 12 = .ok (.aload_n 0, 1) := by decide +kernel
theorem dX11_keepSparePaper_13 : decode cX11_keepSparePaper 13 = .ok (.new 51, 3) := by decide +kernel
theorem dX11_keepSparePaper_16 : decode cX11_keepSparePaper 16 = .ok (.dup, 1) := by decide +kernel
theorem dX11_keepSparePaper_17 : decode cX11_keepSparePaper 17 = .ok (.bipush 12, 2) := by decide +kernel
theorem dX11_keepSparePaper_19 : decode cX11_keepSparePaper 19 = .ok (.invokespecial 53, 3) := by decide +kernel
theorem dX11_keepSparePaper_22 : decode cX11_keepSparePaper 22 = .ok (.putfield 56, 3) := by decide +kernel
theorem dX11_keepSparePaper_25 : decode cX11_keepSparePaper 25 = .ok (.iload_n 1, 1) := by decide +kernel
theorem dX11_keepSparePaper_26 : decode cX11_keepSparePaper 26 = .ok (.ireturn, 1) := by decide +kernel
theorem dX11_want_0 : decode cX11_want 0 = .ok (.aload_n 0, 1) := by decide +kernel
theorem dX11_want_1 : decode cX11_want 1 = .ok (.getfield 107, 3) := by decide +kernel
theorem dX11_want_4 : decode cX11_want 4 = .ok (.sipush 400, 3) := by decide +kernel
theorem dX11_want_7 : decode cX11_want 7 = .ok (.if_icmp .le 6, 3) := by decide +kernel
theorem dX11_want_13 : decode cX11_want 13 = .ok (.aload_n 0, 1) := by decide +kernel
theorem dX11_want_14 : decode cX11_want 14 = .ok (.getfield 16, 3) := by decide +kernel
theorem dX11_want_17 : decode cX11_want 17 = .ok (.aload_n 0, 1) := by decide +kernel
theorem dX11_want_18 : decode cX11_want 18 = .ok (.getfield 9, 3) := by decide +kernel
theorem dX11_want_21 : decode cX11_want 21 = .ok (.aload_n 0, 1) := by decide +kernel
theorem dX11_want_22 : decode cX11_want 22 = .ok (.getfield 107, 3) := by decide +kernel
theorem dX11_want_25 : decode cX11_want 25 = .ok (.invokevirtual 117, 3) := by decide +kernel
theorem dX11_want_28 : decode cX11_want 28 = .ok (.aload_n 0, 1) := by decide +kernel
theorem dX11_want_29 : decode cX11_want 29 = .ok (.getfield 32, 3) := by decide +kernel
theorem dX11_want_32 : decode cX11_want 32 = .ok (.aload_n 0, 1) := by decide +kernel
theorem dX11_want_33 : decode cX11_want 33 = .ok (.getfield 67, 3) := by decide +kernel
theorem dX11_want_36 : decode cX11_want 36 = .ok (.invokevirtual 133, 3) := by decide +kernel
theorem dX11_want_39 : decode cX11_want 39 = .ok (.ifCond .ne 5, 3) := by decide +kernel
theorem dX11_want_42 : decode cX11_want 42 = .ok (.iconst (-1), 1) := by decide +kernel
theorem dX11_want_43 : decode cX11_want 43 = .ok (.ireturn, 1) := by decide +kernel
theorem dX11_fault_0 : decode cX11_fault 0 = .ok (.iload_n 1, 1) := by decide +kernel
theorem dX11_fault_1 : decode cX11_fault 1 = .ok (.ifCond .ne 11, 3) := by decide +kernel
theorem dX11_fault_4 : decode cX11_fault 4 = .ok (.aload_n 0, 1) := by decide +kernel
theorem dX11_fault_5 : decode cX11_fault 5 = .ok (.getfield 16, 3) := by decide +kernel
theorem dX11_fault_8 : decode cX11_fault 8 = .ok (.getfield 142, 3) := by decide +kernel
theorem dX11_fault_11 : decode cX11_fault 11 = .ok (.ireturn, 1) := by decide +kernel
theorem dX11_fault_12 : decode cX11_fault 12 = .ok (.iload_n 1, 1) := by decide +kernel
theorem dX11_fault_13 : decode cX11_fault 13 = .ok (.iconst 1, 1) := by decide +kernel
theorem dX11_fault_14 : decode cX11_fault 14 = .ok (.if_icmp .ne 13, 3) := by decide +kernel
theorem dX11_fault_17 : decode cX11_fault 17 = .ok (.aload_n 0, 1) := by decide +kernel
theorem dX11_fault_18 : decode cX11_fault 18 = .ok (.getfield 16, 3) := by decide +kernel
theorem dX11_fault_21 : decode cX11_fault 21 = .ok (.getfield 145, 3) := by decide +kernel
theorem dX11_fault_24 : decode cX11_fault 24 = .ok (.goto 4, 3) := by decide +kernel
theorem dX11_fault_27 : decode cX11_fault 27 = .ok (.iconst (-1), 1) := by decide +kernel
theorem dX11_fault_28 : decode cX11_fault 28 = .ok (.ireturn, 1) := by decide +kernel
theorem dX11_makes_0 : decode cX11_makes 0 = .ok (.aload_n 0, 1) := by decide +kernel
theorem dX11_makes_1 : decode cX11_makes 1 = .ok (.getfield 39, 3) := by decide +kernel
theorem dX11_makes_4 : decode cX11_makes 4 = .ok (.iload_n 1, 1) := by decide +kernel
theorem dX11_makes_5 : decode cX11_makes 5 = .ok (.invokevirtual 148, 3) := by decide +kernel
theorem dX11_makes_8 : decode cX11_makes 8 = .ok (.astore_n 3, 1) := by decide +kernel
theorem dX11_makes_9 : decode cX11_makes 9 = .ok (.aload_n 3, 1) := by decide +kernel
theorem dX11_makes_10 : decode cX11_makes 10 = .ok (.ifnonnull 5, 3) := by decide +kernel
theorem dX11_makes_13 : decode cX11_makes 13 = .ok (.iconst (-1), 1) := by decide +kernel
theorem dX11_makes_14 : decode cX11_makes 14 = .ok (.ireturn, 1) := by decide +kernel
theorem dX11_step_0 : decode cX11_step 0 = .ok (.aload_n 0, 1) := by decide +kernel
theorem dX11_step_1 : decode cX11_step 1 = .ok (.getfield 39, 3) := by decide +kernel
theorem dX11_step_4 : decode cX11_step 4 = .ok (.iload_n 1, 1) := by decide +kernel
theorem dX11_step_5 : decode cX11_step 5 = .ok (.invokevirtual 148, 3) := by decide +kernel
theorem dX11_step_8 : decode cX11_step 8 = .ok (.astore 4, 2) := by decide +kernel
theorem dX11_step_10 : decode cX11_step 10 = .ok (.aload 4, 2) := by decide +kernel
theorem dX11_step_12 : decode cX11_step 12 = .ok (.ifnull 12, 3) := by decide +kernel
theorem dX11_step_24 : decode cX11_step 24 = .ok (.iconst (-1), 1) := by decide +kernel
theorem dX11_step_25 : decode cX11_step 25 = .ok (.ireturn, 1) := by decide +kernel
theorem dX11_same_0 : decode cX11_same 0 = .ok (.aload_n 0, 1) := by decide +kernel
theorem dX11_same_1 : decode cX11_same 1 = .ok (.getfield 39, 3) := by decide +kernel
theorem dX11_same_4 : decode cX11_same 4 = .ok (.iload_n 1, 1) := by decide +kernel
theorem dX11_same_5 : decode cX11_same 5 = .ok (.invokevirtual 148, 3) := by decide +kernel
theorem dX11_same_8 : decode cX11_same 8 = .ok (.astore_n 3, 1) := by decide +kernel
theorem dX11_same_9 : decode cX11_same 9 = .ok (.aload_n 0, 1) := by decide +kernel
theorem dX11_same_10 : decode cX11_same 10 = .ok (.getfield 39, 3) := by decide +kernel
theorem dX11_same_13 : decode cX11_same 13 = .ok (.iload_n 2, 1) := by decide +kernel
theorem dX11_same_14 : decode cX11_same 14 = .ok (.invokevirtual 148, 3) := by decide +kernel
theorem dX11_same_17 : decode cX11_same 17 = .ok (.astore 4, 2) := by decide +kernel
theorem dX11_same_19 : decode cX11_same 19 = .ok (.aload_n 3, 1) := by decide +kernel
theorem dX11_same_20 : decode cX11_same 20 = .ok (.ifnull 8, 3) := by decide +kernel
theorem dX11_same_28 : decode cX11_same 28 = .ok (.iconst (-1), 1) := by decide +kernel
theorem dX11_same_29 : decode cX11_same 29 = .ok (.ireturn, 1) := by decide +kernel
theorem dX11_alike_0 : decode cX11_alike 0 = .ok (.aload_n 0, 1) := by decide +kernel
theorem dX11_alike_1 : decode cX11_alike 1 = .ok (.getfield 39, 3) := by decide +kernel
theorem dX11_alike_4 : decode cX11_alike 4 = .ok (.iload_n 1, 1) := by decide +kernel
theorem dX11_alike_5 : decode cX11_alike 5 = .ok (.invokevirtual 148, 3) := by decide +kernel
theorem dX11_alike_8 : decode cX11_alike 8 = .ok (.astore 4, 2) := by decide +kernel
theorem dX11_alike_10 : decode cX11_alike 10 = .ok (.aload_n 0, 1) := by decide +kernel
theorem dX11_alike_11 : decode cX11_alike 11 = .ok (.getfield 39, 3) := by decide +kernel
theorem dX11_alike_14 : decode cX11_alike 14 = .ok (.iload_n 3, 1) := by decide +kernel
theorem dX11_alike_15 : decode cX11_alike 15 = .ok (.invokevirtual 148, 3) := by decide +kernel
theorem dX11_alike_18 : decode cX11_alike 18 = .ok (.astore 5, 2) := by decide +kernel
theorem dX11_alike_20 : decode cX11_alike 20 = .ok (.aload 4, 2) := by decide +kernel
theorem dX11_alike_22 : decode cX11_alike 22 = .ok (.ifnull 17, 3) := by decide +kernel
theorem dX11_alike_39 : decode cX11_alike 39 = .ok (.iconst (-1), 1) := by decide +kernel
theorem dX11_alike_40 : decode cX11_alike 40 = .ok (.ireturn, 1) := by decide +kernel
theorem dX11_changes_0 : decode cX11_changes 0 = .ok (.aload_n 0, 1) := by decide +kernel
theorem dX11_changes_1 : decode cX11_changes 1 = .ok (.aload_n 0, 1) := by decide +kernel
theorem dX11_changes_2 : decode cX11_changes 2 = .ok (.getfield 96, 3) := by decide +kernel
theorem dX11_changes_5 : decode cX11_changes 5 = .ok (.iload_n 1, 1) := by decide +kernel
theorem dX11_changes_6 : decode cX11_changes 6 = .ok (.iload_n 2, 1) := by decide +kernel
theorem dX11_changes_7 : decode cX11_changes 7 = .ok (.invokevirtual 201, 3) := by decide +kernel
theorem dX11_changes_10 : decode cX11_changes 10 = .ok (.ifCond .eq 13, 3) := by decide +kernel
theorem dX11_changes_23 : decode cX11_changes 23 = .ok (.iconst (-1), 1) := by decide +kernel
theorem dX11_changes_24 : decode cX11_changes 24 = .ok (.ireturn, 1) := by decide +kernel
theorem dX11_listChanges_0 : decode cX11_listChanges 0 = .ok (.aload_n 0, 1) := by decide +kernel
theorem dX11_listChanges_1 : decode cX11_listChanges 1 = .ok (.getfield 39, 3) := by decide +kernel
theorem dX11_listChanges_4 : decode cX11_listChanges 4 = .ok (.iload_n 2, 1) := by decide +kernel
theorem dX11_listChanges_5 : decode cX11_listChanges 5 = .ok (.invokevirtual 148, 3) := by decide +kernel
theorem dX11_listChanges_8 : decode cX11_listChanges 8 = .ok (.astore 4, 2) := by decide +kernel
theorem dX11_listChanges_10 : decode cX11_listChanges 10 = .ok (.aload_n 0, 1) := by decide +kernel
theorem dX11_listChanges_11 : decode cX11_listChanges 11 = .ok (.getfield 39, 3) := by decide +kernel
theorem dX11_listChanges_14 : decode cX11_listChanges 14 = .ok (.iload_n 3, 1) := by decide +kernel
theorem dX11_listChanges_15 : decode cX11_listChanges 15 = .ok (.invokevirtual 148, 3) := by decide +kernel
theorem dX11_listChanges_18 : decode cX11_listChanges 18 = .ok (.astore 5, 2) := by decide +kernel
theorem dX11_listChanges_20 : decode cX11_listChanges 20 = .ok (.aload 4, 2) := by decide +kernel
theorem dX11_listChanges_22 : decode cX11_listChanges 22 = .ok (.ifnull 8, 3) := by decide +kernel
theorem dX11_listChanges_30 : decode cX11_listChanges 30 = .ok (.iconst 0, 1) := by decide +kernel
theorem dX11_listChanges_31 : decode cX11_listChanges 31 = .ok (.ireturn, 1) := by decide +kernel
theorem dX11_change_0 : decode cX11_change 0 = .ok (.aload_n 0, 1) := by decide +kernel
theorem dX11_change_1 : decode cX11_change 1 = .ok (.aload_n 0, 1) := by decide +kernel
theorem dX11_change_2 : decode cX11_change 2 = .ok (.getfield 96, 3) := by decide +kernel
theorem dX11_change_5 : decode cX11_change 5 = .ok (.iload_n 1, 1) := by decide +kernel
theorem dX11_change_6 : decode cX11_change 6 = .ok (.iload_n 2, 1) := by decide +kernel
theorem dX11_change_7 : decode cX11_change 7 = .ok (.invokevirtual 201, 3) := by decide +kernel
theorem dX11_change_10 : decode cX11_change 10 = .ok (.ifCond .eq 14, 3) := by decide +kernel
theorem dX11_change_24 : decode cX11_change 24 = .ok (.iconst (-1), 1) := by decide +kernel
theorem dX11_change_25 : decode cX11_change 25 = .ok (.ireturn, 1) := by decide +kernel
theorem dX11_least_0 : decode cX11_least 0 = .ok (.aload_n 0, 1) := by decide +kernel
theorem dX11_least_1 : decode cX11_least 1 = .ok (.getfield 39, 3) := by decide +kernel
theorem dX11_least_4 : decode cX11_least 4 = .ok (.iload_n 1, 1) := by decide +kernel
theorem dX11_least_5 : decode cX11_least 5 = .ok (.invokevirtual 148, 3) := by decide +kernel
theorem dX11_least_8 : decode cX11_least 8 = .ok (.astore_n 3, 1) := by decide +kernel
theorem dX11_least_9 : decode cX11_least 9 = .ok (.aload_n 0, 1) := by decide +kernel
theorem dX11_least_10 : decode cX11_least 10 = .ok (.getfield 39, 3) := by decide +kernel
theorem dX11_least_13 : decode cX11_least 13 = .ok (.iload_n 2, 1) := by decide +kernel
theorem dX11_least_14 : decode cX11_least 14 = .ok (.invokevirtual 148, 3) := by decide +kernel
theorem dX11_least_17 : decode cX11_least 17 = .ok (.astore 4, 2) := by decide +kernel
theorem dX11_least_19 : decode cX11_least 19 = .ok (.aload_n 3, 1) := by decide +kernel
theorem dX11_least_20 : decode cX11_least 20 = .ok (.ifnull 8, 3) := by decide +kernel
theorem dX11_least_28 : decode cX11_least 28 = .ok (.iconst (-1), 1) := by decide +kernel
theorem dX11_least_29 : decode cX11_least 29 = .ok (.ireturn, 1) := by decide +kernel
theorem dX11_does_0 : decode cX11_does 0 = .ok (.aload_n 0, 1) := by decide +kernel
theorem dX11_does_1 : decode cX11_does 1 = .ok (.aload_n 0, 1) := by decide +kernel
theorem dX11_does_2 : decode cX11_does 2 = .ok (.getfield 96, 3) := by decide +kernel
theorem dX11_does_5 : decode cX11_does 5 = .ok (.iload_n 1, 1) := by decide +kernel
theorem dX11_does_6 : decode cX11_does 6 = .ok (.iload_n 2, 1) := by decide +kernel
theorem dX11_does_7 : decode cX11_does 7 = .ok (.invokevirtual 201, 3) := by decide +kernel
theorem dX11_does_10 : decode cX11_does 10 = .ok (.ifCond .ne 6, 3) := by decide +kernel
theorem dX11_does_13 : decode cX11_does 13 = .ok (.ldc 224, 2) := by decide +kernel
theorem dX11_does_15 : decode cX11_does 15 = .ok (.ireturn, 1) := by decide +kernel
theorem dX11_join_0 : decode cX11_join 0 = .ok (.aload_n 0, 1) := by decide +kernel
theorem dX11_join_1 : decode cX11_join 1 = .ok (.getfield 39, 3) := by decide +kernel
theorem dX11_join_4 : decode cX11_join 4 = .ok (.iload_n 1, 1) := by decide +kernel
theorem dX11_join_5 : decode cX11_join 5 = .ok (.invokevirtual 148, 3) := by decide +kernel
theorem dX11_join_8 : decode cX11_join 8 = .ok (.astore 4, 2) := by decide +kernel
theorem dX11_join_10 : decode cX11_join 10 = .ok (.aload_n 0, 1) := by decide +kernel
theorem dX11_join_11 : decode cX11_join 11 = .ok (.getfield 39, 3) := by decide +kernel
theorem dX11_join_14 : decode cX11_join 14 = .ok (.iload_n 2, 1) := by decide +kernel
theorem dX11_join_15 : decode cX11_join 15 = .ok (.invokevirtual 148, 3) := by decide +kernel
theorem dX11_join_18 : decode cX11_join 18 = .ok (.astore 5, 2) := by decide +kernel
theorem dX11_join_20 : decode cX11_join 20 = .ok (.aload_n 0, 1) := by decide +kernel
theorem dX11_join_21 : decode cX11_join 21 = .ok (.getfield 39, 3) := by decide +kernel
theorem dX11_join_24 : decode cX11_join 24 = .ok (.iload_n 3, 1) := by decide +kernel
theorem dX11_join_25 : decode cX11_join 25 = .ok (.invokevirtual 148, 3) := by decide +kernel
theorem dX11_join_28 : decode cX11_join 28 = .ok (.astore 6, 2) := by decide +kernel
theorem dX11_join_30 : decode cX11_join 30 = .ok (.aload 4, 2) := by decide +kernel
theorem dX11_join_32 : decode cX11_join 32 = .ok (.ifnull 13, 3) := by decide +kernel
theorem dX11_join_45 : decode cX11_join 45 = .ok (.iconst (-1), 1) := by decide +kernel
theorem dX11_join_46 : decode cX11_join 46 = .ok (.ireturn, 1) := by decide +kernel
theorem dX11_quarrel_0 : decode cX11_quarrel 0 = .ok (.aload_n 0, 1) := by decide +kernel
theorem dX11_quarrel_1 : decode cX11_quarrel 1 = .ok (.getfield 39, 3) := by decide +kernel
theorem dX11_quarrel_4 : decode cX11_quarrel 4 = .ok (.getfield 251, 3) := by decide +kernel
theorem dX11_quarrel_7 : decode cX11_quarrel 7 = .ok (.astore_n 3, 1) := by decide +kernel
theorem dX11_quarrel_8 : decode cX11_quarrel 8 = .ok (.aload_n 3, 1) := by decide +kernel
theorem dX11_quarrel_9 : decode cX11_quarrel 9 = .ok (.iload_n 1, 1) := by decide +kernel
theorem dX11_quarrel_10 : decode cX11_quarrel 10 = .ok (.invokevirtual 264, 3) := by decide +kernel
theorem dX11_quarrel_13 : decode cX11_quarrel 13 = .ok (.ifCond .ne 5, 3) := by decide +kernel
theorem dX11_quarrel_16 : decode cX11_quarrel 16 = .ok (.iconst (-1), 1) := by decide +kernel
theorem dX11_quarrel_17 : decode cX11_quarrel 17 = .ok (.ireturn, 1) := by decide +kernel
theorem dX11_settle_0 : decode cX11_settle 0 = .ok (.aload_n 0, 1) := by decide +kernel
theorem dX11_settle_1 : decode cX11_settle 1 = .ok (.getfield 39, 3) := by decide +kernel
theorem dX11_settle_4 : decode cX11_settle 4 = .ok (.getfield 251, 3) := by decide +kernel
theorem dX11_settle_7 : decode cX11_settle 7 = .ok (.iload_n 1, 1) := by decide +kernel
theorem dX11_settle_8 : decode cX11_settle 8 = .ok (.invokevirtual 264, 3) := by decide +kernel
theorem dX11_settle_11 : decode cX11_settle 11 = .ok (.ifCond .eq 12, 3) := by decide +kernel
theorem dX11_settle_23 : decode cX11_settle 23 = .ok (.iconst 0, 1) := by decide +kernel
theorem dX11_settle_24 : decode cX11_settle 24 = .ok (.ireturn, 1) := by decide +kernel
theorem dX11_joined_0 : decode cX11_joined 0 = .ok (.aload_n 0, 1) := by decide +kernel
theorem dX11_joined_1 : decode cX11_joined 1 = .ok (.getfield 39, 3) := by decide +kernel
theorem dX11_joined_4 : decode cX11_joined 4 = .ok (.getfield 251, 3) := by decide +kernel
theorem dX11_joined_7 : decode cX11_joined 7 = .ok (.astore_n 1, 1) := by decide +kernel
theorem dX11_joined_8 : decode cX11_joined 8 = .ok (.aload_n 1, 1) := by decide +kernel
theorem dX11_joined_9 : decode cX11_joined 9 = .ok (.invokevirtual 280, 3) := by decide +kernel
theorem dX11_joined_12 : decode cX11_joined 12 = .ok (.ifCond .eq 13, 3) := by decide +kernel
theorem dX11_joined_25 : decode cX11_joined 25 = .ok (.iconst (-1), 1) := by decide +kernel
theorem dX11_joined_26 : decode cX11_joined 26 = .ok (.ireturn, 1) := by decide +kernel
theorem dX11_best_0 : decode cX11_best 0 = .ok (.aload_n 0, 1) := by decide +kernel
theorem dX11_best_1 : decode cX11_best 1 = .ok (.getfield 39, 3) := by decide +kernel
theorem dX11_best_4 : decode cX11_best 4 = .ok (.getfield 251, 3) := by decide +kernel
theorem dX11_best_7 : decode cX11_best 7 = .ok (.astore_n 2, 1) := by decide +kernel
theorem dX11_best_8 : decode cX11_best 8 = .ok (.aload_n 2, 1) := by decide +kernel
theorem dX11_best_9 : decode cX11_best 9 = .ok (.invokevirtual 280, 3) := by decide +kernel
theorem dX11_best_12 : decode cX11_best 12 = .ok (.ifCond .ne 6, 3) := by decide +kernel
theorem dX11_best_15 : decode cX11_best 15 = .ok (.ldc 224, 2) := by decide +kernel
theorem dX11_best_17 : decode cX11_best 17 = .ok (.ireturn, 1) := by decide +kernel
theorem dX11_left_0 : decode cX11_left 0 = .ok (.aload_n 0, 1) := by decide +kernel
theorem dX11_left_1 : decode cX11_left 1 = .ok (.getfield 39, 3) := by decide +kernel
theorem dX11_left_4 : decode cX11_left 4 = .ok (.getfield 251, 3) := by decide +kernel
theorem dX11_left_7 : decode cX11_left 7 = .ok (.astore_n 2, 1) := by decide +kernel
theorem dX11_left_8 : decode cX11_left 8 = .ok (.aload_n 2, 1) := by decide +kernel
theorem dX11_left_9 : decode cX11_left 9 = .ok (.invokevirtual 280, 3) := by decide +kernel
theorem dX11_left_12 : decode cX11_left 12 = .ok (.ifCond .ne 5, 3) := by decide +kernel
theorem dX11_left_15 : decode cX11_left 15 = .ok (.iconst (-1), 1) := by decide +kernel
theorem dX11_left_16 : decode cX11_left 16 = .ok (.ireturn, 1) := by decide +kernel
theorem dX11_ruin_0 : decode cX11_ruin 0 = .ok (.aload_n 0, 1) := by decide +kernel
theorem dX11_ruin_1 : decode cX11_ruin 1 = .ok (.aload_n 0, 1) := by decide +kernel
theorem dX11_ruin_2 : decode cX11_ruin 2 = .ok (.getfield 96, 3) := by decide +kernel
theorem dX11_ruin_5 : decode cX11_ruin 5 = .ok (.iload_n 1, 1) := by decide +kernel
theorem dX11_ruin_6 : decode cX11_ruin 6 = .ok (.iload_n 2, 1) := by decide +kernel
theorem dX11_ruin_7 : decode cX11_ruin 7 = .ok (.invokevirtual 201, 3) := by decide +kernel
theorem dX11_ruin_10 : decode cX11_ruin 10 = .ok (.ifCond .eq 16, 3) := by decide +kernel
theorem dX11_ruin_26 : decode cX11_ruin 26 = .ok (.iconst (-1), 1) := by decide +kernel
theorem dX11_ruin_27 : decode cX11_ruin 27 = .ok (.ireturn, 1) := by decide +kernel
theorem dX11_law_0 : decode cX11_law 0 = .ok (.aload_n 0, 1) := by decide +kernel
theorem dX11_law_1 : decode cX11_law 1 = .ok (.getfield 39, 3) := by decide +kernel
theorem dX11_law_4 : decode cX11_law 4 = .ok (.iload_n 2, 1) := by decide +kernel
theorem dX11_law_5 : decode cX11_law 5 = .ok (.invokevirtual 148, 3) := by decide +kernel
theorem dX11_law_8 : decode cX11_law 8 = .ok (.astore 6, 2) := by decide +kernel
theorem dX11_law_10 : decode cX11_law 10 = .ok (.aload_n 0, 1) := by decide +kernel
theorem dX11_law_11 : decode cX11_law 11 = .ok (.getfield 39, 3) := by decide +kernel
theorem dX11_law_14 : decode cX11_law 14 = .ok (.iload_n 3, 1) := by decide +kernel
theorem dX11_law_15 : decode cX11_law 15 = .ok (.invokevirtual 148, 3) := by decide +kernel
theorem dX11_law_18 : decode cX11_law 18 = .ok (.astore 7, 2) := by decide +kernel
theorem dX11_law_20 : decode cX11_law 20 = .ok (.iload_n 1, 1) := by decide +kernel
theorem dX11_law_21 : decode cX11_law 21 = .ok (.ifCond .lt 18, 3) := by decide +kernel
theorem dX11_law_24 : decode cX11_law 24 = .ok (.iload_n 1, 1) := by decide +kernel
theorem dX11_law_25 : decode cX11_law 25 = .ok (.iconst 2, 1) := by decide +kernel
theorem dX11_law_26 : decode cX11_law 26 = .ok (.if_icmp .gt 13, 3) := by decide +kernel
theorem dX11_law_29 : decode cX11_law 29 = .ok (.aload 6, 2) := by decide +kernel
theorem dX11_law_31 : decode cX11_law 31 = .ok (.ifnull 8, 3) := by decide +kernel
theorem dX11_law_39 : decode cX11_law 39 = .ok (.iconst (-1), 1) := by decide +kernel
theorem dX11_law_40 : decode cX11_law 40 = .ok (.ireturn, 1) := by decide +kernel
theorem dX11_three_0 : decode cX11_three 0 = .ok (.aload_n 0, 1) := by decide +kernel
theorem dX11_three_1 : decode cX11_three 1 = .ok (.getfield 39, 3) := by decide +kernel
theorem dX11_three_4 : decode cX11_three 4 = .ok (.iload_n 1, 1) := by decide +kernel
theorem dX11_three_5 : decode cX11_three 5 = .ok (.invokevirtual 148, 3) := by decide +kernel
theorem dX11_three_8 : decode cX11_three 8 = .ok (.astore 6, 2) := by decide +kernel
theorem dX11_three_10 : decode cX11_three 10 = .ok (.aload_n 0, 1) := by decide +kernel
theorem dX11_three_11 : decode cX11_three 11 = .ok (.getfield 39, 3) := by decide +kernel
theorem dX11_three_14 : decode cX11_three 14 = .ok (.iload_n 2, 1) := by decide +kernel
theorem dX11_three_15 : decode cX11_three 15 = .ok (.invokevirtual 148, 3) := by decide +kernel
theorem dX11_three_18 : decode cX11_three 18 = .ok (.astore 7, 2) := by decide +kernel
theorem dX11_three_20 : decode cX11_three 20 = .ok (.aload_n 0, 1) := by decide +kernel
theorem dX11_three_21 : decode cX11_three 21 = .ok (.getfield 39, 3) := by decide +kernel
theorem dX11_three_24 : decode cX11_three 24 = .ok (.iload_n 3, 1) := by decide +kernel
theorem dX11_three_25 : decode cX11_three 25 = .ok (.invokevirtual 148, 3) := by decide +kernel
theorem dX11_three_28 : decode cX11_three 28 = .ok (.astore 8, 2) := by decide +kernel
theorem dX11_three_30 : decode cX11_three 30 = .ok (.aload_n 0, 1) := by decide +kernel
theorem dX11_three_31 : decode cX11_three 31 = .ok (.getfield 39, 3) := by decide +kernel
theorem dX11_three_34 : decode cX11_three 34 = .ok (.iload 4, 2) := by decide +kernel
theorem dX11_three_36 : decode cX11_three 36 = .ok (.invokevirtual 148, 3) := by decide +kernel
theorem dX11_three_39 : decode cX11_three 39 = .ok (.astore 9, 2) := by decide +kernel
theorem dX11_three_41 : decode cX11_three 41 = .ok (.aload 6, 2) := by decide +kernel
theorem dX11_three_43 : decode cX11_three 43 = .ok (.ifnull 18, 3) := by decide +kernel
theorem dX11_three_61 : decode cX11_three 61 = .ok (.iconst (-1), 1) := by decide +kernel
theorem dX11_three_62 : decode cX11_three 62 = .ok (.ireturn, 1) := by decide +kernel
theorem dX11_leans_0 : decode cX11_leans 0 = .ok (.aload_n 0, 1) := by decide +kernel
theorem dX11_leans_1 : decode cX11_leans 1 = .ok (.aload_n 0, 1) := by decide +kernel
theorem dX11_leans_2 : decode cX11_leans 2 = .ok (.getfield 96, 3) := by decide +kernel
theorem dX11_leans_5 : decode cX11_leans 5 = .ok (.iload_n 1, 1) := by decide +kernel
theorem dX11_leans_6 : decode cX11_leans 6 = .ok (.iload_n 2, 1) := by decide +kernel
theorem dX11_leans_7 : decode cX11_leans 7 = .ok (.invokevirtual 201, 3) := by decide +kernel
theorem dX11_leans_10 : decode cX11_leans 10 = .ok (.ifCond .eq 14, 3) := by decide +kernel
theorem dX11_leans_24 : decode cX11_leans 24 = .ok (.iconst (-1), 1) := by decide +kernel
theorem dX11_leans_25 : decode cX11_leans 25 = .ok (.ireturn, 1) := by decide +kernel
theorem dX11_begun_0 : decode cX11_begun 0 = .ok (.aload_n 0, 1) := by decide +kernel
theorem dX11_begun_1 : decode cX11_begun 1 = .ok (.getfield 39, 3) := by decide +kernel
theorem dX11_begun_4 : decode cX11_begun 4 = .ok (.iload_n 1, 1) := by decide +kernel
theorem dX11_begun_5 : decode cX11_begun 5 = .ok (.invokevirtual 148, 3) := by decide +kernel
theorem dX11_begun_8 : decode cX11_begun 8 = .ok (.astore 5, 2) := by decide +kernel
theorem dX11_begun_10 : decode cX11_begun 10 = .ok (.aload_n 0, 1) := by decide +kernel
theorem dX11_begun_11 : decode cX11_begun 11 = .ok (.getfield 39, 3) := by decide +kernel
theorem dX11_begun_14 : decode cX11_begun 14 = .ok (.iload_n 3, 1) := by decide +kernel
theorem dX11_begun_15 : decode cX11_begun 15 = .ok (.invokevirtual 148, 3) := by decide +kernel
theorem dX11_begun_18 : decode cX11_begun 18 = .ok (.astore 6, 2) := by decide +kernel
theorem dX11_begun_20 : decode cX11_begun 20 = .ok (.aload 5, 2) := by decide +kernel
theorem dX11_begun_22 : decode cX11_begun 22 = .ok (.ifnull 21, 3) := by decide +kernel
theorem dX11_begun_43 : decode cX11_begun 43 = .ok (.iconst (-1), 1) := by decide +kernel
theorem dX11_begun_44 : decode cX11_begun 44 = .ok (.ireturn, 1) := by decide +kernel
theorem dX11_tear_0 : decode cX11_tear 0 = .ok (.aload_n 0, 1) := by decide +kernel
theorem dX11_tear_1 : decode cX11_tear 1 = .ok (.getfield 39, 3) := by decide +kernel
theorem dX11_tear_4 : decode cX11_tear 4 = .ok (.iload_n 1, 1) := by decide +kernel
theorem dX11_tear_5 : decode cX11_tear 5 = .ok (.invokevirtual 148, 3) := by decide +kernel
theorem dX11_tear_8 : decode cX11_tear 8 = .ok (.ifnonnull 5, 3) := by decide +kernel
theorem dX11_tear_11 : decode cX11_tear 11 = .ok (.iconst 0, 1) := by decide +kernel
theorem dX11_tear_12 : decode cX11_tear 12 = .ok (.ireturn, 1) := by decide +kernel
theorem dX11_image_0 : decode cX11_image 0 = .ok (.iload_n 1, 1) := by decide +kernel
theorem dX11_image_1 : decode cX11_image 1 = .ok (.ifCond .lt 8, 3) := by decide +kernel
theorem dX11_image_4 : decode cX11_image 4 = .ok (.iload_n 1, 1) := by decide +kernel
theorem dX11_image_5 : decode cX11_image 5 = .ok (.iconst 3, 1) := by decide +kernel
theorem dX11_image_6 : decode cX11_image 6 = .ok (.if_icmp .lt 5, 3) := by decide +kernel
theorem dX11_image_9 : decode cX11_image 9 = .ok (.iconst (-1), 1) := by decide +kernel
theorem dX11_image_10 : decode cX11_image 10 = .ok (.ireturn, 1) := by decide +kernel
theorem dX11_image_11 : decode cX11_image 11 = .ok (.aload_n 0, 1) := by decide +kernel
theorem dX11_image_12 : decode cX11_image 12 = .ok (.getfield 47, 3) := by decide +kernel
theorem dX11_image_15 : decode cX11_image 15 = .ok (.iload_n 1, 1) := by decide +kernel
theorem dX11_image_16 : decode cX11_image 16 = .ok (.aaload, 1) := by decide +kernel
theorem dX11_image_17 : decode cX11_image 17 = .ok (.aload_n 0, 1) := by decide +kernel
theorem dX11_image_18 : decode cX11_image 18 = .ok (.getfield 39, 3) := by decide +kernel
theorem dX11_image_21 : decode cX11_image 21 = .ok (.invokevirtual 362, 3) := by decide +kernel
theorem dX11_image_24 : decode cX11_image 24 = .ok (.aload_n 0, 1) := by decide +kernel
theorem dX11_image_25 : decode cX11_image 25 = .ok (.getfield 39, 3) := by decide +kernel
theorem dX11_image_28 : decode cX11_image 28 = .ok (.getfield 43, 3) := by decide +kernel
theorem dX11_image_31 : decode cX11_image 31 = .ok (.ireturn, 1) := by decide +kernel
theorem dX11_back_0 : decode cX11_back 0 = .ok (.iload_n 1, 1) := by decide +kernel
theorem dX11_back_1 : decode cX11_back 1 = .ok (.ifCond .lt 21, 3) := by decide +kernel
theorem dX11_back_4 : decode cX11_back 4 = .ok (.iload_n 1, 1) := by decide +kernel
theorem dX11_back_5 : decode cX11_back 5 = .ok (.iconst 3, 1) := by decide +kernel
theorem dX11_back_6 : decode cX11_back 6 = .ok (.if_icmp .ge 16, 3) := by decide +kernel
theorem dX11_back_9 : decode cX11_back 9 = .ok (.aload_n 0, 1) := by decide +kernel
theorem dX11_back_10 : decode cX11_back 10 = .ok (.getfield 47, 3) := by decide +kernel
theorem dX11_back_13 : decode cX11_back 13 = .ok (.iload_n 1, 1) := by decide +kernel
theorem dX11_back_14 : decode cX11_back 14 = .ok (.aaload, 1) := by decide +kernel
theorem dX11_back_15 : decode cX11_back 15 = .ok (.getfield 43, 3) := by decide +kernel
theorem dX11_back_18 : decode cX11_back 18 = .ok (.iconst (-1), 1) := by decide +kernel
theorem dX11_back_19 : decode cX11_back 19 = .ok (.if_icmp .ne 5, 3) := by decide +kernel
theorem dX11_back_22 : decode cX11_back 22 = .ok (.iconst (-1), 1) := by decide +kernel
theorem dX11_back_23 : decode cX11_back 23 = .ok (.ireturn, 1) := by decide +kernel
theorem dX11_about_0 : decode cX11_about 0 = .ok (.aload_n 0, 1) := by decide +kernel
theorem dX11_about_1 : decode cX11_about 1 = .ok (.getfield 39, 3) := by decide +kernel
theorem dX11_about_4 : decode cX11_about 4 = .ok (.getfield 251, 3) := by decide +kernel
theorem dX11_about_7 : decode cX11_about 7 = .ok (.invokevirtual 280, 3) := by decide +kernel
theorem dX11_about_10 : decode cX11_about 10 = .ok (.istore_n 2, 1) := by decide +kernel
theorem dX11_about_11 : decode cX11_about 11 = .ok (.iload_n 1, 1) := by decide +kernel
theorem dX11_about_12 : decode cX11_about 12 = .ok (.tableswitch 95 0 4 #[36, 44, 52, 71, 90], 36) := by decide +kernel
theorem dX11_about_48 : decode cX11_about 48 = .ok (.aload_n 0, 1) := by decide +kernel
theorem dX11_about_49 : decode cX11_about 49 = .ok (.getfield 39, 3) := by decide +kernel
theorem dX11_about_52 : decode cX11_about 52 = .ok (.getfield 43, 3) := by decide +kernel
theorem dX11_about_55 : decode cX11_about 55 = .ok (.ireturn, 1) := by decide +kernel
theorem dX11_about_56 : decode cX11_about 56 = .ok (.aload_n 0, 1) := by decide +kernel
theorem dX11_about_57 : decode cX11_about 57 = .ok (.getfield 63, 3) := by decide +kernel
theorem dX11_about_60 : decode cX11_about 60 = .ok (.getfield 139, 3) := by decide +kernel
theorem dX11_about_63 : decode cX11_about 63 = .ok (.ireturn, 1) := by decide +kernel
theorem dX11_about_64 : decode cX11_about 64 = .ok (.iload_n 2, 1) := by decide +kernel
theorem dX11_about_65 : decode cX11_about 65 = .ok (.ifCond .eq 16, 3) := by decide +kernel
theorem dX11_about_81 : decode cX11_about 81 = .ok (.iconst (-1), 1) := by decide +kernel
theorem dX11_about_82 : decode cX11_about 82 = .ok (.ireturn, 1) := by decide +kernel
theorem dX11_about_83 : decode cX11_about 83 = .ok (.iload_n 2, 1) := by decide +kernel
theorem dX11_about_84 : decode cX11_about 84 = .ok (.ifCond .eq 16, 3) := by decide +kernel
theorem dX11_about_100 : decode cX11_about 100 = .ok (.iconst (-1), 1) := by decide +kernel
theorem dX11_about_101 : decode cX11_about 101 = .ok (.ireturn, 1) := by decide +kernel
theorem dX11_about_102 : decode cX11_about 102 = .ok (.aload_n 0, 1) := by decide +kernel
theorem dX11_about_103 : decode cX11_about 103 = .ok (.getfield 107, 3) := by decide +kernel
theorem dX11_about_106 : decode cX11_about 106 = .ok (.ireturn, 1) := by decide +kernel
theorem dX11_about_107 : decode cX11_about 107 = .ok (.iconst (-1), 1) := by decide +kernel
theorem dX11_about_108 : decode cX11_about 108 = .ok (.ireturn, 1) := by decide +kernel
theorem dX12_init_0 : decode cX12_init 0 = .ok (.aload_n 0, 1) := by decide +kernel
theorem dX12_init_1 : decode cX12_init 1 = .ok (.invokespecial 1, 3) := by decide +kernel
theorem dX12_init_4 : decode cX12_init 4 = .ok (.aload_n 0, 1) := by decide +kernel
theorem dX12_init_5 : decode cX12_init 5 = .ok (.sipush 1220, 3) := by decide +kernel
theorem dX12_init_8 : decode cX12_init 8 = .ok (.newarray .byte, 2) := by decide +kernel
theorem dX12_init_10 : decode cX12_init 10 = .ok (.putfield 7, 3) := by decide +kernel
theorem dX12_init_13 : decode cX12_init 13 = .ok (.aload_n 0, 1) := by decide +kernel
theorem dX12_init_14 : decode cX12_init 14 = .ok (.sipush 1200, 3) := by decide +kernel
theorem dX12_init_17 : decode cX12_init 17 = .ok (.newarray .byte, 2) := by decide +kernel
theorem dX12_init_19 : decode cX12_init 19 = .ok (.putfield 13, 3) := by decide +kernel
theorem dX12_init_22 : decode cX12_init 22 = .ok (.aload_n 0, 1) := by decide +kernel
theorem dX12_init_23 : decode cX12_init 23 = .ok (.iconst (-1), 1) := by decide +kernel
theorem dX12_init_24 : decode cX12_init 24 = .ok (.putfield 16, 3) := by decide +kernel
theorem dX12_init_27 : decode cX12_init 27 = .ok (.aload_n 0, 1) := by decide +kernel
theorem dX12_init_28 : decode cX12_init 28 = .ok (.bipush 44, 2) := by decide +kernel
theorem dX12_init_30 : decode cX12_init 30 = .ok (.newarray .int, 2) := by decide +kernel
theorem dX12_init_32 : decode cX12_init 32 = .ok (.putfield 20, 3) := by decide +kernel
theorem dX12_init_35 : decode cX12_init 35 = .ok (.aload_n 0, 1) := by decide +kernel
theorem dX12_init_36 : decode cX12_init 36 = .ok (.sipush 528, 3) := by decide +kernel
theorem dX12_init_39 : decode cX12_init 39 = .ok (.newarray .int, 2) := by decide +kernel
theorem dX12_init_41 : decode cX12_init 41 = .ok (.putfield 24, 3) := by decide +kernel
theorem dX12_init_44 : decode cX12_init 44 = .ok (.aload_n 0, 1) := by decide +kernel
theorem dX12_init_45 : decode cX12_init 45 = .ok (.sipush 528, 3) := by decide +kernel
theorem dX12_init_48 : decode cX12_init 48 = .ok (.newarray .int, 2) := by decide +kernel
theorem dX12_init_50 : decode cX12_init 50 = .ok (.putfield 27, 3) := by decide +kernel
theorem dX12_init_53 : decode cX12_init 53 = .ok (.aload_n 0, 1) := by decide +kernel
theorem dX12_init_54 : decode cX12_init 54 = .ok (.sipush 528, 3) := by decide +kernel
theorem dX12_init_57 : decode cX12_init 57 = .ok (.newarray .int, 2) := by decide +kernel
theorem dX12_init_59 : decode cX12_init 59 = .ok (.putfield 30, 3) := by decide +kernel
theorem dX12_init_62 : decode cX12_init 62 = .ok (.aload_n 0, 1) := by decide +kernel
theorem dX12_init_63 : decode cX12_init 63 = .ok (.sipush 528, 3) := by decide +kernel
theorem dX12_init_66 : decode cX12_init 66 = .ok (.newarray .long, 2) := by decide +kernel
theorem dX12_init_68 : decode cX12_init 68 = .ok (.putfield 33, 3) := by decide +kernel
theorem dX12_init_71 : decode cX12_init 71 = .ok (.aload_n 0, 1) := by decide +kernel
theorem dX12_init_72 : decode cX12_init 72 = .ok (.sipush 528, 3) := by decide +kernel
theorem dX12_init_75 : decode cX12_init 75 = .ok (.newarray .long, 2) := by decide +kernel
theorem dX12_init_77 : decode cX12_init 77 = .ok (.putfield 37, 3) := by decide +kernel
theorem dX12_init_80 : decode cX12_init 80 = .ok (.aload_n 0, 1) := by decide +kernel
theorem dX12_init_81 : decode cX12_init 81 = .ok (.sipush 2112, 3) := by decide +kernel
theorem dX12_init_84 : decode cX12_init 84 = .ok (.newarray .long, 2) := by decide +kernel
theorem dX12_init_86 : decode cX12_init 86 = .ok (.putfield 40, 3) := by decide +kernel
theorem dX12_init_89 : decode cX12_init 89 = .ok (.aload_n 0, 1) := by decide +kernel
theorem dX12_init_90 : decode cX12_init 90 = .ok (.bipush 6, 2) := by decide +kernel
theorem dX12_init_92 : decode cX12_init 92 = .ok (.newarray .long, 2) := by decide +kernel
theorem dX12_init_94 : decode cX12_init 94 = .ok (.putfield 43, 3) := by decide +kernel
theorem dX12_init_97 : decode cX12_init 97 = .ok (.aload_n 0, 1) := by decide +kernel
theorem dX12_init_98 : decode cX12_init 98 = .ok (.bipush 6, 2) := by decide +kernel
theorem dX12_init_100 : decode cX12_init 100 = .ok (.newarray .long, 2) := by decide +kernel
theorem dX12_init_102 : decode cX12_init 102 = .ok (.putfield 46, 3) := by decide +kernel
theorem dX12_init_105 : decode cX12_init 105 = .ok (.aload_n 0, 1) := by decide +kernel
theorem dX12_init_106 : decode cX12_init 106 = .ok (.bipush 12, 2) := by decide +kernel
theorem dX12_init_108 : decode cX12_init 108 = .ok (.newarray .int, 2) := by decide +kernel
theorem dX12_init_110 : decode cX12_init 110 = .ok (.putfield 49, 3) := by decide +kernel
theorem dX12_init_113 : decode cX12_init 113 = .ok (.aload_n 0, 1) := by decide +kernel
theorem dX12_init_114 : decode cX12_init 114 = .ok (.sipush 528, 3) := by decide +kernel
theorem dX12_init_117 : decode cX12_init 117 = .ok (.newarray .int, 2) := by decide +kernel
theorem dX12_init_119 : decode cX12_init 119 = .ok (.putfield 52, 3) := by decide +kernel
theorem dX12_init_122 : decode cX12_init 122 = .ok (.aload_n 0, 1) := by decide +kernel
theorem dX12_init_123 : decode cX12_init 123 = .ok (.iconst 2, 1) := by decide +kernel
theorem dX12_init_124 : decode cX12_init 124 = .ok (.newarray .int, 2) := by decide +kernel
theorem dX12_init_126 : decode cX12_init 126 = .ok (.putfield 55, 3) := by decide +kernel
theorem dX12_init_129 : decode cX12_init 129 = .ok (.aload_n 0, 1) := by decide +kernel
theorem dX12_init_130 : decode cX12_init 130 = .ok (.sipush 128, 3) := by decide +kernel
theorem dX12_init_133 : decode cX12_init 133 = .ok (.newarray .int, 2) := by decide +kernel
theorem dX12_init_135 : decode cX12_init 135 = .ok (.putfield 58, 3) := by decide +kernel
theorem dX12_init_138 : decode cX12_init 138 = .ok (.aload_n 0, 1) := by decide +kernel
theorem dX12_init_139 : decode cX12_init 139 = .ok (.sipush 128, 3) := by decide +kernel
theorem dX12_init_142 : decode cX12_init 142 = .ok (.newarray .int, 2) := by decide +kernel
theorem dX12_init_144 : decode cX12_init 144 = .ok (.putfield 61, 3) := by decide +kernel
theorem dX12_init_147 : decode cX12_init 147 = .ok (.aload_n 0, 1) := by decide +kernel
theorem dX12_init_148 : decode cX12_init 148 = .ok (.iconst 2, 1) := by decide +kernel
theorem dX12_init_149 : decode cX12_init 149 = .ok (.newarray .int, 2) := by decide +kernel
theorem dX12_init_151 : decode cX12_init 151 = .ok (.putfield 64, 3) := by decide +kernel
theorem dX12_init_154 : decode cX12_init 154 = .ok (.aload_n 0, 1) := by decide +kernel
theorem dX12_init_155 : decode cX12_init 155 = .ok (.iconst 2, 1) := by decide +kernel
theorem dX12_init_156 : decode cX12_init 156 = .ok (.newarray .int, 2) := by decide +kernel
theorem dX12_init_158 : decode cX12_init 158 = .ok (.putfield 67, 3) := by decide +kernel
theorem dX12_init_161 : decode cX12_init 161 = .ok (.aload_n 0, 1) := by decide +kernel
theorem dX12_init_162 : decode cX12_init 162 = .ok (.bipush 8, 2) := by decide +kernel
theorem dX12_init_164 : decode cX12_init 164 = .ok (.newarray .int, 2) := by decide +kernel
theorem dX12_init_166 : decode cX12_init 166 = .ok (.putfield 70, 3) := by decide +kernel
theorem dX12_init_169 : decode cX12_init 169 = .ok (.aload_n 0, 1) := by decide +kernel
theorem dX12_init_170 : decode cX12_init 170 = .ok (.bipush 8, 2) := by decide +kernel
theorem dX12_init_172 : decode cX12_init 172 = .ok (.newarray .int, 2) := by decide +kernel
theorem dX12_init_174 : decode cX12_init 174 = .ok (.putfield 73, 3) := by decide +kernel
theorem dX12_init_177 : decode cX12_init 177 = .ok (.aload_n 0, 1) := by decide +kernel
theorem dX12_init_178 : decode cX12_init 178 = .ok (.sipush 256, 3) := by decide +kernel
theorem dX12_init_181 : decode cX12_init 181 = .ok (.newarray .int, 2) := by decide +kernel
theorem dX12_init_183 : decode cX12_init 183 = .ok (.putfield 76, 3) := by decide +kernel
theorem dX12_init_186 : decode cX12_init 186 = .ok (.aload_n 0, 1) := by decide +kernel
theorem dX12_init_187 : decode cX12_init 187 = .ok (.sipush 256, 3) := by decide +kernel
theorem dX12_init_190 : decode cX12_init 190 = .ok (.newarray .int, 2) := by decide +kernel
theorem dX12_init_192 : decode cX12_init 192 = .ok (.putfield 79, 3) := by decide +kernel
theorem dX12_init_195 : decode cX12_init 195 = .ok (.aload_n 0, 1) := by decide +kernel
theorem dX12_init_196 : decode cX12_init 196 = .ok (.bipush 40, 2) := by decide +kernel
theorem dX12_init_198 : decode cX12_init 198 = .ok (.newarray .boolean, 2) := by decide +kernel
theorem dX12_init_200 : decode cX12_init 200 = .ok (.putfield 82, 3) := by decide +kernel
theorem dX12_init_203 : decode cX12_init 203 = .ok (.aload_n 0, 1) := by decide +kernel
theorem dX12_init_204 : decode cX12_init 204 = .ok (.bipush 40, 2) := by decide +kernel
theorem dX12_init_206 : decode cX12_init 206 = .ok (.newarray .boolean, 2) := by decide +kernel
theorem dX12_init_208 : decode cX12_init 208 = .ok (.putfield 86, 3) := by decide +kernel
theorem dX12_init_211 : decode cX12_init 211 = .ok (.aload_n 0, 1) := by decide +kernel
theorem dX12_init_212 : decode cX12_init 212 = .ok (.sipush 160, 3) := by decide +kernel
theorem dX12_init_215 : decode cX12_init 215 = .ok (.newarray .boolean, 2) := by decide +kernel
theorem dX12_init_217 : decode cX12_init 217 = .ok (.putfield 89, 3) := by decide +kernel
theorem dX12_init_220 : decode cX12_init 220 = .ok (.aload_n 0, 1) := by decide +kernel
theorem dX12_init_221 : decode cX12_init 221 = .ok (.bipush 40, 2) := by decide +kernel
theorem dX12_init_223 : decode cX12_init 223 = .ok (.newarray .int, 2) := by decide +kernel
theorem dX12_init_225 : decode cX12_init 225 = .ok (.putfield 92, 3) := by decide +kernel
theorem dX12_init_228 : decode cX12_init 228 = .ok (.aload_n 0, 1) := by decide +kernel
theorem dX12_init_229 : decode cX12_init 229 = .ok (.sipush 128, 3) := by decide +kernel
theorem dX12_init_232 : decode cX12_init 232 = .ok (.newarray .boolean, 2) := by decide +kernel
theorem dX12_init_234 : decode cX12_init 234 = .ok (.putfield 95, 3) := by decide +kernel
theorem dX12_init_237 : decode cX12_init 237 = .ok (.aload_n 0, 1) := by decide +kernel
theorem dX12_init_238 : decode cX12_init 238 = .ok (.bipush 40, 2) := by decide +kernel
theorem dX12_init_240 : decode cX12_init 240 = .ok (.newarray .int, 2) := by decide +kernel
theorem dX12_init_242 : decode cX12_init 242 = .ok (.putfield 98, 3) := by decide +kernel
theorem dX12_init_245 : decode cX12_init 245 = .ok (.aload_n 0, 1) := by decide +kernel
theorem dX12_init_246 : decode cX12_init 246 = .ok (.bipush 40, 2) := by decide +kernel
theorem dX12_init_248 : decode cX12_init 248 = .ok (.newarray .int, 2) := by decide +kernel
theorem dX12_init_250 : decode cX12_init 250 = .ok (.putfield 101, 3) := by decide +kernel
theorem dX12_init_253 : decode cX12_init 253 = .ok (.aload_n 0, 1) := by decide +kernel
theorem dX12_init_254 : decode cX12_init 254 = .ok (.bipush 40, 2) := by decide +kernel
theorem dX12_init_256 : decode cX12_init 256 = .ok (.newarray .int, 2) := by decide +kernel
theorem dX12_init_258 : decode cX12_init 258 = .ok (.putfield 104, 3) := by decide +kernel
theorem dX12_init_261 : decode cX12_init 261 = .ok (.aload_n 0, 1) := by decide +kernel
theorem dX12_init_262 : decode cX12_init 262 = .ok (.sipush 160, 3) := by decide +kernel
theorem dX12_init_265 : decode cX12_init 265 = .ok (.newarray .int, 2) := by decide +kernel
theorem dX12_init_267 : decode cX12_init 267 = .ok (.putfield 107, 3) := by decide +kernel
theorem dX12_init_270 : decode cX12_init 270 = .ok (.aload_n 0, 1) := by decide +kernel
theorem dX12_init_271 : decode cX12_init 271 = .ok (.sipush 160, 3) := by decide +kernel
theorem dX12_init_274 : decode cX12_init 274 = .ok (.newarray .int, 2) := by decide +kernel
theorem dX12_init_276 : decode cX12_init 276 = .ok (.putfield 110, 3) := by decide +kernel
theorem dX12_init_279 : decode cX12_init 279 = .ok (.aload_n 0, 1) := by decide +kernel
theorem dX12_init_280 : decode cX12_init 280 = .ok (.sipush 160, 3) := by decide +kernel
theorem dX12_init_283 : decode cX12_init 283 = .ok (.newarray .int, 2) := by decide +kernel
theorem dX12_init_285 : decode cX12_init 285 = .ok (.putfield 113, 3) := by decide +kernel
theorem dX12_init_288 : decode cX12_init 288 = .ok (.aload_n 0, 1) := by decide +kernel
theorem dX12_init_289 : decode cX12_init 289 = .ok (.sipush 160, 3) := by decide +kernel
theorem dX12_init_292 : decode cX12_init 292 = .ok (.newarray .int, 2) := by decide +kernel
theorem dX12_init_294 : decode cX12_init 294 = .ok (.putfield 116, 3) := by decide +kernel
theorem dX12_init_297 : decode cX12_init 297 = .ok (.aload_n 0, 1) := by decide +kernel
theorem dX12_init_298 : decode cX12_init 298 = .ok (.sipush 128, 3) := by decide +kernel
theorem dX12_init_301 : decode cX12_init 301 = .ok (.newarray .boolean, 2) := by decide +kernel
theorem dX12_init_303 : decode cX12_init 303 = .ok (.putfield 119, 3) := by decide +kernel
theorem dX12_init_306 : decode cX12_init 306 = .ok (.aload_n 0, 1) := by decide +kernel
theorem dX12_init_307 : decode cX12_init 307 = .ok (.sipush 800, 3) := by decide +kernel
theorem dX12_init_310 : decode cX12_init 310 = .ok (.newarray .int, 2) := by decide +kernel
theorem dX12_init_312 : decode cX12_init 312 = .ok (.putfield 122, 3) := by decide +kernel
theorem dX12_init_315 : decode cX12_init 315 = .ok (.aload_n 0, 1) := by decide +kernel
theorem dX12_init_316 : decode cX12_init 316 = .ok (.sipush 800, 3) := by decide +kernel
theorem dX12_init_319 : decode cX12_init 319 = .ok (.newarray .int, 2) := by decide +kernel
theorem dX12_init_321 : decode cX12_init 321 = .ok (.putfield 125, 3) := by decide +kernel
theorem dX12_init_324 : decode cX12_init 324 = .ok (.aload_n 0, 1) := by decide +kernel
theorem dX12_init_325 : decode cX12_init 325 = .ok (.iconst 2, 1) := by decide +kernel
theorem dX12_init_326 : decode cX12_init 326 = .ok (.newarray .int, 2) := by decide +kernel
theorem dX12_init_328 : decode cX12_init 328 = .ok (.putfield 128, 3) := by decide +kernel
theorem dX12_init_331 : decode cX12_init 331 = .ok (.aload_n 0, 1) := by decide +kernel
theorem dX12_init_332 : decode cX12_init 332 = .ok (.iconst 2, 1) := by decide +kernel
theorem dX12_init_333 : decode cX12_init 333 = .ok (.newarray .int, 2) := by decide +kernel
theorem dX12_init_335 : decode cX12_init 335 = .ok (.putfield 131, 3) := by decide +kernel
theorem dX12_init_338 : decode cX12_init 338 = .ok (.aload_n 0, 1) := by decide +kernel
theorem dX12_init_339 : decode cX12_init 339 = .ok (.bipush 90, 2) := by decide +kernel
theorem dX12_init_341 : decode cX12_init 341 = .ok (.newarray .int, 2) := by decide +kernel
theorem dX12_init_343 : decode cX12_init 343 = .ok (.putfield 134, 3) := by decide +kernel
theorem dX12_init_346 : decode cX12_init 346 = .ok (.aload_n 0, 1) := by decide +kernel
theorem dX12_init_347 : decode cX12_init 347 = .ok (.bipush 90, 2) := by decide +kernel
theorem dX12_init_349 : decode cX12_init 349 = .ok (.newarray .int, 2) := by decide +kernel
theorem dX12_init_351 : decode cX12_init 351 = .ok (.putfield 137, 3) := by decide +kernel
theorem dX12_init_354 : decode cX12_init 354 = .ok (.aload_n 0, 1) := by decide +kernel
theorem dX12_init_355 : decode cX12_init 355 = .ok (.bipush 70, 2) := by decide +kernel
theorem dX12_init_357 : decode cX12_init 357 = .ok (.newarray .int, 2) := by decide +kernel
theorem dX12_init_359 : decode cX12_init 359 = .ok (.putfield 140, 3) := by decide +kernel
theorem dX12_init_362 : decode cX12_init 362 = .ok (.aload_n 0, 1) := by decide +kernel
theorem dX12_init_363 : decode cX12_init 363 = .ok (.sipush 800, 3) := by decide +kernel
theorem dX12_init_366 : decode cX12_init 366 = .ok (.newarray .long, 2) := by decide +kernel
theorem dX12_init_368 : decode cX12_init 368 = .ok (.putfield 143, 3) := by decide +kernel
theorem dX12_init_371 : decode cX12_init 371 = .ok (.aload_n 0, 1) := by decide +kernel
theorem dX12_init_372 : decode cX12_init 372 = .ok (.iconst 3, 1) := by decide +kernel
theorem dX12_init_373 : decode cX12_init 373 = .ok (.newarray .int, 2) := by decide +kernel
theorem dX12_init_375 : decode cX12_init 375 = .ok (.putfield 146, 3) := by decide +kernel
theorem dX12_init_378 : decode cX12_init 378 = .ok (.aload_n 0, 1) := by decide +kernel
theorem dX12_init_379 : decode cX12_init 379 = .ok (.bipush 12, 2) := by decide +kernel
theorem dX12_init_381 : decode cX12_init 381 = .ok (.newarray .int, 2) := by decide +kernel
theorem dX12_init_383 : decode cX12_init 383 = .ok (.putfield 149, 3) := by decide +kernel
theorem dX12_init_386 : decode cX12_init 386 = .ok (.aload_n 0, 1) := by decide +kernel
theorem dX12_init_387 : decode cX12_init 387 = .ok (.sipush 480, 3) := by decide +kernel
theorem dX12_init_390 : decode cX12_init 390 = .ok (.newarray .int, 2) := by decide +kernel
theorem dX12_init_392 : decode cX12_init 392 = .ok (.putfield 152, 3) := by decide +kernel
theorem dX12_init_395 : decode cX12_init 395 = .ok (.aload_n 0, 1) := by decide +kernel
theorem dX12_init_396 : decode cX12_init 396 = .ok (.iconst 3, 1) := by decide +kernel
theorem dX12_init_397 : decode cX12_init 397 = .ok (.newarray .boolean, 2) := by decide +kernel
theorem dX12_init_399 : decode cX12_init 399 = .ok (.putfield 155, 3) := by decide +kernel
theorem dX12_init_402 : decode cX12_init 402 = .ok (.iconst 0, 1) := by decide +kernel
theorem dX12_init_403 : decode cX12_init 403 = .ok (.istore_n 1, 1) := by decide +kernel
theorem dX12_init_404 : decode cX12_init 404 = .ok (.iload_n 1, 1) := by decide +kernel
theorem dX12_init_405 : decode cX12_init 405 = .ok (.iconst 3, 1) := by decide +kernel
theorem dX12_init_406 : decode cX12_init 406 = .ok (.if_icmp .ge 16, 3) := by decide +kernel
theorem dX12_init_409 : decode cX12_init 409 = .ok (.aload_n 0, 1) := by decide +kernel
theorem dX12_init_410 : decode cX12_init 410 = .ok (.getfield 146, 3) := by decide +kernel
theorem dX12_init_413 : decode cX12_init 413 = .ok (.iload_n 1, 1) := by decide +kernel
theorem dX12_init_414 : decode cX12_init 414 = .ok (.iconst (-1), 1) := by decide +kernel
theorem dX12_init_415 : decode cX12_init 415 = .ok (.iastore, 1) := by decide +kernel
theorem dX12_init_416 : decode cX12_init 416 = .ok (.iinc 1 1, 3) := by decide +kernel
theorem dX12_init_419 : decode cX12_init 419 = .ok (.goto (-15), 3) := by decide +kernel
theorem dX12_init_422 : decode cX12_init 422 = .ok (.return_, 1) := by decide +kernel
theorem dX12_sign_0 : decode cX12_sign 0 = .ok (.iload_n 1, 1) := by decide +kernel
theorem dX12_sign_1 : decode cX12_sign 1 = .ok (.aload_n 0, 1) := by decide +kernel
theorem dX12_sign_2 : decode cX12_sign 2 = .ok (.getfield 158, 3) := by decide +kernel
theorem dX12_sign_5 : decode cX12_sign 5 = .ok (.if_icmp .ge 16, 3) := by decide +kernel
theorem dX12_sign_21 : decode cX12_sign 21 = .ok (.iconst 0, 1) := by decide +kernel
theorem dX12_sign_22 : decode cX12_sign 22 = .ok (.ireturn, 1) := by decide +kernel
theorem dX12_fails_0 : decode cX12_fails 0 = .ok (.aload_n 0, 1) := by decide +kernel
theorem dX12_fails_1 : decode cX12_fails 1 = .ok (.getfield 161, 3) := by decide +kernel
theorem dX12_fails_4 : decode cX12_fails 4 = .ok (.ifCond .le 4, 3) := by decide +kernel
theorem dX12_fails_8 : decode cX12_fails 8 = .ok (.aload_n 0, 1) := by decide +kernel
theorem dX12_fails_9 : decode cX12_fails 9 = .ok (.iload_n 1, 1) := by decide +kernel
theorem dX12_fails_10 : decode cX12_fails 10 = .ok (.putfield 161, 3) := by decide +kernel
theorem dX12_fails_13 : decode cX12_fails 13 = .ok (.aload_n 0, 1) := by decide +kernel
theorem dX12_fails_14 : decode cX12_fails 14 = .ok (.iload_n 2, 1) := by decide +kernel
theorem dX12_fails_15 : decode cX12_fails 15 = .ok (.putfield 16, 3) := by decide +kernel
theorem dX12_fails_18 : decode cX12_fails 18 = .ok (.return_, 1) := by decide +kernel
theorem dX12_isGood_0 : decode cX12_isGood 0 = .ok (.aload_n 0, 1) := by decide +kernel
theorem dX12_isGood_1 : decode cX12_isGood 1 = .ok (.getfield 161, 3) := by decide +kernel
theorem dX12_isGood_4 : decode cX12_isGood 4 = .ok (.ifCond .ne 7, 3) := by decide +kernel
theorem dX12_isGood_7 : decode cX12_isGood 7 = .ok (.iconst 1, 1) := by decide +kernel
theorem dX12_isGood_8 : decode cX12_isGood 8 = .ok (.goto 4, 3) := by decide +kernel
theorem dX12_isGood_11 : decode cX12_isGood 11 = .ok (.iconst 0, 1) := by decide +kernel
theorem dX12_isGood_12 : decode cX12_isGood 12 = .ok (.ireturn, 1) := by decide +kernel
theorem dX12_goOn_0 : decode cX12_goOn 0 = .ok (.aload_n 0, 1) := by decide +kernel
theorem dX12_goOn_1 : decode cX12_goOn 1 = .ok (.aload_n 0, 1) := by decide +kernel
theorem dX12_goOn_2 : decode cX12_goOn 2 = .ok (.getfield 192, 3) := by decide +kernel
theorem dX12_goOn_5 : decode cX12_goOn 5 = .ok (.putfield 195, 3) := by decide +kernel
theorem dX12_goOn_8 : decode cX12_goOn 8 = .ok (.aload_n 0, 1) := by decide +kernel
theorem dX12_goOn_9 : decode cX12_goOn 9 = .ok (.getfield 195, 3) := by decide +kernel
theorem dX12_goOn_12 : decode cX12_goOn 12 = .ok (.aload_n 0, 1) := by decide +kernel
theorem dX12_goOn_13 : decode cX12_goOn 13 = .ok (.getfield 158, 3) := by decide +kernel
theorem dX12_goOn_16 : decode cX12_goOn 16 = .ok (.if_icmp .ge 42, 3) := by decide +kernel
theorem dX12_goOn_58 : decode cX12_goOn 58 = .ok (.aload_n 0, 1) := by decide +kernel
theorem dX12_goOn_59 : decode cX12_goOn 59 = .ok (.aload_n 0, 1) := by decide +kernel
theorem dX12_goOn_60 : decode cX12_goOn 60 = .ok (.getfield 195, 3) := by decide +kernel
theorem dX12_goOn_63 : decode cX12_goOn 63 = .ok (.invokevirtual 198, 3) := by decide +kernel
theorem dX12_goOn_66 : decode cX12_goOn 66 = .ok (.istore_n 1, 1) := by decide +kernel
theorem dX12_goOn_67 : decode cX12_goOn 67 = .ok (.aload_n 0, 1) := by decide +kernel
theorem dX12_goOn_68 : decode cX12_goOn 68 = .ok (.aload_n 0, 1) := by decide +kernel
theorem dX12_goOn_69 : decode cX12_goOn 69 = .ok (.getfield 195, 3) := by decide +kernel
theorem dX12_goOn_72 : decode cX12_goOn 72 = .ok (.iconst 1, 1) := by decide +kernel
theorem dX12_goOn_73 : decode cX12_goOn 73 = .ok (.iadd, 1) := by decide +kernel
theorem dX12_goOn_74 : decode cX12_goOn 74 = .ok (.putfield 192, 3) := by decide +kernel
theorem dX12_goOn_77 : decode cX12_goOn 77 = .ok (.aload_n 0, 1) := by decide +kernel
theorem dX12_goOn_78 : decode cX12_goOn 78 = .ok (.getfield 195, 3) := by decide +kernel
theorem dX12_goOn_81 : decode cX12_goOn 81 = .ok (.aload_n 0, 1) := by decide +kernel
theorem dX12_goOn_82 : decode cX12_goOn 82 = .ok (.getfield 158, 3) := by decide +kernel
theorem dX12_goOn_85 : decode cX12_goOn 85 = .ok (.if_icmp .lt 27, 3) := by decide +kernel
theorem dX12_goOn_88 : decode cX12_goOn 88 = .ok (.aload_n 0, 1) := by decide +kernel
theorem dX12_goOn_89 : decode cX12_goOn 89 = .ok (.iconst 0, 1) := by decide +kernel
theorem dX12_goOn_90 : decode cX12_goOn 90 = .ok (.putfield 202, 3) := by decide +kernel
theorem dX12_goOn_93 : decode cX12_goOn 93 = .ok (.aload_n 0, 1) := by decide +kernel
theorem dX12_goOn_94 : decode cX12_goOn 94 = .ok (.aload_n 0, 1) := by decide +kernel
theorem dX12_goOn_95 : decode cX12_goOn 95 = .ok (.getfield 158, 3) := by decide +kernel
theorem dX12_goOn_98 : decode cX12_goOn 98 = .ok (.putfield 195, 3) := by decide +kernel
theorem dX12_goOn_101 : decode cX12_goOn 101 = .ok (.aload_n 0, 1) := by decide +kernel
theorem dX12_goOn_102 : decode cX12_goOn 102 = .ok (.aload_n 0, 1) := by decide +kernel
theorem dX12_goOn_103 : decode cX12_goOn 103 = .ok (.getfield 158, 3) := by decide +kernel
theorem dX12_goOn_106 : decode cX12_goOn 106 = .ok (.putfield 192, 3) := by decide +kernel
theorem dX12_goOn_109 : decode cX12_goOn 109 = .ok (.goto 268, 3) := by decide +kernel
theorem dX12_goOn_377 : decode cX12_goOn 377 = .ok (.return_, 1) := by decide +kernel
theorem dX12_is_0 : decode cX12_is 0 = .ok (.aload_n 0, 1) := by decide +kernel
theorem dX12_is_1 : decode cX12_is 1 = .ok (.getfield 202, 3) := by decide +kernel
theorem dX12_is_4 : decode cX12_is 4 = .ok (.iconst 5, 1) := by decide +kernel
theorem dX12_is_5 : decode cX12_is 5 = .ok (.if_icmp .ne 19, 3) := by decide +kernel
theorem dX12_is_24 : decode cX12_is 24 = .ok (.iconst 0, 1) := by decide +kernel
theorem dX12_is_25 : decode cX12_is 25 = .ok (.ireturn, 1) := by decide +kernel
theorem dX12_isWord_0 : decode cX12_isWord 0 = .ok (.aload_n 0, 1) := by decide +kernel
theorem dX12_isWord_1 : decode cX12_isWord 1 = .ok (.getfield 202, 3) := by decide +kernel
theorem dX12_isWord_4 : decode cX12_isWord 4 = .ok (.iconst 3, 1) := by decide +kernel
theorem dX12_isWord_5 : decode cX12_isWord 5 = .ok (.if_icmp .ne 16, 3) := by decide +kernel
theorem dX12_isWord_21 : decode cX12_isWord 21 = .ok (.iconst 0, 1) := by decide +kernel
theorem dX12_isWord_22 : decode cX12_isWord 22 = .ok (.ireturn, 1) := by decide +kernel
theorem dX12_misplaced_0 : decode cX12_misplaced 0 = .ok (.aload_n 0, 1) := by decide +kernel
theorem dX12_misplaced_1 : decode cX12_misplaced 1 = .ok (.aload_n 0, 1) := by decide +kernel
theorem dX12_misplaced_2 : decode cX12_misplaced 2 = .ok (.getfield 202, 3) := by decide +kernel
theorem dX12_misplaced_5 : decode cX12_misplaced 5 = .ok (.iconst 1, 1) := by decide +kernel
theorem dX12_misplaced_6 : decode cX12_misplaced 6 = .ok (.if_icmp .ne 7, 3) := by decide +kernel
theorem dX12_misplaced_13 : decode cX12_misplaced 13 = .ok (.iconst 2, 1) := by decide +kernel
theorem dX12_misplaced_14 : decode cX12_misplaced 14 = .ok (.aload_n 0, 1) := by decide +kernel
theorem dX12_misplaced_15 : decode cX12_misplaced 15 = .ok (.getfield 195, 3) := by decide +kernel
theorem dX12_misplaced_18 : decode cX12_misplaced 18 = .ok (.invokevirtual 226, 3) := by decide +kernel
theorem dX12_misplaced_21 : decode cX12_misplaced 21 = .ok (.return_, 1) := by decide +kernel
theorem dX12_must_0 : decode cX12_must 0 = .ok (.aload_n 0, 1) := by decide +kernel
theorem dX12_must_1 : decode cX12_must 1 = .ok (.invokevirtual 230, 3) := by decide +kernel
theorem dX12_must_4 : decode cX12_must 4 = .ok (.ifCond .ne 4, 3) := by decide +kernel
theorem dX12_must_7 : decode cX12_must 7 = .ok (.return_, 1) := by decide +kernel
theorem dX12_must_8 : decode cX12_must 8 = .ok (.iload_n 1, 1) := by decide +kernel
theorem dX12_must_9 : decode cX12_must 9 = .ok (.ifCond .eq 10, 3) := by decide +kernel
theorem dX12_must_19 : decode cX12_must 19 = .ok (.aload_n 0, 1) := by decide +kernel
theorem dX12_must_20 : decode cX12_must 20 = .ok (.invokevirtual 237, 3) := by decide +kernel
theorem dX12_must_23 : decode cX12_must 23 = .ok (.return_, 1) := by decide +kernel
theorem dX12_takeTape_0 : decode cX12_takeTape 0 = .ok (.aload_n 0, 1) := by decide +kernel
theorem dX12_takeTape_1 : decode cX12_takeTape 1 = .ok (.iconst 0, 1) := by decide +kernel
theorem dX12_takeTape_2 : decode cX12_takeTape 2 = .ok (.putfield 161, 3) := by decide +kernel
theorem dX12_takeTape_5 : decode cX12_takeTape 5 = .ok (.aload_n 0, 1) := by decide +kernel
theorem dX12_takeTape_6 : decode cX12_takeTape 6 = .ok (.iconst (-1), 1) := by decide +kernel
theorem dX12_takeTape_7 : decode cX12_takeTape 7 = .ok (.putfield 16, 3) := by decide +kernel
theorem dX12_takeTape_10 : decode cX12_takeTape 10 = .ok (.aload_n 0, 1) := by decide +kernel
theorem dX12_takeTape_11 : decode cX12_takeTape 11 = .ok (.aload_n 0, 1) := by decide +kernel
theorem dX12_takeTape_12 : decode cX12_takeTape 12 = .ok (.getfield 247, 3) := by decide +kernel
theorem dX12_takeTape_15 : decode cX12_takeTape 15 = .ok (.putfield 158, 3) := by decide +kernel
theorem dX12_takeTape_18 : decode cX12_takeTape 18 = .ok (.iconst 0, 1) := by decide +kernel
theorem dX12_takeTape_19 : decode cX12_takeTape 19 = .ok (.istore_n 1, 1) := by decide +kernel
theorem dX12_takeTape_20 : decode cX12_takeTape 20 = .ok (.iload_n 1, 1) := by decide +kernel
theorem dX12_takeTape_21 : decode cX12_takeTape 21 = .ok (.aload_n 0, 1) := by decide +kernel
theorem dX12_takeTape_22 : decode cX12_takeTape 22 = .ok (.getfield 158, 3) := by decide +kernel
theorem dX12_takeTape_25 : decode cX12_takeTape 25 = .ok (.if_icmp .ge 21, 3) := by decide +kernel
theorem dX12_takeTape_46 : decode cX12_takeTape 46 = .ok (.aload_n 0, 1) := by decide +kernel
theorem dX12_takeTape_47 : decode cX12_takeTape 47 = .ok (.iconst 0, 1) := by decide +kernel
theorem dX12_takeTape_48 : decode cX12_takeTape 48 = .ok (.putfield 247, 3) := by decide +kernel
theorem dX12_takeTape_51 : decode cX12_takeTape 51 = .ok (.aload_n 0, 1) := by decide +kernel
theorem dX12_takeTape_52 : decode cX12_takeTape 52 = .ok (.iconst 0, 1) := by decide +kernel
theorem dX12_takeTape_53 : decode cX12_takeTape 53 = .ok (.putfield 192, 3) := by decide +kernel
theorem dX12_takeTape_56 : decode cX12_takeTape 56 = .ok (.return_, 1) := by decide +kernel
theorem dX12_paper_0 : decode cX12_paper 0 = .ok (.aload_n 0, 1) := by decide +kernel
theorem dX12_paper_1 : decode cX12_paper 1 = .ok (.getfield 250, 3) := by decide +kernel
theorem dX12_paper_4 : decode cX12_paper 4 = .ok (.bipush 8, 2) := by decide +kernel
theorem dX12_paper_6 : decode cX12_paper 6 = .ok (.if_icmp .ne 11, 3) := by decide +kernel
theorem dX12_paper_17 : decode cX12_paper 17 = .ok (.aload_n 0, 1) := by decide +kernel
theorem dX12_paper_18 : decode cX12_paper 18 = .ok (.invokevirtual 253, 3) := by decide +kernel
theorem dX12_paper_21 : decode cX12_paper 21 = .ok (.aload_n 0, 1) := by decide +kernel
theorem dX12_paper_22 : decode cX12_paper 22 = .ok (.iconst 0, 1) := by decide +kernel
theorem dX12_paper_23 : decode cX12_paper 23 = .ok (.putfield 256, 3) := by decide +kernel
theorem dX12_paper_26 : decode cX12_paper 26 = .ok (.aload_n 0, 1) := by decide +kernel
theorem dX12_paper_27 : decode cX12_paper 27 = .ok (.getfield 20, 3) := by decide +kernel
theorem dX12_paper_30 : decode cX12_paper 30 = .ok (.bipush 8, 2) := by decide +kernel
theorem dX12_paper_32 : decode cX12_paper 32 = .ok (.iconst 0, 1) := by decide +kernel
theorem dX12_paper_33 : decode cX12_paper 33 = .ok (.iastore, 1) := by decide +kernel
theorem dX12_paper_34 : decode cX12_paper 34 = .ok (.aload_n 0, 1) := by decide +kernel
theorem dX12_paper_35 : decode cX12_paper 35 = .ok (.invokevirtual 234, 3) := by decide +kernel
theorem dX12_paper_38 : decode cX12_paper 38 = .ok (.aload_n 0, 1) := by decide +kernel
theorem dX12_paper_39 : decode cX12_paper 39 = .ok (.invokevirtual 230, 3) := by decide +kernel
theorem dX12_paper_42 : decode cX12_paper 42 = .ok (.ifCond .eq 17, 3) := by decide +kernel
theorem dX12_paper_45 : decode cX12_paper 45 = .ok (.aload_n 0, 1) := by decide +kernel
theorem dX12_paper_46 : decode cX12_paper 46 = .ok (.getfield 202, 3) := by decide +kernel
theorem dX12_paper_49 : decode cX12_paper 49 = .ok (.ifCond .eq 10, 3) := by decide +kernel
theorem dX12_paper_59 : decode cX12_paper 59 = .ok (.aload_n 0, 1) := by decide +kernel
theorem dX12_paper_60 : decode cX12_paper 60 = .ok (.invokevirtual 230, 3) := by decide +kernel
theorem dX12_paper_63 : decode cX12_paper 63 = .ok (.ifCond .ne 5, 3) := by decide +kernel
theorem dX12_paper_68 : decode cX12_paper 68 = .ok (.aload_n 0, 1) := by decide +kernel
theorem dX12_paper_69 : decode cX12_paper 69 = .ok (.bipush 8, 2) := by decide +kernel
theorem dX12_paper_71 : decode cX12_paper 71 = .ok (.aload_n 0, 1) := by decide +kernel
theorem dX12_paper_72 : decode cX12_paper 72 = .ok (.getfield 250, 3) := by decide +kernel
theorem dX12_paper_75 : decode cX12_paper 75 = .ok (.invokevirtual 262, 3) := by decide +kernel
theorem dX12_paper_78 : decode cX12_paper 78 = .ok (.aload_n 0, 1) := by decide +kernel
theorem dX12_paper_79 : decode cX12_paper 79 = .ok (.dup, 1) := by decide +kernel
theorem dX12_paper_80 : decode cX12_paper 80 = .ok (.getfield 250, 3) := by decide +kernel
theorem dX12_paper_83 : decode cX12_paper 83 = .ok (.iconst 1, 1) := by decide +kernel
theorem dX12_paper_84 : decode cX12_paper 84 = .ok (.iadd, 1) := by decide +kernel
theorem dX12_paper_85 : decode cX12_paper 85 = .ok (.putfield 250, 3) := by decide +kernel
theorem dX12_paper_88 : decode cX12_paper 88 = .ok (.aload_n 0, 1) := by decide +kernel
theorem dX12_paper_89 : decode cX12_paper 89 = .ok (.getfield 250, 3) := by decide +kernel
theorem dX12_paper_92 : decode cX12_paper 92 = .ok (.iconst 1, 1) := by decide +kernel
theorem dX12_paper_93 : decode cX12_paper 93 = .ok (.isub, 1) := by decide +kernel
theorem dX12_paper_94 : decode cX12_paper 94 = .ok (.ireturn, 1) := by decide +kernel
theorem dX12_copyPaper_0 : decode cX12_copyPaper 0 = .ok (.aload_n 0, 1) := by decide +kernel
theorem dX12_copyPaper_1 : decode cX12_copyPaper 1 = .ok (.getfield 20, 3) := by decide +kernel
theorem dX12_copyPaper_4 : decode cX12_copyPaper 4 = .ok (.iload_n 2, 1) := by decide +kernel
theorem dX12_copyPaper_5 : decode cX12_copyPaper 5 = .ok (.aload_n 0, 1) := by decide +kernel
theorem dX12_copyPaper_6 : decode cX12_copyPaper 6 = .ok (.getfield 20, 3) := by decide +kernel
theorem dX12_copyPaper_9 : decode cX12_copyPaper 9 = .ok (.iload_n 1, 1) := by decide +kernel
theorem dX12_copyPaper_10 : decode cX12_copyPaper 10 = .ok (.iaload, 1) := by decide +kernel
theorem dX12_copyPaper_11 : decode cX12_copyPaper 11 = .ok (.iastore, 1) := by decide +kernel
theorem dX12_copyPaper_12 : decode cX12_copyPaper 12 = .ok (.iconst 0, 1) := by decide +kernel
theorem dX12_copyPaper_13 : decode cX12_copyPaper 13 = .ok (.istore_n 3, 1) := by decide +kernel
theorem dX12_copyPaper_14 : decode cX12_copyPaper 14 = .ok (.iload_n 3, 1) := by decide +kernel
theorem dX12_copyPaper_15 : decode cX12_copyPaper 15 = .ok (.aload_n 0, 1) := by decide +kernel
theorem dX12_copyPaper_16 : decode cX12_copyPaper 16 = .ok (.getfield 20, 3) := by decide +kernel
theorem dX12_copyPaper_19 : decode cX12_copyPaper 19 = .ok (.iload_n 1, 1) := by decide +kernel
theorem dX12_copyPaper_20 : decode cX12_copyPaper 20 = .ok (.iaload, 1) := by decide +kernel
theorem dX12_copyPaper_21 : decode cX12_copyPaper 21 = .ok (.if_icmp .ge 23, 3) := by decide +kernel
theorem dX12_copyPaper_44 : decode cX12_copyPaper 44 = .ok (.return_, 1) := by decide +kernel
theorem dX12_fault_0 : decode cX12_fault 0 = .ok (.iload_n 1, 1) := by decide +kernel
theorem dX12_fault_1 : decode cX12_fault 1 = .ok (.ifCond .ne 10, 3) := by decide +kernel
theorem dX12_fault_4 : decode cX12_fault 4 = .ok (.aload_n 0, 1) := by decide +kernel
theorem dX12_fault_5 : decode cX12_fault 5 = .ok (.getfield 161, 3) := by decide +kernel
theorem dX12_fault_8 : decode cX12_fault 8 = .ok (.goto 16, 3) := by decide +kernel
theorem dX12_fault_11 : decode cX12_fault 11 = .ok (.iload_n 1, 1) := by decide +kernel
theorem dX12_fault_12 : decode cX12_fault 12 = .ok (.iconst 1, 1) := by decide +kernel
theorem dX12_fault_13 : decode cX12_fault 13 = .ok (.if_icmp .ne 10, 3) := by decide +kernel
theorem dX12_fault_16 : decode cX12_fault 16 = .ok (.aload_n 0, 1) := by decide +kernel
theorem dX12_fault_17 : decode cX12_fault 17 = .ok (.getfield 16, 3) := by decide +kernel
theorem dX12_fault_20 : decode cX12_fault 20 = .ok (.goto 4, 3) := by decide +kernel
theorem dX12_fault_23 : decode cX12_fault 23 = .ok (.iconst (-1), 1) := by decide +kernel
theorem dX12_fault_24 : decode cX12_fault 24 = .ok (.ireturn, 1) := by decide +kernel
theorem dX12_isIn_0 : decode cX12_isIn 0 = .ok (.iload_n 0, 1) := by decide +kernel
theorem dX12_isIn_1 : decode cX12_isIn 1 = .ok (.iload_n 1, 1) := by decide +kernel
theorem dX12_isIn_2 : decode cX12_isIn 2 = .ok (.if_icmp .lt 12, 3) := by decide +kernel
theorem dX12_isIn_5 : decode cX12_isIn 5 = .ok (.iload_n 0, 1) := by decide +kernel
theorem dX12_isIn_6 : decode cX12_isIn 6 = .ok (.iload_n 2, 1) := by decide +kernel
theorem dX12_isIn_7 : decode cX12_isIn 7 = .ok (.if_icmp .gt 7, 3) := by decide +kernel
theorem dX12_isIn_10 : decode cX12_isIn 10 = .ok (.iconst 1, 1) := by decide +kernel
theorem dX12_isIn_11 : decode cX12_isIn 11 = .ok (.goto 4, 3) := by decide +kernel
theorem dX12_isIn_14 : decode cX12_isIn 14 = .ok (.iconst 0, 1) := by decide +kernel
theorem dX12_isIn_15 : decode cX12_isIn 15 = .ok (.ireturn, 1) := by decide +kernel
theorem dX12_isPaper_0 : decode cX12_isPaper 0 = .ok (.iload_n 1, 1) := by decide +kernel
theorem dX12_isPaper_1 : decode cX12_isPaper 1 = .ok (.iconst 0, 1) := by decide +kernel
theorem dX12_isPaper_2 : decode cX12_isPaper 2 = .ok (.aload_n 0, 1) := by decide +kernel
theorem dX12_isPaper_3 : decode cX12_isPaper 3 = .ok (.getfield 250, 3) := by decide +kernel
theorem dX12_isPaper_6 : decode cX12_isPaper 6 = .ok (.iconst 1, 1) := by decide +kernel
theorem dX12_isPaper_7 : decode cX12_isPaper 7 = .ok (.isub, 1) := by decide +kernel
theorem dX12_isPaper_8 : decode cX12_isPaper 8 = .ok (.invokestatic 297, 3) := by decide +kernel
theorem dX12_isPaper_11 : decode cX12_isPaper 11 = .ok (.ireturn, 1) := by decide +kernel
theorem dX12_areTwo_0 : decode cX12_areTwo 0 = .ok (.aload_n 0, 1) := by decide +kernel
theorem dX12_areTwo_1 : decode cX12_areTwo 1 = .ok (.iload_n 1, 1) := by decide +kernel
theorem dX12_areTwo_2 : decode cX12_areTwo 2 = .ok (.invokevirtual 301, 3) := by decide +kernel
theorem dX12_areTwo_5 : decode cX12_areTwo 5 = .ok (.ifCond .eq 15, 3) := by decide +kernel
theorem dX12_areTwo_20 : decode cX12_areTwo 20 = .ok (.iconst 0, 1) := by decide +kernel
theorem dX12_areTwo_21 : decode cX12_areTwo 21 = .ok (.ireturn, 1) := by decide +kernel
theorem dX12_makes_0 : decode cX12_makes 0 = .ok (.aload_n 0, 1) := by decide +kernel
theorem dX12_makes_1 : decode cX12_makes 1 = .ok (.iload_n 1, 1) := by decide +kernel
theorem dX12_makes_2 : decode cX12_makes 2 = .ok (.invokevirtual 301, 3) := by decide +kernel
theorem dX12_makes_5 : decode cX12_makes 5 = .ok (.ifCond .ne 5, 3) := by decide +kernel
theorem dX12_makes_8 : decode cX12_makes 8 = .ok (.iconst (-1), 1) := by decide +kernel
theorem dX12_makes_9 : decode cX12_makes 9 = .ok (.ireturn, 1) := by decide +kernel
theorem dX12_step_0 : decode cX12_step 0 = .ok (.aload_n 0, 1) := by decide +kernel
theorem dX12_step_1 : decode cX12_step 1 = .ok (.iload_n 1, 1) := by decide +kernel
theorem dX12_step_2 : decode cX12_step 2 = .ok (.invokevirtual 301, 3) := by decide +kernel
theorem dX12_step_5 : decode cX12_step 5 = .ok (.ifCond .eq 19, 3) := by decide +kernel
theorem dX12_step_24 : decode cX12_step 24 = .ok (.iconst (-1), 1) := by decide +kernel
theorem dX12_step_25 : decode cX12_step 25 = .ok (.ireturn, 1) := by decide +kernel
theorem dX12_same_0 : decode cX12_same 0 = .ok (.aload_n 0, 1) := by decide +kernel
theorem dX12_same_1 : decode cX12_same 1 = .ok (.iload_n 1, 1) := by decide +kernel
theorem dX12_same_2 : decode cX12_same 2 = .ok (.iload_n 2, 1) := by decide +kernel
theorem dX12_same_3 : decode cX12_same 3 = .ok (.invokevirtual 346, 3) := by decide +kernel
theorem dX12_same_6 : decode cX12_same 6 = .ok (.ifCond .ne 7, 3) := by decide +kernel
theorem dX12_same_9 : decode cX12_same 9 = .ok (.iconst (-1), 1) := by decide +kernel
theorem dX12_same_10 : decode cX12_same 10 = .ok (.goto 17, 3) := by decide +kernel
theorem dX12_same_27 : decode cX12_same 27 = .ok (.ireturn, 1) := by decide +kernel
theorem dX12_alike_0 : decode cX12_alike 0 = .ok (.aload_n 0, 1) := by decide +kernel
theorem dX12_alike_1 : decode cX12_alike 1 = .ok (.iload_n 1, 1) := by decide +kernel
theorem dX12_alike_2 : decode cX12_alike 2 = .ok (.iload_n 3, 1) := by decide +kernel
theorem dX12_alike_3 : decode cX12_alike 3 = .ok (.invokevirtual 346, 3) := by decide +kernel
theorem dX12_alike_6 : decode cX12_alike 6 = .ok (.ifCond .eq 19, 3) := by decide +kernel
theorem dX12_alike_25 : decode cX12_alike 25 = .ok (.iconst (-1), 1) := by decide +kernel
theorem dX12_alike_26 : decode cX12_alike 26 = .ok (.ireturn, 1) := by decide +kernel
theorem dX12_changes_0 : decode cX12_changes 0 = .ok (.aload_n 0, 1) := by decide +kernel
theorem dX12_changes_1 : decode cX12_changes 1 = .ok (.iload_n 1, 1) := by decide +kernel
theorem dX12_changes_2 : decode cX12_changes 2 = .ok (.iload_n 2, 1) := by decide +kernel
theorem dX12_changes_3 : decode cX12_changes 3 = .ok (.invokevirtual 346, 3) := by decide +kernel
theorem dX12_changes_6 : decode cX12_changes 6 = .ok (.ifCond .ne 5, 3) := by decide +kernel
theorem dX12_changes_9 : decode cX12_changes 9 = .ok (.iconst (-1), 1) := by decide +kernel
theorem dX12_changes_10 : decode cX12_changes 10 = .ok (.ireturn, 1) := by decide +kernel
theorem dX12_change_0 : decode cX12_change 0 = .ok (.aload_n 0, 1) := by decide +kernel
theorem dX12_change_1 : decode cX12_change 1 = .ok (.iload_n 1, 1) := by decide +kernel
theorem dX12_change_2 : decode cX12_change 2 = .ok (.iload_n 2, 1) := by decide +kernel
theorem dX12_change_3 : decode cX12_change 3 = .ok (.invokevirtual 346, 3) := by decide +kernel
theorem dX12_change_6 : decode cX12_change 6 = .ok (.ifCond .eq 13, 3) := by decide +kernel
theorem dX12_change_19 : decode cX12_change 19 = .ok (.iconst (-1), 1) := by decide +kernel
theorem dX12_change_20 : decode cX12_change 20 = .ok (.ireturn, 1) := by decide +kernel
theorem dX12_least_0 : decode cX12_least 0 = .ok (.aload_n 0, 1) := by decide +kernel
theorem dX12_least_1 : decode cX12_least 1 = .ok (.iload_n 1, 1) := by decide +kernel
theorem dX12_least_2 : decode cX12_least 2 = .ok (.iload_n 2, 1) := by decide +kernel
theorem dX12_least_3 : decode cX12_least 3 = .ok (.invokevirtual 346, 3) := by decide +kernel
theorem dX12_least_6 : decode cX12_least 6 = .ok (.ifCond .ne 5, 3) := by decide +kernel
theorem dX12_least_9 : decode cX12_least 9 = .ok (.iconst (-1), 1) := by decide +kernel
theorem dX12_least_10 : decode cX12_least 10 = .ok (.ireturn, 1) := by decide +kernel
theorem dX12_does_0 : decode cX12_does 0 = .ok (.aload_n 0, 1) := by decide +kernel
theorem dX12_does_1 : decode cX12_does 1 = .ok (.iload_n 1, 1) := by decide +kernel
theorem dX12_does_2 : decode cX12_does 2 = .ok (.iload_n 2, 1) := by decide +kernel
theorem dX12_does_3 : decode cX12_does 3 = .ok (.invokevirtual 346, 3) := by decide +kernel
theorem dX12_does_6 : decode cX12_does 6 = .ok (.ifCond .ne 7, 3) := by decide +kernel
theorem dX12_does_9 : decode cX12_does 9 = .ok (.ldc_w 381, 3) := by decide +kernel
theorem dX12_does_12 : decode cX12_does 12 = .ok (.ireturn, 1) := by decide +kernel
theorem dX12_join_0 : decode cX12_join 0 = .ok (.aload_n 0, 1) := by decide +kernel
theorem dX12_join_1 : decode cX12_join 1 = .ok (.iload_n 1, 1) := by decide +kernel
theorem dX12_join_2 : decode cX12_join 2 = .ok (.iload_n 2, 1) := by decide +kernel
theorem dX12_join_3 : decode cX12_join 3 = .ok (.invokevirtual 346, 3) := by decide +kernel
theorem dX12_join_6 : decode cX12_join 6 = .ok (.ifCond .eq 11, 3) := by decide +kernel
theorem dX12_join_17 : decode cX12_join 17 = .ok (.iconst (-1), 1) := by decide +kernel
theorem dX12_join_18 : decode cX12_join 18 = .ok (.ireturn, 1) := by decide +kernel
theorem dX12_isQuarrel_0 : decode cX12_isQuarrel 0 = .ok (.aload_n 0, 1) := by decide +kernel
theorem dX12_isQuarrel_1 : decode cX12_isQuarrel 1 = .ok (.getfield 494, 3) := by decide +kernel
theorem dX12_isQuarrel_4 : decode cX12_isQuarrel 4 = .ok (.ifCond .eq 21, 3) := by decide +kernel
theorem dX12_isQuarrel_25 : decode cX12_isQuarrel 25 = .ok (.iconst 0, 1) := by decide +kernel
theorem dX12_isQuarrel_26 : decode cX12_isQuarrel 26 = .ok (.ireturn, 1) := by decide +kernel
theorem dX12_quarrel_0 : decode cX12_quarrel 0 = .ok (.aload_n 0, 1) := by decide +kernel
theorem dX12_quarrel_1 : decode cX12_quarrel 1 = .ok (.iload_n 1, 1) := by decide +kernel
theorem dX12_quarrel_2 : decode cX12_quarrel 2 = .ok (.invokevirtual 510, 3) := by decide +kernel
theorem dX12_quarrel_5 : decode cX12_quarrel 5 = .ok (.ifCond .eq 12, 3) := by decide +kernel
theorem dX12_quarrel_17 : decode cX12_quarrel 17 = .ok (.iconst (-1), 1) := by decide +kernel
theorem dX12_quarrel_18 : decode cX12_quarrel 18 = .ok (.ireturn, 1) := by decide +kernel
theorem dX12_settle_0 : decode cX12_settle 0 = .ok (.aload_n 0, 1) := by decide +kernel
theorem dX12_settle_1 : decode cX12_settle 1 = .ok (.iload_n 1, 1) := by decide +kernel
theorem dX12_settle_2 : decode cX12_settle 2 = .ok (.invokevirtual 510, 3) := by decide +kernel
theorem dX12_settle_5 : decode cX12_settle 5 = .ok (.ifCond .eq 12, 3) := by decide +kernel
theorem dX12_settle_17 : decode cX12_settle 17 = .ok (.iconst 0, 1) := by decide +kernel
theorem dX12_settle_18 : decode cX12_settle 18 = .ok (.ireturn, 1) := by decide +kernel
theorem dX12_joined_0 : decode cX12_joined 0 = .ok (.aload_n 0, 1) := by decide +kernel
theorem dX12_joined_1 : decode cX12_joined 1 = .ok (.getfield 494, 3) := by decide +kernel
theorem dX12_joined_4 : decode cX12_joined 4 = .ok (.ifCond .eq 12, 3) := by decide +kernel
theorem dX12_joined_16 : decode cX12_joined 16 = .ok (.iconst (-1), 1) := by decide +kernel
theorem dX12_joined_17 : decode cX12_joined 17 = .ok (.ireturn, 1) := by decide +kernel
theorem dX12_best_0 : decode cX12_best 0 = .ok (.aload_n 0, 1) := by decide +kernel
theorem dX12_best_1 : decode cX12_best 1 = .ok (.getfield 494, 3) := by decide +kernel
theorem dX12_best_4 : decode cX12_best 4 = .ok (.ifCond .ne 7, 3) := by decide +kernel
theorem dX12_best_7 : decode cX12_best 7 = .ok (.ldc_w 381, 3) := by decide +kernel
theorem dX12_best_10 : decode cX12_best 10 = .ok (.ireturn, 1) := by decide +kernel
theorem dX12_left_0 : decode cX12_left 0 = .ok (.aload_n 0, 1) := by decide +kernel
theorem dX12_left_1 : decode cX12_left 1 = .ok (.getfield 494, 3) := by decide +kernel
theorem dX12_left_4 : decode cX12_left 4 = .ok (.ifCond .eq 12, 3) := by decide +kernel
theorem dX12_left_16 : decode cX12_left 16 = .ok (.iconst (-1), 1) := by decide +kernel
theorem dX12_left_17 : decode cX12_left 17 = .ok (.ireturn, 1) := by decide +kernel
theorem dX12_ruin_0 : decode cX12_ruin 0 = .ok (.aload_n 0, 1) := by decide +kernel
theorem dX12_ruin_1 : decode cX12_ruin 1 = .ok (.iload_n 1, 1) := by decide +kernel
theorem dX12_ruin_2 : decode cX12_ruin 2 = .ok (.iload_n 2, 1) := by decide +kernel
theorem dX12_ruin_3 : decode cX12_ruin 3 = .ok (.invokevirtual 346, 3) := by decide +kernel
theorem dX12_ruin_6 : decode cX12_ruin 6 = .ok (.ifCond .eq 21, 3) := by decide +kernel
theorem dX12_ruin_27 : decode cX12_ruin 27 = .ok (.iconst (-1), 1) := by decide +kernel
theorem dX12_ruin_28 : decode cX12_ruin 28 = .ok (.ireturn, 1) := by decide +kernel
theorem dX12_law_0 : decode cX12_law 0 = .ok (.iload_n 1, 1) := by decide +kernel
theorem dX12_law_1 : decode cX12_law 1 = .ok (.iconst 0, 1) := by decide +kernel
theorem dX12_law_2 : decode cX12_law 2 = .ok (.iconst 2, 1) := by decide +kernel
theorem dX12_law_3 : decode cX12_law 3 = .ok (.invokestatic 297, 3) := by decide +kernel
theorem dX12_law_6 : decode cX12_law 6 = .ok (.ifCond .eq 39, 3) := by decide +kernel
theorem dX12_law_9 : decode cX12_law 9 = .ok (.aload_n 0, 1) := by decide +kernel
theorem dX12_law_10 : decode cX12_law 10 = .ok (.iload_n 2, 1) := by decide +kernel
theorem dX12_law_11 : decode cX12_law 11 = .ok (.iload_n 3, 1) := by decide +kernel
theorem dX12_law_12 : decode cX12_law 12 = .ok (.invokevirtual 346, 3) := by decide +kernel
theorem dX12_law_15 : decode cX12_law 15 = .ok (.ifCond .eq 30, 3) := by decide +kernel
theorem dX12_law_45 : decode cX12_law 45 = .ok (.iconst (-1), 1) := by decide +kernel
theorem dX12_law_46 : decode cX12_law 46 = .ok (.ireturn, 1) := by decide +kernel
theorem dX12_three_0 : decode cX12_three 0 = .ok (.aload_n 0, 1) := by decide +kernel
theorem dX12_three_1 : decode cX12_three 1 = .ok (.iload_n 1, 1) := by decide +kernel
theorem dX12_three_2 : decode cX12_three 2 = .ok (.iload_n 2, 1) := by decide +kernel
theorem dX12_three_3 : decode cX12_three 3 = .ok (.invokevirtual 346, 3) := by decide +kernel
theorem dX12_three_6 : decode cX12_three 6 = .ok (.ifCond .eq 23, 3) := by decide +kernel
theorem dX12_three_29 : decode cX12_three 29 = .ok (.iconst (-1), 1) := by decide +kernel
theorem dX12_three_30 : decode cX12_three 30 = .ok (.ireturn, 1) := by decide +kernel
theorem dX12_leans_0 : decode cX12_leans 0 = .ok (.aload_n 0, 1) := by decide +kernel
theorem dX12_leans_1 : decode cX12_leans 1 = .ok (.iload_n 1, 1) := by decide +kernel
theorem dX12_leans_2 : decode cX12_leans 2 = .ok (.iload_n 2, 1) := by decide +kernel
theorem dX12_leans_3 : decode cX12_leans 3 = .ok (.invokevirtual 346, 3) := by decide +kernel
theorem dX12_leans_6 : decode cX12_leans 6 = .ok (.ifCond .ne 5, 3) := by decide +kernel
theorem dX12_leans_9 : decode cX12_leans 9 = .ok (.iconst (-1), 1) := by decide +kernel
theorem dX12_leans_10 : decode cX12_leans 10 = .ok (.ireturn, 1) := by decide +kernel
theorem dX12_begun_0 : decode cX12_begun 0 = .ok (.aload_n 0, 1) := by decide +kernel
theorem dX12_begun_1 : decode cX12_begun 1 = .ok (.iload_n 1, 1) := by decide +kernel
theorem dX12_begun_2 : decode cX12_begun 2 = .ok (.iload_n 3, 1) := by decide +kernel
theorem dX12_begun_3 : decode cX12_begun 3 = .ok (.invokevirtual 346, 3) := by decide +kernel
theorem dX12_begun_6 : decode cX12_begun 6 = .ok (.ifCond .eq 27, 3) := by decide +kernel
theorem dX12_begun_33 : decode cX12_begun 33 = .ok (.iconst (-1), 1) := by decide +kernel
theorem dX12_begun_34 : decode cX12_begun 34 = .ok (.ireturn, 1) := by decide +kernel
theorem dX12_want_0 : decode cX12_want 0 = .ok (.aload_n 0, 1) := by decide +kernel
theorem dX12_want_1 : decode cX12_want 1 = .ok (.getfield 247, 3) := by decide +kernel
theorem dX12_want_4 : decode cX12_want 4 = .ok (.sipush 400, 3) := by decide +kernel
theorem dX12_want_7 : decode cX12_want 7 = .ok (.if_icmp .le 6, 3) := by decide +kernel
theorem dX12_want_13 : decode cX12_want 13 = .ok (.aload_n 0, 1) := by decide +kernel
theorem dX12_want_14 : decode cX12_want 14 = .ok (.invokevirtual 253, 3) := by decide +kernel
theorem dX12_want_17 : decode cX12_want 17 = .ok (.aload_n 0, 1) := by decide +kernel
theorem dX12_want_18 : decode cX12_want 18 = .ok (.iconst 1, 1) := by decide +kernel
theorem dX12_want_19 : decode cX12_want 19 = .ok (.aload_n 0, 1) := by decide +kernel
theorem dX12_want_20 : decode cX12_want 20 = .ok (.getfield 553, 3) := by decide +kernel
theorem dX12_want_23 : decode cX12_want 23 = .ok (.isub, 1) := by decide +kernel
theorem dX12_want_24 : decode cX12_want 24 = .ok (.putfield 556, 3) := by decide +kernel
theorem dX12_want_27 : decode cX12_want 27 = .ok (.aload_n 0, 1) := by decide +kernel
theorem dX12_want_28 : decode cX12_want 28 = .ok (.getfield 128, 3) := by decide +kernel
theorem dX12_want_31 : decode cX12_want 31 = .ok (.aload_n 0, 1) := by decide +kernel
theorem dX12_want_32 : decode cX12_want 32 = .ok (.getfield 556, 3) := by decide +kernel
theorem dX12_want_35 : decode cX12_want 35 = .ok (.iconst 0, 1) := by decide +kernel
theorem dX12_want_36 : decode cX12_want 36 = .ok (.iastore, 1) := by decide +kernel
theorem dX12_want_37 : decode cX12_want 37 = .ok (.aload_n 0, 1) := by decide +kernel
theorem dX12_want_38 : decode cX12_want 38 = .ok (.getfield 131, 3) := by decide +kernel
theorem dX12_want_41 : decode cX12_want 41 = .ok (.aload_n 0, 1) := by decide +kernel
theorem dX12_want_42 : decode cX12_want 42 = .ok (.getfield 556, 3) := by decide +kernel
theorem dX12_want_45 : decode cX12_want 45 = .ok (.iconst 0, 1) := by decide +kernel
theorem dX12_want_46 : decode cX12_want 46 = .ok (.iastore, 1) := by decide +kernel
theorem dX12_want_47 : decode cX12_want 47 = .ok (.aload_n 0, 1) := by decide +kernel
theorem dX12_want_48 : decode cX12_want 48 = .ok (.invokevirtual 234, 3) := by decide +kernel
theorem dX12_want_51 : decode cX12_want 51 = .ok (.aload_n 0, 1) := by decide +kernel
theorem dX12_want_52 : decode cX12_want 52 = .ok (.aload_n 0, 1) := by decide +kernel
theorem dX12_want_53 : decode cX12_want 53 = .ok (.ldc2_w 176, 3) := by decide +kernel
theorem dX12_want_56 : decode cX12_want 56 = .ok (.invokevirtual 240, 3) := by decide +kernel
theorem dX12_want_59 : decode cX12_want 59 = .ok (.invokevirtual 243, 3) := by decide +kernel
theorem dX12_want_62 : decode cX12_want 62 = .ok (.aload_n 0, 1) := by decide +kernel
theorem dX12_want_63 : decode cX12_want 63 = .ok (.invokevirtual 230, 3) := by decide +kernel
theorem dX12_want_66 : decode cX12_want 66 = .ok (.ifCond .eq 7, 3) := by decide +kernel
theorem dX12_want_73 : decode cX12_want 73 = .ok (.aload_n 0, 1) := by decide +kernel
theorem dX12_want_74 : decode cX12_want 74 = .ok (.aload_n 0, 1) := by decide +kernel
theorem dX12_want_75 : decode cX12_want 75 = .ok (.bipush 59, 2) := by decide +kernel
theorem dX12_want_77 : decode cX12_want 77 = .ok (.invokevirtual 271, 3) := by decide +kernel
theorem dX12_want_80 : decode cX12_want 80 = .ok (.invokevirtual 243, 3) := by decide +kernel
theorem dX12_want_83 : decode cX12_want 83 = .ok (.aload_n 0, 1) := by decide +kernel
theorem dX12_want_84 : decode cX12_want 84 = .ok (.invokevirtual 230, 3) := by decide +kernel
theorem dX12_want_87 : decode cX12_want 87 = .ok (.ifCond .eq 14, 3) := by decide +kernel
theorem dX12_want_101 : decode cX12_want 101 = .ok (.aload_n 0, 1) := by decide +kernel
theorem dX12_want_102 : decode cX12_want 102 = .ok (.invokevirtual 230, 3) := by decide +kernel
theorem dX12_want_105 : decode cX12_want 105 = .ok (.ifCond .ne 5, 3) := by decide +kernel
theorem dX12_want_108 : decode cX12_want 108 = .ok (.iconst (-1), 1) := by decide +kernel
theorem dX12_want_109 : decode cX12_want 109 = .ok (.ireturn, 1) := by decide +kernel
theorem dX12_tear_0 : decode cX12_tear 0 = .ok (.aload_n 0, 1) := by decide +kernel
theorem dX12_tear_1 : decode cX12_tear 1 = .ok (.iload_n 1, 1) := by decide +kernel
theorem dX12_tear_2 : decode cX12_tear 2 = .ok (.invokevirtual 301, 3) := by decide +kernel
theorem dX12_tear_5 : decode cX12_tear 5 = .ok (.ifCond .ne 5, 3) := by decide +kernel
theorem dX12_tear_8 : decode cX12_tear 8 = .ok (.iconst 0, 1) := by decide +kernel
theorem dX12_tear_9 : decode cX12_tear 9 = .ok (.ireturn, 1) := by decide +kernel
theorem dX12_image_0 : decode cX12_image 0 = .ok (.iload_n 1, 1) := by decide +kernel
theorem dX12_image_1 : decode cX12_image 1 = .ok (.iconst 0, 1) := by decide +kernel
theorem dX12_image_2 : decode cX12_image 2 = .ok (.iconst 2, 1) := by decide +kernel
theorem dX12_image_3 : decode cX12_image 3 = .ok (.invokestatic 297, 3) := by decide +kernel
theorem dX12_image_6 : decode cX12_image 6 = .ok (.ifCond .ne 5, 3) := by decide +kernel
theorem dX12_image_9 : decode cX12_image 9 = .ok (.iconst (-1), 1) := by decide +kernel
theorem dX12_image_10 : decode cX12_image 10 = .ok (.ireturn, 1) := by decide +kernel
theorem dX12_image_11 : decode cX12_image 11 = .ok (.aload_n 0, 1) := by decide +kernel
theorem dX12_image_12 : decode cX12_image 12 = .ok (.getfield 146, 3) := by decide +kernel
theorem dX12_image_15 : decode cX12_image 15 = .ok (.iload_n 1, 1) := by decide +kernel
theorem dX12_image_16 : decode cX12_image 16 = .ok (.aload_n 0, 1) := by decide +kernel
theorem dX12_image_17 : decode cX12_image 17 = .ok (.getfield 250, 3) := by decide +kernel
theorem dX12_image_20 : decode cX12_image 20 = .ok (.iastore, 1) := by decide +kernel
theorem dX12_image_21 : decode cX12_image 21 = .ok (.iconst 0, 1) := by decide +kernel
theorem dX12_image_22 : decode cX12_image 22 = .ok (.istore_n 2, 1) := by decide +kernel
theorem dX12_image_23 : decode cX12_image 23 = .ok (.iload_n 2, 1) := by decide +kernel
theorem dX12_image_24 : decode cX12_image 24 = .ok (.aload_n 0, 1) := by decide +kernel
theorem dX12_image_25 : decode cX12_image 25 = .ok (.getfield 250, 3) := by decide +kernel
theorem dX12_image_28 : decode cX12_image 28 = .ok (.if_icmp .ge 16, 3) := by decide +kernel
theorem dX12_image_44 : decode cX12_image 44 = .ok (.aload_n 0, 1) := by decide +kernel
theorem dX12_image_45 : decode cX12_image 45 = .ok (.getfield 155, 3) := by decide +kernel
theorem dX12_image_48 : decode cX12_image 48 = .ok (.iload_n 1, 1) := by decide +kernel
theorem dX12_image_49 : decode cX12_image 49 = .ok (.aload_n 0, 1) := by decide +kernel
theorem dX12_image_50 : decode cX12_image 50 = .ok (.getfield 494, 3) := by decide +kernel
theorem dX12_image_53 : decode cX12_image 53 = .ok (.bastore, 1) := by decide +kernel
theorem dX12_image_54 : decode cX12_image 54 = .ok (.aload_n 0, 1) := by decide +kernel
theorem dX12_image_55 : decode cX12_image 55 = .ok (.getfield 149, 3) := by decide +kernel
theorem dX12_image_58 : decode cX12_image 58 = .ok (.iconst 4, 1) := by decide +kernel
theorem dX12_image_59 : decode cX12_image 59 = .ok (.iload_n 1, 1) := by decide +kernel
theorem dX12_image_60 : decode cX12_image 60 = .ok (.imul, 1) := by decide +kernel
theorem dX12_image_61 : decode cX12_image 61 = .ok (.aload_n 0, 1) := by decide +kernel
theorem dX12_image_62 : decode cX12_image 62 = .ok (.getfield 482, 3) := by decide +kernel
theorem dX12_image_65 : decode cX12_image 65 = .ok (.iastore, 1) := by decide +kernel
theorem dX12_image_66 : decode cX12_image 66 = .ok (.aload_n 0, 1) := by decide +kernel
theorem dX12_image_67 : decode cX12_image 67 = .ok (.getfield 149, 3) := by decide +kernel
theorem dX12_image_70 : decode cX12_image 70 = .ok (.iconst 4, 1) := by decide +kernel
theorem dX12_image_71 : decode cX12_image 71 = .ok (.iload_n 1, 1) := by decide +kernel
theorem dX12_image_72 : decode cX12_image 72 = .ok (.imul, 1) := by decide +kernel
theorem dX12_image_73 : decode cX12_image 73 = .ok (.iconst 1, 1) := by decide +kernel
theorem dX12_image_74 : decode cX12_image 74 = .ok (.iadd, 1) := by decide +kernel
theorem dX12_image_75 : decode cX12_image 75 = .ok (.aload_n 0, 1) := by decide +kernel
theorem dX12_image_76 : decode cX12_image 76 = .ok (.getfield 485, 3) := by decide +kernel
theorem dX12_image_79 : decode cX12_image 79 = .ok (.iastore, 1) := by decide +kernel
theorem dX12_image_80 : decode cX12_image 80 = .ok (.aload_n 0, 1) := by decide +kernel
theorem dX12_image_81 : decode cX12_image 81 = .ok (.getfield 149, 3) := by decide +kernel
theorem dX12_image_84 : decode cX12_image 84 = .ok (.iconst 4, 1) := by decide +kernel
theorem dX12_image_85 : decode cX12_image 85 = .ok (.iload_n 1, 1) := by decide +kernel
theorem dX12_image_86 : decode cX12_image 86 = .ok (.imul, 1) := by decide +kernel
theorem dX12_image_87 : decode cX12_image 87 = .ok (.iconst 2, 1) := by decide +kernel
theorem dX12_image_88 : decode cX12_image 88 = .ok (.iadd, 1) := by decide +kernel
theorem dX12_image_89 : decode cX12_image 89 = .ok (.aload_n 0, 1) := by decide +kernel
theorem dX12_image_90 : decode cX12_image 90 = .ok (.getfield 488, 3) := by decide +kernel
theorem dX12_image_93 : decode cX12_image 93 = .ok (.iastore, 1) := by decide +kernel
theorem dX12_image_94 : decode cX12_image 94 = .ok (.aload_n 0, 1) := by decide +kernel
theorem dX12_image_95 : decode cX12_image 95 = .ok (.getfield 149, 3) := by decide +kernel
theorem dX12_image_98 : decode cX12_image 98 = .ok (.iconst 4, 1) := by decide +kernel
theorem dX12_image_99 : decode cX12_image 99 = .ok (.iload_n 1, 1) := by decide +kernel
theorem dX12_image_100 : decode cX12_image 100 = .ok (.imul, 1) := by decide +kernel
theorem dX12_image_101 : decode cX12_image 101 = .ok (.iconst 3, 1) := by decide +kernel
theorem dX12_image_102 : decode cX12_image 102 = .ok (.iadd, 1) := by decide +kernel
theorem dX12_image_103 : decode cX12_image 103 = .ok (.aload_n 0, 1) := by decide +kernel
theorem dX12_image_104 : decode cX12_image 104 = .ok (.getfield 491, 3) := by decide +kernel
theorem dX12_image_107 : decode cX12_image 107 = .ok (.iastore, 1) := by decide +kernel
theorem dX12_image_108 : decode cX12_image 108 = .ok (.iconst 0, 1) := by decide +kernel
theorem dX12_image_109 : decode cX12_image 109 = .ok (.istore_n 2, 1) := by decide +kernel
theorem dX12_image_110 : decode cX12_image 110 = .ok (.iload_n 2, 1) := by decide +kernel
theorem dX12_image_111 : decode cX12_image 111 = .ok (.sipush 160, 3) := by decide +kernel
theorem dX12_image_114 : decode cX12_image 114 = .ok (.if_icmp .ge 27, 3) := by decide +kernel
theorem dX12_image_117 : decode cX12_image 117 = .ok (.aload_n 0, 1) := by decide +kernel
theorem dX12_image_118 : decode cX12_image 118 = .ok (.getfield 152, 3) := by decide +kernel
theorem dX12_image_121 : decode cX12_image 121 = .ok (.sipush 160, 3) := by decide +kernel
theorem dX12_image_124 : decode cX12_image 124 = .ok (.iload_n 1, 1) := by decide +kernel
theorem dX12_image_125 : decode cX12_image 125 = .ok (.imul, 1) := by decide +kernel
theorem dX12_image_126 : decode cX12_image 126 = .ok (.iload_n 2, 1) := by decide +kernel
theorem dX12_image_127 : decode cX12_image 127 = .ok (.iadd, 1) := by decide +kernel
theorem dX12_image_128 : decode cX12_image 128 = .ok (.aload_n 0, 1) := by decide +kernel
theorem dX12_image_129 : decode cX12_image 129 = .ok (.getfield 116, 3) := by decide +kernel
theorem dX12_image_132 : decode cX12_image 132 = .ok (.iload_n 2, 1) := by decide +kernel
theorem dX12_image_133 : decode cX12_image 133 = .ok (.iaload, 1) := by decide +kernel
theorem dX12_image_134 : decode cX12_image 134 = .ok (.iastore, 1) := by decide +kernel
theorem dX12_image_135 : decode cX12_image 135 = .ok (.iinc 2 1, 3) := by decide +kernel
theorem dX12_image_138 : decode cX12_image 138 = .ok (.goto (-28), 3) := by decide +kernel
theorem dX12_image_141 : decode cX12_image 141 = .ok (.aload_n 0, 1) := by decide +kernel
theorem dX12_image_142 : decode cX12_image 142 = .ok (.getfield 250, 3) := by decide +kernel
theorem dX12_image_145 : decode cX12_image 145 = .ok (.ireturn, 1) := by decide +kernel
theorem dX12_back_0 : decode cX12_back 0 = .ok (.iload_n 1, 1) := by decide +kernel
theorem dX12_back_1 : decode cX12_back 1 = .ok (.iconst 0, 1) := by decide +kernel
theorem dX12_back_2 : decode cX12_back 2 = .ok (.iconst 2, 1) := by decide +kernel
theorem dX12_back_3 : decode cX12_back 3 = .ok (.invokestatic 297, 3) := by decide +kernel
theorem dX12_back_6 : decode cX12_back 6 = .ok (.ifCond .eq 12, 3) := by decide +kernel
theorem dX12_back_9 : decode cX12_back 9 = .ok (.aload_n 0, 1) := by decide +kernel
theorem dX12_back_10 : decode cX12_back 10 = .ok (.getfield 146, 3) := by decide +kernel
theorem dX12_back_13 : decode cX12_back 13 = .ok (.iload_n 1, 1) := by decide +kernel
theorem dX12_back_14 : decode cX12_back 14 = .ok (.iaload, 1) := by decide +kernel
theorem dX12_back_15 : decode cX12_back 15 = .ok (.ifCond .ge 5, 3) := by decide +kernel
theorem dX12_back_18 : decode cX12_back 18 = .ok (.iconst (-1), 1) := by decide +kernel
theorem dX12_back_19 : decode cX12_back 19 = .ok (.ireturn, 1) := by decide +kernel
theorem dX12_about_0 : decode cX12_about 0 = .ok (.iload_n 1, 1) := by decide +kernel
theorem dX12_about_1 : decode cX12_about 1 = .ok (.tableswitch 87 0 4 #[35, 40, 50, 66, 82], 35) := by decide +kernel
theorem dX12_about_36 : decode cX12_about 36 = .ok (.aload_n 0, 1) := by decide +kernel
theorem dX12_about_37 : decode cX12_about 37 = .ok (.getfield 250, 3) := by decide +kernel
theorem dX12_about_40 : decode cX12_about 40 = .ok (.ireturn, 1) := by decide +kernel
theorem dX12_about_41 : decode cX12_about 41 = .ok (.aload_n 0, 1) := by decide +kernel
theorem dX12_about_42 : decode cX12_about 42 = .ok (.getfield 131, 3) := by decide +kernel
theorem dX12_about_45 : decode cX12_about 45 = .ok (.aload_n 0, 1) := by decide +kernel
theorem dX12_about_46 : decode cX12_about 46 = .ok (.getfield 553, 3) := by decide +kernel
theorem dX12_about_49 : decode cX12_about 49 = .ok (.iaload, 1) := by decide +kernel
theorem dX12_about_50 : decode cX12_about 50 = .ok (.ireturn, 1) := by decide +kernel
theorem dX12_about_51 : decode cX12_about 51 = .ok (.aload_n 0, 1) := by decide +kernel
theorem dX12_about_52 : decode cX12_about 52 = .ok (.getfield 494, 3) := by decide +kernel
theorem dX12_about_55 : decode cX12_about 55 = .ok (.ifCond .eq 10, 3) := by decide +kernel
theorem dX12_about_65 : decode cX12_about 65 = .ok (.iconst (-1), 1) := by decide +kernel
theorem dX12_about_66 : decode cX12_about 66 = .ok (.ireturn, 1) := by decide +kernel
theorem dX12_about_67 : decode cX12_about 67 = .ok (.aload_n 0, 1) := by decide +kernel
theorem dX12_about_68 : decode cX12_about 68 = .ok (.getfield 494, 3) := by decide +kernel
theorem dX12_about_71 : decode cX12_about 71 = .ok (.ifCond .eq 10, 3) := by decide +kernel
theorem dX12_about_81 : decode cX12_about 81 = .ok (.iconst (-1), 1) := by decide +kernel
theorem dX12_about_82 : decode cX12_about 82 = .ok (.ireturn, 1) := by decide +kernel
theorem dX12_about_83 : decode cX12_about 83 = .ok (.aload_n 0, 1) := by decide +kernel
theorem dX12_about_84 : decode cX12_about 84 = .ok (.getfield 247, 3) := by decide +kernel
theorem dX12_about_87 : decode cX12_about 87 = .ok (.ireturn, 1) := by decide +kernel
theorem dX12_about_88 : decode cX12_about 88 = .ok (.iconst (-1), 1) := by decide +kernel
theorem dX12_about_89 : decode cX12_about 89 = .ok (.ireturn, 1) := by decide +kernel
theorem dX12_feed_0 : decode cX12_feed 0 = .ok (.aload_n 0, 1) := by decide +kernel
theorem dX12_feed_1 : decode cX12_feed 1 = .ok (.getfield 247, 3) := by decide +kernel
theorem dX12_feed_4 : decode cX12_feed 4 = .ok (.bipush 20, 2) := by decide +kernel
theorem dX12_feed_6 : decode cX12_feed 6 = .ok (.iadd, 1) := by decide +kernel
theorem dX12_feed_7 : decode cX12_feed 7 = .ok (.sipush 1200, 3) := by decide +kernel
theorem dX12_feed_10 : decode cX12_feed 10 = .ok (.if_icmp .le 5, 3) := by decide +kernel
theorem dX12_feed_15 : decode cX12_feed 15 = .ok (.iconst 0, 1) := by decide +kernel
theorem dX12_feed_16 : decode cX12_feed 16 = .ok (.istore 6, 2) := by decide +kernel
theorem dX12_feed_18 : decode cX12_feed 18 = .ok (.iload 6, 2) := by decide +kernel
theorem dX12_feed_20 : decode cX12_feed 20 = .ok (.bipush 20, 2) := by decide +kernel
theorem dX12_feed_22 : decode cX12_feed 22 = .ok (.if_icmp .ge 83, 3) := by decide +kernel
theorem dX12_feed_25 : decode cX12_feed 25 = .ok (.iload 6, 2) := by decide +kernel
theorem dX12_feed_27 : decode cX12_feed 27 = .ok (.iconst 4, 1) := by decide +kernel
theorem dX12_feed_28 : decode cX12_feed 28 = .ok (.if_icmp .ge 7, 3) := by decide +kernel
theorem dX12_feed_31 : decode cX12_feed 31 = .ok (.iload_n 1, 1) := by decide +kernel
theorem dX12_feed_32 : decode cX12_feed 32 = .ok (.goto 39, 3) := by decide +kernel
theorem dX12_feed_35 : decode cX12_feed 35 = .ok (.iload 6, 2) := by decide +kernel
theorem dX12_feed_37 : decode cX12_feed 37 = .ok (.bipush 8, 2) := by decide +kernel
theorem dX12_feed_39 : decode cX12_feed 39 = .ok (.if_icmp .ge 7, 3) := by decide +kernel
theorem dX12_feed_42 : decode cX12_feed 42 = .ok (.iload_n 2, 1) := by decide +kernel
theorem dX12_feed_43 : decode cX12_feed 43 = .ok (.goto 28, 3) := by decide +kernel
theorem dX12_feed_46 : decode cX12_feed 46 = .ok (.iload 6, 2) := by decide +kernel
theorem dX12_feed_48 : decode cX12_feed 48 = .ok (.bipush 12, 2) := by decide +kernel
theorem dX12_feed_50 : decode cX12_feed 50 = .ok (.if_icmp .ge 7, 3) := by decide +kernel
theorem dX12_feed_53 : decode cX12_feed 53 = .ok (.iload_n 3, 1) := by decide +kernel
theorem dX12_feed_54 : decode cX12_feed 54 = .ok (.goto 17, 3) := by decide +kernel
theorem dX12_feed_57 : decode cX12_feed 57 = .ok (.iload 6, 2) := by decide +kernel
theorem dX12_feed_59 : decode cX12_feed 59 = .ok (.bipush 16, 2) := by decide +kernel
theorem dX12_feed_61 : decode cX12_feed 61 = .ok (.if_icmp .ge 8, 3) := by decide +kernel
theorem dX12_feed_64 : decode cX12_feed 64 = .ok (.iload 4, 2) := by decide +kernel
theorem dX12_feed_66 : decode cX12_feed 66 = .ok (.goto 5, 3) := by decide +kernel
theorem dX12_feed_69 : decode cX12_feed 69 = .ok (.iload 5, 2) := by decide +kernel
theorem dX12_feed_71 : decode cX12_feed 71 = .ok (.istore 7, 2) := by decide +kernel
theorem dX12_feed_73 : decode cX12_feed 73 = .ok (.aload_n 0, 1) := by decide +kernel
theorem dX12_feed_74 : decode cX12_feed 74 = .ok (.getfield 7, 3) := by decide +kernel
theorem dX12_feed_77 : decode cX12_feed 77 = .ok (.aload_n 0, 1) := by decide +kernel
theorem dX12_feed_78 : decode cX12_feed 78 = .ok (.getfield 247, 3) := by decide +kernel
theorem dX12_feed_81 : decode cX12_feed 81 = .ok (.iload 6, 2) := by decide +kernel
theorem dX12_feed_83 : decode cX12_feed 83 = .ok (.iadd, 1) := by decide +kernel
theorem dX12_feed_84 : decode cX12_feed 84 = .ok (.iload 7, 2) := by decide +kernel
theorem dX12_feed_86 : decode cX12_feed 86 = .ok (.bipush 24, 2) := by decide +kernel
theorem dX12_feed_88 : decode cX12_feed 88 = .ok (.bipush 8, 2) := by decide +kernel
theorem dX12_feed_90 : decode cX12_feed 90 = .ok (.iload 6, 2) := by decide +kernel
theorem dX12_feed_92 : decode cX12_feed 92 = .ok (.iconst 3, 1) := by decide +kernel
theorem dX12_feed_93 : decode cX12_feed 93 = .ok (.iand, 1) := by decide +kernel
theorem dX12_feed_94 : decode cX12_feed 94 = .ok (.imul, 1) := by decide +kernel
theorem dX12_feed_95 : decode cX12_feed 95 = .ok (.isub, 1) := by decide +kernel
theorem dX12_feed_96 : decode cX12_feed 96 = .ok (.ishr, 1) := by decide +kernel
theorem dX12_feed_97 : decode cX12_feed 97 = .ok (.i2b, 1) := by decide +kernel
theorem dX12_feed_98 : decode cX12_feed 98 = .ok (.bastore, 1) := by decide +kernel
theorem dX12_feed_99 : decode cX12_feed 99 = .ok (.iinc 6 1, 3) := by decide +kernel
theorem dX12_feed_102 : decode cX12_feed 102 = .ok (.goto (-84), 3) := by decide +kernel
theorem dX12_feed_105 : decode cX12_feed 105 = .ok (.aload_n 0, 1) := by decide +kernel
theorem dX12_feed_106 : decode cX12_feed 106 = .ok (.dup, 1) := by decide +kernel
theorem dX12_feed_107 : decode cX12_feed 107 = .ok (.getfield 247, 3) := by decide +kernel
theorem dX12_feed_110 : decode cX12_feed 110 = .ok (.bipush 20, 2) := by decide +kernel
theorem dX12_feed_112 : decode cX12_feed 112 = .ok (.iadd, 1) := by decide +kernel
theorem dX12_feed_113 : decode cX12_feed 113 = .ok (.putfield 247, 3) := by decide +kernel
theorem dX12_feed_116 : decode cX12_feed 116 = .ok (.aload_n 0, 1) := by decide +kernel
theorem dX12_feed_117 : decode cX12_feed 117 = .ok (.getfield 247, 3) := by decide +kernel
theorem dX12_feed_120 : decode cX12_feed 120 = .ok (.ireturn, 1) := by decide +kernel
theorem dX12_end_0 : decode cX12_end 0 = .ok (.iload_n 1, 1) := by decide +kernel
theorem dX12_end_1 : decode cX12_end 1 = .ok (.ifCond .lt 11, 3) := by decide +kernel
theorem dX12_end_4 : decode cX12_end 4 = .ok (.iload_n 1, 1) := by decide +kernel
theorem dX12_end_5 : decode cX12_end 5 = .ok (.aload_n 0, 1) := by decide +kernel
theorem dX12_end_6 : decode cX12_end 6 = .ok (.getfield 247, 3) := by decide +kernel
theorem dX12_end_9 : decode cX12_end 9 = .ok (.if_icmp .le 5, 3) := by decide +kernel
theorem dX12_end_12 : decode cX12_end 12 = .ok (.iconst (-1), 1) := by decide +kernel
theorem dX12_end_13 : decode cX12_end 13 = .ok (.ireturn, 1) := by decide +kernel
theorem dX12_end_14 : decode cX12_end 14 = .ok (.aload_n 0, 1) := by decide +kernel
theorem dX12_end_15 : decode cX12_end 15 = .ok (.iload_n 1, 1) := by decide +kernel
theorem dX12_end_16 : decode cX12_end 16 = .ok (.putfield 247, 3) := by decide +kernel
theorem dX12_end_19 : decode cX12_end 19 = .ok (.iload_n 1, 1) := by decide +kernel
theorem dX12_end_20 : decode cX12_end 20 = .ok (.ireturn, 1) := by decide +kernel
theorem dJ0_length_8abf5_0 : decode cJ0_length_8abf5 0 = .ok (.aload_n 0, 1) := by decide +kernel
theorem dJ0_length_8abf5_1 : decode cJ0_length_8abf5 1 = .ok (.getfield 9, 3) := by decide +kernel
theorem dJ0_length_8abf5_4 : decode cJ0_length_8abf5 4 = .ok (.arraylength, 1) := by decide +kernel
theorem dJ0_length_8abf5_5 : decode cJ0_length_8abf5 5 = .ok (.aload_n 0, 1) := by decide +kernel
theorem dJ0_length_8abf5_6 : decode cJ0_length_8abf5 6 = .ok (.invokevirtual 335, 3) := by decide +kernel
theorem dJ0_length_8abf5_9 : decode cJ0_length_8abf5 9 = .ok (.ishr, 1) := by decide +kernel
theorem dJ0_length_8abf5_10 : decode cJ0_length_8abf5 10 = .ok (.ireturn, 1) := by decide +kernel
theorem dJ0_charAt_5068e_0 : decode cJ0_charAt_5068e 0 = .ok (.aload_n 0, 1) := by decide +kernel
theorem dJ0_charAt_5068e_1 : decode cJ0_charAt_5068e 1 = .ok (.invokevirtual 492, 3) := by decide +kernel
theorem dJ0_charAt_5068e_4 : decode cJ0_charAt_5068e 4 = .ok (.ifCond .eq 12, 3) := by decide +kernel
theorem dJ0_charAt_5068e_7 : decode cJ0_charAt_5068e 7 = .ok (.aload_n 0, 1) := by decide +kernel
theorem dJ0_charAt_5068e_8 : decode cJ0_charAt_5068e 8 = .ok (.getfield 9, 3) := by decide +kernel
theorem dJ0_charAt_5068e_11 : decode cJ0_charAt_5068e 11 = .ok (.iload_n 1, 1) := by decide +kernel
theorem dJ0_charAt_5068e_12 : decode cJ0_charAt_5068e 12 = .ok (.invokestatic 495, 3) := by decide +kernel
theorem dJ0_charAt_5068e_15 : decode cJ0_charAt_5068e 15 = .ok (.ireturn, 1) := by decide +kernel
theorem dJ0_charAt_5068e_16 : decode cJ0_charAt_5068e 16 = .ok (.aload_n 0, 1) := by decide +kernel
theorem dJ0_charAt_5068e_17 : decode cJ0_charAt_5068e 17 = .ok (.getfield 9, 3) := by decide +kernel
theorem dJ0_charAt_5068e_20 : decode cJ0_charAt_5068e 20 = .ok (.iload_n 1, 1) := by decide +kernel
theorem dJ0_charAt_5068e_21 : decode cJ0_charAt_5068e 21 = .ok (.invokestatic 498, 3) := by decide +kernel
theorem dJ0_charAt_5068e_24 : decode cJ0_charAt_5068e 24 = .ok (.ireturn, 1) := by decide +kernel
theorem dJ0_coder_7d493_0 : decode cJ0_coder_7d493 0 = .ok (.getstatic 38, 3) := by decide +kernel
theorem dJ0_coder_7d493_3 : decode cJ0_coder_7d493 3 = .ok (.ifCond .eq 10, 3) := by decide +kernel
theorem dJ0_coder_7d493_6 : decode cJ0_coder_7d493 6 = .ok (.aload_n 0, 1) := by decide +kernel
theorem dJ0_coder_7d493_7 : decode cJ0_coder_7d493 7 = .ok (.getfield 15, 3) := by decide +kernel
theorem dJ0_coder_7d493_10 : decode cJ0_coder_7d493 10 = .ok (.goto 4, 3) := by decide +kernel
theorem dJ0_coder_7d493_13 : decode cJ0_coder_7d493 13 = .ok (.iconst 1, 1) := by decide +kernel
theorem dJ0_coder_7d493_14 : decode cJ0_coder_7d493 14 = .ok (.ireturn, 1) := by decide +kernel
theorem dJ0_isLatin1_aae02_0 : decode cJ0_isLatin1_aae02 0 = .ok (.getstatic 38, 3) := by decide +kernel
theorem dJ0_isLatin1_aae02_3 : decode cJ0_isLatin1_aae02 3 = .ok (.ifCond .eq 14, 3) := by decide +kernel
theorem dJ0_isLatin1_aae02_6 : decode cJ0_isLatin1_aae02 6 = .ok (.aload_n 0, 1) := by decide +kernel
theorem dJ0_isLatin1_aae02_7 : decode cJ0_isLatin1_aae02 7 = .ok (.getfield 15, 3) := by decide +kernel
theorem dJ0_isLatin1_aae02_10 : decode cJ0_isLatin1_aae02 10 = .ok (.ifCond .ne 7, 3) := by decide +kernel
theorem dJ0_isLatin1_aae02_13 : decode cJ0_isLatin1_aae02 13 = .ok (.iconst 1, 1) := by decide +kernel
theorem dJ0_isLatin1_aae02_14 : decode cJ0_isLatin1_aae02 14 = .ok (.goto 4, 3) := by decide +kernel
theorem dJ0_isLatin1_aae02_17 : decode cJ0_isLatin1_aae02 17 = .ok (.iconst 0, 1) := by decide +kernel
theorem dJ0_isLatin1_aae02_18 : decode cJ0_isLatin1_aae02 18 = .ok (.ireturn, 1) := by decide +kernel
theorem dJ0_checkIndex_df160_0 : decode cJ0_checkIndex_df160 0 = .ok (.iload_n 0, 1) := by decide +kernel
theorem dJ0_checkIndex_df160_1 : decode cJ0_checkIndex_df160 1 = .ok (.iload_n 1, 1) := by decide +kernel
theorem dJ0_checkIndex_df160_2 : decode cJ0_checkIndex_df160 2 = .ok (.getstatic 1053, 3) := by decide +kernel
theorem dJ0_checkIndex_df160_5 : decode cJ0_checkIndex_df160 5 = .ok (.invokestatic 1059, 3) := by decide +kernel
theorem dJ0_checkIndex_df160_8 : decode cJ0_checkIndex_df160 8 = .ok (.pop, 1) := by decide +kernel
theorem dJ0_checkIndex_df160_9 : decode cJ0_checkIndex_df160 9 = .ok (.return_, 1) := by decide +kernel
theorem dJ1_charAt_3b067_0 : decode cJ1_charAt_3b067 0 = .ok (.iload_n 1, 1) := by decide +kernel
theorem dJ1_charAt_3b067_1 : decode cJ1_charAt_3b067 1 = .ok (.aload_n 0, 1) := by decide +kernel
theorem dJ1_charAt_3b067_2 : decode cJ1_charAt_3b067 2 = .ok (.arraylength, 1) := by decide +kernel
theorem dJ1_charAt_3b067_3 : decode cJ1_charAt_3b067 3 = .ok (.invokestatic 9, 3) := by decide +kernel
theorem dJ1_charAt_3b067_6 : decode cJ1_charAt_3b067 6 = .ok (.aload_n 0, 1) := by decide +kernel
theorem dJ1_charAt_3b067_7 : decode cJ1_charAt_3b067 7 = .ok (.iload_n 1, 1) := by decide +kernel
theorem dJ1_charAt_3b067_8 : decode cJ1_charAt_3b067 8 = .ok (.baload, 1) := by decide +kernel
theorem dJ1_charAt_3b067_9 : decode cJ1_charAt_3b067 9 = .ok (.sipush 255, 3) := by decide +kernel
theorem dJ1_charAt_3b067_12 : decode cJ1_charAt_3b067 12 = .ok (.iand, 1) := by decide +kernel
theorem dJ1_charAt_3b067_13 : decode cJ1_charAt_3b067 13 = .ok (.i2c, 1) := by decide +kernel
theorem dJ1_charAt_3b067_14 : decode cJ1_charAt_3b067 14 = .ok (.ireturn, 1) := by decide +kernel
theorem dJ3_checkIndex_8e157_0 : decode cJ3_checkIndex_8e157 0 = .ok (.iload_n 0, 1) := by decide +kernel
theorem dJ3_checkIndex_8e157_1 : decode cJ3_checkIndex_8e157 1 = .ok (.ifCond .lt 8, 3) := by decide +kernel
theorem dJ3_checkIndex_8e157_4 : decode cJ3_checkIndex_8e157 4 = .ok (.iload_n 0, 1) := by decide +kernel
theorem dJ3_checkIndex_8e157_5 : decode cJ3_checkIndex_8e157 5 = .ok (.iload_n 1, 1) := by decide +kernel
theorem dJ3_checkIndex_8e157_6 : decode cJ3_checkIndex_8e157 6 = .ok (.if_icmp .lt 10, 3) := by decide +kernel
theorem dJ3_checkIndex_8e157_9 : decode cJ3_checkIndex_8e157 9 = .ok (.aload_n 2, 1) := by decide +kernel
theorem dJ3_checkIndex_8e157_10 : decode cJ3_checkIndex_8e157 10 = .ok (.iload_n 0, 1) := by decide +kernel
theorem dJ3_checkIndex_8e157_11 : decode cJ3_checkIndex_8e157 11 = .ok (.iload_n 1, 1) := by decide +kernel
theorem dJ3_checkIndex_8e157_12 : decode cJ3_checkIndex_8e157 12 = .ok (.invokestatic 95, 3) := by decide +kernel
theorem dJ3_checkIndex_8e157_15 : decode cJ3_checkIndex_8e157 15 = .ok (.athrow, 1) := by decide +kernel
theorem dJ3_checkIndex_8e157_16 : decode cJ3_checkIndex_8e157 16 = .ok (.iload_n 0, 1) := by decide +kernel
theorem dJ3_checkIndex_8e157_17 : decode cJ3_checkIndex_8e157 17 = .ok (.ireturn, 1) := by decide +kernel
theorem dL_law_0 : decode cL_law 0 = .ok (.new 7, 3) := by decide +kernel
theorem dL_law_3 : decode cL_law 3 = .ok (.dup, 1) := by decide +kernel
theorem dL_law_4 : decode cL_law 4 = .ok (.invokespecial 9, 3) := by decide +kernel
theorem dL_law_7 : decode cL_law 7 = .ok (.astore_n 1, 1) := by decide +kernel
theorem dL_law_8 : decode cL_law 8 = .ok (.new 10, 3) := by decide +kernel
theorem dL_law_11 : decode cL_law 11 = .ok (.dup, 1) := by decide +kernel
theorem dL_law_12 : decode cL_law 12 = .ok (.invokespecial 12, 3) := by decide +kernel
theorem dL_law_15 : decode cL_law 15 = .ok (.astore_n 2, 1) := by decide +kernel
theorem dL_law_16 : decode cL_law 16 = .ok (.iconst 0, 1) := by decide +kernel
theorem dL_law_17 : decode cL_law 17 = .ok (.istore_n 3, 1) := by decide +kernel
theorem dL_law_18 : decode cL_law 18 = .ok (.iload_n 3, 1) := by decide +kernel
theorem dL_law_19 : decode cL_law 19 = .ok (.aload_n 0, 1) := by decide +kernel
theorem dL_law_20 : decode cL_law 20 = .ok (.arraylength, 1) := by decide +kernel
theorem dL_law_21 : decode cL_law 21 = .ok (.bipush 6, 2) := by decide +kernel
theorem dL_law_23 : decode cL_law 23 = .ok (.isub, 1) := by decide +kernel
theorem dL_law_24 : decode cL_law 24 = .ok (.if_icmp .gt 1126, 3) := by decide +kernel
theorem dL_law_27 : decode cL_law 27 = .ok (.aload_n 0, 1) := by decide +kernel
theorem dL_law_28 : decode cL_law 28 = .ok (.iload_n 3, 1) := by decide +kernel
theorem dL_law_29 : decode cL_law 29 = .ok (.iaload, 1) := by decide +kernel
theorem dL_law_30 : decode cL_law 30 = .ok (.bipush 31, 2) := by decide +kernel
theorem dL_law_32 : decode cL_law 32 = .ok (.iand, 1) := by decide +kernel
theorem dL_law_33 : decode cL_law 33 = .ok (.tableswitch 1111 0 27 #[127, 190, 213, 226, 239, 262, 295, 338, 371, 414, 447, 500, 533, 576, 619, 652, 685, 698, 721, 744, 797, 860, 923, 966, 1019, 1042, 1065, 1088], 127) := by decide +kernel
theorem dL_law_160 : decode cL_law 160 = .ok (.aload_n 1, 1) := by decide +kernel
theorem dL_law_161 : decode cL_law 161 = .ok (.aload_n 0, 1) := by decide +kernel
theorem dL_law_162 : decode cL_law 162 = .ok (.iload_n 3, 1) := by decide +kernel
theorem dL_law_163 : decode cL_law 163 = .ok (.iconst 1, 1) := by decide +kernel
theorem dL_law_164 : decode cL_law 164 = .ok (.iadd, 1) := by decide +kernel
theorem dL_law_165 : decode cL_law 165 = .ok (.iaload, 1) := by decide +kernel
theorem dL_law_166 : decode cL_law 166 = .ok (.aload_n 0, 1) := by decide +kernel
theorem dL_law_167 : decode cL_law 167 = .ok (.iload_n 3, 1) := by decide +kernel
theorem dL_law_168 : decode cL_law 168 = .ok (.iconst 2, 1) := by decide +kernel
theorem dL_law_169 : decode cL_law 169 = .ok (.iadd, 1) := by decide +kernel
theorem dL_law_170 : decode cL_law 170 = .ok (.iaload, 1) := by decide +kernel
theorem dL_law_171 : decode cL_law 171 = .ok (.aload_n 0, 1) := by decide +kernel
theorem dL_law_172 : decode cL_law 172 = .ok (.iload_n 3, 1) := by decide +kernel
theorem dL_law_173 : decode cL_law 173 = .ok (.iconst 3, 1) := by decide +kernel
theorem dL_law_174 : decode cL_law 174 = .ok (.iadd, 1) := by decide +kernel
theorem dL_law_175 : decode cL_law 175 = .ok (.iaload, 1) := by decide +kernel
theorem dL_law_176 : decode cL_law 176 = .ok (.aload_n 0, 1) := by decide +kernel
theorem dL_law_177 : decode cL_law 177 = .ok (.iload_n 3, 1) := by decide +kernel
theorem dL_law_178 : decode cL_law 178 = .ok (.iconst 4, 1) := by decide +kernel
theorem dL_law_179 : decode cL_law 179 = .ok (.iadd, 1) := by decide +kernel
theorem dL_law_180 : decode cL_law 180 = .ok (.iaload, 1) := by decide +kernel
theorem dL_law_181 : decode cL_law 181 = .ok (.aload_n 0, 1) := by decide +kernel
theorem dL_law_182 : decode cL_law 182 = .ok (.iload_n 3, 1) := by decide +kernel
theorem dL_law_183 : decode cL_law 183 = .ok (.iconst 5, 1) := by decide +kernel
theorem dL_law_184 : decode cL_law 184 = .ok (.iadd, 1) := by decide +kernel
theorem dL_law_185 : decode cL_law 185 = .ok (.iaload, 1) := by decide +kernel
theorem dL_law_186 : decode cL_law 186 = .ok (.invokevirtual 13, 3) := by decide +kernel
theorem dL_law_189 : decode cL_law 189 = .ok (.aload_n 2, 1) := by decide +kernel
theorem dL_law_190 : decode cL_law 190 = .ok (.aload_n 0, 1) := by decide +kernel
theorem dL_law_191 : decode cL_law 191 = .ok (.iload_n 3, 1) := by decide +kernel
theorem dL_law_192 : decode cL_law 192 = .ok (.iconst 1, 1) := by decide +kernel
theorem dL_law_193 : decode cL_law 193 = .ok (.iadd, 1) := by decide +kernel
theorem dL_law_194 : decode cL_law 194 = .ok (.iaload, 1) := by decide +kernel
theorem dL_law_195 : decode cL_law 195 = .ok (.aload_n 0, 1) := by decide +kernel
theorem dL_law_196 : decode cL_law 196 = .ok (.iload_n 3, 1) := by decide +kernel
theorem dL_law_197 : decode cL_law 197 = .ok (.iconst 2, 1) := by decide +kernel
theorem dL_law_198 : decode cL_law 198 = .ok (.iadd, 1) := by decide +kernel
theorem dL_law_199 : decode cL_law 199 = .ok (.iaload, 1) := by decide +kernel
theorem dL_law_200 : decode cL_law 200 = .ok (.aload_n 0, 1) := by decide +kernel
theorem dL_law_201 : decode cL_law 201 = .ok (.iload_n 3, 1) := by decide +kernel
theorem dL_law_202 : decode cL_law 202 = .ok (.iconst 3, 1) := by decide +kernel
theorem dL_law_203 : decode cL_law 203 = .ok (.iadd, 1) := by decide +kernel
theorem dL_law_204 : decode cL_law 204 = .ok (.iaload, 1) := by decide +kernel
theorem dL_law_205 : decode cL_law 205 = .ok (.aload_n 0, 1) := by decide +kernel
theorem dL_law_206 : decode cL_law 206 = .ok (.iload_n 3, 1) := by decide +kernel
theorem dL_law_207 : decode cL_law 207 = .ok (.iconst 4, 1) := by decide +kernel
theorem dL_law_208 : decode cL_law 208 = .ok (.iadd, 1) := by decide +kernel
theorem dL_law_209 : decode cL_law 209 = .ok (.iaload, 1) := by decide +kernel
theorem dL_law_210 : decode cL_law 210 = .ok (.aload_n 0, 1) := by decide +kernel
theorem dL_law_211 : decode cL_law 211 = .ok (.iload_n 3, 1) := by decide +kernel
theorem dL_law_212 : decode cL_law 212 = .ok (.iconst 5, 1) := by decide +kernel
theorem dL_law_213 : decode cL_law 213 = .ok (.iadd, 1) := by decide +kernel
theorem dL_law_214 : decode cL_law 214 = .ok (.iaload, 1) := by decide +kernel
theorem dL_law_215 : decode cL_law 215 = .ok (.invokevirtual 17, 3) := by decide +kernel
theorem dL_law_218 : decode cL_law 218 = .ok (.if_icmp .eq 926, 3) := by decide +kernel
theorem dL_law_221 : decode cL_law 221 = .ok (.iconst 0, 1) := by decide +kernel
theorem dL_law_222 : decode cL_law 222 = .ok (.ireturn, 1) := by decide +kernel
theorem dL_law_223 : decode cL_law 223 = .ok (.aload_n 1, 1) := by decide +kernel
theorem dL_law_224 : decode cL_law 224 = .ok (.aload_n 0, 1) := by decide +kernel
theorem dL_law_225 : decode cL_law 225 = .ok (.iload_n 3, 1) := by decide +kernel
theorem dL_law_226 : decode cL_law 226 = .ok (.iconst 1, 1) := by decide +kernel
theorem dL_law_227 : decode cL_law 227 = .ok (.iadd, 1) := by decide +kernel
theorem dL_law_228 : decode cL_law 228 = .ok (.iaload, 1) := by decide +kernel
theorem dL_law_229 : decode cL_law 229 = .ok (.invokevirtual 18, 3) := by decide +kernel
theorem dL_law_232 : decode cL_law 232 = .ok (.aload_n 2, 1) := by decide +kernel
theorem dL_law_233 : decode cL_law 233 = .ok (.aload_n 0, 1) := by decide +kernel
theorem dL_law_234 : decode cL_law 234 = .ok (.iload_n 3, 1) := by decide +kernel
theorem dL_law_235 : decode cL_law 235 = .ok (.iconst 1, 1) := by decide +kernel
theorem dL_law_236 : decode cL_law 236 = .ok (.iadd, 1) := by decide +kernel
theorem dL_law_237 : decode cL_law 237 = .ok (.iaload, 1) := by decide +kernel
theorem dL_law_238 : decode cL_law 238 = .ok (.invokevirtual 22, 3) := by decide +kernel
theorem dL_law_241 : decode cL_law 241 = .ok (.if_icmp .eq 903, 3) := by decide +kernel
theorem dL_law_244 : decode cL_law 244 = .ok (.iconst 0, 1) := by decide +kernel
theorem dL_law_245 : decode cL_law 245 = .ok (.ireturn, 1) := by decide +kernel
theorem dL_law_246 : decode cL_law 246 = .ok (.aload_n 1, 1) := by decide +kernel
theorem dL_law_247 : decode cL_law 247 = .ok (.invokevirtual 23, 3) := by decide +kernel
theorem dL_law_250 : decode cL_law 250 = .ok (.aload_n 2, 1) := by decide +kernel
theorem dL_law_251 : decode cL_law 251 = .ok (.invokevirtual 27, 3) := by decide +kernel
theorem dL_law_254 : decode cL_law 254 = .ok (.if_icmp .eq 890, 3) := by decide +kernel
theorem dL_law_257 : decode cL_law 257 = .ok (.iconst 0, 1) := by decide +kernel
theorem dL_law_258 : decode cL_law 258 = .ok (.ireturn, 1) := by decide +kernel
theorem dL_law_259 : decode cL_law 259 = .ok (.aload_n 1, 1) := by decide +kernel
theorem dL_law_260 : decode cL_law 260 = .ok (.invokevirtual 28, 3) := by decide +kernel
theorem dL_law_263 : decode cL_law 263 = .ok (.aload_n 2, 1) := by decide +kernel
theorem dL_law_264 : decode cL_law 264 = .ok (.invokevirtual 31, 3) := by decide +kernel
theorem dL_law_267 : decode cL_law 267 = .ok (.if_icmp .eq 877, 3) := by decide +kernel
theorem dL_law_270 : decode cL_law 270 = .ok (.iconst 0, 1) := by decide +kernel
theorem dL_law_271 : decode cL_law 271 = .ok (.ireturn, 1) := by decide +kernel
theorem dL_law_272 : decode cL_law 272 = .ok (.aload_n 1, 1) := by decide +kernel
theorem dL_law_273 : decode cL_law 273 = .ok (.aload_n 0, 1) := by decide +kernel
theorem dL_law_274 : decode cL_law 274 = .ok (.iload_n 3, 1) := by decide +kernel
theorem dL_law_275 : decode cL_law 275 = .ok (.iconst 1, 1) := by decide +kernel
theorem dL_law_276 : decode cL_law 276 = .ok (.iadd, 1) := by decide +kernel
theorem dL_law_277 : decode cL_law 277 = .ok (.iaload, 1) := by decide +kernel
theorem dL_law_278 : decode cL_law 278 = .ok (.invokevirtual 32, 3) := by decide +kernel
theorem dL_law_281 : decode cL_law 281 = .ok (.aload_n 2, 1) := by decide +kernel
theorem dL_law_282 : decode cL_law 282 = .ok (.aload_n 0, 1) := by decide +kernel
theorem dL_law_283 : decode cL_law 283 = .ok (.iload_n 3, 1) := by decide +kernel
theorem dL_law_284 : decode cL_law 284 = .ok (.iconst 1, 1) := by decide +kernel
theorem dL_law_285 : decode cL_law 285 = .ok (.iadd, 1) := by decide +kernel
theorem dL_law_286 : decode cL_law 286 = .ok (.iaload, 1) := by decide +kernel
theorem dL_law_287 : decode cL_law 287 = .ok (.invokevirtual 35, 3) := by decide +kernel
theorem dL_law_290 : decode cL_law 290 = .ok (.if_icmp .eq 854, 3) := by decide +kernel
theorem dL_law_293 : decode cL_law 293 = .ok (.iconst 0, 1) := by decide +kernel
theorem dL_law_294 : decode cL_law 294 = .ok (.ireturn, 1) := by decide +kernel
theorem dL_law_295 : decode cL_law 295 = .ok (.aload_n 1, 1) := by decide +kernel
theorem dL_law_296 : decode cL_law 296 = .ok (.aload_n 0, 1) := by decide +kernel
theorem dL_law_297 : decode cL_law 297 = .ok (.iload_n 3, 1) := by decide +kernel
theorem dL_law_298 : decode cL_law 298 = .ok (.iconst 1, 1) := by decide +kernel
theorem dL_law_299 : decode cL_law 299 = .ok (.iadd, 1) := by decide +kernel
theorem dL_law_300 : decode cL_law 300 = .ok (.iaload, 1) := by decide +kernel
theorem dL_law_301 : decode cL_law 301 = .ok (.aload_n 0, 1) := by decide +kernel
theorem dL_law_302 : decode cL_law 302 = .ok (.iload_n 3, 1) := by decide +kernel
theorem dL_law_303 : decode cL_law 303 = .ok (.iconst 2, 1) := by decide +kernel
theorem dL_law_304 : decode cL_law 304 = .ok (.iadd, 1) := by decide +kernel
theorem dL_law_305 : decode cL_law 305 = .ok (.iaload, 1) := by decide +kernel
theorem dL_law_306 : decode cL_law 306 = .ok (.invokevirtual 36, 3) := by decide +kernel
theorem dL_law_309 : decode cL_law 309 = .ok (.aload_n 2, 1) := by decide +kernel
theorem dL_law_310 : decode cL_law 310 = .ok (.aload_n 0, 1) := by decide +kernel
theorem dL_law_311 : decode cL_law 311 = .ok (.iload_n 3, 1) := by decide +kernel
theorem dL_law_312 : decode cL_law 312 = .ok (.iconst 1, 1) := by decide +kernel
theorem dL_law_313 : decode cL_law 313 = .ok (.iadd, 1) := by decide +kernel
theorem dL_law_314 : decode cL_law 314 = .ok (.iaload, 1) := by decide +kernel
theorem dL_law_315 : decode cL_law 315 = .ok (.aload_n 0, 1) := by decide +kernel
theorem dL_law_316 : decode cL_law 316 = .ok (.iload_n 3, 1) := by decide +kernel
theorem dL_law_317 : decode cL_law 317 = .ok (.iconst 2, 1) := by decide +kernel
theorem dL_law_318 : decode cL_law 318 = .ok (.iadd, 1) := by decide +kernel
theorem dL_law_319 : decode cL_law 319 = .ok (.iaload, 1) := by decide +kernel
theorem dL_law_320 : decode cL_law 320 = .ok (.invokevirtual 40, 3) := by decide +kernel
theorem dL_law_323 : decode cL_law 323 = .ok (.if_icmp .eq 821, 3) := by decide +kernel
theorem dL_law_326 : decode cL_law 326 = .ok (.iconst 0, 1) := by decide +kernel
theorem dL_law_327 : decode cL_law 327 = .ok (.ireturn, 1) := by decide +kernel
theorem dL_law_328 : decode cL_law 328 = .ok (.aload_n 1, 1) := by decide +kernel
theorem dL_law_329 : decode cL_law 329 = .ok (.aload_n 0, 1) := by decide +kernel
theorem dL_law_330 : decode cL_law 330 = .ok (.iload_n 3, 1) := by decide +kernel
theorem dL_law_331 : decode cL_law 331 = .ok (.iconst 1, 1) := by decide +kernel
theorem dL_law_332 : decode cL_law 332 = .ok (.iadd, 1) := by decide +kernel
theorem dL_law_333 : decode cL_law 333 = .ok (.iaload, 1) := by decide +kernel
theorem dL_law_334 : decode cL_law 334 = .ok (.aload_n 0, 1) := by decide +kernel
theorem dL_law_335 : decode cL_law 335 = .ok (.iload_n 3, 1) := by decide +kernel
theorem dL_law_336 : decode cL_law 336 = .ok (.iconst 2, 1) := by decide +kernel
theorem dL_law_337 : decode cL_law 337 = .ok (.iadd, 1) := by decide +kernel
theorem dL_law_338 : decode cL_law 338 = .ok (.iaload, 1) := by decide +kernel
theorem dL_law_339 : decode cL_law 339 = .ok (.aload_n 0, 1) := by decide +kernel
theorem dL_law_340 : decode cL_law 340 = .ok (.iload_n 3, 1) := by decide +kernel
theorem dL_law_341 : decode cL_law 341 = .ok (.iconst 3, 1) := by decide +kernel
theorem dL_law_342 : decode cL_law 342 = .ok (.iadd, 1) := by decide +kernel
theorem dL_law_343 : decode cL_law 343 = .ok (.iaload, 1) := by decide +kernel
theorem dL_law_344 : decode cL_law 344 = .ok (.invokevirtual 41, 3) := by decide +kernel
theorem dL_law_347 : decode cL_law 347 = .ok (.aload_n 2, 1) := by decide +kernel
theorem dL_law_348 : decode cL_law 348 = .ok (.aload_n 0, 1) := by decide +kernel
theorem dL_law_349 : decode cL_law 349 = .ok (.iload_n 3, 1) := by decide +kernel
theorem dL_law_350 : decode cL_law 350 = .ok (.iconst 1, 1) := by decide +kernel
theorem dL_law_351 : decode cL_law 351 = .ok (.iadd, 1) := by decide +kernel
theorem dL_law_352 : decode cL_law 352 = .ok (.iaload, 1) := by decide +kernel
theorem dL_law_353 : decode cL_law 353 = .ok (.aload_n 0, 1) := by decide +kernel
theorem dL_law_354 : decode cL_law 354 = .ok (.iload_n 3, 1) := by decide +kernel
theorem dL_law_355 : decode cL_law 355 = .ok (.iconst 2, 1) := by decide +kernel
theorem dL_law_356 : decode cL_law 356 = .ok (.iadd, 1) := by decide +kernel
theorem dL_law_357 : decode cL_law 357 = .ok (.iaload, 1) := by decide +kernel
theorem dL_law_358 : decode cL_law 358 = .ok (.aload_n 0, 1) := by decide +kernel
theorem dL_law_359 : decode cL_law 359 = .ok (.iload_n 3, 1) := by decide +kernel
theorem dL_law_360 : decode cL_law 360 = .ok (.iconst 3, 1) := by decide +kernel
theorem dL_law_361 : decode cL_law 361 = .ok (.iadd, 1) := by decide +kernel
theorem dL_law_362 : decode cL_law 362 = .ok (.iaload, 1) := by decide +kernel
theorem dL_law_363 : decode cL_law 363 = .ok (.invokevirtual 45, 3) := by decide +kernel
theorem dL_law_366 : decode cL_law 366 = .ok (.if_icmp .eq 778, 3) := by decide +kernel
theorem dL_law_369 : decode cL_law 369 = .ok (.iconst 0, 1) := by decide +kernel
theorem dL_law_370 : decode cL_law 370 = .ok (.ireturn, 1) := by decide +kernel
theorem dL_law_371 : decode cL_law 371 = .ok (.aload_n 1, 1) := by decide +kernel
theorem dL_law_372 : decode cL_law 372 = .ok (.aload_n 0, 1) := by decide +kernel
theorem dL_law_373 : decode cL_law 373 = .ok (.iload_n 3, 1) := by decide +kernel
theorem dL_law_374 : decode cL_law 374 = .ok (.iconst 1, 1) := by decide +kernel
theorem dL_law_375 : decode cL_law 375 = .ok (.iadd, 1) := by decide +kernel
theorem dL_law_376 : decode cL_law 376 = .ok (.iaload, 1) := by decide +kernel
theorem dL_law_377 : decode cL_law 377 = .ok (.aload_n 0, 1) := by decide +kernel
theorem dL_law_378 : decode cL_law 378 = .ok (.iload_n 3, 1) := by decide +kernel
theorem dL_law_379 : decode cL_law 379 = .ok (.iconst 2, 1) := by decide +kernel
theorem dL_law_380 : decode cL_law 380 = .ok (.iadd, 1) := by decide +kernel
theorem dL_law_381 : decode cL_law 381 = .ok (.iaload, 1) := by decide +kernel
theorem dL_law_382 : decode cL_law 382 = .ok (.invokevirtual 46, 3) := by decide +kernel
theorem dL_law_385 : decode cL_law 385 = .ok (.aload_n 2, 1) := by decide +kernel
theorem dL_law_386 : decode cL_law 386 = .ok (.aload_n 0, 1) := by decide +kernel
theorem dL_law_387 : decode cL_law 387 = .ok (.iload_n 3, 1) := by decide +kernel
theorem dL_law_388 : decode cL_law 388 = .ok (.iconst 1, 1) := by decide +kernel
theorem dL_law_389 : decode cL_law 389 = .ok (.iadd, 1) := by decide +kernel
theorem dL_law_390 : decode cL_law 390 = .ok (.iaload, 1) := by decide +kernel
theorem dL_law_391 : decode cL_law 391 = .ok (.aload_n 0, 1) := by decide +kernel
theorem dL_law_392 : decode cL_law 392 = .ok (.iload_n 3, 1) := by decide +kernel
theorem dL_law_393 : decode cL_law 393 = .ok (.iconst 2, 1) := by decide +kernel
theorem dL_law_394 : decode cL_law 394 = .ok (.iadd, 1) := by decide +kernel
theorem dL_law_395 : decode cL_law 395 = .ok (.iaload, 1) := by decide +kernel
theorem dL_law_396 : decode cL_law 396 = .ok (.invokevirtual 49, 3) := by decide +kernel
theorem dL_law_399 : decode cL_law 399 = .ok (.if_icmp .eq 745, 3) := by decide +kernel
theorem dL_law_402 : decode cL_law 402 = .ok (.iconst 0, 1) := by decide +kernel
theorem dL_law_403 : decode cL_law 403 = .ok (.ireturn, 1) := by decide +kernel
theorem dL_law_404 : decode cL_law 404 = .ok (.aload_n 1, 1) := by decide +kernel
theorem dL_law_405 : decode cL_law 405 = .ok (.aload_n 0, 1) := by decide +kernel
theorem dL_law_406 : decode cL_law 406 = .ok (.iload_n 3, 1) := by decide +kernel
theorem dL_law_407 : decode cL_law 407 = .ok (.iconst 1, 1) := by decide +kernel
theorem dL_law_408 : decode cL_law 408 = .ok (.iadd, 1) := by decide +kernel
theorem dL_law_409 : decode cL_law 409 = .ok (.iaload, 1) := by decide +kernel
theorem dL_law_410 : decode cL_law 410 = .ok (.aload_n 0, 1) := by decide +kernel
theorem dL_law_411 : decode cL_law 411 = .ok (.iload_n 3, 1) := by decide +kernel
theorem dL_law_412 : decode cL_law 412 = .ok (.iconst 2, 1) := by decide +kernel
theorem dL_law_413 : decode cL_law 413 = .ok (.iadd, 1) := by decide +kernel
theorem dL_law_414 : decode cL_law 414 = .ok (.iaload, 1) := by decide +kernel
theorem dL_law_415 : decode cL_law 415 = .ok (.aload_n 0, 1) := by decide +kernel
theorem dL_law_416 : decode cL_law 416 = .ok (.iload_n 3, 1) := by decide +kernel
theorem dL_law_417 : decode cL_law 417 = .ok (.iconst 3, 1) := by decide +kernel
theorem dL_law_418 : decode cL_law 418 = .ok (.iadd, 1) := by decide +kernel
theorem dL_law_419 : decode cL_law 419 = .ok (.iaload, 1) := by decide +kernel
theorem dL_law_420 : decode cL_law 420 = .ok (.invokevirtual 50, 3) := by decide +kernel
theorem dL_law_423 : decode cL_law 423 = .ok (.aload_n 2, 1) := by decide +kernel
theorem dL_law_424 : decode cL_law 424 = .ok (.aload_n 0, 1) := by decide +kernel
theorem dL_law_425 : decode cL_law 425 = .ok (.iload_n 3, 1) := by decide +kernel
theorem dL_law_426 : decode cL_law 426 = .ok (.iconst 1, 1) := by decide +kernel
theorem dL_law_427 : decode cL_law 427 = .ok (.iadd, 1) := by decide +kernel
theorem dL_law_428 : decode cL_law 428 = .ok (.iaload, 1) := by decide +kernel
theorem dL_law_429 : decode cL_law 429 = .ok (.aload_n 0, 1) := by decide +kernel
theorem dL_law_430 : decode cL_law 430 = .ok (.iload_n 3, 1) := by decide +kernel
theorem dL_law_431 : decode cL_law 431 = .ok (.iconst 2, 1) := by decide +kernel
theorem dL_law_432 : decode cL_law 432 = .ok (.iadd, 1) := by decide +kernel
theorem dL_law_433 : decode cL_law 433 = .ok (.iaload, 1) := by decide +kernel
theorem dL_law_434 : decode cL_law 434 = .ok (.aload_n 0, 1) := by decide +kernel
theorem dL_law_435 : decode cL_law 435 = .ok (.iload_n 3, 1) := by decide +kernel
theorem dL_law_436 : decode cL_law 436 = .ok (.iconst 3, 1) := by decide +kernel
theorem dL_law_437 : decode cL_law 437 = .ok (.iadd, 1) := by decide +kernel
theorem dL_law_438 : decode cL_law 438 = .ok (.iaload, 1) := by decide +kernel
theorem dL_law_439 : decode cL_law 439 = .ok (.invokevirtual 53, 3) := by decide +kernel
theorem dL_law_442 : decode cL_law 442 = .ok (.if_icmp .eq 702, 3) := by decide +kernel
theorem dL_law_445 : decode cL_law 445 = .ok (.iconst 0, 1) := by decide +kernel
theorem dL_law_446 : decode cL_law 446 = .ok (.ireturn, 1) := by decide +kernel
theorem dL_law_447 : decode cL_law 447 = .ok (.aload_n 1, 1) := by decide +kernel
theorem dL_law_448 : decode cL_law 448 = .ok (.aload_n 0, 1) := by decide +kernel
theorem dL_law_449 : decode cL_law 449 = .ok (.iload_n 3, 1) := by decide +kernel
theorem dL_law_450 : decode cL_law 450 = .ok (.iconst 1, 1) := by decide +kernel
theorem dL_law_451 : decode cL_law 451 = .ok (.iadd, 1) := by decide +kernel
theorem dL_law_452 : decode cL_law 452 = .ok (.iaload, 1) := by decide +kernel
theorem dL_law_453 : decode cL_law 453 = .ok (.aload_n 0, 1) := by decide +kernel
theorem dL_law_454 : decode cL_law 454 = .ok (.iload_n 3, 1) := by decide +kernel
theorem dL_law_455 : decode cL_law 455 = .ok (.iconst 2, 1) := by decide +kernel
theorem dL_law_456 : decode cL_law 456 = .ok (.iadd, 1) := by decide +kernel
theorem dL_law_457 : decode cL_law 457 = .ok (.iaload, 1) := by decide +kernel
theorem dL_law_458 : decode cL_law 458 = .ok (.invokevirtual 54, 3) := by decide +kernel
theorem dL_law_461 : decode cL_law 461 = .ok (.aload_n 2, 1) := by decide +kernel
theorem dL_law_462 : decode cL_law 462 = .ok (.aload_n 0, 1) := by decide +kernel
theorem dL_law_463 : decode cL_law 463 = .ok (.iload_n 3, 1) := by decide +kernel
theorem dL_law_464 : decode cL_law 464 = .ok (.iconst 1, 1) := by decide +kernel
theorem dL_law_465 : decode cL_law 465 = .ok (.iadd, 1) := by decide +kernel
theorem dL_law_466 : decode cL_law 466 = .ok (.iaload, 1) := by decide +kernel
theorem dL_law_467 : decode cL_law 467 = .ok (.aload_n 0, 1) := by decide +kernel
theorem dL_law_468 : decode cL_law 468 = .ok (.iload_n 3, 1) := by decide +kernel
theorem dL_law_469 : decode cL_law 469 = .ok (.iconst 2, 1) := by decide +kernel
theorem dL_law_470 : decode cL_law 470 = .ok (.iadd, 1) := by decide +kernel
theorem dL_law_471 : decode cL_law 471 = .ok (.iaload, 1) := by decide +kernel
theorem dL_law_472 : decode cL_law 472 = .ok (.invokevirtual 57, 3) := by decide +kernel
theorem dL_law_475 : decode cL_law 475 = .ok (.if_icmp .eq 669, 3) := by decide +kernel
theorem dL_law_478 : decode cL_law 478 = .ok (.iconst 0, 1) := by decide +kernel
theorem dL_law_479 : decode cL_law 479 = .ok (.ireturn, 1) := by decide +kernel
theorem dL_law_480 : decode cL_law 480 = .ok (.aload_n 1, 1) := by decide +kernel
theorem dL_law_481 : decode cL_law 481 = .ok (.aload_n 0, 1) := by decide +kernel
theorem dL_law_482 : decode cL_law 482 = .ok (.iload_n 3, 1) := by decide +kernel
theorem dL_law_483 : decode cL_law 483 = .ok (.iconst 1, 1) := by decide +kernel
theorem dL_law_484 : decode cL_law 484 = .ok (.iadd, 1) := by decide +kernel
theorem dL_law_485 : decode cL_law 485 = .ok (.iaload, 1) := by decide +kernel
theorem dL_law_486 : decode cL_law 486 = .ok (.aload_n 0, 1) := by decide +kernel
theorem dL_law_487 : decode cL_law 487 = .ok (.iload_n 3, 1) := by decide +kernel
theorem dL_law_488 : decode cL_law 488 = .ok (.iconst 2, 1) := by decide +kernel
theorem dL_law_489 : decode cL_law 489 = .ok (.iadd, 1) := by decide +kernel
theorem dL_law_490 : decode cL_law 490 = .ok (.iaload, 1) := by decide +kernel
theorem dL_law_491 : decode cL_law 491 = .ok (.aload_n 0, 1) := by decide +kernel
theorem dL_law_492 : decode cL_law 492 = .ok (.iload_n 3, 1) := by decide +kernel
theorem dL_law_493 : decode cL_law 493 = .ok (.iconst 3, 1) := by decide +kernel
theorem dL_law_494 : decode cL_law 494 = .ok (.iadd, 1) := by decide +kernel
theorem dL_law_495 : decode cL_law 495 = .ok (.iaload, 1) := by decide +kernel
theorem dL_law_496 : decode cL_law 496 = .ok (.aload_n 0, 1) := by decide +kernel
theorem dL_law_497 : decode cL_law 497 = .ok (.iload_n 3, 1) := by decide +kernel
theorem dL_law_498 : decode cL_law 498 = .ok (.iconst 4, 1) := by decide +kernel
theorem dL_law_499 : decode cL_law 499 = .ok (.iadd, 1) := by decide +kernel
theorem dL_law_500 : decode cL_law 500 = .ok (.iaload, 1) := by decide +kernel
theorem dL_law_501 : decode cL_law 501 = .ok (.invokevirtual 58, 3) := by decide +kernel
theorem dL_law_504 : decode cL_law 504 = .ok (.aload_n 2, 1) := by decide +kernel
theorem dL_law_505 : decode cL_law 505 = .ok (.aload_n 0, 1) := by decide +kernel
theorem dL_law_506 : decode cL_law 506 = .ok (.iload_n 3, 1) := by decide +kernel
theorem dL_law_507 : decode cL_law 507 = .ok (.iconst 1, 1) := by decide +kernel
theorem dL_law_508 : decode cL_law 508 = .ok (.iadd, 1) := by decide +kernel
theorem dL_law_509 : decode cL_law 509 = .ok (.iaload, 1) := by decide +kernel
theorem dL_law_510 : decode cL_law 510 = .ok (.aload_n 0, 1) := by decide +kernel
theorem dL_law_511 : decode cL_law 511 = .ok (.iload_n 3, 1) := by decide +kernel
theorem dL_law_512 : decode cL_law 512 = .ok (.iconst 2, 1) := by decide +kernel
theorem dL_law_513 : decode cL_law 513 = .ok (.iadd, 1) := by decide +kernel
theorem dL_law_514 : decode cL_law 514 = .ok (.iaload, 1) := by decide +kernel
theorem dL_law_515 : decode cL_law 515 = .ok (.aload_n 0, 1) := by decide +kernel
theorem dL_law_516 : decode cL_law 516 = .ok (.iload_n 3, 1) := by decide +kernel
theorem dL_law_517 : decode cL_law 517 = .ok (.iconst 3, 1) := by decide +kernel
theorem dL_law_518 : decode cL_law 518 = .ok (.iadd, 1) := by decide +kernel
theorem dL_law_519 : decode cL_law 519 = .ok (.iaload, 1) := by decide +kernel
theorem dL_law_520 : decode cL_law 520 = .ok (.aload_n 0, 1) := by decide +kernel
theorem dL_law_521 : decode cL_law 521 = .ok (.iload_n 3, 1) := by decide +kernel
theorem dL_law_522 : decode cL_law 522 = .ok (.iconst 4, 1) := by decide +kernel
theorem dL_law_523 : decode cL_law 523 = .ok (.iadd, 1) := by decide +kernel
theorem dL_law_524 : decode cL_law 524 = .ok (.iaload, 1) := by decide +kernel
theorem dL_law_525 : decode cL_law 525 = .ok (.invokevirtual 62, 3) := by decide +kernel
theorem dL_law_528 : decode cL_law 528 = .ok (.if_icmp .eq 616, 3) := by decide +kernel
theorem dL_law_531 : decode cL_law 531 = .ok (.iconst 0, 1) := by decide +kernel
theorem dL_law_532 : decode cL_law 532 = .ok (.ireturn, 1) := by decide +kernel
theorem dL_law_533 : decode cL_law 533 = .ok (.aload_n 1, 1) := by decide +kernel
theorem dL_law_534 : decode cL_law 534 = .ok (.aload_n 0, 1) := by decide +kernel
theorem dL_law_535 : decode cL_law 535 = .ok (.iload_n 3, 1) := by decide +kernel
theorem dL_law_536 : decode cL_law 536 = .ok (.iconst 1, 1) := by decide +kernel
theorem dL_law_537 : decode cL_law 537 = .ok (.iadd, 1) := by decide +kernel
theorem dL_law_538 : decode cL_law 538 = .ok (.iaload, 1) := by decide +kernel
theorem dL_law_539 : decode cL_law 539 = .ok (.aload_n 0, 1) := by decide +kernel
theorem dL_law_540 : decode cL_law 540 = .ok (.iload_n 3, 1) := by decide +kernel
theorem dL_law_541 : decode cL_law 541 = .ok (.iconst 2, 1) := by decide +kernel
theorem dL_law_542 : decode cL_law 542 = .ok (.iadd, 1) := by decide +kernel
theorem dL_law_543 : decode cL_law 543 = .ok (.iaload, 1) := by decide +kernel
theorem dL_law_544 : decode cL_law 544 = .ok (.invokevirtual 63, 3) := by decide +kernel
theorem dL_law_547 : decode cL_law 547 = .ok (.aload_n 2, 1) := by decide +kernel
theorem dL_law_548 : decode cL_law 548 = .ok (.aload_n 0, 1) := by decide +kernel
theorem dL_law_549 : decode cL_law 549 = .ok (.iload_n 3, 1) := by decide +kernel
theorem dL_law_550 : decode cL_law 550 = .ok (.iconst 1, 1) := by decide +kernel
theorem dL_law_551 : decode cL_law 551 = .ok (.iadd, 1) := by decide +kernel
theorem dL_law_552 : decode cL_law 552 = .ok (.iaload, 1) := by decide +kernel
theorem dL_law_553 : decode cL_law 553 = .ok (.aload_n 0, 1) := by decide +kernel
theorem dL_law_554 : decode cL_law 554 = .ok (.iload_n 3, 1) := by decide +kernel
theorem dL_law_555 : decode cL_law 555 = .ok (.iconst 2, 1) := by decide +kernel
theorem dL_law_556 : decode cL_law 556 = .ok (.iadd, 1) := by decide +kernel
theorem dL_law_557 : decode cL_law 557 = .ok (.iaload, 1) := by decide +kernel
theorem dL_law_558 : decode cL_law 558 = .ok (.invokevirtual 66, 3) := by decide +kernel
theorem dL_law_561 : decode cL_law 561 = .ok (.if_icmp .eq 583, 3) := by decide +kernel
theorem dL_law_564 : decode cL_law 564 = .ok (.iconst 0, 1) := by decide +kernel
theorem dL_law_565 : decode cL_law 565 = .ok (.ireturn, 1) := by decide +kernel
theorem dL_law_566 : decode cL_law 566 = .ok (.aload_n 1, 1) := by decide +kernel
theorem dL_law_567 : decode cL_law 567 = .ok (.aload_n 0, 1) := by decide +kernel
theorem dL_law_568 : decode cL_law 568 = .ok (.iload_n 3, 1) := by decide +kernel
theorem dL_law_569 : decode cL_law 569 = .ok (.iconst 1, 1) := by decide +kernel
theorem dL_law_570 : decode cL_law 570 = .ok (.iadd, 1) := by decide +kernel
theorem dL_law_571 : decode cL_law 571 = .ok (.iaload, 1) := by decide +kernel
theorem dL_law_572 : decode cL_law 572 = .ok (.aload_n 0, 1) := by decide +kernel
theorem dL_law_573 : decode cL_law 573 = .ok (.iload_n 3, 1) := by decide +kernel
theorem dL_law_574 : decode cL_law 574 = .ok (.iconst 2, 1) := by decide +kernel
theorem dL_law_575 : decode cL_law 575 = .ok (.iadd, 1) := by decide +kernel
theorem dL_law_576 : decode cL_law 576 = .ok (.iaload, 1) := by decide +kernel
theorem dL_law_577 : decode cL_law 577 = .ok (.aload_n 0, 1) := by decide +kernel
theorem dL_law_578 : decode cL_law 578 = .ok (.iload_n 3, 1) := by decide +kernel
theorem dL_law_579 : decode cL_law 579 = .ok (.iconst 3, 1) := by decide +kernel
theorem dL_law_580 : decode cL_law 580 = .ok (.iadd, 1) := by decide +kernel
theorem dL_law_581 : decode cL_law 581 = .ok (.iaload, 1) := by decide +kernel
theorem dL_law_582 : decode cL_law 582 = .ok (.invokevirtual 67, 3) := by decide +kernel
theorem dL_law_585 : decode cL_law 585 = .ok (.aload_n 2, 1) := by decide +kernel
theorem dL_law_586 : decode cL_law 586 = .ok (.aload_n 0, 1) := by decide +kernel
theorem dL_law_587 : decode cL_law 587 = .ok (.iload_n 3, 1) := by decide +kernel
theorem dL_law_588 : decode cL_law 588 = .ok (.iconst 1, 1) := by decide +kernel
theorem dL_law_589 : decode cL_law 589 = .ok (.iadd, 1) := by decide +kernel
theorem dL_law_590 : decode cL_law 590 = .ok (.iaload, 1) := by decide +kernel
theorem dL_law_591 : decode cL_law 591 = .ok (.aload_n 0, 1) := by decide +kernel
theorem dL_law_592 : decode cL_law 592 = .ok (.iload_n 3, 1) := by decide +kernel
theorem dL_law_593 : decode cL_law 593 = .ok (.iconst 2, 1) := by decide +kernel
theorem dL_law_594 : decode cL_law 594 = .ok (.iadd, 1) := by decide +kernel
theorem dL_law_595 : decode cL_law 595 = .ok (.iaload, 1) := by decide +kernel
theorem dL_law_596 : decode cL_law 596 = .ok (.aload_n 0, 1) := by decide +kernel
theorem dL_law_597 : decode cL_law 597 = .ok (.iload_n 3, 1) := by decide +kernel
theorem dL_law_598 : decode cL_law 598 = .ok (.iconst 3, 1) := by decide +kernel
theorem dL_law_599 : decode cL_law 599 = .ok (.iadd, 1) := by decide +kernel
theorem dL_law_600 : decode cL_law 600 = .ok (.iaload, 1) := by decide +kernel
theorem dL_law_601 : decode cL_law 601 = .ok (.invokevirtual 70, 3) := by decide +kernel
theorem dL_law_604 : decode cL_law 604 = .ok (.if_icmp .eq 540, 3) := by decide +kernel
theorem dL_law_607 : decode cL_law 607 = .ok (.iconst 0, 1) := by decide +kernel
theorem dL_law_608 : decode cL_law 608 = .ok (.ireturn, 1) := by decide +kernel
theorem dL_law_609 : decode cL_law 609 = .ok (.aload_n 1, 1) := by decide +kernel
theorem dL_law_610 : decode cL_law 610 = .ok (.aload_n 0, 1) := by decide +kernel
theorem dL_law_611 : decode cL_law 611 = .ok (.iload_n 3, 1) := by decide +kernel
theorem dL_law_612 : decode cL_law 612 = .ok (.iconst 1, 1) := by decide +kernel
theorem dL_law_613 : decode cL_law 613 = .ok (.iadd, 1) := by decide +kernel
theorem dL_law_614 : decode cL_law 614 = .ok (.iaload, 1) := by decide +kernel
theorem dL_law_615 : decode cL_law 615 = .ok (.aload_n 0, 1) := by decide +kernel
theorem dL_law_616 : decode cL_law 616 = .ok (.iload_n 3, 1) := by decide +kernel
theorem dL_law_617 : decode cL_law 617 = .ok (.iconst 2, 1) := by decide +kernel
theorem dL_law_618 : decode cL_law 618 = .ok (.iadd, 1) := by decide +kernel
theorem dL_law_619 : decode cL_law 619 = .ok (.iaload, 1) := by decide +kernel
theorem dL_law_620 : decode cL_law 620 = .ok (.aload_n 0, 1) := by decide +kernel
theorem dL_law_621 : decode cL_law 621 = .ok (.iload_n 3, 1) := by decide +kernel
theorem dL_law_622 : decode cL_law 622 = .ok (.iconst 3, 1) := by decide +kernel
theorem dL_law_623 : decode cL_law 623 = .ok (.iadd, 1) := by decide +kernel
theorem dL_law_624 : decode cL_law 624 = .ok (.iaload, 1) := by decide +kernel
theorem dL_law_625 : decode cL_law 625 = .ok (.invokevirtual 71, 3) := by decide +kernel
theorem dL_law_628 : decode cL_law 628 = .ok (.aload_n 2, 1) := by decide +kernel
theorem dL_law_629 : decode cL_law 629 = .ok (.aload_n 0, 1) := by decide +kernel
theorem dL_law_630 : decode cL_law 630 = .ok (.iload_n 3, 1) := by decide +kernel
theorem dL_law_631 : decode cL_law 631 = .ok (.iconst 1, 1) := by decide +kernel
theorem dL_law_632 : decode cL_law 632 = .ok (.iadd, 1) := by decide +kernel
theorem dL_law_633 : decode cL_law 633 = .ok (.iaload, 1) := by decide +kernel
theorem dL_law_634 : decode cL_law 634 = .ok (.aload_n 0, 1) := by decide +kernel
theorem dL_law_635 : decode cL_law 635 = .ok (.iload_n 3, 1) := by decide +kernel
theorem dL_law_636 : decode cL_law 636 = .ok (.iconst 2, 1) := by decide +kernel
theorem dL_law_637 : decode cL_law 637 = .ok (.iadd, 1) := by decide +kernel
theorem dL_law_638 : decode cL_law 638 = .ok (.iaload, 1) := by decide +kernel
theorem dL_law_639 : decode cL_law 639 = .ok (.aload_n 0, 1) := by decide +kernel
theorem dL_law_640 : decode cL_law 640 = .ok (.iload_n 3, 1) := by decide +kernel
theorem dL_law_641 : decode cL_law 641 = .ok (.iconst 3, 1) := by decide +kernel
theorem dL_law_642 : decode cL_law 642 = .ok (.iadd, 1) := by decide +kernel
theorem dL_law_643 : decode cL_law 643 = .ok (.iaload, 1) := by decide +kernel
theorem dL_law_644 : decode cL_law 644 = .ok (.invokevirtual 74, 3) := by decide +kernel
theorem dL_law_647 : decode cL_law 647 = .ok (.if_icmp .eq 497, 3) := by decide +kernel
theorem dL_law_650 : decode cL_law 650 = .ok (.iconst 0, 1) := by decide +kernel
theorem dL_law_651 : decode cL_law 651 = .ok (.ireturn, 1) := by decide +kernel
theorem dL_law_652 : decode cL_law 652 = .ok (.aload_n 1, 1) := by decide +kernel
theorem dL_law_653 : decode cL_law 653 = .ok (.aload_n 0, 1) := by decide +kernel
theorem dL_law_654 : decode cL_law 654 = .ok (.iload_n 3, 1) := by decide +kernel
theorem dL_law_655 : decode cL_law 655 = .ok (.iconst 1, 1) := by decide +kernel
theorem dL_law_656 : decode cL_law 656 = .ok (.iadd, 1) := by decide +kernel
theorem dL_law_657 : decode cL_law 657 = .ok (.iaload, 1) := by decide +kernel
theorem dL_law_658 : decode cL_law 658 = .ok (.aload_n 0, 1) := by decide +kernel
theorem dL_law_659 : decode cL_law 659 = .ok (.iload_n 3, 1) := by decide +kernel
theorem dL_law_660 : decode cL_law 660 = .ok (.iconst 2, 1) := by decide +kernel
theorem dL_law_661 : decode cL_law 661 = .ok (.iadd, 1) := by decide +kernel
theorem dL_law_662 : decode cL_law 662 = .ok (.iaload, 1) := by decide +kernel
theorem dL_law_663 : decode cL_law 663 = .ok (.invokevirtual 75, 3) := by decide +kernel
theorem dL_law_666 : decode cL_law 666 = .ok (.aload_n 2, 1) := by decide +kernel
theorem dL_law_667 : decode cL_law 667 = .ok (.aload_n 0, 1) := by decide +kernel
theorem dL_law_668 : decode cL_law 668 = .ok (.iload_n 3, 1) := by decide +kernel
theorem dL_law_669 : decode cL_law 669 = .ok (.iconst 1, 1) := by decide +kernel
theorem dL_law_670 : decode cL_law 670 = .ok (.iadd, 1) := by decide +kernel
theorem dL_law_671 : decode cL_law 671 = .ok (.iaload, 1) := by decide +kernel
theorem dL_law_672 : decode cL_law 672 = .ok (.aload_n 0, 1) := by decide +kernel
theorem dL_law_673 : decode cL_law 673 = .ok (.iload_n 3, 1) := by decide +kernel
theorem dL_law_674 : decode cL_law 674 = .ok (.iconst 2, 1) := by decide +kernel
theorem dL_law_675 : decode cL_law 675 = .ok (.iadd, 1) := by decide +kernel
theorem dL_law_676 : decode cL_law 676 = .ok (.iaload, 1) := by decide +kernel
theorem dL_law_677 : decode cL_law 677 = .ok (.invokevirtual 78, 3) := by decide +kernel
theorem dL_law_680 : decode cL_law 680 = .ok (.if_icmp .eq 464, 3) := by decide +kernel
theorem dL_law_683 : decode cL_law 683 = .ok (.iconst 0, 1) := by decide +kernel
theorem dL_law_684 : decode cL_law 684 = .ok (.ireturn, 1) := by decide +kernel
theorem dL_law_685 : decode cL_law 685 = .ok (.aload_n 1, 1) := by decide +kernel
theorem dL_law_686 : decode cL_law 686 = .ok (.aload_n 0, 1) := by decide +kernel
theorem dL_law_687 : decode cL_law 687 = .ok (.iload_n 3, 1) := by decide +kernel
theorem dL_law_688 : decode cL_law 688 = .ok (.iconst 1, 1) := by decide +kernel
theorem dL_law_689 : decode cL_law 689 = .ok (.iadd, 1) := by decide +kernel
theorem dL_law_690 : decode cL_law 690 = .ok (.iaload, 1) := by decide +kernel
theorem dL_law_691 : decode cL_law 691 = .ok (.aload_n 0, 1) := by decide +kernel
theorem dL_law_692 : decode cL_law 692 = .ok (.iload_n 3, 1) := by decide +kernel
theorem dL_law_693 : decode cL_law 693 = .ok (.iconst 2, 1) := by decide +kernel
theorem dL_law_694 : decode cL_law 694 = .ok (.iadd, 1) := by decide +kernel
theorem dL_law_695 : decode cL_law 695 = .ok (.iaload, 1) := by decide +kernel
theorem dL_law_696 : decode cL_law 696 = .ok (.invokevirtual 79, 3) := by decide +kernel
theorem dL_law_699 : decode cL_law 699 = .ok (.aload_n 2, 1) := by decide +kernel
theorem dL_law_700 : decode cL_law 700 = .ok (.aload_n 0, 1) := by decide +kernel
theorem dL_law_701 : decode cL_law 701 = .ok (.iload_n 3, 1) := by decide +kernel
theorem dL_law_702 : decode cL_law 702 = .ok (.iconst 1, 1) := by decide +kernel
theorem dL_law_703 : decode cL_law 703 = .ok (.iadd, 1) := by decide +kernel
theorem dL_law_704 : decode cL_law 704 = .ok (.iaload, 1) := by decide +kernel
theorem dL_law_705 : decode cL_law 705 = .ok (.aload_n 0, 1) := by decide +kernel
theorem dL_law_706 : decode cL_law 706 = .ok (.iload_n 3, 1) := by decide +kernel
theorem dL_law_707 : decode cL_law 707 = .ok (.iconst 2, 1) := by decide +kernel
theorem dL_law_708 : decode cL_law 708 = .ok (.iadd, 1) := by decide +kernel
theorem dL_law_709 : decode cL_law 709 = .ok (.iaload, 1) := by decide +kernel
theorem dL_law_710 : decode cL_law 710 = .ok (.invokevirtual 83, 3) := by decide +kernel
theorem dL_law_713 : decode cL_law 713 = .ok (.if_icmp .eq 431, 3) := by decide +kernel
theorem dL_law_716 : decode cL_law 716 = .ok (.iconst 0, 1) := by decide +kernel
theorem dL_law_717 : decode cL_law 717 = .ok (.ireturn, 1) := by decide +kernel
theorem dL_law_718 : decode cL_law 718 = .ok (.aload_n 1, 1) := by decide +kernel
theorem dL_law_719 : decode cL_law 719 = .ok (.invokevirtual 84, 3) := by decide +kernel
theorem dL_law_722 : decode cL_law 722 = .ok (.aload_n 2, 1) := by decide +kernel
theorem dL_law_723 : decode cL_law 723 = .ok (.invokevirtual 87, 3) := by decide +kernel
theorem dL_law_726 : decode cL_law 726 = .ok (.if_icmp .eq 418, 3) := by decide +kernel
theorem dL_law_729 : decode cL_law 729 = .ok (.iconst 0, 1) := by decide +kernel
theorem dL_law_730 : decode cL_law 730 = .ok (.ireturn, 1) := by decide +kernel
theorem dL_law_731 : decode cL_law 731 = .ok (.aload_n 1, 1) := by decide +kernel
theorem dL_law_732 : decode cL_law 732 = .ok (.aload_n 0, 1) := by decide +kernel
theorem dL_law_733 : decode cL_law 733 = .ok (.iload_n 3, 1) := by decide +kernel
theorem dL_law_734 : decode cL_law 734 = .ok (.iconst 1, 1) := by decide +kernel
theorem dL_law_735 : decode cL_law 735 = .ok (.iadd, 1) := by decide +kernel
theorem dL_law_736 : decode cL_law 736 = .ok (.iaload, 1) := by decide +kernel
theorem dL_law_737 : decode cL_law 737 = .ok (.invokevirtual 88, 3) := by decide +kernel
theorem dL_law_740 : decode cL_law 740 = .ok (.aload_n 2, 1) := by decide +kernel
theorem dL_law_741 : decode cL_law 741 = .ok (.aload_n 0, 1) := by decide +kernel
theorem dL_law_742 : decode cL_law 742 = .ok (.iload_n 3, 1) := by decide +kernel
theorem dL_law_743 : decode cL_law 743 = .ok (.iconst 1, 1) := by decide +kernel
theorem dL_law_744 : decode cL_law 744 = .ok (.iadd, 1) := by decide +kernel
theorem dL_law_745 : decode cL_law 745 = .ok (.iaload, 1) := by decide +kernel
theorem dL_law_746 : decode cL_law 746 = .ok (.invokevirtual 91, 3) := by decide +kernel
theorem dL_law_749 : decode cL_law 749 = .ok (.if_icmp .eq 395, 3) := by decide +kernel
theorem dL_law_752 : decode cL_law 752 = .ok (.iconst 0, 1) := by decide +kernel
theorem dL_law_753 : decode cL_law 753 = .ok (.ireturn, 1) := by decide +kernel
theorem dL_law_754 : decode cL_law 754 = .ok (.aload_n 1, 1) := by decide +kernel
theorem dL_law_755 : decode cL_law 755 = .ok (.aload_n 0, 1) := by decide +kernel
theorem dL_law_756 : decode cL_law 756 = .ok (.iload_n 3, 1) := by decide +kernel
theorem dL_law_757 : decode cL_law 757 = .ok (.iconst 1, 1) := by decide +kernel
theorem dL_law_758 : decode cL_law 758 = .ok (.iadd, 1) := by decide +kernel
theorem dL_law_759 : decode cL_law 759 = .ok (.iaload, 1) := by decide +kernel
theorem dL_law_760 : decode cL_law 760 = .ok (.invokevirtual 92, 3) := by decide +kernel
theorem dL_law_763 : decode cL_law 763 = .ok (.aload_n 2, 1) := by decide +kernel
theorem dL_law_764 : decode cL_law 764 = .ok (.aload_n 0, 1) := by decide +kernel
theorem dL_law_765 : decode cL_law 765 = .ok (.iload_n 3, 1) := by decide +kernel
theorem dL_law_766 : decode cL_law 766 = .ok (.iconst 1, 1) := by decide +kernel
theorem dL_law_767 : decode cL_law 767 = .ok (.iadd, 1) := by decide +kernel
theorem dL_law_768 : decode cL_law 768 = .ok (.iaload, 1) := by decide +kernel
theorem dL_law_769 : decode cL_law 769 = .ok (.invokevirtual 95, 3) := by decide +kernel
theorem dL_law_772 : decode cL_law 772 = .ok (.if_icmp .eq 372, 3) := by decide +kernel
theorem dL_law_775 : decode cL_law 775 = .ok (.iconst 0, 1) := by decide +kernel
theorem dL_law_776 : decode cL_law 776 = .ok (.ireturn, 1) := by decide +kernel
theorem dL_law_777 : decode cL_law 777 = .ok (.aload_n 1, 1) := by decide +kernel
theorem dL_law_778 : decode cL_law 778 = .ok (.aload_n 0, 1) := by decide +kernel
theorem dL_law_779 : decode cL_law 779 = .ok (.iload_n 3, 1) := by decide +kernel
theorem dL_law_780 : decode cL_law 780 = .ok (.iconst 1, 1) := by decide +kernel
theorem dL_law_781 : decode cL_law 781 = .ok (.iadd, 1) := by decide +kernel
theorem dL_law_782 : decode cL_law 782 = .ok (.iaload, 1) := by decide +kernel
theorem dL_law_783 : decode cL_law 783 = .ok (.aload_n 0, 1) := by decide +kernel
theorem dL_law_784 : decode cL_law 784 = .ok (.iload_n 3, 1) := by decide +kernel
theorem dL_law_785 : decode cL_law 785 = .ok (.iconst 2, 1) := by decide +kernel
theorem dL_law_786 : decode cL_law 786 = .ok (.iadd, 1) := by decide +kernel
theorem dL_law_787 : decode cL_law 787 = .ok (.iaload, 1) := by decide +kernel
theorem dL_law_788 : decode cL_law 788 = .ok (.aload_n 0, 1) := by decide +kernel
theorem dL_law_789 : decode cL_law 789 = .ok (.iload_n 3, 1) := by decide +kernel
theorem dL_law_790 : decode cL_law 790 = .ok (.iconst 3, 1) := by decide +kernel
theorem dL_law_791 : decode cL_law 791 = .ok (.iadd, 1) := by decide +kernel
theorem dL_law_792 : decode cL_law 792 = .ok (.iaload, 1) := by decide +kernel
theorem dL_law_793 : decode cL_law 793 = .ok (.aload_n 0, 1) := by decide +kernel
theorem dL_law_794 : decode cL_law 794 = .ok (.iload_n 3, 1) := by decide +kernel
theorem dL_law_795 : decode cL_law 795 = .ok (.iconst 4, 1) := by decide +kernel
theorem dL_law_796 : decode cL_law 796 = .ok (.iadd, 1) := by decide +kernel
theorem dL_law_797 : decode cL_law 797 = .ok (.iaload, 1) := by decide +kernel
theorem dL_law_798 : decode cL_law 798 = .ok (.invokevirtual 96, 3) := by decide +kernel
theorem dL_law_801 : decode cL_law 801 = .ok (.aload_n 2, 1) := by decide +kernel
theorem dL_law_802 : decode cL_law 802 = .ok (.aload_n 0, 1) := by decide +kernel
theorem dL_law_803 : decode cL_law 803 = .ok (.iload_n 3, 1) := by decide +kernel
theorem dL_law_804 : decode cL_law 804 = .ok (.iconst 1, 1) := by decide +kernel
theorem dL_law_805 : decode cL_law 805 = .ok (.iadd, 1) := by decide +kernel
theorem dL_law_806 : decode cL_law 806 = .ok (.iaload, 1) := by decide +kernel
theorem dL_law_807 : decode cL_law 807 = .ok (.aload_n 0, 1) := by decide +kernel
theorem dL_law_808 : decode cL_law 808 = .ok (.iload_n 3, 1) := by decide +kernel
theorem dL_law_809 : decode cL_law 809 = .ok (.iconst 2, 1) := by decide +kernel
theorem dL_law_810 : decode cL_law 810 = .ok (.iadd, 1) := by decide +kernel
theorem dL_law_811 : decode cL_law 811 = .ok (.iaload, 1) := by decide +kernel
theorem dL_law_812 : decode cL_law 812 = .ok (.aload_n 0, 1) := by decide +kernel
theorem dL_law_813 : decode cL_law 813 = .ok (.iload_n 3, 1) := by decide +kernel
theorem dL_law_814 : decode cL_law 814 = .ok (.iconst 3, 1) := by decide +kernel
theorem dL_law_815 : decode cL_law 815 = .ok (.iadd, 1) := by decide +kernel
theorem dL_law_816 : decode cL_law 816 = .ok (.iaload, 1) := by decide +kernel
theorem dL_law_817 : decode cL_law 817 = .ok (.aload_n 0, 1) := by decide +kernel
theorem dL_law_818 : decode cL_law 818 = .ok (.iload_n 3, 1) := by decide +kernel
theorem dL_law_819 : decode cL_law 819 = .ok (.iconst 4, 1) := by decide +kernel
theorem dL_law_820 : decode cL_law 820 = .ok (.iadd, 1) := by decide +kernel
theorem dL_law_821 : decode cL_law 821 = .ok (.iaload, 1) := by decide +kernel
theorem dL_law_822 : decode cL_law 822 = .ok (.invokevirtual 99, 3) := by decide +kernel
theorem dL_law_825 : decode cL_law 825 = .ok (.if_icmp .eq 319, 3) := by decide +kernel
theorem dL_law_828 : decode cL_law 828 = .ok (.iconst 0, 1) := by decide +kernel
theorem dL_law_829 : decode cL_law 829 = .ok (.ireturn, 1) := by decide +kernel
theorem dL_law_830 : decode cL_law 830 = .ok (.aload_n 1, 1) := by decide +kernel
theorem dL_law_831 : decode cL_law 831 = .ok (.aload_n 0, 1) := by decide +kernel
theorem dL_law_832 : decode cL_law 832 = .ok (.iload_n 3, 1) := by decide +kernel
theorem dL_law_833 : decode cL_law 833 = .ok (.iconst 1, 1) := by decide +kernel
theorem dL_law_834 : decode cL_law 834 = .ok (.iadd, 1) := by decide +kernel
theorem dL_law_835 : decode cL_law 835 = .ok (.iaload, 1) := by decide +kernel
theorem dL_law_836 : decode cL_law 836 = .ok (.aload_n 0, 1) := by decide +kernel
theorem dL_law_837 : decode cL_law 837 = .ok (.iload_n 3, 1) := by decide +kernel
theorem dL_law_838 : decode cL_law 838 = .ok (.iconst 2, 1) := by decide +kernel
theorem dL_law_839 : decode cL_law 839 = .ok (.iadd, 1) := by decide +kernel
theorem dL_law_840 : decode cL_law 840 = .ok (.iaload, 1) := by decide +kernel
theorem dL_law_841 : decode cL_law 841 = .ok (.aload_n 0, 1) := by decide +kernel
theorem dL_law_842 : decode cL_law 842 = .ok (.iload_n 3, 1) := by decide +kernel
theorem dL_law_843 : decode cL_law 843 = .ok (.iconst 3, 1) := by decide +kernel
theorem dL_law_844 : decode cL_law 844 = .ok (.iadd, 1) := by decide +kernel
theorem dL_law_845 : decode cL_law 845 = .ok (.iaload, 1) := by decide +kernel
theorem dL_law_846 : decode cL_law 846 = .ok (.aload_n 0, 1) := by decide +kernel
theorem dL_law_847 : decode cL_law 847 = .ok (.iload_n 3, 1) := by decide +kernel
theorem dL_law_848 : decode cL_law 848 = .ok (.iconst 4, 1) := by decide +kernel
theorem dL_law_849 : decode cL_law 849 = .ok (.iadd, 1) := by decide +kernel
theorem dL_law_850 : decode cL_law 850 = .ok (.iaload, 1) := by decide +kernel
theorem dL_law_851 : decode cL_law 851 = .ok (.aload_n 0, 1) := by decide +kernel
theorem dL_law_852 : decode cL_law 852 = .ok (.iload_n 3, 1) := by decide +kernel
theorem dL_law_853 : decode cL_law 853 = .ok (.iconst 5, 1) := by decide +kernel
theorem dL_law_854 : decode cL_law 854 = .ok (.iadd, 1) := by decide +kernel
theorem dL_law_855 : decode cL_law 855 = .ok (.iaload, 1) := by decide +kernel
theorem dL_law_856 : decode cL_law 856 = .ok (.invokevirtual 100, 3) := by decide +kernel
theorem dL_law_859 : decode cL_law 859 = .ok (.aload_n 2, 1) := by decide +kernel
theorem dL_law_860 : decode cL_law 860 = .ok (.aload_n 0, 1) := by decide +kernel
theorem dL_law_861 : decode cL_law 861 = .ok (.iload_n 3, 1) := by decide +kernel
theorem dL_law_862 : decode cL_law 862 = .ok (.iconst 1, 1) := by decide +kernel
theorem dL_law_863 : decode cL_law 863 = .ok (.iadd, 1) := by decide +kernel
theorem dL_law_864 : decode cL_law 864 = .ok (.iaload, 1) := by decide +kernel
theorem dL_law_865 : decode cL_law 865 = .ok (.aload_n 0, 1) := by decide +kernel
theorem dL_law_866 : decode cL_law 866 = .ok (.iload_n 3, 1) := by decide +kernel
theorem dL_law_867 : decode cL_law 867 = .ok (.iconst 2, 1) := by decide +kernel
theorem dL_law_868 : decode cL_law 868 = .ok (.iadd, 1) := by decide +kernel
theorem dL_law_869 : decode cL_law 869 = .ok (.iaload, 1) := by decide +kernel
theorem dL_law_870 : decode cL_law 870 = .ok (.aload_n 0, 1) := by decide +kernel
theorem dL_law_871 : decode cL_law 871 = .ok (.iload_n 3, 1) := by decide +kernel
theorem dL_law_872 : decode cL_law 872 = .ok (.iconst 3, 1) := by decide +kernel
theorem dL_law_873 : decode cL_law 873 = .ok (.iadd, 1) := by decide +kernel
theorem dL_law_874 : decode cL_law 874 = .ok (.iaload, 1) := by decide +kernel
theorem dL_law_875 : decode cL_law 875 = .ok (.aload_n 0, 1) := by decide +kernel
theorem dL_law_876 : decode cL_law 876 = .ok (.iload_n 3, 1) := by decide +kernel
theorem dL_law_877 : decode cL_law 877 = .ok (.iconst 4, 1) := by decide +kernel
theorem dL_law_878 : decode cL_law 878 = .ok (.iadd, 1) := by decide +kernel
theorem dL_law_879 : decode cL_law 879 = .ok (.iaload, 1) := by decide +kernel
theorem dL_law_880 : decode cL_law 880 = .ok (.aload_n 0, 1) := by decide +kernel
theorem dL_law_881 : decode cL_law 881 = .ok (.iload_n 3, 1) := by decide +kernel
theorem dL_law_882 : decode cL_law 882 = .ok (.iconst 5, 1) := by decide +kernel
theorem dL_law_883 : decode cL_law 883 = .ok (.iadd, 1) := by decide +kernel
theorem dL_law_884 : decode cL_law 884 = .ok (.iaload, 1) := by decide +kernel
theorem dL_law_885 : decode cL_law 885 = .ok (.invokevirtual 103, 3) := by decide +kernel
theorem dL_law_888 : decode cL_law 888 = .ok (.if_icmp .eq 256, 3) := by decide +kernel
theorem dL_law_891 : decode cL_law 891 = .ok (.iconst 0, 1) := by decide +kernel
theorem dL_law_892 : decode cL_law 892 = .ok (.ireturn, 1) := by decide +kernel
theorem dL_law_893 : decode cL_law 893 = .ok (.aload_n 1, 1) := by decide +kernel
theorem dL_law_894 : decode cL_law 894 = .ok (.aload_n 0, 1) := by decide +kernel
theorem dL_law_895 : decode cL_law 895 = .ok (.iload_n 3, 1) := by decide +kernel
theorem dL_law_896 : decode cL_law 896 = .ok (.iconst 1, 1) := by decide +kernel
theorem dL_law_897 : decode cL_law 897 = .ok (.iadd, 1) := by decide +kernel
theorem dL_law_898 : decode cL_law 898 = .ok (.iaload, 1) := by decide +kernel
theorem dL_law_899 : decode cL_law 899 = .ok (.aload_n 0, 1) := by decide +kernel
theorem dL_law_900 : decode cL_law 900 = .ok (.iload_n 3, 1) := by decide +kernel
theorem dL_law_901 : decode cL_law 901 = .ok (.iconst 2, 1) := by decide +kernel
theorem dL_law_902 : decode cL_law 902 = .ok (.iadd, 1) := by decide +kernel
theorem dL_law_903 : decode cL_law 903 = .ok (.iaload, 1) := by decide +kernel
theorem dL_law_904 : decode cL_law 904 = .ok (.aload_n 0, 1) := by decide +kernel
theorem dL_law_905 : decode cL_law 905 = .ok (.iload_n 3, 1) := by decide +kernel
theorem dL_law_906 : decode cL_law 906 = .ok (.iconst 3, 1) := by decide +kernel
theorem dL_law_907 : decode cL_law 907 = .ok (.iadd, 1) := by decide +kernel
theorem dL_law_908 : decode cL_law 908 = .ok (.iaload, 1) := by decide +kernel
theorem dL_law_909 : decode cL_law 909 = .ok (.aload_n 0, 1) := by decide +kernel
theorem dL_law_910 : decode cL_law 910 = .ok (.iload_n 3, 1) := by decide +kernel
theorem dL_law_911 : decode cL_law 911 = .ok (.iconst 4, 1) := by decide +kernel
theorem dL_law_912 : decode cL_law 912 = .ok (.iadd, 1) := by decide +kernel
theorem dL_law_913 : decode cL_law 913 = .ok (.iaload, 1) := by decide +kernel
theorem dL_law_914 : decode cL_law 914 = .ok (.aload_n 0, 1) := by decide +kernel
theorem dL_law_915 : decode cL_law 915 = .ok (.iload_n 3, 1) := by decide +kernel
theorem dL_law_916 : decode cL_law 916 = .ok (.iconst 5, 1) := by decide +kernel
theorem dL_law_917 : decode cL_law 917 = .ok (.iadd, 1) := by decide +kernel
theorem dL_law_918 : decode cL_law 918 = .ok (.iaload, 1) := by decide +kernel
theorem dL_law_919 : decode cL_law 919 = .ok (.invokevirtual 104, 3) := by decide +kernel
theorem dL_law_922 : decode cL_law 922 = .ok (.aload_n 2, 1) := by decide +kernel
theorem dL_law_923 : decode cL_law 923 = .ok (.aload_n 0, 1) := by decide +kernel
theorem dL_law_924 : decode cL_law 924 = .ok (.iload_n 3, 1) := by decide +kernel
theorem dL_law_925 : decode cL_law 925 = .ok (.iconst 1, 1) := by decide +kernel
theorem dL_law_926 : decode cL_law 926 = .ok (.iadd, 1) := by decide +kernel
theorem dL_law_927 : decode cL_law 927 = .ok (.iaload, 1) := by decide +kernel
theorem dL_law_928 : decode cL_law 928 = .ok (.aload_n 0, 1) := by decide +kernel
theorem dL_law_929 : decode cL_law 929 = .ok (.iload_n 3, 1) := by decide +kernel
theorem dL_law_930 : decode cL_law 930 = .ok (.iconst 2, 1) := by decide +kernel
theorem dL_law_931 : decode cL_law 931 = .ok (.iadd, 1) := by decide +kernel
theorem dL_law_932 : decode cL_law 932 = .ok (.iaload, 1) := by decide +kernel
theorem dL_law_933 : decode cL_law 933 = .ok (.aload_n 0, 1) := by decide +kernel
theorem dL_law_934 : decode cL_law 934 = .ok (.iload_n 3, 1) := by decide +kernel
theorem dL_law_935 : decode cL_law 935 = .ok (.iconst 3, 1) := by decide +kernel
theorem dL_law_936 : decode cL_law 936 = .ok (.iadd, 1) := by decide +kernel
theorem dL_law_937 : decode cL_law 937 = .ok (.iaload, 1) := by decide +kernel
theorem dL_law_938 : decode cL_law 938 = .ok (.aload_n 0, 1) := by decide +kernel
theorem dL_law_939 : decode cL_law 939 = .ok (.iload_n 3, 1) := by decide +kernel
theorem dL_law_940 : decode cL_law 940 = .ok (.iconst 4, 1) := by decide +kernel
theorem dL_law_941 : decode cL_law 941 = .ok (.iadd, 1) := by decide +kernel
theorem dL_law_942 : decode cL_law 942 = .ok (.iaload, 1) := by decide +kernel
theorem dL_law_943 : decode cL_law 943 = .ok (.aload_n 0, 1) := by decide +kernel
theorem dL_law_944 : decode cL_law 944 = .ok (.iload_n 3, 1) := by decide +kernel
theorem dL_law_945 : decode cL_law 945 = .ok (.iconst 5, 1) := by decide +kernel
theorem dL_law_946 : decode cL_law 946 = .ok (.iadd, 1) := by decide +kernel
theorem dL_law_947 : decode cL_law 947 = .ok (.iaload, 1) := by decide +kernel
theorem dL_law_948 : decode cL_law 948 = .ok (.invokevirtual 107, 3) := by decide +kernel
theorem dL_law_951 : decode cL_law 951 = .ok (.if_icmp .eq 193, 3) := by decide +kernel
theorem dL_law_954 : decode cL_law 954 = .ok (.iconst 0, 1) := by decide +kernel
theorem dL_law_955 : decode cL_law 955 = .ok (.ireturn, 1) := by decide +kernel
theorem dL_law_956 : decode cL_law 956 = .ok (.aload_n 1, 1) := by decide +kernel
theorem dL_law_957 : decode cL_law 957 = .ok (.aload_n 0, 1) := by decide +kernel
theorem dL_law_958 : decode cL_law 958 = .ok (.iload_n 3, 1) := by decide +kernel
theorem dL_law_959 : decode cL_law 959 = .ok (.iconst 1, 1) := by decide +kernel
theorem dL_law_960 : decode cL_law 960 = .ok (.iadd, 1) := by decide +kernel
theorem dL_law_961 : decode cL_law 961 = .ok (.iaload, 1) := by decide +kernel
theorem dL_law_962 : decode cL_law 962 = .ok (.aload_n 0, 1) := by decide +kernel
theorem dL_law_963 : decode cL_law 963 = .ok (.iload_n 3, 1) := by decide +kernel
theorem dL_law_964 : decode cL_law 964 = .ok (.iconst 2, 1) := by decide +kernel
theorem dL_law_965 : decode cL_law 965 = .ok (.iadd, 1) := by decide +kernel
theorem dL_law_966 : decode cL_law 966 = .ok (.iaload, 1) := by decide +kernel
theorem dL_law_967 : decode cL_law 967 = .ok (.aload_n 0, 1) := by decide +kernel
theorem dL_law_968 : decode cL_law 968 = .ok (.iload_n 3, 1) := by decide +kernel
theorem dL_law_969 : decode cL_law 969 = .ok (.iconst 3, 1) := by decide +kernel
theorem dL_law_970 : decode cL_law 970 = .ok (.iadd, 1) := by decide +kernel
theorem dL_law_971 : decode cL_law 971 = .ok (.iaload, 1) := by decide +kernel
theorem dL_law_972 : decode cL_law 972 = .ok (.invokevirtual 108, 3) := by decide +kernel
theorem dL_law_975 : decode cL_law 975 = .ok (.aload_n 2, 1) := by decide +kernel
theorem dL_law_976 : decode cL_law 976 = .ok (.aload_n 0, 1) := by decide +kernel
theorem dL_law_977 : decode cL_law 977 = .ok (.iload_n 3, 1) := by decide +kernel
theorem dL_law_978 : decode cL_law 978 = .ok (.iconst 1, 1) := by decide +kernel
theorem dL_law_979 : decode cL_law 979 = .ok (.iadd, 1) := by decide +kernel
theorem dL_law_980 : decode cL_law 980 = .ok (.iaload, 1) := by decide +kernel
theorem dL_law_981 : decode cL_law 981 = .ok (.aload_n 0, 1) := by decide +kernel
theorem dL_law_982 : decode cL_law 982 = .ok (.iload_n 3, 1) := by decide +kernel
theorem dL_law_983 : decode cL_law 983 = .ok (.iconst 2, 1) := by decide +kernel
theorem dL_law_984 : decode cL_law 984 = .ok (.iadd, 1) := by decide +kernel
theorem dL_law_985 : decode cL_law 985 = .ok (.iaload, 1) := by decide +kernel
theorem dL_law_986 : decode cL_law 986 = .ok (.aload_n 0, 1) := by decide +kernel
theorem dL_law_987 : decode cL_law 987 = .ok (.iload_n 3, 1) := by decide +kernel
theorem dL_law_988 : decode cL_law 988 = .ok (.iconst 3, 1) := by decide +kernel
theorem dL_law_989 : decode cL_law 989 = .ok (.iadd, 1) := by decide +kernel
theorem dL_law_990 : decode cL_law 990 = .ok (.iaload, 1) := by decide +kernel
theorem dL_law_991 : decode cL_law 991 = .ok (.invokevirtual 111, 3) := by decide +kernel
theorem dL_law_994 : decode cL_law 994 = .ok (.if_icmp .eq 150, 3) := by decide +kernel
theorem dL_law_997 : decode cL_law 997 = .ok (.iconst 0, 1) := by decide +kernel
theorem dL_law_998 : decode cL_law 998 = .ok (.ireturn, 1) := by decide +kernel
theorem dL_law_999 : decode cL_law 999 = .ok (.aload_n 1, 1) := by decide +kernel
theorem dL_law_1000 : decode cL_law 1000 = .ok (.aload_n 0, 1) := by decide +kernel
theorem dL_law_1001 : decode cL_law 1001 = .ok (.iload_n 3, 1) := by decide +kernel
theorem dL_law_1002 : decode cL_law 1002 = .ok (.iconst 1, 1) := by decide +kernel
theorem dL_law_1003 : decode cL_law 1003 = .ok (.iadd, 1) := by decide +kernel
theorem dL_law_1004 : decode cL_law 1004 = .ok (.iaload, 1) := by decide +kernel
theorem dL_law_1005 : decode cL_law 1005 = .ok (.aload_n 0, 1) := by decide +kernel
theorem dL_law_1006 : decode cL_law 1006 = .ok (.iload_n 3, 1) := by decide +kernel
theorem dL_law_1007 : decode cL_law 1007 = .ok (.iconst 2, 1) := by decide +kernel
theorem dL_law_1008 : decode cL_law 1008 = .ok (.iadd, 1) := by decide +kernel
theorem dL_law_1009 : decode cL_law 1009 = .ok (.iaload, 1) := by decide +kernel
theorem dL_law_1010 : decode cL_law 1010 = .ok (.aload_n 0, 1) := by decide +kernel
theorem dL_law_1011 : decode cL_law 1011 = .ok (.iload_n 3, 1) := by decide +kernel
theorem dL_law_1012 : decode cL_law 1012 = .ok (.iconst 3, 1) := by decide +kernel
theorem dL_law_1013 : decode cL_law 1013 = .ok (.iadd, 1) := by decide +kernel
theorem dL_law_1014 : decode cL_law 1014 = .ok (.iaload, 1) := by decide +kernel
theorem dL_law_1015 : decode cL_law 1015 = .ok (.aload_n 0, 1) := by decide +kernel
theorem dL_law_1016 : decode cL_law 1016 = .ok (.iload_n 3, 1) := by decide +kernel
theorem dL_law_1017 : decode cL_law 1017 = .ok (.iconst 4, 1) := by decide +kernel
theorem dL_law_1018 : decode cL_law 1018 = .ok (.iadd, 1) := by decide +kernel
theorem dL_law_1019 : decode cL_law 1019 = .ok (.iaload, 1) := by decide +kernel
theorem dL_law_1020 : decode cL_law 1020 = .ok (.invokevirtual 112, 3) := by decide +kernel
theorem dL_law_1023 : decode cL_law 1023 = .ok (.aload_n 2, 1) := by decide +kernel
theorem dL_law_1024 : decode cL_law 1024 = .ok (.aload_n 0, 1) := by decide +kernel
theorem dL_law_1025 : decode cL_law 1025 = .ok (.iload_n 3, 1) := by decide +kernel
theorem dL_law_1026 : decode cL_law 1026 = .ok (.iconst 1, 1) := by decide +kernel
theorem dL_law_1027 : decode cL_law 1027 = .ok (.iadd, 1) := by decide +kernel
theorem dL_law_1028 : decode cL_law 1028 = .ok (.iaload, 1) := by decide +kernel
theorem dL_law_1029 : decode cL_law 1029 = .ok (.aload_n 0, 1) := by decide +kernel
theorem dL_law_1030 : decode cL_law 1030 = .ok (.iload_n 3, 1) := by decide +kernel
theorem dL_law_1031 : decode cL_law 1031 = .ok (.iconst 2, 1) := by decide +kernel
theorem dL_law_1032 : decode cL_law 1032 = .ok (.iadd, 1) := by decide +kernel
theorem dL_law_1033 : decode cL_law 1033 = .ok (.iaload, 1) := by decide +kernel
theorem dL_law_1034 : decode cL_law 1034 = .ok (.aload_n 0, 1) := by decide +kernel
theorem dL_law_1035 : decode cL_law 1035 = .ok (.iload_n 3, 1) := by decide +kernel
theorem dL_law_1036 : decode cL_law 1036 = .ok (.iconst 3, 1) := by decide +kernel
theorem dL_law_1037 : decode cL_law 1037 = .ok (.iadd, 1) := by decide +kernel
theorem dL_law_1038 : decode cL_law 1038 = .ok (.iaload, 1) := by decide +kernel
theorem dL_law_1039 : decode cL_law 1039 = .ok (.aload_n 0, 1) := by decide +kernel
theorem dL_law_1040 : decode cL_law 1040 = .ok (.iload_n 3, 1) := by decide +kernel
theorem dL_law_1041 : decode cL_law 1041 = .ok (.iconst 4, 1) := by decide +kernel
theorem dL_law_1042 : decode cL_law 1042 = .ok (.iadd, 1) := by decide +kernel
theorem dL_law_1043 : decode cL_law 1043 = .ok (.iaload, 1) := by decide +kernel
theorem dL_law_1044 : decode cL_law 1044 = .ok (.invokevirtual 115, 3) := by decide +kernel
theorem dL_law_1047 : decode cL_law 1047 = .ok (.if_icmp .eq 97, 3) := by decide +kernel
theorem dL_law_1050 : decode cL_law 1050 = .ok (.iconst 0, 1) := by decide +kernel
theorem dL_law_1051 : decode cL_law 1051 = .ok (.ireturn, 1) := by decide +kernel
theorem dL_law_1052 : decode cL_law 1052 = .ok (.aload_n 1, 1) := by decide +kernel
theorem dL_law_1053 : decode cL_law 1053 = .ok (.aload_n 0, 1) := by decide +kernel
theorem dL_law_1054 : decode cL_law 1054 = .ok (.iload_n 3, 1) := by decide +kernel
theorem dL_law_1055 : decode cL_law 1055 = .ok (.iconst 1, 1) := by decide +kernel
theorem dL_law_1056 : decode cL_law 1056 = .ok (.iadd, 1) := by decide +kernel
theorem dL_law_1057 : decode cL_law 1057 = .ok (.iaload, 1) := by decide +kernel
theorem dL_law_1058 : decode cL_law 1058 = .ok (.invokevirtual 116, 3) := by decide +kernel
theorem dL_law_1061 : decode cL_law 1061 = .ok (.aload_n 2, 1) := by decide +kernel
theorem dL_law_1062 : decode cL_law 1062 = .ok (.aload_n 0, 1) := by decide +kernel
theorem dL_law_1063 : decode cL_law 1063 = .ok (.iload_n 3, 1) := by decide +kernel
theorem dL_law_1064 : decode cL_law 1064 = .ok (.iconst 1, 1) := by decide +kernel
theorem dL_law_1065 : decode cL_law 1065 = .ok (.iadd, 1) := by decide +kernel
theorem dL_law_1066 : decode cL_law 1066 = .ok (.iaload, 1) := by decide +kernel
theorem dL_law_1067 : decode cL_law 1067 = .ok (.invokevirtual 120, 3) := by decide +kernel
theorem dL_law_1070 : decode cL_law 1070 = .ok (.if_icmp .eq 74, 3) := by decide +kernel
theorem dL_law_1073 : decode cL_law 1073 = .ok (.iconst 0, 1) := by decide +kernel
theorem dL_law_1074 : decode cL_law 1074 = .ok (.ireturn, 1) := by decide +kernel
theorem dL_law_1075 : decode cL_law 1075 = .ok (.aload_n 1, 1) := by decide +kernel
theorem dL_law_1076 : decode cL_law 1076 = .ok (.aload_n 0, 1) := by decide +kernel
theorem dL_law_1077 : decode cL_law 1077 = .ok (.iload_n 3, 1) := by decide +kernel
theorem dL_law_1078 : decode cL_law 1078 = .ok (.iconst 1, 1) := by decide +kernel
theorem dL_law_1079 : decode cL_law 1079 = .ok (.iadd, 1) := by decide +kernel
theorem dL_law_1080 : decode cL_law 1080 = .ok (.iaload, 1) := by decide +kernel
theorem dL_law_1081 : decode cL_law 1081 = .ok (.invokevirtual 121, 3) := by decide +kernel
theorem dL_law_1084 : decode cL_law 1084 = .ok (.aload_n 2, 1) := by decide +kernel
theorem dL_law_1085 : decode cL_law 1085 = .ok (.aload_n 0, 1) := by decide +kernel
theorem dL_law_1086 : decode cL_law 1086 = .ok (.iload_n 3, 1) := by decide +kernel
theorem dL_law_1087 : decode cL_law 1087 = .ok (.iconst 1, 1) := by decide +kernel
theorem dL_law_1088 : decode cL_law 1088 = .ok (.iadd, 1) := by decide +kernel
theorem dL_law_1089 : decode cL_law 1089 = .ok (.iaload, 1) := by decide +kernel
theorem dL_law_1090 : decode cL_law 1090 = .ok (.invokevirtual 124, 3) := by decide +kernel
theorem dL_law_1093 : decode cL_law 1093 = .ok (.if_icmp .eq 51, 3) := by decide +kernel
theorem dL_law_1096 : decode cL_law 1096 = .ok (.iconst 0, 1) := by decide +kernel
theorem dL_law_1097 : decode cL_law 1097 = .ok (.ireturn, 1) := by decide +kernel
theorem dL_law_1098 : decode cL_law 1098 = .ok (.aload_n 1, 1) := by decide +kernel
theorem dL_law_1099 : decode cL_law 1099 = .ok (.aload_n 0, 1) := by decide +kernel
theorem dL_law_1100 : decode cL_law 1100 = .ok (.iload_n 3, 1) := by decide +kernel
theorem dL_law_1101 : decode cL_law 1101 = .ok (.iconst 1, 1) := by decide +kernel
theorem dL_law_1102 : decode cL_law 1102 = .ok (.iadd, 1) := by decide +kernel
theorem dL_law_1103 : decode cL_law 1103 = .ok (.iaload, 1) := by decide +kernel
theorem dL_law_1104 : decode cL_law 1104 = .ok (.invokevirtual 125, 3) := by decide +kernel
theorem dL_law_1107 : decode cL_law 1107 = .ok (.aload_n 2, 1) := by decide +kernel
theorem dL_law_1108 : decode cL_law 1108 = .ok (.aload_n 0, 1) := by decide +kernel
theorem dL_law_1109 : decode cL_law 1109 = .ok (.iload_n 3, 1) := by decide +kernel
theorem dL_law_1110 : decode cL_law 1110 = .ok (.iconst 1, 1) := by decide +kernel
theorem dL_law_1111 : decode cL_law 1111 = .ok (.iadd, 1) := by decide +kernel
theorem dL_law_1112 : decode cL_law 1112 = .ok (.iaload, 1) := by decide +kernel
theorem dL_law_1113 : decode cL_law 1113 = .ok (.invokevirtual 128, 3) := by decide +kernel
theorem dL_law_1116 : decode cL_law 1116 = .ok (.if_icmp .eq 28, 3) := by decide +kernel
theorem dL_law_1119 : decode cL_law 1119 = .ok (.iconst 0, 1) := by decide +kernel
theorem dL_law_1120 : decode cL_law 1120 = .ok (.ireturn, 1) := by decide +kernel
theorem dL_law_1121 : decode cL_law 1121 = .ok (.aload_n 1, 1) := by decide +kernel
theorem dL_law_1122 : decode cL_law 1122 = .ok (.aload_n 0, 1) := by decide +kernel
theorem dL_law_1123 : decode cL_law 1123 = .ok (.iload_n 3, 1) := by decide +kernel
theorem dL_law_1124 : decode cL_law 1124 = .ok (.iconst 1, 1) := by decide +kernel
theorem dL_law_1125 : decode cL_law 1125 = .ok (.iadd, 1) := by decide +kernel
theorem dL_law_1126 : decode cL_law 1126 = .ok (.iaload, 1) := by decide +kernel
theorem dL_law_1127 : decode cL_law 1127 = .ok (.invokevirtual 129, 3) := by decide +kernel
theorem dL_law_1130 : decode cL_law 1130 = .ok (.aload_n 2, 1) := by decide +kernel
theorem dL_law_1131 : decode cL_law 1131 = .ok (.aload_n 0, 1) := by decide +kernel
theorem dL_law_1132 : decode cL_law 1132 = .ok (.iload_n 3, 1) := by decide +kernel
theorem dL_law_1133 : decode cL_law 1133 = .ok (.iconst 1, 1) := by decide +kernel
theorem dL_law_1134 : decode cL_law 1134 = .ok (.iadd, 1) := by decide +kernel
theorem dL_law_1135 : decode cL_law 1135 = .ok (.iaload, 1) := by decide +kernel
theorem dL_law_1136 : decode cL_law 1136 = .ok (.invokevirtual 132, 3) := by decide +kernel
theorem dL_law_1139 : decode cL_law 1139 = .ok (.if_icmp .eq 5, 3) := by decide +kernel
theorem dL_law_1142 : decode cL_law 1142 = .ok (.iconst 0, 1) := by decide +kernel
theorem dL_law_1143 : decode cL_law 1143 = .ok (.ireturn, 1) := by decide +kernel
theorem dL_law_1144 : decode cL_law 1144 = .ok (.iinc 3 6, 3) := by decide +kernel
theorem dL_law_1147 : decode cL_law 1147 = .ok (.goto (-1129), 3) := by decide +kernel
theorem dL_law_1150 : decode cL_law 1150 = .ok (.iconst 1, 1) := by decide +kernel
theorem dL_law_1151 : decode cL_law 1151 = .ok (.ireturn, 1) := by decide +kernel
abbrev vwCl : List vw_C := [(RX0, TX0, 7), (RX1, TX1, 3), (RX2, TX2, 4), (RX3, TX3, 11), (RX4, TX4, 13), (RX5, TX5, 6), (RX6, TX6, 14), (RX7, TX7, 4), (RX8, TX8, 10), (RX9, TX9, 5), (RX10, TX10, 2), (RX11, TX11, 16), (RX12, TX12, 80)]
