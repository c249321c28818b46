def RX0 : String := "Tagwranglery$Collection"
def TX0 : u_T := fun k => match k with
  | 0 => ("Tagwranglery$Collection", "opens", "I", true)
  | _ => ("Tagwranglery$Collection", "names", "I", true)
def tyX0 : Nat → FieldType := fun k => match k with
  | 0 => .int
  | _ => .int
abbrev wsX00 : List Cond := u_ws RX0 TX0 2
theorem nmX0 : ∀ a, a < 2 → ∀ b, b < 2 → a ≠ b → (TX0 a).2.1 ≠ (TX0 b).2.1 := by decide +kernel
theorem tyX0_ok : ∀ k, k < 2 → parseFieldDescriptor (TX0 k).2.2.1 = some (tyX0 k) := by decide +kernel
abbrev cX0_init : ByteArray := prog_2_method_1_code
def yX0_init : MethodName := ⟨RX0, "<init>", "(II)V"⟩
def RX1 : String := "Tagwranglery$Comment"
def TX1 : u_T := fun k => match k with
  | 0 => ("Tagwranglery$Comment", "work", "I", true)
  | 1 => ("Tagwranglery$Comment", "face", "I", true)
  | 2 => ("Tagwranglery$Comment", "upper", "LTagwranglery$Comment;", true)
  | 3 => ("Tagwranglery$Comment", "frozen", "Z", false)
  | 4 => ("Tagwranglery$Comment", "removed", "Z", false)
  | _ => ("Tagwranglery$Comment", "screened", "Z", false)
def tyX1 : Nat → FieldType := fun k => match k with
  | 0 => .int
  | 1 => .int
  | 2 => .object "Tagwranglery$Comment"
  | 3 => .boolean
  | 4 => .boolean
  | _ => .boolean
abbrev wsX10 : List Cond := u_ws RX1 TX1 6
theorem nmX1 : ∀ a, a < 6 → ∀ b, b < 6 → a ≠ b → (TX1 a).2.1 ≠ (TX1 b).2.1 := by decide +kernel
theorem tyX1_ok : ∀ k, k < 6 → parseFieldDescriptor (TX1 k).2.2.1 = some (tyX1 k) := by decide +kernel
abbrev cX1_init : ByteArray := prog_3_method_1_code
def yX1_init : MethodName := ⟨RX1, "<init>", "(IILTagwranglery$Comment;Z)V"⟩
abbrev cX1_isFrozenHereOrAbove : ByteArray := prog_3_method_2_code
def yX1_isFrozenHereOrAbove : MethodName := ⟨RX1, "isFrozenHereOrAbove", "()Z"⟩
def RX2 : String := "Tagwranglery$Gifts"
def TX2 : u_T := fun k => match k with
  | 0 => ("Tagwranglery$Gifts", "signs", "[LTagwranglery$Sign;", true)
  | 1 => ("Tagwranglery$Gifts", "count", "I", false)
  | 2 => ("Tagwranglery$Gifts", "receivers", "[I", true)
  | _ => ("Tagwranglery$Gifts", "ways", "[I", true)
def tyX2 : Nat → FieldType := fun k => match k with
  | 0 => .array (.object "Tagwranglery$Sign")
  | 1 => .int
  | 2 => .array .int
  | _ => .array .int
abbrev wsX20 : List Cond := u_ws RX2 TX2 4
theorem nmX2 : ∀ a, a < 4 → ∀ b, b < 4 → a ≠ b → (TX2 a).2.1 ≠ (TX2 b).2.1 := by decide +kernel
theorem tyX2_ok : ∀ k, k < 4 → parseFieldDescriptor (TX2 k).2.2.1 = some (tyX2 k) := by decide +kernel
abbrev cX2_init : ByteArray := prog_4_method_1_code
def yX2_init : MethodName := ⟨RX2, "<init>", "()V"⟩
abbrev cX2_hasSignOf : ByteArray := prog_4_method_2_code
def yX2_hasSignOf : MethodName := ⟨RX2, "hasSignOf", "(I)Z"⟩
abbrev cX2_add : ByteArray := prog_4_method_3_code
def yX2_add : MethodName := ⟨RX2, "add", "(LTagwranglery$Sign;)I"⟩
abbrev cX2_countMatches : ByteArray := prog_4_method_4_code
def yX2_countMatches : MethodName := ⟨RX2, "countMatches", "(LTagwranglery$Tags;)I"⟩
abbrev cX2_receiverOf : ByteArray := prog_4_method_5_code
def yX2_receiverOf : MethodName := ⟨RX2, "receiverOf", "(ILTagwranglery$Tags;)I"⟩
abbrev cX2_lowestReceiver : ByteArray := prog_4_method_6_code
def yX2_lowestReceiver : MethodName := ⟨RX2, "lowestReceiver", "(II)I"⟩
abbrev cX2_findWays : ByteArray := prog_4_method_7_code
def yX2_findWays : MethodName := ⟨RX2, "findWays", "(LTagwranglery$Tags;)V"⟩
abbrev cX2_findReceivers : ByteArray := prog_4_method_8_code
def yX2_findReceivers : MethodName := ⟨RX2, "findReceivers", "(LTagwranglery$Tags;)V"⟩
def RX3 : String := "Tagwranglery$Person"
def TX3 : u_T := fun k => match k with
  | 0 => ("Tagwranglery$Person", "blocked", "I", false)
  | 1 => ("Tagwranglery$Person", "workDays", "[I", true)
  | 2 => ("Tagwranglery$Person", "personDays", "[I", true)
  | _ => ("Tagwranglery$Person", "digested", "[I", true)
def tyX3 : Nat → FieldType := fun k => match k with
  | 0 => .int
  | 1 => .array .int
  | 2 => .array .int
  | _ => .array .int
abbrev wsX30 : List Cond := u_ws RX3 TX3 4
theorem nmX3 : ∀ a, a < 4 → ∀ b, b < 4 → a ≠ b → (TX3 a).2.1 ≠ (TX3 b).2.1 := by decide +kernel
theorem tyX3_ok : ∀ k, k < 4 → parseFieldDescriptor (TX3 k).2.2.1 = some (tyX3 k) := by decide +kernel
abbrev cX3_init : ByteArray := prog_5_method_1_code
def yX3_init : MethodName := ⟨RX3, "<init>", "()V"⟩
abbrev cX3_firstDayOfAny : ByteArray := prog_5_method_2_code
def yX3_firstDayOfAny : MethodName := ⟨RX3, "firstDayOfAny", "(I)I"⟩
def RX4 : String := "Tagwranglery$Scanner"
def TX4 : u_T := fun k => match k with
  | 0 => ("Tagwranglery$Scanner", "depth", "I", false)
  | 1 => ("Tagwranglery$Scanner", "wantsItem", "Z", false)
  | 2 => ("Tagwranglery$Scanner", "figuresWanted", "I", false)
  | 3 => ("Tagwranglery$Scanner", "letter", "C", false)
  | _ => ("Tagwranglery$Scanner", "number", "I", false)
def tyX4 : Nat → FieldType := fun k => match k with
  | 0 => .int
  | 1 => .boolean
  | 2 => .int
  | 3 => .char
  | _ => .int
abbrev wsX40 : List Cond := u_ws RX4 TX4 5
theorem nmX4 : ∀ a, a < 5 → ∀ b, b < 5 → a ≠ b → (TX4 a).2.1 ≠ (TX4 b).2.1 := by decide +kernel
theorem tyX4_ok : ∀ k, k < 5 → parseFieldDescriptor (TX4 k).2.2.1 = some (tyX4 k) := by decide +kernel
abbrev cX4_init : ByteArray := prog_6_method_1_code
def yX4_init : MethodName := ⟨RX4, "<init>", "()V"⟩
abbrev cX4_start : ByteArray := prog_6_method_2_code
def yX4_start : MethodName := ⟨RX4, "start", "()V"⟩
abbrev cX4_takes : ByteArray := prog_6_method_3_code
def yX4_takes : MethodName := ⟨RX4, "takes", "(C)Z"⟩
abbrev cX4_isAtEnd : ByteArray := prog_6_method_4_code
def yX4_isAtEnd : MethodName := ⟨RX4, "isAtEnd", "()Z"⟩
abbrev cX4_hasItem : ByteArray := prog_6_method_5_code
def yX4_hasItem : MethodName := ⟨RX4, "hasItem", "(C)Z"⟩
abbrev cX4_takesItem : ByteArray := prog_6_method_6_code
def yX4_takesItem : MethodName := ⟨RX4, "takesItem", "(C)Z"⟩
abbrev cX4_takesFigure : ByteArray := prog_6_method_7_code
def yX4_takesFigure : MethodName := ⟨RX4, "takesFigure", "(C)Z"⟩
abbrev cX4_takesLink : ByteArray := prog_6_method_8_code
def yX4_takesLink : MethodName := ⟨RX4, "takesLink", "(C)Z"⟩
abbrev cX4_isFigure : ByteArray := prog_6_method_9_code
def yX4_isFigure : MethodName := ⟨RX4, "isFigure", "(C)Z"⟩
abbrev cX4_figuresOf : ByteArray := prog_6_method_10_code
def yX4_figuresOf : MethodName := ⟨RX4, "figuresOf", "(C)I"⟩
abbrev cX4_greatestOf : ByteArray := prog_6_method_11_code
def yX4_greatestOf : MethodName := ⟨RX4, "greatestOf", "(C)I"⟩
def RX5 : String := "Tagwranglery$Sieve"
def TX5 : u_T := fun k => match k with
  | 0 => ("Tagwranglery$Sieve", "parts", "[I", true)
  | 1 => ("Tagwranglery$Sieve", "items", "[I", true)
  | 2 => ("Tagwranglery$Sieve", "nots", "[Z", true)
  | _ => ("Tagwranglery$Sieve", "level", "I", false)
def tyX5 : Nat → FieldType := fun k => match k with
  | 0 => .array .int
  | 1 => .array .int
  | 2 => .array .boolean
  | _ => .int
abbrev wsX50 : List Cond := u_ws RX5 TX5 4
theorem nmX5 : ∀ a, a < 4 → ∀ b, b < 4 → a ≠ b → (TX5 a).2.1 ≠ (TX5 b).2.1 := by decide +kernel
theorem tyX5_ok : ∀ k, k < 4 → parseFieldDescriptor (TX5 k).2.2.1 = some (tyX5 k) := by decide +kernel
abbrev cX5_init : ByteArray := prog_7_method_1_code
def yX5_init : MethodName := ⟨RX5, "<init>", "()V"⟩
abbrev cX5_start : ByteArray := prog_7_method_2_code
def yX5_start : MethodName := ⟨RX5, "start", "()V"⟩
abbrev cX5_mark : ByteArray := prog_7_method_3_code
def yX5_mark : MethodName := ⟨RX5, "mark", "(C)V"⟩
abbrev cX5_item : ByteArray := prog_7_method_4_code
def yX5_item : MethodName := ⟨RX5, "item", "(I)V"⟩
abbrev cX5_end : ByteArray := prog_7_method_5_code
def yX5_end : MethodName := ⟨RX5, "end", "()I"⟩
abbrev cX5_clear : ByteArray := prog_7_method_6_code
def yX5_clear : MethodName := ⟨RX5, "clear", "()V"⟩
def RX6 : String := "Tagwranglery$Sign"
def TX6 : u_T := fun k => match k with
  | 0 => ("Tagwranglery$Sign", "person", "I", true)
  | 1 => ("Tagwranglery$Sign", "wishes", "I", true)
  | 2 => ("Tagwranglery$Sign", "offers", "I", true)
  | _ => ("Tagwranglery$Sign", "barred", "I", true)
def tyX6 : Nat → FieldType := fun k => match k with
  | 0 => .int
  | 1 => .int
  | 2 => .int
  | _ => .int
abbrev wsX60 : List Cond := u_ws RX6 TX6 4
theorem nmX6 : ∀ a, a < 4 → ∀ b, b < 4 → a ≠ b → (TX6 a).2.1 ≠ (TX6 b).2.1 := by decide +kernel
theorem tyX6_ok : ∀ k, k < 4 → parseFieldDescriptor (TX6 k).2.2.1 = some (tyX6 k) := by decide +kernel
abbrev cX6_init : ByteArray := prog_8_method_1_code
def yX6_init : MethodName := ⟨RX6, "<init>", "(IIII)V"⟩
abbrev cX6_suits : ByteArray := prog_8_method_2_code
def yX6_suits : MethodName := ⟨RX6, "suits", "(LTagwranglery$Sign;LTagwranglery$Tags;)Z"⟩
def RX7 : String := "Tagwranglery$Tags"
def TX7 : u_T := fun k => match k with
  | 0 => ("Tagwranglery$Tags", "count", "I", false)
  | 1 => ("Tagwranglery$Tags", "meanings", "[I", true)
  | 2 => ("Tagwranglery$Tags", "parents", "[I", true)
  | _ => ("Tagwranglery$Tags", "above", "[I", true)
def tyX7 : Nat → FieldType := fun k => match k with
  | 0 => .int
  | 1 => .array .int
  | 2 => .array .int
  | _ => .array .int
abbrev wsX70 : List Cond := u_ws RX7 TX7 4
theorem nmX7 : ∀ a, a < 4 → ∀ b, b < 4 → a ≠ b → (TX7 a).2.1 ≠ (TX7 b).2.1 := by decide +kernel
theorem tyX7_ok : ∀ k, k < 4 → parseFieldDescriptor (TX7 k).2.2.1 = some (tyX7 k) := by decide +kernel
abbrev cX7_init : ByteArray := prog_9_method_1_code
def yX7_init : MethodName := ⟨RX7, "<init>", "()V"⟩
abbrev cX7_add : ByteArray := prog_9_method_2_code
def yX7_add : MethodName := ⟨RX7, "add", "()I"⟩
abbrev cX7_kindOf : ByteArray := prog_9_method_3_code
def yX7_kindOf : MethodName := ⟨RX7, "kindOf", "(I)I"⟩
abbrev cX7_meaningOf : ByteArray := prog_9_method_4_code
def yX7_meaningOf : MethodName := ⟨RX7, "meaningOf", "(I)I"⟩
abbrev cX7_aboveOf : ByteArray := prog_9_method_5_code
def yX7_aboveOf : MethodName := ⟨RX7, "aboveOf", "(I)I"⟩
abbrev cX7_isAbove : ByteArray := prog_9_method_6_code
def yX7_isAbove : MethodName := ⟨RX7, "isAbove", "(II)Z"⟩
abbrev cX7_isParent : ByteArray := prog_9_method_7_code
def yX7_isParent : MethodName := ⟨RX7, "isParent", "(II)Z"⟩
abbrev cX7_makeMain : ByteArray := prog_9_method_8_code
def yX7_makeMain : MethodName := ⟨RX7, "makeMain", "(I)V"⟩
abbrev cX7_makeAlias : ByteArray := prog_9_method_9_code
def yX7_makeAlias : MethodName := ⟨RX7, "makeAlias", "(II)V"⟩
abbrev cX7_setParent : ByteArray := prog_9_method_10_code
def yX7_setParent : MethodName := ⟨RX7, "setParent", "(IIZ)V"⟩
abbrev cX7_findAbove : ByteArray := prog_9_method_11_code
def yX7_findAbove : MethodName := ⟨RX7, "findAbove", "()V"⟩
abbrev cX7_meaningsOf : ByteArray := prog_9_method_12_code
def yX7_meaningsOf : MethodName := ⟨RX7, "meaningsOf", "(I)I"⟩
abbrev cX7_belongUnder : ByteArray := prog_9_method_13_code
def yX7_belongUnder : MethodName := ⟨RX7, "belongUnder", "(I)I"⟩
def RX8 : String := "Tagwranglery$Tape"
def TX8 : u_T := fun k => match k with
  | 0 => ("Tagwranglery$Tape", "characters", "[C", true)
  | 1 => ("Tagwranglery$Tape", "length", "I", false)
  | _ => ("Tagwranglery$Tape", "scanner", "LTagwranglery$Scanner;", true)
def tyX8 : Nat → FieldType := fun k => match k with
  | 0 => .array .char
  | 1 => .int
  | _ => .object "Tagwranglery$Scanner"
abbrev wsX80 : List Cond := u_ws RX8 TX8 3
theorem nmX8 : ∀ a, a < 3 → ∀ b, b < 3 → a ≠ b → (TX8 a).2.1 ≠ (TX8 b).2.1 := by decide +kernel
theorem tyX8_ok : ∀ k, k < 3 → parseFieldDescriptor (TX8 k).2.2.1 = some (tyX8 k) := by decide +kernel
abbrev cX8_init : ByteArray := prog_10_method_1_code
def yX8_init : MethodName := ⟨RX8, "<init>", "()V"⟩
abbrev cX8_holds : ByteArray := prog_10_method_2_code
def yX8_holds : MethodName := ⟨RX8, "holds", "(C)Z"⟩
abbrev cX8_add : ByteArray := prog_10_method_3_code
def yX8_add : MethodName := ⟨RX8, "add", "(C)V"⟩
abbrev cX8_firstFault : ByteArray := prog_10_method_4_code
def yX8_firstFault : MethodName := ⟨RX8, "firstFault", "()I"⟩
def RX9 : String := "Tagwranglery$Work"
def TX9 : u_T := fun k => match k with
  | 0 => ("Tagwranglery$Work", "rating", "I", true)
  | 1 => ("Tagwranglery$Work", "owners", "I", false)
  | 2 => ("Tagwranglery$Work", "chapterDays", "[I", true)
  | 3 => ("Tagwranglery$Work", "chapterCount", "I", false)
  | 4 => ("Tagwranglery$Work", "postDay", "I", false)
  | 5 => ("Tagwranglery$Work", "locked", "Z", false)
  | 6 => ("Tagwranglery$Work", "collection", "LTagwranglery$Collection;", false)
  | 7 => ("Tagwranglery$Work", "tags", "I", false)
  | 8 => ("Tagwranglery$Work", "filed", "I", false)
  | 9 => ("Tagwranglery$Work", "waits", "Z", false)
  | 10 => ("Tagwranglery$Work", "screens", "Z", false)
  | _ => ("Tagwranglery$Work", "kudos", "I", false)
def tyX9 : Nat → FieldType := fun k => match k with
  | 0 => .int
  | 1 => .int
  | 2 => .array .int
  | 3 => .int
  | 4 => .int
  | 5 => .boolean
  | 6 => .object "Tagwranglery$Collection"
  | 7 => .int
  | 8 => .int
  | 9 => .boolean
  | 10 => .boolean
  | _ => .int
abbrev wsX90 : List Cond := u_ws RX9 TX9 12
theorem nmX9 : ∀ a, a < 12 → ∀ b, b < 12 → a ≠ b → (TX9 a).2.1 ≠ (TX9 b).2.1 := by decide +kernel
theorem tyX9_ok : ∀ k, k < 12 → parseFieldDescriptor (TX9 k).2.2.1 = some (tyX9 k) := by decide +kernel
abbrev cX9_init : ByteArray := prog_11_method_1_code
def yX9_init : MethodName := ⟨RX9, "<init>", "(II)V"⟩
abbrev cX9_isPosted : ByteArray := prog_11_method_2_code
def yX9_isPosted : MethodName := ⟨RX9, "isPosted", "()Z"⟩
abbrev cX9_isOwnedBy : ByteArray := prog_11_method_3_code
def yX9_isOwnedBy : MethodName := ⟨RX9, "isOwnedBy", "(I)Z"⟩
abbrev cX9_isSeenBy : ByteArray := prog_11_method_4_code
def yX9_isSeenBy : MethodName := ⟨RX9, "isSeenBy", "(II)Z"⟩
abbrev cX9_ownersToldTo : ByteArray := prog_11_method_5_code
def yX9_ownersToldTo : MethodName := ⟨RX9, "ownersToldTo", "(II)I"⟩
abbrev cX9_outDay : ByteArray := prog_11_method_6_code
def yX9_outDay : MethodName := ⟨RX9, "outDay", "(I)I"⟩
abbrev cX9_latest : ByteArray := prog_11_method_7_code
def yX9_latest : MethodName := ⟨RX9, "latest", "()I"⟩
abbrev cX9_chaptersOutFrom : ByteArray := prog_11_method_8_code
def yX9_chaptersOutFrom : MethodName := ⟨RX9, "chaptersOutFrom", "(I)I"⟩
abbrev cX9_fileUnder : ByteArray := prog_11_method_9_code
def yX9_fileUnder : MethodName := ⟨RX9, "fileUnder", "(I)V"⟩
def RX10 : String := "Tagwranglery"
def TX10 : u_T := fun k => match k with
  | 0 => ("Tagwranglery", "day", "I", false)
  | 1 => ("Tagwranglery", "sameFaces", "[I", true)
  | 2 => ("Tagwranglery", "people", "[LTagwranglery$Person;", true)
  | 3 => ("Tagwranglery", "works", "[LTagwranglery$Work;", true)
  | 4 => ("Tagwranglery", "workCount", "I", false)
  | 5 => ("Tagwranglery", "collections", "[LTagwranglery$Collection;", true)
  | 6 => ("Tagwranglery", "collectionCount", "I", false)
  | 7 => ("Tagwranglery", "tags", "LTagwranglery$Tags;", true)
  | 8 => ("Tagwranglery", "tape", "LTagwranglery$Tape;", true)
  | 9 => ("Tagwranglery", "sieve", "LTagwranglery$Sieve;", true)
  | 10 => ("Tagwranglery", "gifts", "LTagwranglery$Gifts;", true)
  | 11 => ("Tagwranglery", "comments", "[LTagwranglery$Comment;", true)
  | _ => ("Tagwranglery", "commentCount", "I", false)
def tyX10 : Nat → FieldType := fun k => match k with
  | 0 => .int
  | 1 => .array .int
  | 2 => .array (.object "Tagwranglery$Person")
  | 3 => .array (.object "Tagwranglery$Work")
  | 4 => .int
  | 5 => .array (.object "Tagwranglery$Collection")
  | 6 => .int
  | 7 => .object "Tagwranglery$Tags"
  | 8 => .object "Tagwranglery$Tape"
  | 9 => .object "Tagwranglery$Sieve"
  | 10 => .object "Tagwranglery$Gifts"
  | 11 => .array (.object "Tagwranglery$Comment")
  | _ => .int
abbrev wsX100 : List Cond := u_ws RX10 TX10 13
theorem nmX10 : ∀ a, a < 13 → ∀ b, b < 13 → a ≠ b → (TX10 a).2.1 ≠ (TX10 b).2.1 := by decide +kernel
theorem tyX10_ok : ∀ k, k < 13 → parseFieldDescriptor (TX10 k).2.2.1 = some (tyX10 k) := by decide +kernel
abbrev cX10_init : ByteArray := prog_1_method_1_code
def yX10_init : MethodName := ⟨RX10, "<init>", "()V"⟩
abbrev cX10_pass : ByteArray := prog_1_method_2_code
def yX10_pass : MethodName := ⟨RX10, "pass", "(I)I"⟩
abbrev cX10_block : ByteArray := prog_1_method_3_code
def yX10_block : MethodName := ⟨RX10, "block", "(IIZ)Z"⟩
abbrev cX10_same : ByteArray := prog_1_method_4_code
def yX10_same : MethodName := ⟨RX10, "same", "(II)Z"⟩
abbrev cX10_work : ByteArray := prog_1_method_5_code
def yX10_work : MethodName := ⟨RX10, "work", "(II)I"⟩
abbrev cX10_join : ByteArray := prog_1_method_6_code
def yX10_join : MethodName := ⟨RX10, "join", "(II)I"⟩
abbrev cX10_leave : ByteArray := prog_1_method_7_code
def yX10_leave : MethodName := ⟨RX10, "leave", "(II)I"⟩
abbrev cX10_chapter : ByteArray := prog_1_method_8_code
def yX10_chapter : MethodName := ⟨RX10, "chapter", "(I)I"⟩
abbrev cX10_post : ByteArray := prog_1_method_9_code
def yX10_post : MethodName := ⟨RX10, "post", "(I)I"⟩
abbrev cX10_lock : ByteArray := prog_1_method_10_code
def yX10_lock : MethodName := ⟨RX10, "lock", "(IZ)Z"⟩
abbrev cX10_collection : ByteArray := prog_1_method_11_code
def yX10_collection : MethodName := ⟨RX10, "collection", "(II)I"⟩
abbrev cX10_collect : ByteArray := prog_1_method_12_code
def yX10_collect : MethodName := ⟨RX10, "collect", "(II)V"⟩
abbrev cX10_sees : ByteArray := prog_1_method_13_code
def yX10_sees : MethodName := ⟨RX10, "sees", "(II)Z"⟩
abbrev cX10_owners : ByteArray := prog_1_method_14_code
def yX10_owners : MethodName := ⟨RX10, "owners", "(II)I"⟩
abbrev cX10_tag : ByteArray := prog_1_method_15_code
def yX10_tag : MethodName := ⟨RX10, "tag", "()I"⟩
abbrev cX10_make : ByteArray := prog_1_method_16_code
def yX10_make : MethodName := ⟨RX10, "make", "(I)I"⟩
abbrev cX10_merge : ByteArray := prog_1_method_17_code
def yX10_merge : MethodName := ⟨RX10, "merge", "(II)I"⟩
abbrev cX10_parent : ByteArray := prog_1_method_18_code
def yX10_parent : MethodName := ⟨RX10, "parent", "(IIZ)Z"⟩
abbrev cX10_ofTag : ByteArray := prog_1_method_19_code
def yX10_ofTag : MethodName := ⟨RX10, "ofTag", "(II)I"⟩
abbrev cX10_put : ByteArray := prog_1_method_20_code
def yX10_put : MethodName := ⟨RX10, "put", "(IIZ)Z"⟩
abbrev cX10_wave : ByteArray := prog_1_method_21_code
def yX10_wave : MethodName := ⟨RX10, "wave", "(I)I"⟩
abbrev cX10_waiting : ByteArray := prog_1_method_22_code
def yX10_waiting : MethodName := ⟨RX10, "waiting", "()I"⟩
abbrev cX10_under : ByteArray := prog_1_method_23_code
def yX10_under : MethodName := ⟨RX10, "under", "(IZ)I"⟩
abbrev cX10_type : ByteArray := prog_1_method_24_code
def yX10_type : MethodName := ⟨RX10, "type", "(JI)I"⟩
abbrev cX10_wipe : ByteArray := prog_1_method_25_code
def yX10_wipe : MethodName := ⟨RX10, "wipe", "()I"⟩
abbrev cX10_fault : ByteArray := prog_1_method_26_code
def yX10_fault : MethodName := ⟨RX10, "fault", "()I"⟩
abbrev cX10_search : ByteArray := prog_1_method_27_code
def yX10_search : MethodName := ⟨RX10, "search", "(IZ)I"⟩
abbrev cX10_result : ByteArray := prog_1_method_28_code
def yX10_result : MethodName := ⟨RX10, "result", "(II)I"⟩
abbrev cX10_sign : ByteArray := prog_1_method_29_code
def yX10_sign : MethodName := ⟨RX10, "sign", "(IIII)I"⟩
abbrev cX10_match : ByteArray := prog_1_method_30_code
def yX10_match : MethodName := ⟨RX10, "match", "(I)I"⟩
abbrev cX10_matches : ByteArray := prog_1_method_31_code
def yX10_matches : MethodName := ⟨RX10, "matches", "()I"⟩
abbrev cX10_screen : ByteArray := prog_1_method_32_code
def yX10_screen : MethodName := ⟨RX10, "screen", "(IZ)Z"⟩
abbrev cX10_comment : ByteArray := prog_1_method_33_code
def yX10_comment : MethodName := ⟨RX10, "comment", "(III)I"⟩
abbrev cX10_change : ByteArray := prog_1_method_34_code
def yX10_change : MethodName := ⟨RX10, "change", "(II)Z"⟩
abbrev cX10_reads : ByteArray := prog_1_method_35_code
def yX10_reads : MethodName := ⟨RX10, "reads", "(II)I"⟩
abbrev cX10_kudos : ByteArray := prog_1_method_36_code
def yX10_kudos : MethodName := ⟨RX10, "kudos", "(II)I"⟩
abbrev cX10_liked : ByteArray := prog_1_method_37_code
def yX10_liked : MethodName := ⟨RX10, "liked", "(I)I"⟩
abbrev cX10_subscribe : ByteArray := prog_1_method_38_code
def yX10_subscribe : MethodName := ⟨RX10, "subscribe", "(IZI)Z"⟩
abbrev cX10_news : ByteArray := prog_1_method_39_code
def yX10_news : MethodName := ⟨RX10, "news", "(I)I"⟩
abbrev cX10_digest : ByteArray := prog_1_method_40_code
def yX10_digest : MethodName := ⟨RX10, "digest", "(I)I"⟩
abbrev cX10_checkFace : ByteArray := prog_1_method_41_code
def yX10_checkFace : MethodName := ⟨RX10, "checkFace", "(I)V"⟩
abbrev cX10_checkPerson : ByteArray := prog_1_method_42_code
def yX10_checkPerson : MethodName := ⟨RX10, "checkPerson", "(I)V"⟩
abbrev cX10_checkTag : ByteArray := prog_1_method_43_code
def yX10_checkTag : MethodName := ⟨RX10, "checkTag", "(I)V"⟩
abbrev cX10_checkQuery : ByteArray := prog_1_method_44_code
def yX10_checkQuery : MethodName := ⟨RX10, "checkQuery", "()V"⟩
abbrev cX10_checkWork : ByteArray := prog_1_method_45_code
def yX10_checkWork : MethodName := ⟨RX10, "checkWork", "(I)V"⟩
abbrev cX10_workAt : ByteArray := prog_1_method_46_code
def yX10_workAt : MethodName := ⟨RX10, "workAt", "(I)LTagwranglery$Work;"⟩
abbrev cX10_commentAt : ByteArray := prog_1_method_47_code
def yX10_commentAt : MethodName := ⟨RX10, "commentAt", "(I)LTagwranglery$Comment;"⟩
abbrev cX10_has : ByteArray := prog_1_method_48_code
def yX10_has : MethodName := ⟨RX10, "has", "(II)Z"⟩
abbrev cX10_with : ByteArray := prog_1_method_49_code
def yX10_with : MethodName := ⟨RX10, "with", "(IIZ)I"⟩
abbrev cX10_isWithin : ByteArray := prog_1_method_50_code
def yX10_isWithin : MethodName := ⟨RX10, "isWithin", "(II)Z"⟩
abbrev cX10_letTaggedWorksWait : ByteArray := prog_1_method_51_code
def yX10_letTaggedWorksWait : MethodName := ⟨RX10, "letTaggedWorksWait", "()V"⟩
abbrev cX10_placesOf : ByteArray := prog_1_method_52_code
def yX10_placesOf : MethodName := ⟨RX10, "placesOf", "(LTagwranglery$Work;Z)I"⟩
abbrev cX10_countWith : ByteArray := prog_1_method_53_code
def yX10_countWith : MethodName := ⟨RX10, "countWith", "(I)I"⟩
abbrev cX10_countFiledUnder : ByteArray := prog_1_method_54_code
def yX10_countFiledUnder : MethodName := ⟨RX10, "countFiledUnder", "(I)I"⟩
abbrev cX10_characterAt : ByteArray := prog_1_method_55_code
def yX10_characterAt : MethodName := ⟨RX10, "characterAt", "(JI)C"⟩
abbrev cX10_found : ByteArray := prog_1_method_56_code
def yX10_found : MethodName := ⟨RX10, "found", "(IZ)I"⟩
abbrev cX10_worksOfItem : ByteArray := prog_1_method_57_code
def yX10_worksOfItem : MethodName := ⟨RX10, "worksOfItem", "(CIIZ)I"⟩
abbrev cX10_isTagSo : ByteArray := prog_1_method_58_code
def yX10_isTagSo : MethodName := ⟨RX10, "isTagSo", "(LTagwranglery$Work;IZ)Z"⟩
abbrev cX10_worksSeenBy : ByteArray := prog_1_method_59_code
def yX10_worksSeenBy : MethodName := ⟨RX10, "worksSeenBy", "(I)I"⟩
abbrev cX10_countAheadOf : ByteArray := prog_1_method_60_code
def yX10_countAheadOf : MethodName := ⟨RX10, "countAheadOf", "(II)I"⟩
abbrev cX10_isReadBy : ByteArray := prog_1_method_61_code
def yX10_isReadBy : MethodName := ⟨RX10, "isReadBy", "(ILTagwranglery$Comment;LTagwranglery$Work;)Z"⟩
abbrev cX10_mayComment : ByteArray := prog_1_method_62_code
def yX10_mayComment : MethodName := ⟨RX10, "mayComment", "(LTagwranglery$Work;ILTagwranglery$Comment;)Z"⟩
abbrev cX10_isBlockedByAny : ByteArray := prog_1_method_63_code
def yX10_isBlockedByAny : MethodName := ⟨RX10, "isBlockedByAny", "(II)Z"⟩
abbrev cX10_isBlockedBy : ByteArray := prog_1_method_64_code
def yX10_isBlockedBy : MethodName := ⟨RX10, "isBlockedBy", "(II)Z"⟩
abbrev cX10_countKudos : ByteArray := prog_1_method_65_code
def yX10_countKudos : MethodName := ⟨RX10, "countKudos", "(LTagwranglery$Work;)I"⟩
abbrev cX10_newChapters : ByteArray := prog_1_method_66_code
def yX10_newChapters : MethodName := ⟨RX10, "newChapters", "(II)I"⟩
def RX11 : String := "TagwrangleryModel"
def TX11 : u_T := fun k => match k with
  | _ => ("", "", "", false)
def tyX11 : Nat → FieldType := fun k => match k with
  | _ => .int
abbrev wsX110 : List Cond := u_ws RX11 TX11 0
theorem nmX11 : ∀ a, a < 0 → ∀ b, b < 0 → a ≠ b → (TX11 a).2.1 ≠ (TX11 b).2.1 := by decide +kernel
theorem tyX11_ok : ∀ k, k < 0 → parseFieldDescriptor (TX11 k).2.2.1 = some (tyX11 k) := by decide +kernel
def RJx145de : String := "java/io/Serializable"
def TJx145de : u_T := fun k => match k with
  | _ => ("", "", "", false)
def tyJx145de : Nat → FieldType := fun k => match k with
  | _ => .int
theorem nmJx145de : ∀ a, a < 0 → ∀ b, b < 0 → a ≠ b → (TJx145de a).2.1 ≠ (TJx145de b).2.1 := by decide +kernel
theorem tyJx145de_ok : ∀ k, k < 0 → parseFieldDescriptor (TJx145de k).2.2.1 = some (tyJx145de k) := by decide +kernel
def RJ6 : String := "java/lang/Integer"
def TJ6 : u_T := fun k => match k with
  | _ => ("", "", "", false)
def tyJ6 : Nat → FieldType := fun k => match k with
  | _ => .int
theorem nmJ6 : ∀ a, a < 0 → ∀ b, b < 0 → a ≠ b → (TJ6 a).2.1 ≠ (TJ6 b).2.1 := by decide +kernel
theorem tyJ6_ok : ∀ k, k < 0 → parseFieldDescriptor (TJ6 k).2.2.1 = some (tyJ6 k) := by decide +kernel
abbrev cJ6_bitCount_0f7a4 : ByteArray := prog_18_method_49_code
def yJ6_bitCount_0f7a4 : MethodName := ⟨RJ6, "bitCount", "(I)I"⟩
def RJ9 : String := "java/lang/Math"
def TJ9 : u_T := fun k => match k with
  | _ => ("", "", "", false)
def tyJ9 : Nat → FieldType := fun k => match k with
  | _ => .int
theorem nmJ9 : ∀ a, a < 0 → ∀ b, b < 0 → a ≠ b → (TJ9 a).2.1 ≠ (TJ9 b).2.1 := by decide +kernel
theorem tyJ9_ok : ∀ k, k < 0 → parseFieldDescriptor (TJ9 k).2.2.1 = some (tyJ9 k) := by decide +kernel
abbrev cJ9_max_7cf53 : ByteArray := prog_19_method_65_code
def yJ9_max_7cf53 : MethodName := ⟨RJ9, "max", "(II)I"⟩
abbrev cJ9_min_7cf53 : ByteArray := prog_19_method_69_code
def yJ9_min_7cf53 : MethodName := ⟨RJ9, "min", "(II)I"⟩
def RJ0 : String := "java/lang/String"
def TJ0 : u_T := fun k => match k with
  | _ => ("", "", "", false)
def tyJ0 : Nat → FieldType := fun k => match k with
  | _ => .int
theorem nmJ0 : ∀ a, a < 0 → ∀ b, b < 0 → a ≠ b → (TJ0 a).2.1 ≠ (TJ0 b).2.1 := by decide +kernel
theorem tyJ0_ok : ∀ k, k < 0 → parseFieldDescriptor (TJ0 k).2.2.1 = some (tyJ0 k) := by decide +kernel
def RJ10 : String := "java/lang/System"
def TJ10 : u_T := fun k => match k with
  | _ => ("", "", "", false)
def tyJ10 : Nat → FieldType := fun k => match k with
  | _ => .int
theorem nmJ10 : ∀ a, a < 0 → ∀ b, b < 0 → a ≠ b → (TJ10 a).2.1 ≠ (TJ10 b).2.1 := by decide +kernel
theorem tyJ10_ok : ∀ k, k < 0 → parseFieldDescriptor (TJ10 k).2.2.1 = some (tyJ10 k) := by decide +kernel
def RJ7 : String := "java/util/Arrays"
def TJ7 : u_T := fun k => match k with
  | _ => ("", "", "", false)
def tyJ7 : Nat → FieldType := fun k => match k with
  | _ => .int
theorem nmJ7 : ∀ a, a < 0 → ∀ b, b < 0 → a ≠ b → (TJ7 a).2.1 ≠ (TJ7 b).2.1 := by decide +kernel
theorem tyJ7_ok : ∀ k, k < 0 → parseFieldDescriptor (TJ7 k).2.2.1 = some (tyJ7 k) := by decide +kernel
abbrev cJ7_fill_53178 : ByteArray := prog_24_method_103_code
def yJ7_fill_53178 : MethodName := ⟨RJ7, "fill", "([II)V"⟩
def RL : String := "TagwrangleryLaw"
abbrev cL_cell : ByteArray := method_2_code
def yL_cell : MethodName := ⟨RL, "cell", "([II)I"⟩
abbrev cL_low : ByteArray := method_3_code
def yL_low : MethodName := ⟨RL, "low", "(II)I"⟩
abbrev cL_does : ByteArray := method_4_code
def yL_does : MethodName := ⟨RL, "does", "(LTagwranglery;IIIII)I"⟩
abbrev cL_early : ByteArray := method_5_code
def yL_early : MethodName := ⟨RL, "early", "(LTagwranglery;IIII)I"⟩
abbrev cL_middle : ByteArray := method_6_code
def yL_middle : MethodName := ⟨RL, "middle", "(LTagwranglery;IIIII)I"⟩
abbrev cL_collects : ByteArray := method_7_code
def yL_collects : MethodName := ⟨RL, "collects", "(LTagwranglery;II)I"⟩
abbrev cL_bit : ByteArray := method_8_code
def yL_bit : MethodName := ⟨RL, "bit", "(Z)I"⟩
abbrev cL_types : ByteArray := method_9_code
def yL_types : MethodName := ⟨RL, "types", "(LTagwranglery;III)Z"⟩
abbrev cL_item : ByteArray := method_10_code
def yL_item : MethodName := ⟨RL, "item", "(LTagwranglery;I)I"⟩
abbrev cL_act : ByteArray := method_11_code
def yL_act : MethodName := ⟨RL, "act", "(LTagwranglery;I)I"⟩
abbrev cL_areAlike : ByteArray := method_12_code
def yL_areAlike : MethodName := ⟨RL, "areAlike", "(LTagwranglery;LTagwranglery;I)Z"⟩
abbrev cL_areTags : ByteArray := method_13_code
def yL_areTags : MethodName := ⟨RL, "areTags", "(LTagwranglery;)Z"⟩
abbrev cL_areParted : ByteArray := method_14_code
def yL_areParted : MethodName := ⟨RL, "areParted", "(LTagwranglery;LTagwranglery;I)Z"⟩
abbrev cL_areGiven : ByteArray := method_15_code
def yL_areGiven : MethodName := ⟨RL, "areGiven", "(LTagwranglery;LTagwranglery;I)Z"⟩
abbrev cL_law : ByteArray := code
def yL_law : MethodName := ⟨RL, "law", "([I)Z"⟩
abbrev vwCl : List vw_C := [(RX0, TX0, 2), (RX1, TX1, 6), (RX2, TX2, 4), (RX3, TX3, 4), (RX4, TX4, 5), (RX5, TX5, 4), (RX6, TX6, 4), (RX7, TX7, 4), (RX8, TX8, 3), (RX9, TX9, 12), (RX10, TX10, 13)]
