theorem goodIn_r {big : List Cond} (ws : List Cond) (ps : List Nat) (hp : ws = ps.filterMap (fun i => big[i]?)) (h : ws.all goodWord = true) : GoodIn big ws := by
  intro w hw
  have h1 := List.all_eq_true.mp h w hw
  rw [hp] at hw
  obtain ⟨i, -, hi⟩ := List.mem_filterMap.mp hw
  have hm : w ∈ big := by first | exact List.mem_of_getElem? hi | exact List.getElem?_mem hi
  exact ⟨hm, good_of_word h1⟩
theorem goodIn_app {big a b : List Cond} (ha : GoodIn big a) (hb : GoodIn big b) : GoodIn big (a ++ b) := fun w h => (List.mem_append.mp h).elim (ha w) (hb w)
theorem goodIn_ca {big a b : List Cond} {c : Cond} (ha : GoodIn big (c :: a)) (hb : GoodIn big b) : GoodIn big (c :: (a ++ b)) := fun w h => (List.mem_cons.mp h).elim (fun e => ha w (List.mem_cons.mpr (Or.inl e))) (fun h => (List.mem_append.mp h).elim (fun h => ha w (List.mem_cons.mpr (Or.inr h))) (hb w))
theorem goodIn_sub {big ws : List Cond} (hm : ∀ w ∈ ws, w ∈ big) (h : ws.all goodWord = true) : GoodIn big ws := fun w hw => ⟨hm w hw, good_of_word (List.all_eq_true.mp h w hw)⟩
def RX0 : String := "AskBack$Book"
def TX0 : u_T := fun k => match k with
  | 0 => ("AskBack$Book", "scripts", "[LAskBack$Script;", true)
  | 1 => ("AskBack$Book", "states", "[LAskBack$State;", true)
  | 2 => ("AskBack$Book", "lines", "[LAskBack$Row;", true)
  | 3 => ("AskBack$Book", "firsts", "[J", true)
  | 4 => ("AskBack$Book", "seconds", "[J", true)
  | 5 => ("AskBack$Book", "lineCount", "I", false)
  | _ => ("AskBack$Book", "coupleCount", "I", false)
def tyX0 : Nat → FieldType := fun k => match k with
  | 0 => .array (.object "AskBack$Script")
  | 1 => .array (.object "AskBack$State")
  | 2 => .array (.object "AskBack$Row")
  | 3 => .array .long
  | 4 => .array .long
  | 5 => .int
  | _ => .int
abbrev wsX00 : List Cond := u_ws RX0 TX0 7
theorem nmX0 : ∀ a, a < 7 → ∀ b, b < 7 → a ≠ b → (TX0 a).2.1 ≠ (TX0 b).2.1 := by decide +kernel
theorem tyX0_ok : ∀ k, k < 7 → parseFieldDescriptor (TX0 k).2.2.1 = some (tyX0 k) := by decide +kernel
abbrev cX0_init : ByteArray := prog_2_method_1_code
def yX0_init : MethodName := ⟨RX0, "<init>", "()V"⟩
abbrev cX0_copy : ByteArray := prog_2_method_2_code
def yX0_copy : MethodName := ⟨RX0, "copy", "(LAskBack$Book;)V"⟩
abbrev cX0_addLine : ByteArray := prog_2_method_3_code
def yX0_addLine : MethodName := ⟨RX0, "addLine", "(LAskBack$Row;)I"⟩
abbrev cX0_addCouple : ByteArray := prog_2_method_4_code
def yX0_addCouple : MethodName := ⟨RX0, "addCouple", "(JJ)I"⟩
abbrev cX0_isBroken : ByteArray := prog_2_method_5_code
def yX0_isBroken : MethodName := ⟨RX0, "isBroken", "(LAskBack$Row;)Z"⟩
def RX1 : String := "AskBack$Ear"
def TX1 : u_T := fun k => match k with
  | 0 => ("AskBack$Ear", "script", "LAskBack$Script;", false)
  | 1 => ("AskBack$Ear", "line", "LAskBack$Row;", false)
  | 2 => ("AskBack$Ear", "fitting", "I", false)
  | 3 => ("AskBack$Ear", "present", "I", false)
  | 4 => ("AskBack$Ear", "order", "[I", true)
  | 5 => ("AskBack$Ear", "orderCount", "I", false)
  | 6 => ("AskBack$Ear", "gaps", "[I", true)
  | 7 => ("AskBack$Ear", "places", "[I", true)
  | _ => ("AskBack$Ear", "starts", "[I", true)
def tyX1 : Nat → FieldType := fun k => match k with
  | 0 => .object "AskBack$Script"
  | 1 => .object "AskBack$Row"
  | 2 => .int
  | 3 => .int
  | 4 => .array .int
  | 5 => .int
  | 6 => .array .int
  | 7 => .array .int
  | _ => .array .int
abbrev wsX10 : List Cond := u_ws RX1 TX1 9
theorem nmX1 : ∀ a, a < 9 → ∀ b, b < 9 → a ≠ b → (TX1 a).2.1 ≠ (TX1 b).2.1 := by decide +kernel
theorem tyX1_ok : ∀ k, k < 9 → parseFieldDescriptor (TX1 k).2.2.1 = some (tyX1 k) := by decide +kernel
abbrev cX1_init : ByteArray := prog_3_method_1_code
def yX1_init : MethodName := ⟨RX1, "<init>", "(LAskBack$Script;LAskBack$Row;)V"⟩
abbrev cX1_placeIn : ByteArray := prog_3_method_2_code
def yX1_placeIn : MethodName := ⟨RX1, "placeIn", "(I)I"⟩
abbrev cX1_sizeIn : ByteArray := prog_3_method_3_code
def yX1_sizeIn : MethodName := ⟨RX1, "sizeIn", "(I)I"⟩
abbrev cX1_listen : ByteArray := prog_3_method_4_code
def yX1_listen : MethodName := ⟨RX1, "listen", "(LAskBack$Script;LAskBack$Row;)V"⟩
abbrev cX1_putInOrder : ByteArray := prog_3_method_5_code
def yX1_putInOrder : MethodName := ⟨RX1, "putInOrder", "(I)V"⟩
abbrev cX1_isAhead : ByteArray := prog_3_method_6_code
def yX1_isAhead : MethodName := ⟨RX1, "isAhead", "(II)Z"⟩
abbrev cX1_match : ByteArray := prog_3_method_7_code
def yX1_match : MethodName := ⟨RX1, "match", "(I)Z"⟩
abbrev cX1_startsOf : ByteArray := prog_3_method_8_code
def yX1_startsOf : MethodName := ⟨RX1, "startsOf", "(JI)I"⟩
abbrev cX1_placeGaps : ByteArray := prog_3_method_9_code
def yX1_placeGaps : MethodName := ⟨RX1, "placeGaps", "(III)V"⟩
def RX2 : String := "AskBack$Past"
def TX2 : u_T := fun k => match k with
  | 0 => ("AskBack$Past", "held", "[J", true)
  | 1 => ("AskBack$Past", "ends", "[I", true)
  | 2 => ("AskBack$Past", "moments", "I", false)
  | _ => ("AskBack$Past", "end", "I", false)
def tyX2 : Nat → FieldType := fun k => match k with
  | 0 => .array .long
  | 1 => .array .int
  | 2 => .int
  | _ => .int
abbrev wsX20 : List Cond := u_ws RX2 TX2 4
theorem nmX2 : ∀ a, a < 4 → ∀ b, b < 4 → a ≠ b → (TX2 a).2.1 ≠ (TX2 b).2.1 := by decide +kernel
theorem tyX2_ok : ∀ k, k < 4 → parseFieldDescriptor (TX2 k).2.2.1 = some (tyX2 k) := by decide +kernel
abbrev cX2_init : ByteArray := prog_4_method_1_code
def yX2_init : MethodName := ⟨RX2, "<init>", "()V"⟩
abbrev cX2_clear : ByteArray := prog_4_method_2_code
def yX2_clear : MethodName := ⟨RX2, "clear", "()V"⟩
abbrev cX2_add : ByteArray := prog_4_method_3_code
def yX2_add : MethodName := ⟨RX2, "add", "(LAskBack$Row;LAskBack$State;LAskBack$State;)V"⟩
abbrev cX2_lay : ByteArray := prog_4_method_4_code
def yX2_lay : MethodName := ⟨RX2, "lay", "(J)V"⟩
abbrev cX2_layRow : ByteArray := prog_4_method_5_code
def yX2_layRow : MethodName := ⟨RX2, "layRow", "(LAskBack$Row;)V"⟩
abbrev cX2_layKept : ByteArray := prog_4_method_6_code
def yX2_layKept : MethodName := ⟨RX2, "layKept", "(LAskBack$State;)V"⟩
abbrev cX2_likeLatest : ByteArray := prog_4_method_7_code
def yX2_likeLatest : MethodName := ⟨RX2, "likeLatest", "()I"⟩
abbrev cX2_isLikeLatest : ByteArray := prog_4_method_8_code
def yX2_isLikeLatest : MethodName := ⟨RX2, "isLikeLatest", "(I)Z"⟩
def RX3 : String := "AskBack$Reader"
def TX3 : u_T := fun k => match k with
  | 0 => ("AskBack$Reader", "line", "LAskBack$Row;", true)
  | 1 => ("AskBack$Reader", "script", "LAskBack$Script;", false)
  | 2 => ("AskBack$Reader", "faultKind", "I", false)
  | 3 => ("AskBack$Reader", "faultPlace", "I", false)
  | 4 => ("AskBack$Reader", "kinds", "[I", true)
  | 5 => ("AskBack$Reader", "starts", "[I", true)
  | 6 => ("AskBack$Reader", "sizes", "[I", true)
  | 7 => ("AskBack$Reader", "values", "[J", true)
  | 8 => ("AskBack$Reader", "tokenCount", "I", false)
  | 9 => ("AskBack$Reader", "goTokens", "[I", true)
  | 10 => ("AskBack$Reader", "goSlots", "[I", true)
  | 11 => ("AskBack$Reader", "goCount", "I", false)
  | 12 => ("AskBack$Reader", "at", "I", false)
  | _ => ("AskBack$Reader", "gapCount", "I", false)
def tyX3 : Nat → FieldType := fun k => match k with
  | 0 => .object "AskBack$Row"
  | 1 => .object "AskBack$Script"
  | 2 => .int
  | 3 => .int
  | 4 => .array .int
  | 5 => .array .int
  | 6 => .array .int
  | 7 => .array .long
  | 8 => .int
  | 9 => .array .int
  | 10 => .array .int
  | 11 => .int
  | 12 => .int
  | _ => .int
abbrev wsX30 : List Cond := u_ws RX3 TX3 14
theorem nmX3 : ∀ a, a < 14 → ∀ b, b < 14 → a ≠ b → (TX3 a).2.1 ≠ (TX3 b).2.1 := by decide +kernel
theorem tyX3_ok : ∀ k, k < 14 → parseFieldDescriptor (TX3 k).2.2.1 = some (tyX3 k) := by decide +kernel
abbrev cX3_init : ByteArray := prog_5_method_1_code
def yX3_init : MethodName := ⟨RX3, "<init>", "()V"⟩
abbrev cX3_readLine : ByteArray := prog_5_method_2_code
def yX3_readLine : MethodName := ⟨RX3, "readLine", "([BI)Z"⟩
abbrev cX3_readScript : ByteArray := prog_5_method_3_code
def yX3_readScript : MethodName := ⟨RX3, "readScript", "([BI)Z"⟩
abbrev cX3_open : ByteArray := prog_5_method_4_code
def yX3_open : MethodName := ⟨RX3, "open", "([BI)V"⟩
abbrev cX3_cut : ByteArray := prog_5_method_5_code
def yX3_cut : MethodName := ⟨RX3, "cut", "([BI)V"⟩
abbrev cX3_kindOf : ByteArray := prog_5_method_6_code
def yX3_kindOf : MethodName := ⟨RX3, "kindOf", "(I)I"⟩
abbrev cX3_openToken : ByteArray := prog_5_method_7_code
def yX3_openToken : MethodName := ⟨RX3, "openToken", "(III)V"⟩
abbrev cX3_lengthenWord : ByteArray := prog_5_method_8_code
def yX3_lengthenWord : MethodName := ⟨RX3, "lengthenWord", "(I)V"⟩
abbrev cX3_lengthenNumber : ByteArray := prog_5_method_9_code
def yX3_lengthenNumber : MethodName := ⟨RX3, "lengthenNumber", "(I)V"⟩
abbrev cX3_kind : ByteArray := prog_5_method_10_code
def yX3_kind : MethodName := ⟨RX3, "kind", "()I"⟩
abbrev cX3_value : ByteArray := prog_5_method_11_code
def yX3_value : MethodName := ⟨RX3, "value", "()J"⟩
abbrev cX3_isThe : ByteArray := prog_5_method_12_code
def yX3_isThe : MethodName := ⟨RX3, "isThe", "(J)Z"⟩
abbrev cX3_isName : ByteArray := prog_5_method_13_code
def yX3_isName : MethodName := ⟨RX3, "isName", "()Z"⟩
abbrev cX3_fail : ByteArray := prog_5_method_14_code
def yX3_fail : MethodName := ⟨RX3, "fail", "(I)Z"⟩
abbrev cX3_misplaced : ByteArray := prog_5_method_15_code
def yX3_misplaced : MethodName := ⟨RX3, "misplaced", "()Z"⟩
abbrev cX3_readEnd : ByteArray := prog_5_method_16_code
def yX3_readEnd : MethodName := ⟨RX3, "readEnd", "()Z"⟩
abbrev cX3_readTurn : ByteArray := prog_5_method_17_code
def yX3_readTurn : MethodName := ⟨RX3, "readTurn", "()Z"⟩
abbrev cX3_readKey : ByteArray := prog_5_method_18_code
def yX3_readKey : MethodName := ⟨RX3, "readKey", "()Z"⟩
abbrev cX3_readRule : ByteArray := prog_5_method_19_code
def yX3_readRule : MethodName := ⟨RX3, "readRule", "(Z)Z"⟩
abbrev cX3_readNone : ByteArray := prog_5_method_20_code
def yX3_readNone : MethodName := ⟨RX3, "readNone", "()Z"⟩
abbrev cX3_readPattern : ByteArray := prog_5_method_21_code
def yX3_readPattern : MethodName := ⟨RX3, "readPattern", "(I)Z"⟩
abbrev cX3_readAnswers : ByteArray := prog_5_method_22_code
def yX3_readAnswers : MethodName := ⟨RX3, "readAnswers", "(IZ)Z"⟩
abbrev cX3_readGo : ByteArray := prog_5_method_23_code
def yX3_readGo : MethodName := ⟨RX3, "readGo", "(I)Z"⟩
abbrev cX3_readPieces : ByteArray := prog_5_method_24_code
def yX3_readPieces : MethodName := ⟨RX3, "readPieces", "(I)Z"⟩
abbrev cX3_findGoes : ByteArray := prog_5_method_25_code
def yX3_findGoes : MethodName := ⟨RX3, "findGoes", "()Z"⟩
def RX4 : String := "AskBack$Row"
def TX4 : u_T := fun k => match k with
  | 0 => ("AskBack$Row", "words", "[J", true)
  | _ => ("AskBack$Row", "size", "I", false)
def tyX4 : Nat → FieldType := fun k => match k with
  | 0 => .array .long
  | _ => .int
abbrev wsX40 : List Cond := u_ws RX4 TX4 2
theorem nmX4 : ∀ a, a < 2 → ∀ b, b < 2 → a ≠ b → (TX4 a).2.1 ≠ (TX4 b).2.1 := by decide +kernel
theorem tyX4_ok : ∀ k, k < 2 → parseFieldDescriptor (TX4 k).2.2.1 = some (tyX4 k) := by decide +kernel
abbrev cX4_init : ByteArray := prog_6_method_1_code
def yX4_init : MethodName := ⟨RX4, "<init>", "()V"⟩
abbrev cX4_clear : ByteArray := prog_6_method_2_code
def yX4_clear : MethodName := ⟨RX4, "clear", "()V"⟩
abbrev cX4_add : ByteArray := prog_6_method_3_code
def yX4_add : MethodName := ⟨RX4, "add", "(J)V"⟩
abbrev cX4_at : ByteArray := prog_6_method_4_code
def yX4_at : MethodName := ⟨RX4, "at", "(I)J"⟩
abbrev cX4_copy : ByteArray := prog_6_method_5_code
def yX4_copy : MethodName := ⟨RX4, "copy", "(LAskBack$Row;)V"⟩
abbrev cX4_same : ByteArray := prog_6_method_6_code
def yX4_same : MethodName := ⟨RX4, "same", "(LAskBack$Row;)Z"⟩
abbrev cX4_placeOf : ByteArray := prog_6_method_7_code
def yX4_placeOf : MethodName := ⟨RX4, "placeOf", "(J)I"⟩
abbrev cX4_timesOf : ByteArray := prog_6_method_8_code
def yX4_timesOf : MethodName := ⟨RX4, "timesOf", "(J)I"⟩
def RX5 : String := "AskBack$Sayer"
def TX5 : u_T := fun k => match k with
  | 0 => ("AskBack$Sayer", "words", "LAskBack$Row;", true)
  | 1 => ("AskBack$Sayer", "told", "[I", true)
  | 2 => ("AskBack$Sayer", "rulesOut", "I", false)
  | 3 => ("AskBack$Sayer", "turnOut", "I", false)
  | 4 => ("AskBack$Sayer", "ear", "LAskBack$Ear;", false)
  | 5 => ("AskBack$Sayer", "script", "LAskBack$Script;", false)
  | 6 => ("AskBack$Sayer", "state", "LAskBack$State;", false)
  | _ => ("AskBack$Sayer", "fitting", "I", false)
def tyX5 : Nat → FieldType := fun k => match k with
  | 0 => .object "AskBack$Row"
  | 1 => .array .int
  | 2 => .int
  | 3 => .int
  | 4 => .object "AskBack$Ear"
  | 5 => .object "AskBack$Script"
  | 6 => .object "AskBack$State"
  | _ => .int
abbrev wsX50 : List Cond := u_ws RX5 TX5 8
theorem nmX5 : ∀ a, a < 8 → ∀ b, b < 8 → a ≠ b → (TX5 a).2.1 ≠ (TX5 b).2.1 := by decide +kernel
theorem tyX5_ok : ∀ k, k < 8 → parseFieldDescriptor (TX5 k).2.2.1 = some (tyX5 k) := by decide +kernel
abbrev cX5_init : ByteArray := prog_7_method_1_code
def yX5_init : MethodName := ⟨RX5, "<init>", "(LAskBack$Ear;LAskBack$State;)V"⟩
abbrev cX5_answer : ByteArray := prog_7_method_2_code
def yX5_answer : MethodName := ⟨RX5, "answer", "(LAskBack$Ear;LAskBack$State;[II)V"⟩
abbrev cX5_tell : ByteArray := prog_7_method_3_code
def yX5_tell : MethodName := ⟨RX5, "tell", "(III)V"⟩
abbrev cX5_remember : ByteArray := prog_7_method_4_code
def yX5_remember : MethodName := ⟨RX5, "remember", "([II)V"⟩
abbrev cX5_firstRule : ByteArray := prog_7_method_5_code
def yX5_firstRule : MethodName := ⟨RX5, "firstRule", "([II)I"⟩
abbrev cX5_isPresent : ByteArray := prog_7_method_6_code
def yX5_isPresent : MethodName := ⟨RX5, "isPresent", "(I)Z"⟩
abbrev cX5_firstWhen : ByteArray := prog_7_method_7_code
def yX5_firstWhen : MethodName := ⟨RX5, "firstWhen", "(I)I"⟩
abbrev cX5_follow : ByteArray := prog_7_method_8_code
def yX5_follow : MethodName := ⟨RX5, "follow", "(IZ)V"⟩
abbrev cX5_goTo : ByteArray := prog_7_method_9_code
def yX5_goTo : MethodName := ⟨RX5, "goTo", "(I)I"⟩
abbrev cX5_sayElse : ByteArray := prog_7_method_10_code
def yX5_sayElse : MethodName := ⟨RX5, "sayElse", "()I"⟩
abbrev cX5_fill : ByteArray := prog_7_method_11_code
def yX5_fill : MethodName := ⟨RX5, "fill", "(LAskBack$Row;II)V"⟩
def RX6 : String := "AskBack$Script"
def TX6 : u_T := fun k => match k with
  | 0 => ("AskBack$Script", "parts", "[J", true)
  | 1 => ("AskBack$Script", "keyNames", "[J", true)
  | 2 => ("AskBack$Script", "keyRanks", "[I", true)
  | 3 => ("AskBack$Script", "keyStarts", "[I", true)
  | 4 => ("AskBack$Script", "keyEnds", "[I", true)
  | 5 => ("AskBack$Script", "turnFrom", "[J", true)
  | 6 => ("AskBack$Script", "turnTo", "[J", true)
  | 7 => ("AskBack$Script", "ruleKeys", "[I", true)
  | 8 => ("AskBack$Script", "itemStarts", "[I", true)
  | 9 => ("AskBack$Script", "itemCounts", "[I", true)
  | 10 => ("AskBack$Script", "answerCounts", "[I", true)
  | 11 => ("AskBack$Script", "answerStarts", "[I", true)
  | 12 => ("AskBack$Script", "answerSizes", "[I", true)
  | 13 => ("AskBack$Script", "answerGoes", "[I", true)
  | 14 => ("AskBack$Script", "partCount", "I", false)
  | 15 => ("AskBack$Script", "keyCount", "I", false)
  | 16 => ("AskBack$Script", "turnCount", "I", false)
  | 17 => ("AskBack$Script", "ruleCount", "I", false)
  | _ => ("AskBack$Script", "keepSet", "I", false)
def tyX6 : Nat → FieldType := fun k => match k with
  | 0 => .array .long
  | 1 => .array .long
  | 2 => .array .int
  | 3 => .array .int
  | 4 => .array .int
  | 5 => .array .long
  | 6 => .array .long
  | 7 => .array .int
  | 8 => .array .int
  | 9 => .array .int
  | 10 => .array .int
  | 11 => .array .int
  | 12 => .array .int
  | 13 => .array .int
  | 14 => .int
  | 15 => .int
  | 16 => .int
  | 17 => .int
  | _ => .int
abbrev wsX60 : List Cond := u_ws RX6 TX6 19
theorem nmX6 : ∀ a, a < 19 → ∀ b, b < 19 → a ≠ b → (TX6 a).2.1 ≠ (TX6 b).2.1 := by decide +kernel
theorem tyX6_ok : ∀ k, k < 19 → parseFieldDescriptor (TX6 k).2.2.1 = some (tyX6 k) := by decide +kernel
abbrev cX6_init : ByteArray := prog_8_method_1_code
def yX6_init : MethodName := ⟨RX6, "<init>", "()V"⟩
abbrev cX6_clear : ByteArray := prog_8_method_2_code
def yX6_clear : MethodName := ⟨RX6, "clear", "()V"⟩
abbrev cX6_copy : ByteArray := prog_8_method_3_code
def yX6_copy : MethodName := ⟨RX6, "copy", "(LAskBack$Script;)V"⟩
abbrev cX6_addTurn : ByteArray := prog_8_method_4_code
def yX6_addTurn : MethodName := ⟨RX6, "addTurn", "(JJ)V"⟩
abbrev cX6_addKey : ByteArray := prog_8_method_5_code
def yX6_addKey : MethodName := ⟨RX6, "addKey", "(JI)V"⟩
abbrev cX6_addRule : ByteArray := prog_8_method_6_code
def yX6_addRule : MethodName := ⟨RX6, "addRule", "(Z)V"⟩
abbrev cX6_addItem : ByteArray := prog_8_method_7_code
def yX6_addItem : MethodName := ⟨RX6, "addItem", "(IJ)V"⟩
abbrev cX6_openAnswer : ByteArray := prog_8_method_8_code
def yX6_openAnswer : MethodName := ⟨RX6, "openAnswer", "(I)V"⟩
abbrev cX6_addPiece : ByteArray := prog_8_method_9_code
def yX6_addPiece : MethodName := ⟨RX6, "addPiece", "(IJ)V"⟩
abbrev cX6_addPart : ByteArray := prog_8_method_10_code
def yX6_addPart : MethodName := ⟨RX6, "addPart", "(J)V"⟩
abbrev cX6_keyNamed : ByteArray := prog_8_method_11_code
def yX6_keyNamed : MethodName := ⟨RX6, "keyNamed", "(J)I"⟩
abbrev cX6_turnNamed : ByteArray := prog_8_method_12_code
def yX6_turnNamed : MethodName := ⟨RX6, "turnNamed", "(J)I"⟩
abbrev cX6_turn : ByteArray := prog_8_method_13_code
def yX6_turn : MethodName := ⟨RX6, "turn", "(JI)J"⟩
abbrev cX6_gapsOf : ByteArray := prog_8_method_14_code
def yX6_gapsOf : MethodName := ⟨RX6, "gapsOf", "(I)I"⟩
abbrev cX6_givesBack : ByteArray := prog_8_method_15_code
def yX6_givesBack : MethodName := ⟨RX6, "givesBack", "(I)Z"⟩
def RX7 : String := "AskBack$Search"
def TX7 : u_T := fun k => match k with
  | 0 => ("AskBack$Search", "sayer", "LAskBack$Sayer;", true)
  | 1 => ("AskBack$Search", "ears", "[LAskBack$Ear;", true)
  | 2 => ("AskBack$Search", "path", "[I", true)
  | 3 => ("AskBack$Search", "led", "[I", true)
  | 4 => ("AskBack$Search", "ledSize", "I", false)
  | 5 => ("AskBack$Search", "ringAhead", "I", false)
  | 6 => ("AskBack$Search", "ringSize", "I", false)
  | 7 => ("AskBack$Search", "mendCount", "I", false)
  | 8 => ("AskBack$Search", "mendFirst", "I", false)
  | 9 => ("AskBack$Search", "leastRules", "I", false)
  | 10 => ("AskBack$Search", "orderedKeys", "I", false)
  | 11 => ("AskBack$Search", "aheads", "[I", true)
  | 12 => ("AskBack$Search", "states", "[LAskBack$State;", true)
  | 13 => ("AskBack$Search", "wanted", "[LAskBack$Row;", true)
  | 14 => ("AskBack$Search", "order", "[I", true)
  | 15 => ("AskBack$Search", "heardLast", "LAskBack$Row;", true)
  | _ => ("AskBack$Search", "past", "LAskBack$Past;", false)
def tyX7 : Nat → FieldType := fun k => match k with
  | 0 => .object "AskBack$Sayer"
  | 1 => .array (.object "AskBack$Ear")
  | 2 => .array .int
  | 3 => .array .int
  | 4 => .int
  | 5 => .int
  | 6 => .int
  | 7 => .int
  | 8 => .int
  | 9 => .int
  | 10 => .int
  | 11 => .array .int
  | 12 => .array (.object "AskBack$State")
  | 13 => .array (.object "AskBack$Row")
  | 14 => .array .int
  | 15 => .object "AskBack$Row"
  | _ => .object "AskBack$Past"
abbrev wsX70 : List Cond := u_ws RX7 TX7 17
theorem nmX7 : ∀ a, a < 17 → ∀ b, b < 17 → a ≠ b → (TX7 a).2.1 ≠ (TX7 b).2.1 := by decide +kernel
theorem tyX7_ok : ∀ k, k < 17 → parseFieldDescriptor (TX7 k).2.2.1 = some (tyX7 k) := by decide +kernel
abbrev cX7_init : ByteArray := prog_9_method_1_code
def yX7_init : MethodName := ⟨RX7, "<init>", "()V"⟩
abbrev cX7_hold : ByteArray := prog_9_method_2_code
def yX7_hold : MethodName := ⟨RX7, "hold", "(LAskBack$Talk;I)V"⟩
abbrev cX7_shortest : ByteArray := prog_9_method_3_code
def yX7_shortest : MethodName := ⟨RX7, "shortest", "(ILAskBack$Row;)I"⟩
abbrev cX7_reach : ByteArray := prog_9_method_4_code
def yX7_reach : MethodName := ⟨RX7, "reach", "(IIILAskBack$Row;)Z"⟩
abbrev cX7_meet : ByteArray := prog_9_method_5_code
def yX7_meet : MethodName := ⟨RX7, "meet", "(LAskBack$Script;LAskBack$Script;LAskBack$Row;I)I"⟩
abbrev cX7_closeRing : ByteArray := prog_9_method_6_code
def yX7_closeRing : MethodName := ⟨RX7, "closeRing", "(II)V"⟩
abbrev cX7_firstBroke : ByteArray := prog_9_method_7_code
def yX7_firstBroke : MethodName := ⟨RX7, "firstBroke", "(LAskBack$Book;I)I"⟩
abbrev cX7_mendByRules : ByteArray := prog_9_method_8_code
def yX7_mendByRules : MethodName := ⟨RX7, "mendByRules", "(LAskBack$Book;II)V"⟩
abbrev cX7_mendByTurns : ByteArray := prog_9_method_9_code
def yX7_mendByTurns : MethodName := ⟨RX7, "mendByTurns", "(LAskBack$Book;II)V"⟩
abbrev cX7_countMend : ByteArray := prog_9_method_10_code
def yX7_countMend : MethodName := ⟨RX7, "countMend", "(II)V"⟩
abbrev cX7_fewest : ByteArray := prog_9_method_11_code
def yX7_fewest : MethodName := ⟨RX7, "fewest", "(II)I"⟩
abbrev cX7_saysWanted : ByteArray := prog_9_method_12_code
def yX7_saysWanted : MethodName := ⟨RX7, "saysWanted", "(II)Z"⟩
abbrev cX7_tryOrders : ByteArray := prog_9_method_13_code
def yX7_tryOrders : MethodName := ⟨RX7, "tryOrders", "(LAskBack$Talk;I)I"⟩
abbrev cX7_saysTalk : ByteArray := prog_9_method_14_code
def yX7_saysTalk : MethodName := ⟨RX7, "saysTalk", "(LAskBack$Talk;I)Z"⟩
abbrev cX7_countAheads : ByteArray := prog_9_method_15_code
def yX7_countAheads : MethodName := ⟨RX7, "countAheads", "(I)V"⟩
abbrev cX7_nextOrder : ByteArray := prog_9_method_16_code
def yX7_nextOrder : MethodName := ⟨RX7, "nextOrder", "(I)V"⟩
abbrev cX7_swap : ByteArray := prog_9_method_17_code
def yX7_swap : MethodName := ⟨RX7, "swap", "(II)V"⟩
def RX8 : String := "AskBack$State"
def TX8 : u_T := fun k => match k with
  | 0 => ("AskBack$State", "kept", "[LAskBack$Row;", true)
  | 1 => ("AskBack$State", "keptCount", "I", false)
  | _ => ("AskBack$State", "turns", "J", false)
def tyX8 : Nat → FieldType := fun k => match k with
  | 0 => .array (.object "AskBack$Row")
  | 1 => .int
  | _ => .long
abbrev wsX80 : List Cond := u_ws RX8 TX8 3
theorem nmX8 : ∀ a, a < 3 → ∀ b, b < 3 → a ≠ b → (TX8 a).2.1 ≠ (TX8 b).2.1 := by decide +kernel
theorem tyX8_ok : ∀ k, k < 3 → parseFieldDescriptor (TX8 k).2.2.1 = some (tyX8 k) := by decide +kernel
abbrev cX8_init : ByteArray := prog_10_method_1_code
def yX8_init : MethodName := ⟨RX8, "<init>", "()V"⟩
abbrev cX8_refresh : ByteArray := prog_10_method_2_code
def yX8_refresh : MethodName := ⟨RX8, "refresh", "()V"⟩
abbrev cX8_copy : ByteArray := prog_10_method_3_code
def yX8_copy : MethodName := ⟨RX8, "copy", "(LAskBack$State;)V"⟩
abbrev cX8_nextAnswer : ByteArray := prog_10_method_4_code
def yX8_nextAnswer : MethodName := ⟨RX8, "nextAnswer", "(I)I"⟩
abbrev cX8_takeAnswer : ByteArray := prog_10_method_5_code
def yX8_takeAnswer : MethodName := ⟨RX8, "takeAnswer", "(II)I"⟩
abbrev cX8_rowBehind : ByteArray := prog_10_method_6_code
def yX8_rowBehind : MethodName := ⟨RX8, "rowBehind", "()LAskBack$Row;"⟩
abbrev cX8_takeFirst : ByteArray := prog_10_method_7_code
def yX8_takeFirst : MethodName := ⟨RX8, "takeFirst", "(LAskBack$Row;)V"⟩
abbrev cX8_dropFirst : ByteArray := prog_10_method_8_code
def yX8_dropFirst : MethodName := ⟨RX8, "dropFirst", "()V"⟩
def RX9 : String := "AskBack$Talk"
def TX9 : u_T := fun k => match k with
  | 0 => ("AskBack$Talk", "lines", "[LAskBack$Row;", true)
  | 1 => ("AskBack$Talk", "sayings", "[LAskBack$Row;", true)
  | 2 => ("AskBack$Talk", "unread", "[Z", true)
  | 3 => ("AskBack$Talk", "kinds", "[I", true)
  | _ => ("AskBack$Talk", "size", "I", false)
def tyX9 : Nat → FieldType := fun k => match k with
  | 0 => .array (.object "AskBack$Row")
  | 1 => .array (.object "AskBack$Row")
  | 2 => .array .boolean
  | 3 => .array .int
  | _ => .int
abbrev wsX90 : List Cond := u_ws RX9 TX9 5
theorem nmX9 : ∀ a, a < 5 → ∀ b, b < 5 → a ≠ b → (TX9 a).2.1 ≠ (TX9 b).2.1 := by decide +kernel
theorem tyX9_ok : ∀ k, k < 5 → parseFieldDescriptor (TX9 k).2.2.1 = some (tyX9 k) := by decide +kernel
abbrev cX9_init : ByteArray := prog_11_method_1_code
def yX9_init : MethodName := ⟨RX9, "<init>", "()V"⟩
abbrev cX9_clear : ByteArray := prog_11_method_2_code
def yX9_clear : MethodName := ⟨RX9, "clear", "()V"⟩
abbrev cX9_add : ByteArray := prog_11_method_3_code
def yX9_add : MethodName := ⟨RX9, "add", "(LAskBack$Row;LAskBack$Row;I)V"⟩
abbrev cX9_ofKind : ByteArray := prog_11_method_4_code
def yX9_ofKind : MethodName := ⟨RX9, "ofKind", "(I)I"⟩
abbrev cX9_firstOfKinds : ByteArray := prog_11_method_5_code
def yX9_firstOfKinds : MethodName := ⟨RX9, "firstOfKinds", "(I)I"⟩
abbrev cX9_timesBefore : ByteArray := prog_11_method_6_code
def yX9_timesBefore : MethodName := ⟨RX9, "timesBefore", "(I)I"⟩
abbrev cX9_firstSaidBefore : ByteArray := prog_11_method_7_code
def yX9_firstSaidBefore : MethodName := ⟨RX9, "firstSaidBefore", "(I)I"⟩
abbrev cX9_repeats : ByteArray := prog_11_method_8_code
def yX9_repeats : MethodName := ⟨RX9, "repeats", "()I"⟩
abbrev cX9_firstBroken : ByteArray := prog_11_method_9_code
def yX9_firstBroken : MethodName := ⟨RX9, "firstBroken", "(LAskBack$Book;)I"⟩
abbrev cX9_timesRead : ByteArray := prog_11_method_10_code
def yX9_timesRead : MethodName := ⟨RX9, "timesRead", "(J)I"⟩
def RX10 : String := "AskBack$Tray"
def TX10 : u_T := fun k => match k with
  | 0 => ("AskBack$Tray", "numbers", "[J", true)
  | 1 => ("AskBack$Tray", "size", "I", false)
  | _ => ("AskBack$Tray", "sort", "I", false)
def tyX10 : Nat → FieldType := fun k => match k with
  | 0 => .array .long
  | 1 => .int
  | _ => .int
abbrev wsX100 : List Cond := u_ws RX10 TX10 3
theorem nmX10 : ∀ a, a < 3 → ∀ b, b < 3 → a ≠ b → (TX10 a).2.1 ≠ (TX10 b).2.1 := by decide +kernel
theorem tyX10_ok : ∀ k, k < 3 → parseFieldDescriptor (TX10 k).2.2.1 = some (tyX10 k) := by decide +kernel
abbrev cX10_init : ByteArray := prog_12_method_1_code
def yX10_init : MethodName := ⟨RX10, "<init>", "()V"⟩
abbrev cX10_isMissing : ByteArray := prog_12_method_2_code
def yX10_isMissing : MethodName := ⟨RX10, "isMissing", "()Z"⟩
abbrev cX10_make : ByteArray := prog_12_method_3_code
def yX10_make : MethodName := ⟨RX10, "make", "(II)V"⟩
abbrev cX10_holds : ByteArray := prog_12_method_4_code
def yX10_holds : MethodName := ⟨RX10, "holds", "(II)Z"⟩
abbrev cX10_at : ByteArray := prog_12_method_5_code
def yX10_at : MethodName := ⟨RX10, "at", "(I)J"⟩
abbrev cX10_put : ByteArray := prog_12_method_6_code
def yX10_put : MethodName := ⟨RX10, "put", "(IJ)V"⟩
abbrev cX10_cut : ByteArray := prog_12_method_7_code
def yX10_cut : MethodName := ⟨RX10, "cut", "(J)J"⟩
def RX11 : String := "AskBack"
def TX11 : u_T := fun k => match k with
  | 0 => ("AskBack", "trays", "[LAskBack$Tray;", true)
  | 1 => ("AskBack", "tape", "[B", true)
  | 2 => ("AskBack", "reader", "LAskBack$Reader;", true)
  | 3 => ("AskBack", "book", "LAskBack$Book;", true)
  | 4 => ("AskBack", "marks", "[LAskBack$Book;", true)
  | 5 => ("AskBack", "talk", "LAskBack$Talk;", true)
  | 6 => ("AskBack", "search", "LAskBack$Search;", true)
  | 7 => ("AskBack", "saidWords", "LAskBack$Row;", true)
  | 8 => ("AskBack", "saidTold", "[I", true)
  | 9 => ("AskBack", "gaps", "[I", true)
  | 10 => ("AskBack", "tapeSize", "I", false)
  | 11 => ("AskBack", "markCount", "I", false)
  | 12 => ("AskBack", "gapCount", "I", false)
  | 13 => ("AskBack", "anySaid", "Z", false)
  | 14 => ("AskBack", "status", "I", false)
  | 15 => ("AskBack", "top", "J", false)
  | _ => ("AskBack", "bottom", "J", false)
def tyX11 : Nat → FieldType := fun k => match k with
  | 0 => .array (.object "AskBack$Tray")
  | 1 => .array .byte
  | 2 => .object "AskBack$Reader"
  | 3 => .object "AskBack$Book"
  | 4 => .array (.object "AskBack$Book")
  | 5 => .object "AskBack$Talk"
  | 6 => .object "AskBack$Search"
  | 7 => .object "AskBack$Row"
  | 8 => .array .int
  | 9 => .array .int
  | 10 => .int
  | 11 => .int
  | 12 => .int
  | 13 => .boolean
  | 14 => .int
  | 15 => .long
  | _ => .long
abbrev wsX110 : List Cond := u_ws RX11 TX11 17
theorem nmX11 : ∀ a, a < 17 → ∀ b, b < 17 → a ≠ b → (TX11 a).2.1 ≠ (TX11 b).2.1 := by decide +kernel
theorem tyX11_ok : ∀ k, k < 17 → parseFieldDescriptor (TX11 k).2.2.1 = some (tyX11 k) := by decide +kernel
abbrev cX11_init : ByteArray := prog_1_method_1_code
def yX11_init : MethodName := ⟨RX11, "<init>", "()V"⟩
abbrev cX11_status : ByteArray := prog_1_method_2_code
def yX11_status : MethodName := ⟨RX11, "status", "()I"⟩
abbrev cX11_top : ByteArray := prog_1_method_3_code
def yX11_top : MethodName := ⟨RX11, "top", "()J"⟩
abbrev cX11_bottom : ByteArray := prog_1_method_4_code
def yX11_bottom : MethodName := ⟨RX11, "bottom", "()J"⟩
abbrev cX11_tray : ByteArray := prog_1_method_5_code
def yX11_tray : MethodName := ⟨RX11, "tray", "(III)Z"⟩
abbrev cX11_write : ByteArray := prog_1_method_6_code
def yX11_write : MethodName := ⟨RX11, "write", "(IIJ)Z"⟩
abbrev cX11_read : ByteArray := prog_1_method_7_code
def yX11_read : MethodName := ⟨RX11, "read", "(II)J"⟩
abbrev cX11_pour : ByteArray := prog_1_method_8_code
def yX11_pour : MethodName := ⟨RX11, "pour", "(IIIII)Z"⟩
abbrev cX11_feed : ByteArray := prog_1_method_9_code
def yX11_feed : MethodName := ⟨RX11, "feed", "(IIIII)I"⟩
abbrev cX11_line : ByteArray := prog_1_method_10_code
def yX11_line : MethodName := ⟨RX11, "line", "(I)I"⟩
abbrev cX11_script : ByteArray := prog_1_method_11_code
def yX11_script : MethodName := ⟨RX11, "script", "(II)I"⟩
abbrev cX11_fault : ByteArray := prog_1_method_12_code
def yX11_fault : MethodName := ⟨RX11, "fault", "(I)I"⟩
abbrev cX11_many : ByteArray := prog_1_method_13_code
def yX11_many : MethodName := ⟨RX11, "many", "(I)I"⟩
abbrev cX11_word : ByteArray := prog_1_method_14_code
def yX11_word : MethodName := ⟨RX11, "word", "(II)J"⟩
abbrev cX11_count : ByteArray := prog_1_method_15_code
def yX11_count : MethodName := ⟨RX11, "count", "(II)I"⟩
abbrev cX11_rule : ByteArray := prog_1_method_16_code
def yX11_rule : MethodName := ⟨RX11, "rule", "(III)I"⟩
abbrev cX11_fit : ByteArray := prog_1_method_17_code
def yX11_fit : MethodName := ⟨RX11, "fit", "(III)I"⟩
abbrev cX11_gap : ByteArray := prog_1_method_18_code
def yX11_gap : MethodName := ⟨RX11, "gap", "(II)I"⟩
abbrev cX11_turned : ByteArray := prog_1_method_19_code
def yX11_turned : MethodName := ⟨RX11, "turned", "(IJ)J"⟩
abbrev cX11_begin : ByteArray := prog_1_method_20_code
def yX11_begin : MethodName := ⟨RX11, "begin", "(I)Z"⟩
abbrev cX11_say : ByteArray := prog_1_method_21_code
def yX11_say : MethodName := ⟨RX11, "say", "(II)I"⟩
abbrev cX11_said : ByteArray := prog_1_method_22_code
def yX11_said : MethodName := ⟨RX11, "said", "(I)J"⟩
abbrev cX11_how : ByteArray := prog_1_method_23_code
def yX11_how : MethodName := ⟨RX11, "how", "(I)I"⟩
abbrev cX11_remembered : ByteArray := prog_1_method_24_code
def yX11_remembered : MethodName := ⟨RX11, "remembered", "(III)J"⟩
abbrev cX11_talk : ByteArray := prog_1_method_25_code
def yX11_talk : MethodName := ⟨RX11, "talk", "(III)I"⟩
abbrev cX11_spoken : ByteArray := prog_1_method_26_code
def yX11_spoken : MethodName := ⟨RX11, "spoken", "(II)J"⟩
abbrev cX11_lead : ByteArray := prog_1_method_27_code
def yX11_lead : MethodName := ⟨RX11, "lead", "(IIII)I"⟩
abbrev cX11_led : ByteArray := prog_1_method_28_code
def yX11_led : MethodName := ⟨RX11, "led", "(I)I"⟩
abbrev cX11_face : ByteArray := prog_1_method_29_code
def yX11_face : MethodName := ⟨RX11, "face", "(IIII)I"⟩
abbrev cX11_ring : ByteArray := prog_1_method_30_code
def yX11_ring : MethodName := ⟨RX11, "ring", "(I)I"⟩
abbrev cX11_broken : ByteArray := prog_1_method_31_code
def yX11_broken : MethodName := ⟨RX11, "broken", "(JJ)I"⟩
abbrev cX11_broke : ByteArray := prog_1_method_32_code
def yX11_broke : MethodName := ⟨RX11, "broke", "(III)I"⟩
abbrev cX11_mend : ByteArray := prog_1_method_33_code
def yX11_mend : MethodName := ⟨RX11, "mend", "(IIII)I"⟩
abbrev cX11_doubt : ByteArray := prog_1_method_34_code
def yX11_doubt : MethodName := ⟨RX11, "doubt", "(I)I"⟩
abbrev cX11_odds : ByteArray := prog_1_method_35_code
def yX11_odds : MethodName := ⟨RX11, "odds", "(I)Z"⟩
abbrev cX11_claim : ByteArray := prog_1_method_36_code
def yX11_claim : MethodName := ⟨RX11, "claim", "(I)I"⟩
abbrev cX11_least : ByteArray := prog_1_method_37_code
def yX11_least : MethodName := ⟨RX11, "least", "(III)I"⟩
abbrev cX11_leastSet : ByteArray := prog_1_method_38_code
def yX11_leastSet : MethodName := ⟨RX11, "leastSet", "()I"⟩
abbrev cX11_orders : ByteArray := prog_1_method_39_code
def yX11_orders : MethodName := ⟨RX11, "orders", "(I)I"⟩
abbrev cX11_ahead : ByteArray := prog_1_method_40_code
def yX11_ahead : MethodName := ⟨RX11, "ahead", "(II)I"⟩
abbrev cX11_leave : ByteArray := prog_1_method_41_code
def yX11_leave : MethodName := ⟨RX11, "leave", "(IZ)Z"⟩
abbrev cX11_heard : ByteArray := prog_1_method_42_code
def yX11_heard : MethodName := ⟨RX11, "heard", "(J)I"⟩
abbrev cX11_mark : ByteArray := prog_1_method_43_code
def yX11_mark : MethodName := ⟨RX11, "mark", "()I"⟩
abbrev cX11_back : ByteArray := prog_1_method_44_code
def yX11_back : MethodName := ⟨RX11, "back", "()I"⟩
abbrev cX11_settle : ByteArray := prog_1_method_45_code
def yX11_settle : MethodName := ⟨RX11, "settle", "(I)Z"⟩
abbrev cX11_refuse : ByteArray := prog_1_method_46_code
def yX11_refuse : MethodName := ⟨RX11, "refuse", "(I)I"⟩
abbrev cX11_grant : ByteArray := prog_1_method_47_code
def yX11_grant : MethodName := ⟨RX11, "grant", "(I)I"⟩
abbrev cX11_tellWord : ByteArray := prog_1_method_48_code
def yX11_tellWord : MethodName := ⟨RX11, "tellWord", "(LAskBack$Row;I)J"⟩
abbrev cX11_tellPower : ByteArray := prog_1_method_49_code
def yX11_tellPower : MethodName := ⟨RX11, "tellPower", "(II)V"⟩
abbrev cX11_putOnTape : ByteArray := prog_1_method_50_code
def yX11_putOnTape : MethodName := ⟨RX11, "putOnTape", "(I)V"⟩
abbrev cX11_isTray : ByteArray := prog_1_method_51_code
def yX11_isTray : MethodName := ⟨RX11, "isTray", "(I)Z"⟩
abbrev cX11_isScript : ByteArray := prog_1_method_52_code
def yX11_isScript : MethodName := ⟨RX11, "isScript", "(I)Z"⟩
abbrev cX11_isLine : ByteArray := prog_1_method_53_code
def yX11_isLine : MethodName := ⟨RX11, "isLine", "(J)Z"⟩
abbrev cX11_isRule : ByteArray := prog_1_method_54_code
def yX11_isRule : MethodName := ⟨RX11, "isRule", "(II)Z"⟩
abbrev cX11_isWord : ByteArray := prog_1_method_55_code
def yX11_isWord : MethodName := ⟨RX11, "isWord", "(J)Z"⟩
abbrev cX11_placeStatus : ByteArray := prog_1_method_56_code
def yX11_placeStatus : MethodName := ⟨RX11, "placeStatus", "(II)I"⟩
abbrev cX11_linesStatus : ByteArray := prog_1_method_57_code
def yX11_linesStatus : MethodName := ⟨RX11, "linesStatus", "(IIII)I"⟩
abbrev cX11_askedStatus : ByteArray := prog_1_method_58_code
def yX11_askedStatus : MethodName := ⟨RX11, "askedStatus", "(IIII)I"⟩
abbrev cX11_rowStatus : ByteArray := prog_1_method_59_code
def yX11_rowStatus : MethodName := ⟨RX11, "rowStatus", "(II)I"⟩
abbrev cX11_listenTo : ByteArray := prog_1_method_60_code
def yX11_listenTo : MethodName := ⟨RX11, "listenTo", "(III)V"⟩
def RX12 : String := "AskBackModel"
def TX12 : u_T := fun k => match k with
  | 0 => ("AskBackModel", "at", "[J", true)
  | 1 => ("AskBackModel", "status", "I", false)
  | 2 => ("AskBackModel", "top", "J", false)
  | 3 => ("AskBackModel", "bottom", "J", false)
  | 4 => ("AskBackModel", "sort", "[I", true)
  | 5 => ("AskBackModel", "trayMany", "[I", true)
  | 6 => ("AskBackModel", "trays", "[J", true)
  | 7 => ("AskBackModel", "tape", "[B", true)
  | 8 => ("AskBackModel", "text", "[B", true)
  | 9 => ("AskBackModel", "taped", "I", false)
  | 10 => ("AskBackModel", "size", "I", false)
  | 11 => ("AskBackModel", "token", "I", false)
  | 12 => ("AskBackModel", "from", "I", false)
  | 13 => ("AskBackModel", "end", "I", false)
  | 14 => ("AskBackModel", "value", "I", false)
  | 15 => ("AskBackModel", "faultKind", "I", false)
  | 16 => ("AskBackModel", "faultPlace", "I", false)
  | 17 => ("AskBackModel", "faults", "I", false)
  | 18 => ("AskBackModel", "reads", "[J", true)
  | 19 => ("AskBackModel", "gaps", "I", false)
  | 20 => ("AskBackModel", "goPlace", "I", false)
  | 21 => ("AskBackModel", "can", "[Z", true)
  | 22 => ("AskBackModel", "gapAt", "[I", true)
  | 23 => ("AskBackModel", "gapLong", "[I", true)
  | 24 => ("AskBackModel", "fitAt", "[I", true)
  | 25 => ("AskBackModel", "fitLong", "[I", true)
  | 26 => ("AskBackModel", "heardLine", "[J", true)
  | 27 => ("AskBackModel", "saidLine", "[J", true)
  | 28 => ("AskBackModel", "heardMany", "I", false)
  | 29 => ("AskBackModel", "saidMany", "I", false)
  | 30 => ("AskBackModel", "fitGaps", "I", false)
  | 31 => ("AskBackModel", "without", "I", false)
  | 32 => ("AskBackModel", "noTurn", "I", false)
  | 33 => ("AskBackModel", "isRanked", "Z", false)
  | 34 => ("AskBackModel", "rankBy", "[I", true)
  | 35 => ("AskBackModel", "kind", "I", false)
  | 36 => ("AskBackModel", "byKey", "I", false)
  | 37 => ("AskBackModel", "byRule", "I", false)
  | 38 => ("AskBackModel", "byAnswer", "I", false)
  | 39 => ("AskBackModel", "goes", "I", false)
  | 40 => ("AskBackModel", "order", "[I", true)
  | 41 => ("AskBackModel", "toldLine", "[J", true)
  | 42 => ("AskBackModel", "toldMany", "I", false)
  | 43 => ("AskBackModel", "toldKind", "I", false)
  | 44 => ("AskBackModel", "toldKey", "I", false)
  | 45 => ("AskBackModel", "toldRule", "I", false)
  | 46 => ("AskBackModel", "toldAnswer", "I", false)
  | 47 => ("AskBackModel", "toldGoes", "I", false)
  | 48 => ("AskBackModel", "talk", "[J", true)
  | 49 => ("AskBackModel", "talkKind", "[I", true)
  | 50 => ("AskBackModel", "isLeft", "[Z", true)
  | 51 => ("AskBackModel", "talkMany", "I", false)
  | 52 => ("AskBackModel", "rowOf", "[I", true)
  | 53 => ("AskBackModel", "ledRow", "[I", true)
  | 54 => ("AskBackModel", "ledMany", "I", false)
  | 55 => ("AskBackModel", "states", "[J", true)
  | 56 => ("AskBackModel", "ringFrom", "I", false)
  | 57 => ("AskBackModel", "ringLong", "I", false)
  | 58 => ("AskBackModel", "whole", "[J", true)
  | 59 => ("AskBackModel", "leastTold", "I", false)
  | 60 => ("AskBackModel", "orderMany", "I", false)
  | 61 => ("AskBackModel", "orderKeys", "I", false)
  | 62 => ("AskBackModel", "aheadOf", "[I", true)
  | 63 => ("AskBackModel", "place", "[I", true)
  | _ => ("AskBackModel", "marks", "I", false)
def tyX12 : Nat → FieldType := fun k => match k with
  | 0 => .array .long
  | 1 => .int
  | 2 => .long
  | 3 => .long
  | 4 => .array .int
  | 5 => .array .int
  | 6 => .array .long
  | 7 => .array .byte
  | 8 => .array .byte
  | 9 => .int
  | 10 => .int
  | 11 => .int
  | 12 => .int
  | 13 => .int
  | 14 => .int
  | 15 => .int
  | 16 => .int
  | 17 => .int
  | 18 => .array .long
  | 19 => .int
  | 20 => .int
  | 21 => .array .boolean
  | 22 => .array .int
  | 23 => .array .int
  | 24 => .array .int
  | 25 => .array .int
  | 26 => .array .long
  | 27 => .array .long
  | 28 => .int
  | 29 => .int
  | 30 => .int
  | 31 => .int
  | 32 => .int
  | 33 => .boolean
  | 34 => .array .int
  | 35 => .int
  | 36 => .int
  | 37 => .int
  | 38 => .int
  | 39 => .int
  | 40 => .array .int
  | 41 => .array .long
  | 42 => .int
  | 43 => .int
  | 44 => .int
  | 45 => .int
  | 46 => .int
  | 47 => .int
  | 48 => .array .long
  | 49 => .array .int
  | 50 => .array .boolean
  | 51 => .int
  | 52 => .array .int
  | 53 => .array .int
  | 54 => .int
  | 55 => .array .long
  | 56 => .int
  | 57 => .int
  | 58 => .array .long
  | 59 => .int
  | 60 => .int
  | 61 => .int
  | 62 => .array .int
  | 63 => .array .int
  | _ => .int
abbrev wsX120 : List Cond := u_ws RX12 TX12 65
theorem nmX12 : ∀ a, a < 65 → ∀ b, b < 65 → a ≠ b → (TX12 a).2.1 ≠ (TX12 b).2.1 := by decide +kernel
theorem tyX12_ok : ∀ k, k < 65 → parseFieldDescriptor (TX12 k).2.2.1 = some (tyX12 k) := by decide +kernel
abbrev cX12_init : ByteArray := prog_14_method_1_code
def yX12_init : MethodName := ⟨RX12, "<init>", "()V"⟩
abbrev cX12_status : ByteArray := prog_14_method_2_code
def yX12_status : MethodName := ⟨RX12, "status", "()I"⟩
abbrev cX12_top : ByteArray := prog_14_method_3_code
def yX12_top : MethodName := ⟨RX12, "top", "()J"⟩
abbrev cX12_bottom : ByteArray := prog_14_method_4_code
def yX12_bottom : MethodName := ⟨RX12, "bottom", "()J"⟩
abbrev cX12_is : ByteArray := prog_14_method_5_code
def yX12_is : MethodName := ⟨RX12, "is", "(I)Z"⟩
abbrev cX12_refuse : ByteArray := prog_14_method_6_code
def yX12_refuse : MethodName := ⟨RX12, "refuse", "(I)I"⟩
abbrev cX12_gives : ByteArray := prog_14_method_7_code
def yX12_gives : MethodName := ⟨RX12, "gives", "(I)I"⟩
abbrev cX12_givesLong : ByteArray := prog_14_method_8_code
def yX12_givesLong : MethodName := ⟨RX12, "givesLong", "(J)J"⟩
abbrev cX12_isTray : ByteArray := prog_14_method_9_code
def yX12_isTray : MethodName := ⟨RX12, "isTray", "(I)Z"⟩
abbrev cX12_cut : ByteArray := prog_14_method_10_code
def yX12_cut : MethodName := ⟨RX12, "cut", "(JI)J"⟩
abbrev cX12_tray : ByteArray := prog_14_method_11_code
def yX12_tray : MethodName := ⟨RX12, "tray", "(III)Z"⟩
abbrev cX12_wrongPlace : ByteArray := prog_14_method_12_code
def yX12_wrongPlace : MethodName := ⟨RX12, "wrongPlace", "(II)I"⟩
abbrev cX12_write : ByteArray := prog_14_method_13_code
def yX12_write : MethodName := ⟨RX12, "write", "(IIJ)Z"⟩
abbrev cX12_read : ByteArray := prog_14_method_14_code
def yX12_read : MethodName := ⟨RX12, "read", "(II)J"⟩
abbrev cX12_pour : ByteArray := prog_14_method_15_code
def yX12_pour : MethodName := ⟨RX12, "pour", "(IIIII)Z"⟩
abbrev cX12_feed : ByteArray := prog_14_method_16_code
def yX12_feed : MethodName := ⟨RX12, "feed", "(IIIII)I"⟩
abbrev cX12_four : ByteArray := prog_14_method_17_code
def yX12_four : MethodName := ⟨RX12, "four", "(I)V"⟩
abbrev cX12_byteAt : ByteArray := prog_14_method_18_code
def yX12_byteAt : MethodName := ⟨RX12, "byteAt", "(I)I"⟩
abbrev cX12_isSmall : ByteArray := prog_14_method_19_code
def yX12_isSmall : MethodName := ⟨RX12, "isSmall", "(I)Z"⟩
abbrev cX12_isDigit : ByteArray := prog_14_method_20_code
def yX12_isDigit : MethodName := ⟨RX12, "isDigit", "(I)Z"⟩
abbrev cX12_ahead0 : ByteArray := prog_14_method_21_code
def yX12_ahead0 : MethodName := ⟨RX12, "ahead0", "()V"⟩
abbrev cX12_begins : ByteArray := prog_14_method_22_code
def yX12_begins : MethodName := ⟨RX12, "begins", "(I)V"⟩
abbrev cX12_wordHere : ByteArray := prog_14_method_23_code
def yX12_wordHere : MethodName := ⟨RX12, "wordHere", "()J"⟩
abbrev cX12_fails : ByteArray := prog_14_method_24_code
def yX12_fails : MethodName := ⟨RX12, "fails", "(I)Z"⟩
abbrev cX12_lineAt : ByteArray := prog_14_method_25_code
def yX12_lineAt : MethodName := ⟨RX12, "lineAt", "(I)I"⟩
abbrev cX12_isLine : ByteArray := prog_14_method_26_code
def yX12_isLine : MethodName := ⟨RX12, "isLine", "(J)Z"⟩
abbrev cX12_readsLine : ByteArray := prog_14_method_27_code
def yX12_readsLine : MethodName := ⟨RX12, "readsLine", "()I"⟩
abbrev cX12_line : ByteArray := prog_14_method_28_code
def yX12_line : MethodName := ⟨RX12, "line", "(I)I"⟩
abbrev cX12_word : ByteArray := prog_14_method_29_code
def yX12_word : MethodName := ⟨RX12, "word", "(II)J"⟩
abbrev cX12_keyWord : ByteArray := prog_14_method_30_code
def yX12_keyWord : MethodName := ⟨RX12, "keyWord", "()I"⟩
abbrev cX12_isName : ByteArray := prog_14_method_31_code
def yX12_isName : MethodName := ⟨RX12, "isName", "()Z"⟩
abbrev cX12_isSign : ByteArray := prog_14_method_32_code
def yX12_isSign : MethodName := ⟨RX12, "isSign", "(I)Z"⟩
abbrev cX12_wantWord : ByteArray := prog_14_method_33_code
def yX12_wantWord : MethodName := ⟨RX12, "wantWord", "(I)Z"⟩
abbrev cX12_keyNamed : ByteArray := prog_14_method_34_code
def yX12_keyNamed : MethodName := ⟨RX12, "keyNamed", "(IJ)I"⟩
abbrev cX12_aTurn : ByteArray := prog_14_method_35_code
def yX12_aTurn : MethodName := ⟨RX12, "aTurn", "()Z"⟩
abbrev cX12_aKey : ByteArray := prog_14_method_36_code
def yX12_aKey : MethodName := ⟨RX12, "aKey", "()Z"⟩
abbrev cX12_answer : ByteArray := prog_14_method_37_code
def yX12_answer : MethodName := ⟨RX12, "answer", "(IZ)Z"⟩
abbrev cX12_answers : ByteArray := prog_14_method_38_code
def yX12_answers : MethodName := ⟨RX12, "answers", "(IZ)Z"⟩
abbrev cX12_aRule : ByteArray := prog_14_method_39_code
def yX12_aRule : MethodName := ⟨RX12, "aRule", "(Z)Z"⟩
abbrev cX12_aNone : ByteArray := prog_14_method_40_code
def yX12_aNone : MethodName := ⟨RX12, "aNone", "()Z"⟩
abbrev cX12_part : ByteArray := prog_14_method_41_code
def yX12_part : MethodName := ⟨RX12, "part", "()Z"⟩
abbrev cX12_leads : ByteArray := prog_14_method_42_code
def yX12_leads : MethodName := ⟨RX12, "leads", "(I)V"⟩
abbrev cX12_isScript : ByteArray := prog_14_method_43_code
def yX12_isScript : MethodName := ⟨RX12, "isScript", "(I)Z"⟩
abbrev cX12_fresh : ByteArray := prog_14_method_44_code
def yX12_fresh : MethodName := ⟨RX12, "fresh", "(I)V"⟩
abbrev cX12_copies : ByteArray := prog_14_method_45_code
def yX12_copies : MethodName := ⟨RX12, "copies", "(III)V"⟩
abbrev cX12_script : ByteArray := prog_14_method_46_code
def yX12_script : MethodName := ⟨RX12, "script", "(II)I"⟩
abbrev cX12_fault : ByteArray := prog_14_method_47_code
def yX12_fault : MethodName := ⟨RX12, "fault", "(I)I"⟩
abbrev cX12_count : ByteArray := prog_14_method_48_code
def yX12_count : MethodName := ⟨RX12, "count", "(II)I"⟩
abbrev cX12_rule : ByteArray := prog_14_method_49_code
def yX12_rule : MethodName := ⟨RX12, "rule", "(III)I"⟩
abbrev cX12_hears : ByteArray := prog_14_method_50_code
def yX12_hears : MethodName := ⟨RX12, "hears", "(I)V"⟩
abbrev cX12_fits : ByteArray := prog_14_method_51_code
def yX12_fits : MethodName := ⟨RX12, "fits", "(II)Z"⟩
abbrev cX12_fit : ByteArray := prog_14_method_52_code
def yX12_fit : MethodName := ⟨RX12, "fit", "(III)I"⟩
abbrev cX12_gap : ByteArray := prog_14_method_53_code
def yX12_gap : MethodName := ⟨RX12, "gap", "(II)I"⟩
abbrev cX12_isWordNumber : ByteArray := prog_14_method_54_code
def yX12_isWordNumber : MethodName := ⟨RX12, "isWordNumber", "(J)Z"⟩
abbrev cX12_turns : ByteArray := prog_14_method_55_code
def yX12_turns : MethodName := ⟨RX12, "turns", "(IJ)J"⟩
abbrev cX12_turned : ByteArray := prog_14_method_56_code
def yX12_turned : MethodName := ⟨RX12, "turned", "(IJ)J"⟩
abbrev cX12_begin : ByteArray := prog_14_method_57_code
def yX12_begin : MethodName := ⟨RX12, "begin", "(I)Z"⟩
abbrev cX12_says : ByteArray := prog_14_method_58_code
def yX12_says : MethodName := ⟨RX12, "says", "(J)V"⟩
abbrev cX12_makes : ByteArray := prog_14_method_59_code
def yX12_makes : MethodName := ⟨RX12, "makes", "(II)Z"⟩
abbrev cX12_placeOf : ByteArray := prog_14_method_60_code
def yX12_placeOf : MethodName := ⟨RX12, "placeOf", "(J)I"⟩
abbrev cX12_isAhead : ByteArray := prog_14_method_61_code
def yX12_isAhead : MethodName := ⟨RX12, "isAhead", "(III)Z"⟩
abbrev cX12_keysHeard : ByteArray := prog_14_method_62_code
def yX12_keysHeard : MethodName := ⟨RX12, "keysHeard", "(I)I"⟩
abbrev cX12_remembers : ByteArray := prog_14_method_63_code
def yX12_remembers : MethodName := ⟨RX12, "remembers", "(I)V"⟩
abbrev cX12_forgets : ByteArray := prog_14_method_64_code
def yX12_forgets : MethodName := ⟨RX12, "forgets", "(I)V"⟩
abbrev cX12_firstOf : ByteArray := prog_14_method_65_code
def yX12_firstOf : MethodName := ⟨RX12, "firstOf", "(II)I"⟩
abbrev cX12_whose : ByteArray := prog_14_method_66_code
def yX12_whose : MethodName := ⟨RX12, "whose", "(II)I"⟩
abbrev cX12_follows : ByteArray := prog_14_method_67_code
def yX12_follows : MethodName := ⟨RX12, "follows", "(II)Z"⟩
abbrev cX12_leadsOn : ByteArray := prog_14_method_68_code
def yX12_leadsOn : MethodName := ⟨RX12, "leadsOn", "(II)I"⟩
abbrev cX12_answers0 : ByteArray := prog_14_method_69_code
def yX12_answers0 : MethodName := ⟨RX12, "answers0", "(I)V"⟩
abbrev cX12_byNone : ByteArray := prog_14_method_70_code
def yX12_byNone : MethodName := ⟨RX12, "byNone", "(I)V"⟩
abbrev cX12_say : ByteArray := prog_14_method_71_code
def yX12_say : MethodName := ⟨RX12, "say", "(II)I"⟩
abbrev cX12_said : ByteArray := prog_14_method_72_code
def yX12_said : MethodName := ⟨RX12, "said", "(I)J"⟩
abbrev cX12_how : ByteArray := prog_14_method_73_code
def yX12_how : MethodName := ⟨RX12, "how", "(I)I"⟩
abbrev cX12_remembered : ByteArray := prog_14_method_74_code
def yX12_remembered : MethodName := ⟨RX12, "remembered", "(III)J"⟩
abbrev cX12_wrongLines : ByteArray := prog_14_method_75_code
def yX12_wrongLines : MethodName := ⟨RX12, "wrongLines", "(ZIII)I"⟩
abbrev cX12_works : ByteArray := prog_14_method_76_code
def yX12_works : MethodName := ⟨RX12, "works", "(II)V"⟩
abbrev cX12_hearsOf : ByteArray := prog_14_method_77_code
def yX12_hearsOf : MethodName := ⟨RX12, "hearsOf", "(II)V"⟩
abbrev cX12_talk : ByteArray := prog_14_method_78_code
def yX12_talk : MethodName := ⟨RX12, "talk", "(III)I"⟩
abbrev cX12_spoken : ByteArray := prog_14_method_79_code
def yX12_spoken : MethodName := ⟨RX12, "spoken", "(II)J"⟩
abbrev cX12_isSaid : ByteArray := prog_14_method_80_code
def yX12_isSaid : MethodName := ⟨RX12, "isSaid", "(I)Z"⟩
abbrev cX12_lead : ByteArray := prog_14_method_81_code
def yX12_lead : MethodName := ⟨RX12, "lead", "(IIII)I"⟩
abbrev cX12_led : ByteArray := prog_14_method_82_code
def yX12_led : MethodName := ⟨RX12, "led", "(I)I"⟩
abbrev cX12_keeps : ByteArray := prog_14_method_83_code
def yX12_keeps : MethodName := ⟨RX12, "keeps", "(II)V"⟩
abbrev cX12_cameAt : ByteArray := prog_14_method_84_code
def yX12_cameAt : MethodName := ⟨RX12, "cameAt", "(I)I"⟩
abbrev cX12_face : ByteArray := prog_14_method_85_code
def yX12_face : MethodName := ⟨RX12, "face", "(IIII)I"⟩
abbrev cX12_ring : ByteArray := prog_14_method_86_code
def yX12_ring : MethodName := ⟨RX12, "ring", "(I)I"⟩
abbrev cX12_broken : ByteArray := prog_14_method_87_code
def yX12_broken : MethodName := ⟨RX12, "broken", "(JJ)I"⟩
abbrev cX12_breaks : ByteArray := prog_14_method_88_code
def yX12_breaks : MethodName := ⟨RX12, "breaks", "(JJ)Z"⟩
abbrev cX12_brokenBy : ByteArray := prog_14_method_89_code
def yX12_brokenBy : MethodName := ⟨RX12, "brokenBy", "(III)I"⟩
abbrev cX12_broke : ByteArray := prog_14_method_90_code
def yX12_broke : MethodName := ⟨RX12, "broke", "(III)I"⟩
abbrev cX12_mend : ByteArray := prog_14_method_91_code
def yX12_mend : MethodName := ⟨RX12, "mend", "(IIII)I"⟩
abbrev cX12_ahead1 : ByteArray := prog_14_method_92_code
def yX12_ahead1 : MethodName := ⟨RX12, "ahead1", "(I)I"⟩
abbrev cX12_doubt : ByteArray := prog_14_method_93_code
def yX12_doubt : MethodName := ⟨RX12, "doubt", "(I)I"⟩
abbrev cX12_odds : ByteArray := prog_14_method_94_code
def yX12_odds : MethodName := ⟨RX12, "odds", "(I)Z"⟩
abbrev cX12_isAgainst : ByteArray := prog_14_method_95_code
def yX12_isAgainst : MethodName := ⟨RX12, "isAgainst", "(II)Z"⟩
abbrev cX12_claim : ByteArray := prog_14_method_96_code
def yX12_claim : MethodName := ⟨RX12, "claim", "(I)I"⟩
abbrev cX12_bits : ByteArray := prog_14_method_97_code
def yX12_bits : MethodName := ⟨RX12, "bits", "(I)I"⟩
abbrev cX12_saysWhole : ByteArray := prog_14_method_98_code
def yX12_saysWhole : MethodName := ⟨RX12, "saysWhole", "(III)Z"⟩
abbrev cX12_least : ByteArray := prog_14_method_99_code
def yX12_least : MethodName := ⟨RX12, "least", "(III)I"⟩
abbrev cX12_leastSet : ByteArray := prog_14_method_100_code
def yX12_leastSet : MethodName := ⟨RX12, "leastSet", "()I"⟩
abbrev cX12_saysTalk : ByteArray := prog_14_method_101_code
def yX12_saysTalk : MethodName := ⟨RX12, "saysTalk", "(I)Z"⟩
abbrev cX12_orders : ByteArray := prog_14_method_102_code
def yX12_orders : MethodName := ⟨RX12, "orders", "(I)I"⟩
abbrev cX12_ahead : ByteArray := prog_14_method_103_code
def yX12_ahead : MethodName := ⟨RX12, "ahead", "(II)I"⟩
abbrev cX12_many : ByteArray := prog_14_method_104_code
def yX12_many : MethodName := ⟨RX12, "many", "(I)I"⟩
abbrev cX12_leave : ByteArray := prog_14_method_105_code
def yX12_leave : MethodName := ⟨RX12, "leave", "(IZ)Z"⟩
abbrev cX12_heard : ByteArray := prog_14_method_106_code
def yX12_heard : MethodName := ⟨RX12, "heard", "(J)I"⟩
abbrev cX12_mark : ByteArray := prog_14_method_107_code
def yX12_mark : MethodName := ⟨RX12, "mark", "()I"⟩
abbrev cX12_back : ByteArray := prog_14_method_108_code
def yX12_back : MethodName := ⟨RX12, "back", "()I"⟩
def RJ6 : String := "java/lang/Integer"
def TJ6 : u_T := fun k => match k with
  | _ => ("", "", "", false)
def tyJ6 : Nat → FieldType := fun k => match k with
  | _ => .int
abbrev wsJ60 : List Cond := u_ws RJ6 TJ6 0
theorem nmJ6 : ∀ a, a < 0 → ∀ b, b < 0 → a ≠ b → (TJ6 a).2.1 ≠ (TJ6 b).2.1 := by decide +kernel
theorem tyJ6_ok : ∀ k, k < 0 → parseFieldDescriptor (TJ6 k).2.2.1 = some (tyJ6 k) := by decide +kernel
abbrev cJ6_bitCount_0f7a4 : ByteArray := prog_15_method_49_code
def yJ6_bitCount_0f7a4 : MethodName := ⟨RJ6, "bitCount", "(I)I"⟩
def RJ9 : String := "java/lang/Math"
def TJ9 : u_T := fun k => match k with
  | _ => ("", "", "", false)
def tyJ9 : Nat → FieldType := fun k => match k with
  | _ => .int
abbrev wsJ90 : List Cond := u_ws RJ9 TJ9 0
theorem nmJ9 : ∀ a, a < 0 → ∀ b, b < 0 → a ≠ b → (TJ9 a).2.1 ≠ (TJ9 b).2.1 := by decide +kernel
theorem tyJ9_ok : ∀ k, k < 0 → parseFieldDescriptor (TJ9 k).2.2.1 = some (tyJ9 k) := by decide +kernel
abbrev cJ9_min_7cf53 : ByteArray := prog_16_method_69_code
def yJ9_min_7cf53 : MethodName := ⟨RJ9, "min", "(II)I"⟩
def RJ0 : String := "java/lang/String"
def TJ0 : u_T := fun k => match k with
  | _ => ("", "", "", false)
def tyJ0 : Nat → FieldType := fun k => match k with
  | _ => .int
abbrev wsJ00 : List Cond := u_ws RJ0 TJ0 0
theorem nmJ0 : ∀ a, a < 0 → ∀ b, b < 0 → a ≠ b → (TJ0 a).2.1 ≠ (TJ0 b).2.1 := by decide +kernel
theorem tyJ0_ok : ∀ k, k < 0 → parseFieldDescriptor (TJ0 k).2.2.1 = some (tyJ0 k) := by decide +kernel
abbrev cJ0_length_8abf5 : ByteArray := prog_17_method_54_code
def yJ0_length_8abf5 : MethodName := ⟨RJ0, "length", "()I"⟩
abbrev cJ0_charAt_5068e : ByteArray := prog_17_method_56_code
def yJ0_charAt_5068e : MethodName := ⟨RJ0, "charAt", "(I)C"⟩
abbrev cJ0_coder_7d493 : ByteArray := prog_17_method_152_code
def yJ0_coder_7d493 : MethodName := ⟨RJ0, "coder", "()B"⟩
abbrev cJ0_isLatin1_aae02 : ByteArray := prog_17_method_154_code
def yJ0_isLatin1_aae02 : MethodName := ⟨RJ0, "isLatin1", "()Z"⟩
abbrev cJ0_checkIndex_df160 : ByteArray := prog_17_method_155_code
def yJ0_checkIndex_df160 : MethodName := ⟨RJ0, "checkIndex", "(II)V"⟩
def RJ1 : String := "java/lang/StringLatin1"
def TJ1 : u_T := fun k => match k with
  | _ => ("", "", "", false)
def tyJ1 : Nat → FieldType := fun k => match k with
  | _ => .int
abbrev wsJ10 : List Cond := u_ws RJ1 TJ1 0
theorem nmJ1 : ∀ a, a < 0 → ∀ b, b < 0 → a ≠ b → (TJ1 a).2.1 ≠ (TJ1 b).2.1 := by decide +kernel
theorem tyJ1_ok : ∀ k, k < 0 → parseFieldDescriptor (TJ1 k).2.2.1 = some (tyJ1 k) := by decide +kernel
abbrev cJ1_charAt_3b067 : ByteArray := prog_18_method_2_code
def yJ1_charAt_3b067 : MethodName := ⟨RJ1, "charAt", "([BI)C"⟩
def RJ2 : String := "java/lang/StringUTF16"
def TJ2 : u_T := fun k => match k with
  | _ => ("", "", "", false)
def tyJ2 : Nat → FieldType := fun k => match k with
  | _ => .int
abbrev wsJ20 : List Cond := u_ws RJ2 TJ2 0
theorem nmJ2 : ∀ a, a < 0 → ∀ b, b < 0 → a ≠ b → (TJ2 a).2.1 ≠ (TJ2 b).2.1 := by decide +kernel
theorem tyJ2_ok : ∀ k, k < 0 → parseFieldDescriptor (TJ2 k).2.2.1 = some (tyJ2 k) := by decide +kernel
abbrev cJ2_getChar_3b067 : ByteArray := prog_19_method_5_code
def yJ2_getChar_3b067 : MethodName := ⟨RJ2, "getChar", "([BI)C"⟩
abbrev cJ2_length_9d52b : ByteArray := prog_19_method_6_code
def yJ2_length_9d52b : MethodName := ⟨RJ2, "length", "([B)I"⟩
abbrev cJ2_charAt_3b067 : ByteArray := prog_19_method_83_code
def yJ2_charAt_3b067 : MethodName := ⟨RJ2, "charAt", "([BI)C"⟩
abbrev cJ2_checkIndex_2214a : ByteArray := prog_19_method_91_code
def yJ2_checkIndex_2214a : MethodName := ⟨RJ2, "checkIndex", "(I[B)V"⟩
def RJ10 : String := "java/lang/System"
def TJ10 : u_T := fun k => match k with
  | _ => ("", "", "", false)
def tyJ10 : Nat → FieldType := fun k => match k with
  | _ => .int
abbrev wsJ100 : List Cond := u_ws RJ10 TJ10 0
theorem nmJ10 : ∀ a, a < 0 → ∀ b, b < 0 → a ≠ b → (TJ10 a).2.1 ≠ (TJ10 b).2.1 := by decide +kernel
theorem tyJ10_ok : ∀ k, k < 0 → parseFieldDescriptor (TJ10 k).2.2.1 = some (tyJ10 k) := by decide +kernel
def RJ3 : String := "jdk/internal/util/Preconditions"
def TJ3 : u_T := fun k => match k with
  | _ => ("", "", "", false)
def tyJ3 : Nat → FieldType := fun k => match k with
  | _ => .int
abbrev wsJ30 : List Cond := u_ws RJ3 TJ3 0
theorem nmJ3 : ∀ a, a < 0 → ∀ b, b < 0 → a ≠ b → (TJ3 a).2.1 ≠ (TJ3 b).2.1 := by decide +kernel
theorem tyJ3_ok : ∀ k, k < 0 → parseFieldDescriptor (TJ3 k).2.2.1 = some (tyJ3 k) := by decide +kernel
abbrev cJ3_checkIndex_8e157 : ByteArray := prog_21_method_11_code
def yJ3_checkIndex_8e157 : MethodName := ⟨RJ3, "checkIndex", "(IILjava/util/function/BiFunction;)I"⟩
def RL : String := "AskBackLaw"
abbrev cL_law : ByteArray := code
def yL_law : MethodName := ⟨RL, "law", "([I)Z"⟩
def wsL_law_r1 : List Cond := [Cond.classLink RL 7 RX11, Cond.instantiable RX11 17, Cond.initialized RX11, Cond.classLink RL 10 RX12, Cond.instantiable RX12 65, Cond.initialized RX12, Cond.constantLong RL 32 (4294967295), Cond.methodLink RL 9 yX11_init, Cond.instanceMethod yX11_init, Cond.code yX11_init cX11_init 2 none, Cond.methodLink RX11 3 objectInit, Cond.instanceMethod objectInit, Cond.code objectInit ⟨#[0xb1]⟩ 1 none, Cond.classLink RX11 9 RX10, Cond.fieldLink RX11 11 "AskBack" "trays" "[LAskBack$Tray;", Cond.arrayClass .byte, Cond.fieldLink RX11 15 "AskBack" "tape" "[B", Cond.classLink RX11 19 RX3, Cond.instantiable RX3 14, Cond.initialized RX3, Cond.fieldLink RX11 22 "AskBack" "reader" "LAskBack$Reader;", Cond.classLink RX11 26 RX0, Cond.instantiable RX0 7, Cond.initialized RX0]
def wsL_law_r2 : List Cond := [Cond.fieldLink RX11 29 "AskBack" "book" "LAskBack$Book;", Cond.fieldLink RX11 33 "AskBack" "marks" "[LAskBack$Book;", Cond.classLink RX11 37 RX9, Cond.instantiable RX9 5, Cond.initialized RX9, Cond.fieldLink RX11 40 "AskBack" "talk" "LAskBack$Talk;", Cond.classLink RX11 44 RX7, Cond.instantiable RX7 17, Cond.initialized RX7, Cond.fieldLink RX11 47 "AskBack" "search" "LAskBack$Search;", Cond.classLink RX11 51 RX4, Cond.instantiable RX4 2, Cond.initialized RX4, Cond.fieldLink RX11 54 "AskBack" "saidWords" "LAskBack$Row;", Cond.arrayClass .int, Cond.fieldLink RX11 58 "AskBack" "saidTold" "[I", Cond.fieldLink RX11 62 "AskBack" "gaps" "[I", Cond.fieldLink RX11 65 "AskBack" "tapeSize" "I", Cond.fieldLink RX11 69 "AskBack" "markCount" "I", Cond.fieldLink RX11 72 "AskBack" "gapCount" "I", Cond.fieldLink RX11 75 "AskBack" "anySaid" "Z", Cond.fieldLink RX11 79 "AskBack" "status" "I", Cond.fieldLink RX11 82 "AskBack" "top" "J", Cond.fieldLink RX11 86 "AskBack" "bottom" "J"]
def wsL_law_r3 : List Cond := [Cond.instantiable RX10 3, Cond.initialized RX10, Cond.instanceMethod yX3_init, Cond.code yX3_init cX3_init 1 none, Cond.methodLink RX3 3 objectInit, Cond.classLink RX3 9 RX4, Cond.fieldLink RX3 12 "AskBack$Reader" "line" "LAskBack$Row;", Cond.classLink RX3 18 RX6, Cond.instantiable RX6 19, Cond.initialized RX6, Cond.fieldLink RX3 21 "AskBack$Reader" "script" "LAskBack$Script;", Cond.fieldLink RX3 25 "AskBack$Reader" "faultKind" "I", Cond.fieldLink RX3 29 "AskBack$Reader" "faultPlace" "I", Cond.fieldLink RX3 32 "AskBack$Reader" "kinds" "[I", Cond.fieldLink RX3 36 "AskBack$Reader" "starts" "[I", Cond.fieldLink RX3 39 "AskBack$Reader" "sizes" "[I", Cond.arrayClass .long, Cond.fieldLink RX3 42 "AskBack$Reader" "values" "[J", Cond.fieldLink RX3 46 "AskBack$Reader" "tokenCount" "I", Cond.fieldLink RX3 49 "AskBack$Reader" "goTokens" "[I", Cond.fieldLink RX3 52 "AskBack$Reader" "goSlots" "[I", Cond.fieldLink RX3 55 "AskBack$Reader" "goCount" "I", Cond.fieldLink RX3 58 "AskBack$Reader" "at" "I", Cond.fieldLink RX3 61 "AskBack$Reader" "gapCount" "I"]
def wsL_law_r4 : List Cond := [Cond.instanceMethod yX4_init, Cond.code yX4_init cX4_init 1 none, Cond.methodLink RX4 3 objectInit, Cond.fieldLink RX4 9 "AskBack$Row" "words" "[J", Cond.fieldLink RX4 15 "AskBack$Row" "size" "I", Cond.instanceMethod yX6_init, Cond.code yX6_init cX6_init 1 none, Cond.methodLink RX6 3 objectInit, Cond.fieldLink RX6 9 "AskBack$Script" "parts" "[J", Cond.fieldLink RX6 15 "AskBack$Script" "keyNames" "[J", Cond.fieldLink RX6 18 "AskBack$Script" "keyRanks" "[I", Cond.fieldLink RX6 22 "AskBack$Script" "keyStarts" "[I", Cond.fieldLink RX6 25 "AskBack$Script" "keyEnds" "[I", Cond.fieldLink RX6 28 "AskBack$Script" "turnFrom" "[J", Cond.fieldLink RX6 31 "AskBack$Script" "turnTo" "[J", Cond.fieldLink RX6 34 "AskBack$Script" "ruleKeys" "[I", Cond.fieldLink RX6 37 "AskBack$Script" "itemStarts" "[I", Cond.fieldLink RX6 40 "AskBack$Script" "itemCounts" "[I", Cond.fieldLink RX6 43 "AskBack$Script" "answerCounts" "[I", Cond.fieldLink RX6 46 "AskBack$Script" "answerStarts" "[I", Cond.fieldLink RX6 49 "AskBack$Script" "answerSizes" "[I", Cond.fieldLink RX6 52 "AskBack$Script" "answerGoes" "[I", Cond.fieldLink RX6 55 "AskBack$Script" "partCount" "I", Cond.fieldLink RX6 59 "AskBack$Script" "keyCount" "I"]
def wsL_law_r5 : List Cond := [Cond.fieldLink RX6 62 "AskBack$Script" "turnCount" "I", Cond.fieldLink RX6 65 "AskBack$Script" "ruleCount" "I", Cond.fieldLink RX6 68 "AskBack$Script" "keepSet" "I", Cond.methodLink RX11 28 yX0_init, Cond.instanceMethod yX0_init, Cond.code yX0_init cX0_init 2 none, Cond.methodLink RX0 3 objectInit, Cond.classLink RX0 9 RX6, Cond.fieldLink RX0 11 "AskBack$Book" "scripts" "[LAskBack$Script;", Cond.classLink RX0 17 RX8, Cond.fieldLink RX0 19 "AskBack$Book" "states" "[LAskBack$State;", Cond.classLink RX0 23 RX4, Cond.fieldLink RX0 25 "AskBack$Book" "lines" "[LAskBack$Row;", Cond.fieldLink RX0 29 "AskBack$Book" "firsts" "[J", Cond.fieldLink RX0 33 "AskBack$Book" "seconds" "[J", Cond.fieldLink RX0 36 "AskBack$Book" "lineCount" "I", Cond.fieldLink RX0 40 "AskBack$Book" "coupleCount" "I", Cond.instantiable RX8 3, Cond.initialized RX8, Cond.methodLink RX0 44 yX8_init, Cond.instanceMethod yX8_init, Cond.code yX8_init cX8_init 2 none, Cond.methodLink RX8 3 objectInit, Cond.classLink RX8 9 RX4]
def wsL_law_r6 : List Cond := [Cond.fieldLink RX8 11 "AskBack$State" "kept" "[LAskBack$Row;", Cond.fieldLink RX8 17 "AskBack$State" "keptCount" "I", Cond.fieldLink RX8 21 "AskBack$State" "turns" "J", Cond.methodLink RX11 39 yX9_init, Cond.instanceMethod yX9_init, Cond.code yX9_init cX9_init 2 none, Cond.methodLink RX9 3 objectInit, Cond.classLink RX9 9 RX4, Cond.fieldLink RX9 11 "AskBack$Talk" "lines" "[LAskBack$Row;", Cond.fieldLink RX9 17 "AskBack$Talk" "sayings" "[LAskBack$Row;", Cond.arrayClass .boolean, Cond.fieldLink RX9 20 "AskBack$Talk" "unread" "[Z", Cond.fieldLink RX9 24 "AskBack$Talk" "kinds" "[I", Cond.fieldLink RX9 28 "AskBack$Talk" "size" "I", Cond.methodLink RX11 46 yX7_init, Cond.instanceMethod yX7_init, Cond.code yX7_init cX7_init 4 none, Cond.methodLink RX7 3 objectInit, Cond.classLink RX7 9 RX1, Cond.fieldLink RX7 11 "AskBack$Search" "ears" "[LAskBack$Ear;", Cond.fieldLink RX7 17 "AskBack$Search" "path" "[I", Cond.fieldLink RX7 21 "AskBack$Search" "led" "[I", Cond.fieldLink RX7 24 "AskBack$Search" "ledSize" "I", Cond.fieldLink RX7 28 "AskBack$Search" "ringAhead" "I"]
def wsL_law_r7 : List Cond := [Cond.fieldLink RX7 31 "AskBack$Search" "ringSize" "I", Cond.fieldLink RX7 34 "AskBack$Search" "mendCount" "I", Cond.fieldLink RX7 37 "AskBack$Search" "mendFirst" "I", Cond.fieldLink RX7 40 "AskBack$Search" "leastRules" "I", Cond.fieldLink RX7 43 "AskBack$Search" "orderedKeys" "I", Cond.fieldLink RX7 46 "AskBack$Search" "aheads" "[I", Cond.classLink RX7 49 RX8, Cond.fieldLink RX7 51 "AskBack$Search" "states" "[LAskBack$State;", Cond.classLink RX7 55 RX4, Cond.fieldLink RX7 57 "AskBack$Search" "wanted" "[LAskBack$Row;", Cond.fieldLink RX7 61 "AskBack$Search" "order" "[I", Cond.fieldLink RX7 65 "AskBack$Search" "heardLast" "LAskBack$Row;", Cond.fieldLink RX7 69 "AskBack$Search" "past" "LAskBack$Past;", Cond.classLink RX7 73 RX6, Cond.instantiable RX1 9, Cond.initialized RX1, Cond.classLink RX7 80 RX5, Cond.instantiable RX5 8, Cond.initialized RX5, Cond.fieldLink RX7 85 "AskBack$Search" "sayer" "LAskBack$Sayer;", Cond.methodLink RX7 76 yX1_init, Cond.instanceMethod yX1_init, Cond.code yX1_init cX1_init 3 none, Cond.methodLink RX1 3 objectInit]
def wsL_law_r8 : List Cond := [Cond.fieldLink RX1 9 "AskBack$Ear" "fitting" "I", Cond.fieldLink RX1 15 "AskBack$Ear" "present" "I", Cond.fieldLink RX1 18 "AskBack$Ear" "order" "[I", Cond.fieldLink RX1 22 "AskBack$Ear" "orderCount" "I", Cond.fieldLink RX1 25 "AskBack$Ear" "gaps" "[I", Cond.fieldLink RX1 28 "AskBack$Ear" "places" "[I", Cond.fieldLink RX1 31 "AskBack$Ear" "starts" "[I", Cond.fieldLink RX1 34 "AskBack$Ear" "script" "LAskBack$Script;", Cond.fieldLink RX1 38 "AskBack$Ear" "line" "LAskBack$Row;", Cond.methodLink RX7 79 yX8_init, Cond.methodLink RX7 82 yX5_init, Cond.instanceMethod yX5_init, Cond.code yX5_init cX5_init 3 none, Cond.methodLink RX5 3 objectInit, Cond.classLink RX5 9 RX4, Cond.fieldLink RX5 12 "AskBack$Sayer" "words" "LAskBack$Row;", Cond.fieldLink RX5 18 "AskBack$Sayer" "told" "[I", Cond.fieldLink RX5 22 "AskBack$Sayer" "rulesOut" "I", Cond.fieldLink RX5 26 "AskBack$Sayer" "turnOut" "I", Cond.fieldLink RX5 29 "AskBack$Sayer" "fitting" "I", Cond.fieldLink RX5 32 "AskBack$Sayer" "ear" "LAskBack$Ear;", Cond.fieldLink RX5 36 "AskBack$Ear" "script" "LAskBack$Script;", Cond.fieldLink RX5 42 "AskBack$Sayer" "script" "LAskBack$Script;", Cond.fieldLink RX5 43 "AskBack$Sayer" "state" "LAskBack$State;"]
def wsL_law_r9 : List Cond := [Cond.instanceMethod yX10_init, Cond.code yX10_init cX10_init 1 none, Cond.methodLink RX10 3 objectInit, Cond.fieldLink RX10 9 "AskBack$Tray" "numbers" "[J", Cond.fieldLink RX10 15 "AskBack$Tray" "size" "I", Cond.fieldLink RX10 19 "AskBack$Tray" "sort" "I", Cond.methodLink RL 12 yX12_init, Cond.instanceMethod yX12_init, Cond.code yX12_init cX12_init 1 none, Cond.methodLink RX12 1 objectInit, Cond.fieldLink RX12 7 "AskBackModel" "at" "[J", Cond.fieldLink RX12 13 "AskBackModel" "bottom" "J", Cond.fieldLink RX12 17 "AskBackModel" "sort" "[I", Cond.fieldLink RX12 21 "AskBackModel" "trayMany" "[I", Cond.fieldLink RX12 24 "AskBackModel" "trays" "[J", Cond.fieldLink RX12 27 "AskBackModel" "tape" "[B", Cond.fieldLink RX12 31 "AskBackModel" "text" "[B", Cond.fieldLink RX12 34 "AskBackModel" "faultKind" "I", Cond.fieldLink RX12 38 "AskBackModel" "faultPlace" "I", Cond.fieldLink RX12 41 "AskBackModel" "reads" "[J", Cond.fieldLink RX12 44 "AskBackModel" "can" "[Z", Cond.fieldLink RX12 48 "AskBackModel" "gapAt" "[I", Cond.fieldLink RX12 51 "AskBackModel" "gapLong" "[I", Cond.fieldLink RX12 54 "AskBackModel" "fitAt" "[I"]
def wsL_law_r10 : List Cond := [Cond.fieldLink RX12 57 "AskBackModel" "fitLong" "[I", Cond.fieldLink RX12 60 "AskBackModel" "heardLine" "[J", Cond.fieldLink RX12 63 "AskBackModel" "saidLine" "[J", Cond.fieldLink RX12 66 "AskBackModel" "fitGaps" "I", Cond.fieldLink RX12 69 "AskBackModel" "noTurn" "I", Cond.fieldLink RX12 72 "AskBackModel" "rankBy" "[I", Cond.fieldLink RX12 75 "AskBackModel" "order" "[I", Cond.fieldLink RX12 78 "AskBackModel" "toldLine" "[J", Cond.fieldLink RX12 81 "AskBackModel" "toldKind" "I", Cond.fieldLink RX12 84 "AskBackModel" "talk" "[J", Cond.fieldLink RX12 87 "AskBackModel" "talkKind" "[I", Cond.fieldLink RX12 90 "AskBackModel" "isLeft" "[Z", Cond.fieldLink RX12 93 "AskBackModel" "rowOf" "[I", Cond.fieldLink RX12 96 "AskBackModel" "ledRow" "[I", Cond.constant RX12 99 (44622), Cond.fieldLink RX12 100 "AskBackModel" "states" "[J", Cond.fieldLink RX12 103 "AskBackModel" "ringFrom" "I", Cond.fieldLink RX12 106 "AskBackModel" "whole" "[J", Cond.fieldLink RX12 109 "AskBackModel" "leastTold" "I", Cond.fieldLink RX12 112 "AskBackModel" "orderMany" "I", Cond.fieldLink RX12 115 "AskBackModel" "aheadOf" "[I", Cond.fieldLink RX12 118 "AskBackModel" "place" "[I", Cond.methodLink RL 13 yX11_status, Cond.instanceMethod yX11_status]
def wsL_law_r11 : List Cond := [Cond.selects RX11 yX11_status yX11_status, Cond.code yX11_status cX11_status 1 (some .int), Cond.methodLink RL 17 yX12_status, Cond.instanceMethod yX12_status, Cond.selects RX12 yX12_status yX12_status, Cond.code yX12_status cX12_status 1 (some .int), Cond.fieldLink RX12 121 "AskBackModel" "status" "I", Cond.methodLink RL 18 yX11_top, Cond.instanceMethod yX11_top, Cond.selects RX11 yX11_top yX11_top, Cond.code yX11_top cX11_top 1 (some .long), Cond.methodLink RL 22 yX12_top, Cond.instanceMethod yX12_top, Cond.selects RX12 yX12_top yX12_top, Cond.code yX12_top cX12_top 1 (some .long), Cond.fieldLink RX12 124 "AskBackModel" "top" "J", Cond.methodLink RL 23 yX11_bottom, Cond.instanceMethod yX11_bottom, Cond.selects RX11 yX11_bottom yX11_bottom, Cond.code yX11_bottom cX11_bottom 1 (some .long), Cond.methodLink RL 26 yX12_bottom, Cond.instanceMethod yX12_bottom, Cond.selects RX12 yX12_bottom yX12_bottom, Cond.code yX12_bottom cX12_bottom 1 (some .long)]
def wsL_law_r12 : List Cond := [Cond.methodLink RL 27 yX11_tray, Cond.instanceMethod yX11_tray, Cond.selects RX11 yX11_tray yX11_tray, Cond.code yX11_tray cX11_tray 4 (some .boolean), Cond.methodLink RX11 90 yX11_isTray, Cond.static yX11_isTray, Cond.code yX11_isTray cX11_isTray 1 (some .boolean), Cond.methodLink RX11 94 yX11_settle, Cond.instanceMethod yX11_settle, Cond.selects RX11 yX11_settle yX11_settle, Cond.code yX11_settle cX11_settle 2 (some .boolean), Cond.methodLink RX11 97 yX10_make, Cond.instanceMethod yX10_make, Cond.selects RX10 yX10_make yX10_make, Cond.code yX10_make cX10_make 4 none, Cond.methodLink RL 31 yX12_tray, Cond.instanceMethod yX12_tray, Cond.selects RX12 yX12_tray yX12_tray, Cond.code yX12_tray cX12_tray 5 (some .boolean), Cond.methodLink RX12 127 yX12_isTray, Cond.static yX12_isTray, Cond.code yX12_isTray cX12_isTray 1 (some .boolean), Cond.methodLink RX12 131 yX12_is, Cond.instanceMethod yX12_is]
def wsL_law_r13 : List Cond := [Cond.selects RX12 yX12_is yX12_is, Cond.code yX12_is cX12_is 2 (some .boolean), Cond.methodLink RL 34 yX11_write, Cond.instanceMethod yX11_write, Cond.selects RX11 yX11_write yX11_write, Cond.code yX11_write cX11_write 6 (some .boolean), Cond.methodLink RX11 101 yX11_placeStatus, Cond.instanceMethod yX11_placeStatus, Cond.selects RX11 yX11_placeStatus yX11_placeStatus, Cond.code yX11_placeStatus cX11_placeStatus 3 (some .int), Cond.methodLink RX11 115 yX10_isMissing, Cond.instanceMethod yX10_isMissing, Cond.selects RX10 yX10_isMissing yX10_isMissing, Cond.code yX10_isMissing cX10_isMissing 1 (some .boolean), Cond.methodLink RX11 122 yX10_holds, Cond.instanceMethod yX10_holds, Cond.selects RX10 yX10_holds yX10_holds, Cond.code yX10_holds cX10_holds 3 (some .boolean), Cond.methodLink RX11 105 yX10_put, Cond.instanceMethod yX10_put, Cond.selects RX10 yX10_put yX10_put, Cond.code yX10_put cX10_put 4 none, Cond.methodLink RX10 22 yX10_holds, Cond.methodLink RX10 28 yX10_cut]
def wsL_law_r14 : List Cond := [Cond.instanceMethod yX10_cut, Cond.selects RX10 yX10_cut yX10_cut, Cond.code yX10_cut cX10_cut 3 (some .long), Cond.methodLink RL 38 yX12_write, Cond.instanceMethod yX12_write, Cond.selects RX12 yX12_write yX12_write, Cond.code yX12_write cX12_write 6 (some .boolean), Cond.methodLink RX12 134 yX12_wrongPlace, Cond.instanceMethod yX12_wrongPlace, Cond.selects RX12 yX12_wrongPlace yX12_wrongPlace, Cond.code yX12_wrongPlace cX12_wrongPlace 3 (some .int), Cond.methodLink RX12 138 yX12_cut, Cond.static yX12_cut, Cond.code yX12_cut cX12_cut 3 (some .long), Cond.methodLink RL 39 yX11_read, Cond.instanceMethod yX11_read, Cond.selects RX11 yX11_read yX11_read, Cond.code yX11_read cX11_read 4 (some .long), Cond.constantLong RX11 113 (-1), Cond.methodLink RX11 109 yX10_at, Cond.instanceMethod yX10_at, Cond.selects RX10 yX10_at yX10_at, Cond.code yX10_at cX10_at 2 (some .long), Cond.constantLong RX10 26 (-1)]
def wsL_law_r15 : List Cond := [Cond.methodLink RL 43 yX12_read, Cond.instanceMethod yX12_read, Cond.selects RX12 yX12_read yX12_read, Cond.code yX12_read cX12_read 3 (some .long), Cond.constantLong RX12 142 (-1), Cond.methodLink RL 44 yX11_pour, Cond.instanceMethod yX11_pour, Cond.selects RX11 yX11_pour yX11_pour, Cond.code yX11_pour cX11_pour 8 (some .boolean), Cond.fieldLink RX11 119 "AskBack$Tray" "sort" "I", Cond.fieldLink RX11 126 "AskBack$Tray" "numbers" "[J", Cond.methodLink RX11 130 arraycopyName, Cond.native arraycopyName, Cond.static arraycopyName, Cond.initialized "java/lang/System", Cond.methodLink RL 48 yX12_pour, Cond.instanceMethod yX12_pour, Cond.selects RX12 yX12_pour yX12_pour, Cond.code yX12_pour cX12_pour 8 (some .boolean), Cond.methodLink RL 49 yX11_feed, Cond.instanceMethod yX11_feed, Cond.selects RX11 yX11_feed yX11_feed, Cond.code yX11_feed cX11_feed 6 (some .int), Cond.methodLink RX11 136 yX11_putOnTape]
def wsL_law_r16 : List Cond := [Cond.instanceMethod yX11_putOnTape, Cond.selects RX11 yX11_putOnTape yX11_putOnTape, Cond.code yX11_putOnTape cX11_putOnTape 3 none, Cond.methodLink RL 53 yX12_feed, Cond.instanceMethod yX12_feed, Cond.selects RX12 yX12_feed yX12_feed, Cond.code yX12_feed cX12_feed 6 (some .int), Cond.fieldLink RX12 144 "AskBackModel" "taped" "I", Cond.methodLink RX12 147 yX12_four, Cond.instanceMethod yX12_four, Cond.selects RX12 yX12_four yX12_four, Cond.code yX12_four cX12_four 3 none, Cond.methodLink RL 54 yX11_line, Cond.instanceMethod yX11_line, Cond.selects RX11 yX11_line yX11_line, Cond.code yX11_line cX11_line 2 (some .int), Cond.fieldLink RX11 148 "AskBack$Book" "lineCount" "I", Cond.fieldLink RX11 151 "AskBack$Reader" "line" "LAskBack$Row;", Cond.methodLink RX11 140 yX11_refuse, Cond.instanceMethod yX11_refuse, Cond.selects RX11 yX11_refuse yX11_refuse, Cond.code yX11_refuse cX11_refuse 2 (some .int), Cond.methodLink RX11 144 yX3_readLine, Cond.instanceMethod yX3_readLine]
def wsL_law_r17 : List Cond := [Cond.selects RX3 yX3_readLine yX3_readLine, Cond.code yX3_readLine cX3_readLine 3 (some .boolean), Cond.fieldLink RX3 79 "AskBack$Row" "size" "I", Cond.methodLink RX3 64 yX3_open, Cond.instanceMethod yX3_open, Cond.selects RX3 yX3_open yX3_open, Cond.code yX3_open cX3_open 3 none, Cond.methodLink RX3 125 yX3_cut, Cond.instanceMethod yX3_cut, Cond.selects RX3 yX3_cut yX3_cut, Cond.code yX3_cut cX3_cut 6 none, Cond.methodLink RX3 128 yX3_kindOf, Cond.static yX3_kindOf, Cond.code yX3_kindOf cX3_kindOf 1 (some .int), Cond.methodLink RX3 132 yX3_lengthenWord, Cond.instanceMethod yX3_lengthenWord, Cond.selects RX3 yX3_lengthenWord yX3_lengthenWord, Cond.code yX3_lengthenWord cX3_lengthenWord 3 none, Cond.methodLink RX3 136 yX3_lengthenNumber, Cond.instanceMethod yX3_lengthenNumber, Cond.selects RX3 yX3_lengthenNumber yX3_lengthenNumber, Cond.code yX3_lengthenNumber cX3_lengthenNumber 3 none, Cond.constantLong RX3 143 (10), Cond.constantLong RX3 145 (48)]
def wsL_law_r18 : List Cond := [Cond.methodLink RX3 139 yX3_openToken, Cond.instanceMethod yX3_openToken, Cond.selects RX3 yX3_openToken yX3_openToken, Cond.code yX3_openToken cX3_openToken 4 none, Cond.methodLink RX3 68 yX4_clear, Cond.instanceMethod yX4_clear, Cond.selects RX4 yX4_clear yX4_clear, Cond.code yX4_clear cX4_clear 1 none, Cond.methodLink RX3 71 yX3_kind, Cond.instanceMethod yX3_kind, Cond.selects RX3 yX3_kind yX3_kind, Cond.code yX3_kind cX3_kind 1 (some .int), Cond.methodLink RX3 75 yX3_fail, Cond.instanceMethod yX3_fail, Cond.selects RX3 yX3_fail yX3_fail, Cond.code yX3_fail cX3_fail 2 (some .boolean), Cond.methodLink RX3 82 yX3_value, Cond.instanceMethod yX3_value, Cond.selects RX3 yX3_value yX3_value, Cond.code yX3_value cX3_value 1 (some .long), Cond.constantLong RX3 147 (-1), Cond.methodLink RX3 86 yX4_add, Cond.instanceMethod yX4_add, Cond.selects RX4 yX4_add yX4_add]
def wsL_law_r19 : List Cond := [Cond.code yX4_add cX4_add 3 none, Cond.methodLink RX11 154 yX0_addLine, Cond.instanceMethod yX0_addLine, Cond.selects RX0 yX0_addLine yX0_addLine, Cond.code yX0_addLine cX0_addLine 2 (some .int), Cond.methodLink RX0 53 yX4_copy, Cond.instanceMethod yX4_copy, Cond.selects RX4 yX4_copy yX4_copy, Cond.code yX4_copy cX4_copy 2 none, Cond.methodLink RX4 21 arraycopyName, Cond.methodLink RX11 158 yX11_grant, Cond.instanceMethod yX11_grant, Cond.selects RX11 yX11_grant yX11_grant, Cond.code yX11_grant cX11_grant 2 (some .int), Cond.methodLink RL 58 yX12_line, Cond.instanceMethod yX12_line, Cond.selects RX12 yX12_line yX12_line, Cond.code yX12_line cX12_line 5 (some .int), Cond.fieldLink RX12 181 "AskBackModel" "faults" "I", Cond.constantLong RX12 204 (16), Cond.methodLink RX12 194 yX12_refuse, Cond.instanceMethod yX12_refuse, Cond.selects RX12 yX12_refuse yX12_refuse, Cond.code yX12_refuse cX12_refuse 2 (some .int)]
def wsL_law_r20 : List Cond := [Cond.methodLink RX12 197 yX12_begins, Cond.instanceMethod yX12_begins, Cond.selects RX12 yX12_begins yX12_begins, Cond.code yX12_begins cX12_begins 3 none, Cond.fieldLink RX12 151 "AskBackModel" "size" "I", Cond.fieldLink RX12 154 "AskBackModel" "end" "I", Cond.methodLink RX12 200 yX12_readsLine, Cond.instanceMethod yX12_readsLine, Cond.selects RX12 yX12_readsLine yX12_readsLine, Cond.code yX12_readsLine cX12_readsLine 2 (some .int), Cond.fieldLink RX12 167 "AskBackModel" "token" "I", Cond.fieldLink RX12 161 "AskBackModel" "from" "I", Cond.methodLink RX12 184 yX12_ahead0, Cond.instanceMethod yX12_ahead0, Cond.selects RX12 yX12_ahead0 yX12_ahead0, Cond.code yX12_ahead0 cX12_ahead0 2 none, Cond.fieldLink RX12 164 "AskBackModel" "value" "I", Cond.methodLink RX12 176 Lib.Math.min.name, Cond.static Lib.Math.min.name, Cond.initialized "java/lang/Math", Cond.code Lib.Math.min.name Lib.Math.min.code 2 (some .int), Cond.methodLink RX12 157 yX12_byteAt, Cond.instanceMethod yX12_byteAt, Cond.selects RX12 yX12_byteAt yX12_byteAt]
def wsL_law_r21 : List Cond := [Cond.code yX12_byteAt cX12_byteAt 2 (some .int), Cond.methodLink RX12 170 yX12_isSmall, Cond.static yX12_isSmall, Cond.code yX12_isSmall cX12_isSmall 1 (some .boolean), Cond.methodLink RX12 173 yX12_isDigit, Cond.static yX12_isDigit, Cond.code yX12_isDigit cX12_isDigit 1 (some .boolean), Cond.methodLink RX12 187 yX12_fails, Cond.instanceMethod yX12_fails, Cond.selects RX12 yX12_fails yX12_fails, Cond.code yX12_fails cX12_fails 2 (some .boolean), Cond.methodLink RX12 190 yX12_wordHere, Cond.instanceMethod yX12_wordHere, Cond.selects RX12 yX12_wordHere yX12_wordHere, Cond.code yX12_wordHere cX12_wordHere 4 (some .long), Cond.methodLink RX12 206 yX12_lineAt, Cond.instanceMethod yX12_lineAt, Cond.selects RX12 yX12_lineAt yX12_lineAt, Cond.code yX12_lineAt cX12_lineAt 2 (some .int), Cond.methodLink RX12 209 yX12_gives, Cond.instanceMethod yX12_gives, Cond.selects RX12 yX12_gives yX12_gives, Cond.code yX12_gives cX12_gives 2 (some .int), Cond.methodLink RL 59 yX11_script]
def wsL_law_r22 : List Cond := [Cond.instanceMethod yX11_script, Cond.selects RX11 yX11_script yX11_script, Cond.code yX11_script cX11_script 5 (some .int), Cond.fieldLink RX11 167 "AskBack$Book" "scripts" "[LAskBack$Script;", Cond.fieldLink RX11 171 "AskBack$Reader" "script" "LAskBack$Script;", Cond.fieldLink RX11 175 "AskBack$Book" "states" "[LAskBack$State;", Cond.fieldLink RX11 184 "AskBack$Script" "ruleCount" "I", Cond.methodLink RX11 161 yX11_isScript, Cond.static yX11_isScript, Cond.code yX11_isScript cX11_isScript 1 (some .boolean), Cond.methodLink RX11 164 yX3_readScript, Cond.instanceMethod yX3_readScript, Cond.selects RX3 yX3_readScript yX3_readScript, Cond.code yX3_readScript cX3_readScript 5 (some .boolean), Cond.constantLong RX3 91 (677454), Cond.constantLong RX3 101 (11449), Cond.constantLong RX3 106 (762030), Cond.constantLong RX3 108 (365744), Cond.constantLong RX3 114 (474565), Cond.methodLink RX3 90 yX6_clear, Cond.instanceMethod yX6_clear, Cond.selects RX6 yX6_clear yX6_clear, Cond.code yX6_clear cX6_clear 2 none, Cond.methodLink RX3 93 yX3_isThe]
def wsL_law_r23 : List Cond := [Cond.instanceMethod yX3_isThe, Cond.selects RX3 yX3_isThe yX3_isThe, Cond.code yX3_isThe cX3_isThe 3 (some .boolean), Cond.methodLink RX3 97 yX3_readTurn, Cond.instanceMethod yX3_readTurn, Cond.selects RX3 yX3_readTurn yX3_readTurn, Cond.code yX3_readTurn cX3_readTurn 3 (some .boolean), Cond.fieldLink RX3 152 "AskBack$Script" "turnCount" "I", Cond.methodLink RX3 155 yX3_isName, Cond.instanceMethod yX3_isName, Cond.selects RX3 yX3_isName yX3_isName, Cond.code yX3_isName cX3_isName 2 (some .boolean), Cond.fieldLink RX3 149 "AskBack$Reader" "NO_NAMES" "[J", Cond.methodLink RX3 119 yX3_misplaced, Cond.instanceMethod yX3_misplaced, Cond.selects RX3 yX3_misplaced yX3_misplaced, Cond.code yX3_misplaced cX3_misplaced 1 (some .boolean), Cond.methodLink RX3 158 yX6_turnNamed, Cond.instanceMethod yX6_turnNamed, Cond.selects RX6 yX6_turnNamed yX6_turnNamed, Cond.code yX6_turnNamed cX6_turnNamed 4 (some .int), Cond.methodLink RX3 162 yX6_addTurn, Cond.instanceMethod yX6_addTurn, Cond.selects RX6 yX6_addTurn yX6_addTurn]
def wsL_law_r24 : List Cond := [Cond.code yX6_addTurn cX6_addTurn 5 none, Cond.methodLink RX3 166 yX3_readEnd, Cond.instanceMethod yX3_readEnd, Cond.selects RX3 yX3_readEnd yX3_readEnd, Cond.code yX3_readEnd cX3_readEnd 1 (some .boolean), Cond.methodLink RX3 103 yX3_readKey, Cond.instanceMethod yX3_readKey, Cond.selects RX3 yX3_readKey yX3_readKey, Cond.code yX3_readKey cX3_readKey 3 (some .boolean), Cond.fieldLink RX3 169 "AskBack$Script" "keyCount" "I", Cond.constantLong RX3 175 (591307), Cond.methodLink RX3 172 yX6_keyNamed, Cond.instanceMethod yX6_keyNamed, Cond.selects RX6 yX6_keyNamed yX6_keyNamed, Cond.code yX6_keyNamed cX6_keyNamed 4 (some .int), Cond.methodLink RX3 177 yX6_addKey, Cond.instanceMethod yX6_addKey, Cond.selects RX6 yX6_addKey yX6_addKey, Cond.code yX6_addKey cX6_addKey 4 none, Cond.methodLink RX3 110 yX3_readRule, Cond.instanceMethod yX3_readRule, Cond.selects RX3 yX3_readRule yX3_readRule, Cond.code yX3_readRule cX3_readRule 3 (some .boolean), Cond.fieldLink RX3 181 "AskBack$Script" "ruleCount" "I"]
def wsL_law_r25 : List Cond := [Cond.constantLong RX3 191 (19513), Cond.methodLink RX3 184 yX6_addRule, Cond.instanceMethod yX6_addRule, Cond.selects RX6 yX6_addRule yX6_addRule, Cond.code yX6_addRule cX6_addRule 2 none, Cond.methodLink RX3 188 yX3_readPattern, Cond.instanceMethod yX3_readPattern, Cond.selects RX3 yX3_readPattern yX3_readPattern, Cond.code yX3_readPattern cX3_readPattern 5 (some .boolean), Cond.constantLong RX3 200 (-2), Cond.methodLink RX3 202 yX6_addItem, Cond.instanceMethod yX6_addItem, Cond.selects RX6 yX6_addItem yX6_addItem, Cond.code yX6_addItem cX6_addItem 4 none, Cond.methodLink RX6 77 yX6_addPart, Cond.instanceMethod yX6_addPart, Cond.selects RX6 yX6_addPart yX6_addPart, Cond.code yX6_addPart cX6_addPart 3 none, Cond.methodLink RX3 193 yX3_readAnswers, Cond.instanceMethod yX3_readAnswers, Cond.selects RX3 yX3_readAnswers yX3_readAnswers, Cond.code yX3_readAnswers cX3_readAnswers 6 (some .boolean), Cond.constantLong RX3 206 (239), Cond.fieldLink RX3 197 "AskBack$Script" "answerCounts" "[I"]
def wsL_law_r26 : List Cond := [Cond.constantLong RX3 214 (498), Cond.methodLink RX3 208 yX3_readGo, Cond.instanceMethod yX3_readGo, Cond.selects RX3 yX3_readGo yX3_readGo, Cond.code yX3_readGo cX3_readGo 2 (some .boolean), Cond.methodLink RX3 211 yX3_readPieces, Cond.instanceMethod yX3_readPieces, Cond.selects RX3 yX3_readPieces yX3_readPieces, Cond.code yX3_readPieces cX3_readPieces 4 (some .boolean), Cond.methodLink RX3 216 yX6_openAnswer, Cond.instanceMethod yX6_openAnswer, Cond.selects RX6 yX6_openAnswer yX6_openAnswer, Cond.code yX6_openAnswer cX6_openAnswer 2 none, Cond.methodLink RX3 219 yX6_addPiece, Cond.instanceMethod yX6_addPiece, Cond.selects RX6 yX6_addPiece yX6_addPiece, Cond.code yX6_addPiece cX6_addPiece 4 none, Cond.methodLink RX3 116 yX3_readNone, Cond.instanceMethod yX3_readNone, Cond.selects RX3 yX3_readNone yX3_readNone, Cond.code yX3_readNone cX3_readNone 1 (some .boolean), Cond.methodLink RX3 122 yX3_findGoes, Cond.instanceMethod yX3_findGoes, Cond.selects RX3 yX3_findGoes yX3_findGoes]
def wsL_law_r27 : List Cond := [Cond.code yX3_findGoes cX3_findGoes 3 (some .boolean), Cond.fieldLink RX3 222 "AskBack$Script" "answerGoes" "[I", Cond.methodLink RX11 179 yX8_refresh, Cond.instanceMethod yX8_refresh, Cond.selects RX8 yX8_refresh yX8_refresh, Cond.code yX8_refresh cX8_refresh 1 none, Cond.methodLink RL 63 yX12_script, Cond.instanceMethod yX12_script, Cond.selects RX12 yX12_script yX12_script, Cond.code yX12_script cX12_script 5 (some .int), Cond.fieldLink RX12 279 "AskBackModel" "goPlace" "I", Cond.methodLink RX12 282 yX12_isScript, Cond.instanceMethod yX12_isScript, Cond.selects RX12 yX12_isScript yX12_isScript, Cond.code yX12_isScript cX12_isScript 2 (some .boolean), Cond.methodLink RX12 285 yX12_part, Cond.instanceMethod yX12_part, Cond.selects RX12 yX12_part yX12_part, Cond.code yX12_part cX12_part 3 (some .boolean), Cond.methodLink RX12 231 yX12_keyWord, Cond.instanceMethod yX12_keyWord, Cond.selects RX12 yX12_keyWord yX12_keyWord, Cond.code yX12_keyWord cX12_keyWord 6 (some .int), Cond.methodLink RX12 222 yJ0_length_8abf5]
def wsL_law_r28 : List Cond := [Cond.instanceMethod yJ0_length_8abf5, Cond.selects RJ0 yJ0_length_8abf5 yJ0_length_8abf5, Cond.initialized RJ0, Cond.code yJ0_length_8abf5 cJ0_length_8abf5 1 (some .int), Cond.fieldLink RJ0 9 "java/lang/String" "value" "[B", Cond.methodLink RJ0 335 yJ0_coder_7d493, Cond.instanceMethod yJ0_coder_7d493, Cond.selects RJ0 yJ0_coder_7d493 yJ0_coder_7d493, Cond.code yJ0_coder_7d493 cJ0_coder_7d493 1 (some .byte), Cond.fieldLink RJ0 38 "java/lang/String" "COMPACT_STRINGS" "Z", Cond.fieldLink RJ0 15 "java/lang/String" "coder" "B", Cond.methodLink RX12 227 yJ0_charAt_5068e, Cond.instanceMethod yJ0_charAt_5068e, Cond.selects RJ0 yJ0_charAt_5068e yJ0_charAt_5068e, Cond.code yJ0_charAt_5068e cJ0_charAt_5068e 2 (some .char), Cond.methodLink RJ0 492 yJ0_isLatin1_aae02, Cond.instanceMethod yJ0_isLatin1_aae02, Cond.selects RJ0 yJ0_isLatin1_aae02 yJ0_isLatin1_aae02, Cond.code yJ0_isLatin1_aae02 cJ0_isLatin1_aae02 1 (some .boolean), Cond.methodLink RJ0 495 yJ1_charAt_3b067, Cond.static yJ1_charAt_3b067, Cond.initialized RJ1, Cond.code yJ1_charAt_3b067 cJ1_charAt_3b067 2 (some .char), Cond.methodLink RJ1 9 yJ0_checkIndex_df160]
def wsL_law_r29 : List Cond := [Cond.static yJ0_checkIndex_df160, Cond.code yJ0_checkIndex_df160 cJ0_checkIndex_df160 2 none, Cond.fieldLink RJ0 1053 "jdk/internal/util/Preconditions" "SIOOBE_FORMATTER" "Ljava/util/function/BiFunction;", Cond.methodLink RJ0 1059 yJ3_checkIndex_8e157, Cond.static yJ3_checkIndex_8e157, Cond.initialized RJ3, Cond.code yJ3_checkIndex_8e157 cJ3_checkIndex_8e157 3 (some .int), Cond.methodLink RJ0 498 yJ2_charAt_3b067, Cond.static yJ2_charAt_3b067, Cond.initialized RJ2, Cond.code yJ2_charAt_3b067 cJ2_charAt_3b067 2 (some .char), Cond.methodLink RJ2 67 yJ2_checkIndex_2214a, Cond.static yJ2_checkIndex_2214a, Cond.code yJ2_checkIndex_2214a cJ2_checkIndex_2214a 2 none, Cond.methodLink RJ2 48 yJ2_length_9d52b, Cond.static yJ2_length_9d52b, Cond.code yJ2_length_9d52b cJ2_length_9d52b 1 (some .int), Cond.methodLink RJ2 414 yJ0_checkIndex_df160, Cond.methodLink RJ2 71 yJ2_getChar_3b067, Cond.static yJ2_getChar_3b067, Cond.code yJ2_getChar_3b067 cJ2_getChar_3b067 2 (some .char), Cond.fieldLink RJ2 44 "java/lang/StringUTF16" "$assertionsDisabled" "Z", Cond.fieldLink RJ2 59 "java/lang/StringUTF16" "HI_BYTE_SHIFT" "I", Cond.fieldLink RJ2 63 "java/lang/StringUTF16" "LO_BYTE_SHIFT" "I"]
def wsL_law_r30 : List Cond := [Cond.methodLink RX12 266 yX12_aTurn, Cond.instanceMethod yX12_aTurn, Cond.selects RX12 yX12_aTurn yX12_aTurn, Cond.code yX12_aTurn cX12_aTurn 3 (some .boolean), Cond.methodLink RX12 234 yX12_isName, Cond.instanceMethod yX12_isName, Cond.selects RX12 yX12_isName yX12_isName, Cond.code yX12_isName cX12_isName 1 (some .boolean), Cond.methodLink RX12 269 yX12_aKey, Cond.instanceMethod yX12_aKey, Cond.selects RX12 yX12_aKey yX12_aKey, Cond.code yX12_aKey cX12_aKey 2 (some .boolean), Cond.methodLink RX12 238 yX12_keyNamed, Cond.instanceMethod yX12_keyNamed, Cond.selects RX12 yX12_keyNamed yX12_keyNamed, Cond.code yX12_keyNamed cX12_keyNamed 5 (some .int), Cond.methodLink RX12 242 yX12_wantWord, Cond.instanceMethod yX12_wantWord, Cond.selects RX12 yX12_wantWord yX12_wantWord, Cond.code yX12_wantWord cX12_wantWord 2 (some .boolean), Cond.methodLink RX12 272 yX12_aRule, Cond.instanceMethod yX12_aRule, Cond.selects RX12 yX12_aRule yX12_aRule, Cond.code yX12_aRule cX12_aRule 6 (some .boolean)]
def wsL_law_r31 : List Cond := [Cond.fieldLink RX12 245 "AskBackModel" "gaps" "I", Cond.constantLong RX12 259 (8), Cond.constantLong RX12 261 (-2), Cond.methodLink RX12 256 yX12_isSign, Cond.instanceMethod yX12_isSign, Cond.selects RX12 yX12_isSign yX12_isSign, Cond.code yX12_isSign cX12_isSign 2 (some .boolean), Cond.methodLink RX12 263 yX12_answers, Cond.instanceMethod yX12_answers, Cond.selects RX12 yX12_answers yX12_answers, Cond.code yX12_answers cX12_answers 3 (some .boolean), Cond.constantLong RX12 254 (4), Cond.methodLink RX12 250 yX12_answer, Cond.instanceMethod yX12_answer, Cond.selects RX12 yX12_answer yX12_answer, Cond.code yX12_answer cX12_answer 4 (some .boolean), Cond.constantLong RX12 248 (10), Cond.methodLink RX12 276 yX12_aNone, Cond.instanceMethod yX12_aNone, Cond.selects RX12 yX12_aNone yX12_aNone, Cond.code yX12_aNone cX12_aNone 1 (some .boolean), Cond.methodLink RX12 288 yX12_leads, Cond.instanceMethod yX12_leads, Cond.selects RX12 yX12_leads yX12_leads]
def wsL_law_r32 : List Cond := [Cond.code yX12_leads cX12_leads 5 none, Cond.methodLink RX12 291 yX12_fresh, Cond.instanceMethod yX12_fresh, Cond.selects RX12 yX12_fresh yX12_fresh, Cond.code yX12_fresh cX12_fresh 3 none, Cond.methodLink RX12 294 yX12_copies, Cond.instanceMethod yX12_copies, Cond.selects RX12 yX12_copies yX12_copies, Cond.code yX12_copies cX12_copies 5 none, Cond.methodLink RL 64 yX11_fault, Cond.instanceMethod yX11_fault, Cond.selects RX11 yX11_fault yX11_fault, Cond.code yX11_fault cX11_fault 2 (some .int), Cond.fieldLink RX11 189 "AskBack$Reader" "faultKind" "I", Cond.fieldLink RX11 192 "AskBack$Reader" "faultPlace" "I", Cond.methodLink RL 67 yX12_fault, Cond.instanceMethod yX12_fault, Cond.selects RX12 yX12_fault yX12_fault, Cond.code yX12_fault cX12_fault 2 (some .int), Cond.methodLink RL 68 yX11_many, Cond.instanceMethod yX11_many, Cond.selects RX11 yX11_many yX11_many, Cond.code yX11_many cX11_many 2 (some .int), Cond.fieldLink RX11 195 "AskBack$Book" "coupleCount" "I"]
def wsL_law_r33 : List Cond := [Cond.fieldLink RX11 198 "AskBack$Talk" "size" "I", Cond.methodLink RL 71 yX12_many, Cond.instanceMethod yX12_many, Cond.selects RX12 yX12_many yX12_many, Cond.code yX12_many cX12_many 2 (some .int), Cond.fieldLink RX12 416 "AskBackModel" "talkMany" "I", Cond.methodLink RL 72 yX11_word, Cond.instanceMethod yX11_word, Cond.selects RX11 yX11_word yX11_word, Cond.code yX11_word cX11_word 3 (some .long), Cond.fieldLink RX11 205 "AskBack$Book" "lines" "[LAskBack$Row;", Cond.methodLink RX11 201 yX11_isLine, Cond.instanceMethod yX11_isLine, Cond.selects RX11 yX11_isLine yX11_isLine, Cond.code yX11_isLine cX11_isLine 3 (some .boolean), Cond.methodLink RX11 209 yX11_tellWord, Cond.instanceMethod yX11_tellWord, Cond.selects RX11 yX11_tellWord yX11_tellWord, Cond.code yX11_tellWord cX11_tellWord 3 (some .long), Cond.fieldLink RX11 293 "AskBack$Row" "size" "I", Cond.methodLink RX11 410 yX4_at, Cond.instanceMethod yX4_at, Cond.selects RX4 yX4_at yX4_at, Cond.code yX4_at cX4_at 2 (some .long)]
def wsL_law_r34 : List Cond := [Cond.constantLong RX4 19 (-1), Cond.methodLink RL 75 yX12_word, Cond.instanceMethod yX12_word, Cond.selects RX12 yX12_word yX12_word, Cond.code yX12_word cX12_word 4 (some .long), Cond.methodLink RX12 212 yX12_isLine, Cond.instanceMethod yX12_isLine, Cond.selects RX12 yX12_isLine yX12_isLine, Cond.code yX12_isLine cX12_isLine 3 (some .boolean), Cond.methodLink RX12 216 yX12_givesLong, Cond.instanceMethod yX12_givesLong, Cond.selects RX12 yX12_givesLong yX12_givesLong, Cond.code yX12_givesLong cX12_givesLong 3 (some .long), Cond.methodLink RL 76 yX11_count, Cond.instanceMethod yX11_count, Cond.selects RX11 yX11_count yX11_count, Cond.code yX11_count cX11_count 4 (some .int), Cond.fieldLink RX11 213 "AskBack$Script" "keyCount" "I", Cond.fieldLink RX11 216 "AskBack$Script" "turnCount" "I", Cond.fieldLink RX11 219 "AskBack$State" "keptCount" "I", Cond.methodLink RL 79 yX12_count, Cond.instanceMethod yX12_count, Cond.selects RX12 yX12_count yX12_count, Cond.code yX12_count cX12_count 3 (some .int)]
def wsL_law_r35 : List Cond := [Cond.methodLink RL 80 yX11_rule, Cond.instanceMethod yX11_rule, Cond.selects RX11 yX11_rule yX11_rule, Cond.code yX11_rule cX11_rule 5 (some .int), Cond.fieldLink RX11 225 "AskBack$Script" "ruleKeys" "[I", Cond.fieldLink RX11 228 "AskBack$Script" "keepSet" "I", Cond.fieldLink RX11 231 "AskBack$Script" "answerCounts" "[I", Cond.methodLink RX11 222 yX11_isRule, Cond.instanceMethod yX11_isRule, Cond.selects RX11 yX11_isRule yX11_isRule, Cond.code yX11_isRule cX11_isRule 3 (some .boolean), Cond.methodLink RX11 234 yX8_nextAnswer, Cond.instanceMethod yX8_nextAnswer, Cond.selects RX8 yX8_nextAnswer yX8_nextAnswer, Cond.code yX8_nextAnswer cX8_nextAnswer 2 (some .int), Cond.constantLong RX8 30 (3), Cond.methodLink RL 84 yX12_rule, Cond.instanceMethod yX12_rule, Cond.selects RX12 yX12_rule yX12_rule, Cond.code yX12_rule cX12_rule 5 (some .int), Cond.methodLink RL 85 yX11_fit, Cond.instanceMethod yX11_fit, Cond.selects RX11 yX11_fit yX11_fit, Cond.code yX11_fit cX11_fit 5 (some .int)]
def wsL_law_r36 : List Cond := [Cond.fieldLink RX11 237 "AskBack$Search" "ears" "[LAskBack$Ear;", Cond.fieldLink RX11 247 "AskBack$Ear" "fitting" "I", Cond.fieldLink RX11 253 "AskBack$Ear" "gaps" "[I", Cond.methodLink RX11 241 yX1_listen, Cond.instanceMethod yX1_listen, Cond.selects RX1 yX1_listen yX1_listen, Cond.code yX1_listen cX1_listen 4 none, Cond.fieldLink RX1 42 "AskBack$Script" "keyCount" "I", Cond.fieldLink RX1 47 "AskBack$Script" "keyNames" "[J", Cond.fieldLink RX1 61 "AskBack$Script" "ruleCount" "I", Cond.methodLink RX1 51 yX4_placeOf, Cond.instanceMethod yX4_placeOf, Cond.selects RX4 yX4_placeOf yX4_placeOf, Cond.code yX4_placeOf cX4_placeOf 4 (some .int), Cond.methodLink RX1 57 yX1_putInOrder, Cond.instanceMethod yX1_putInOrder, Cond.selects RX1 yX1_putInOrder yX1_putInOrder, Cond.code yX1_putInOrder cX1_putInOrder 4 none, Cond.methodLink RX1 68 yX1_isAhead, Cond.instanceMethod yX1_isAhead, Cond.selects RX1 yX1_isAhead yX1_isAhead, Cond.code yX1_isAhead cX1_isAhead 3 (some .boolean), Cond.fieldLink RX1 72 "AskBack$Script" "keyRanks" "[I", Cond.methodLink RX1 64 yX1_match]
def wsL_law_r37 : List Cond := [Cond.instanceMethod yX1_match, Cond.selects RX1 yX1_match yX1_match, Cond.code yX1_match cX1_match 5 (some .boolean), Cond.fieldLink RX1 75 "AskBack$Script" "itemStarts" "[I", Cond.fieldLink RX1 78 "AskBack$Script" "itemCounts" "[I", Cond.fieldLink RX1 81 "AskBack$Row" "size" "I", Cond.fieldLink RX1 84 "AskBack$Script" "parts" "[J", Cond.methodLink RX1 87 yX1_startsOf, Cond.instanceMethod yX1_startsOf, Cond.selects RX1 yX1_startsOf yX1_startsOf, Cond.code yX1_startsOf cX1_startsOf 7 (some .int), Cond.constantLong RX1 95 (-1), Cond.constantLong RX1 97 (-2), Cond.fieldLink RX1 99 "AskBack$Row" "words" "[J", Cond.methodLink RX1 91 yX1_placeGaps, Cond.instanceMethod yX1_placeGaps, Cond.selects RX1 yX1_placeGaps yX1_placeGaps, Cond.code yX1_placeGaps cX1_placeGaps 10 none, Cond.methodLink RX11 250 yX6_gapsOf, Cond.instanceMethod yX6_gapsOf, Cond.selects RX6 yX6_gapsOf yX6_gapsOf, Cond.code yX6_gapsOf cX6_gapsOf 4 (some .int), Cond.methodLink RL 88 yX12_fit, Cond.instanceMethod yX12_fit]
def wsL_law_r38 : List Cond := [Cond.selects RX12 yX12_fit yX12_fit, Cond.code yX12_fit cX12_fit 6 (some .int), Cond.methodLink RX12 304 yX12_hears, Cond.instanceMethod yX12_hears, Cond.selects RX12 yX12_hears yX12_hears, Cond.code yX12_hears cX12_hears 3 none, Cond.fieldLink RX12 298 "AskBackModel" "heardMany" "I", Cond.methodLink RX12 307 yX12_fits, Cond.instanceMethod yX12_fits, Cond.selects RX12 yX12_fits yX12_fits, Cond.code yX12_fits cX12_fits 11 (some .boolean), Cond.fieldLink RX12 301 "AskBackModel" "without" "I", Cond.methodLink RL 89 yX11_gap, Cond.instanceMethod yX11_gap, Cond.selects RX11 yX11_gap yX11_gap, Cond.code yX11_gap cX11_gap 4 (some .int), Cond.methodLink RX11 254 yX1_placeIn, Cond.static yX1_placeIn, Cond.code yX1_placeIn cX1_placeIn 1 (some .int), Cond.methodLink RX11 257 yX1_sizeIn, Cond.static yX1_sizeIn, Cond.code yX1_sizeIn cX1_sizeIn 1 (some .int), Cond.methodLink RL 92 yX12_gap, Cond.instanceMethod yX12_gap]
def wsL_law_r39 : List Cond := [Cond.selects RX12 yX12_gap yX12_gap, Cond.code yX12_gap cX12_gap 3 (some .int), Cond.methodLink RL 93 yX11_turned, Cond.instanceMethod yX11_turned, Cond.selects RX11 yX11_turned yX11_turned, Cond.code yX11_turned cX11_turned 4 (some .long), Cond.methodLink RX11 260 yX11_isWord, Cond.static yX11_isWord, Cond.code yX11_isWord cX11_isWord 7 (some .boolean), Cond.constantLong RX11 411 (31), Cond.constantLong RX11 413 (26), Cond.methodLink RX11 263 yX6_turn, Cond.instanceMethod yX6_turn, Cond.selects RX6 yX6_turn yX6_turn, Cond.code yX6_turn cX6_turn 5 (some .long), Cond.methodLink RL 97 yX12_turned, Cond.instanceMethod yX12_turned, Cond.selects RX12 yX12_turned yX12_turned, Cond.code yX12_turned cX12_turned 4 (some .long), Cond.methodLink RX12 317 yX12_isWordNumber, Cond.static yX12_isWordNumber, Cond.code yX12_isWordNumber cX12_isWordNumber 5 (some .boolean), Cond.constantLong RX12 311 (1099511627776), Cond.constantLong RX12 313 (31)]
def wsL_law_r40 : List Cond := [Cond.constantLong RX12 315 (26), Cond.methodLink RX12 320 yX12_turns, Cond.instanceMethod yX12_turns, Cond.selects RX12 yX12_turns yX12_turns, Cond.code yX12_turns cX12_turns 5 (some .long), Cond.methodLink RL 98 yX11_begin, Cond.instanceMethod yX11_begin, Cond.selects RX11 yX11_begin yX11_begin, Cond.code yX11_begin cX11_begin 2 (some .boolean), Cond.methodLink RL 102 yX12_begin, Cond.instanceMethod yX12_begin, Cond.selects RX12 yX12_begin yX12_begin, Cond.code yX12_begin cX12_begin 2 (some .boolean), Cond.methodLink RL 103 yX11_say, Cond.instanceMethod yX11_say, Cond.selects RX11 yX11_say yX11_say, Cond.code yX11_say cX11_say 4 (some .int), Cond.fieldLink RX11 267 "AskBack$Search" "sayer" "LAskBack$Sayer;", Cond.fieldLink RX11 271 "AskBack$Ear" "order" "[I", Cond.fieldLink RX11 274 "AskBack$Ear" "orderCount" "I", Cond.fieldLink RX11 283 "AskBack$Sayer" "words" "LAskBack$Row;", Cond.fieldLink RX11 290 "AskBack$Sayer" "told" "[I", Cond.methodLink RX11 277 yX5_answer, Cond.instanceMethod yX5_answer]
def wsL_law_r41 : List Cond := [Cond.selects RX5 yX5_answer yX5_answer, Cond.code yX5_answer cX5_answer 5 none, Cond.fieldLink RX5 47 "AskBack$Ear" "fitting" "I", Cond.methodLink RX5 48 yX4_clear, Cond.methodLink RX5 51 yX5_tell, Cond.instanceMethod yX5_tell, Cond.selects RX5 yX5_tell yX5_tell, Cond.code yX5_tell cX5_tell 4 none, Cond.fieldLink RX5 71 "AskBack$Script" "ruleKeys" "[I", Cond.methodLink RX5 55 yX5_remember, Cond.instanceMethod yX5_remember, Cond.selects RX5 yX5_remember yX5_remember, Cond.code yX5_remember cX5_remember 7 none, Cond.fieldLink RX5 76 "AskBack$Script" "keepSet" "I", Cond.fieldLink RX5 83 "AskBack$Script" "keyStarts" "[I", Cond.fieldLink RX5 86 "AskBack$Script" "keyEnds" "[I", Cond.methodLink RX5 79 yX5_isPresent, Cond.instanceMethod yX5_isPresent, Cond.selects RX5 yX5_isPresent yX5_isPresent, Cond.code yX5_isPresent cX5_isPresent 2 (some .boolean), Cond.fieldLink RX5 103 "AskBack$Ear" "present" "I", Cond.methodLink RX5 89 yX8_rowBehind, Cond.instanceMethod yX8_rowBehind, Cond.selects RX8 yX8_rowBehind yX8_rowBehind]
def wsL_law_r42 : List Cond := [Cond.code yX8_rowBehind cX8_rowBehind 1 (some (.object "AskBack$Row")), Cond.methodLink RX8 38 yX8_dropFirst, Cond.instanceMethod yX8_dropFirst, Cond.selects RX8 yX8_dropFirst yX8_dropFirst, Cond.code yX8_dropFirst cX8_dropFirst 3 none, Cond.methodLink RX5 95 yX5_fill, Cond.instanceMethod yX5_fill, Cond.selects RX5 yX5_fill yX5_fill, Cond.code yX5_fill cX5_fill 12 none, Cond.fieldLink RX5 129 "AskBack$Script" "answerStarts" "[I", Cond.fieldLink RX5 132 "AskBack$Script" "answerSizes" "[I", Cond.fieldLink RX5 135 "AskBack$Script" "parts" "[J", Cond.fieldLink RX5 143 "AskBack$Ear" "gaps" "[I", Cond.fieldLink RX5 152 "AskBack$Ear" "line" "LAskBack$Row;", Cond.methodLink RX5 139 yX4_add, Cond.methodLink RX5 146 yX1_placeIn, Cond.methodLink RX5 149 yX1_sizeIn, Cond.methodLink RX5 155 yX4_at, Cond.methodLink RX5 159 yX6_turn, Cond.methodLink RX5 59 yX5_firstRule, Cond.instanceMethod yX5_firstRule, Cond.selects RX5 yX5_firstRule yX5_firstRule, Cond.code yX5_firstRule cX5_firstRule 5 (some .int), Cond.methodLink RX5 99 yX5_firstWhen]
def wsL_law_r43 : List Cond := [Cond.instanceMethod yX5_firstWhen, Cond.selects RX5 yX5_firstWhen yX5_firstWhen, Cond.code yX5_firstWhen cX5_firstWhen 4 (some .int), Cond.methodLink RX5 63 yX5_follow, Cond.instanceMethod yX5_follow, Cond.selects RX5 yX5_follow yX5_follow, Cond.code yX5_follow cX5_follow 9 none, Cond.fieldLink RX5 106 "AskBack$Script" "answerCounts" "[I", Cond.fieldLink RX5 113 "AskBack$Script" "answerGoes" "[I", Cond.methodLink RX5 109 yX8_takeAnswer, Cond.instanceMethod yX8_takeAnswer, Cond.selects RX8 yX8_takeAnswer yX8_takeAnswer, Cond.code yX8_takeAnswer cX8_takeAnswer 5 (some .int), Cond.constantLong RX8 36 (-1), Cond.methodLink RX8 32 yX8_nextAnswer, Cond.methodLink RX5 116 yX6_givesBack, Cond.instanceMethod yX6_givesBack, Cond.selects RX6 yX6_givesBack yX6_givesBack, Cond.code yX6_givesBack cX6_givesBack 3 (some .boolean), Cond.methodLink RX5 119 yX5_goTo, Cond.instanceMethod yX5_goTo, Cond.selects RX5 yX5_goTo yX5_goTo, Cond.code yX5_goTo cX5_goTo 2 (some .int), Cond.methodLink RX5 67 yX5_sayElse]
def wsL_law_r44 : List Cond := [Cond.instanceMethod yX5_sayElse, Cond.selects RX5 yX5_sayElse yX5_sayElse, Cond.code yX5_sayElse cX5_sayElse 3 (some .int), Cond.fieldLink RX5 122 "AskBack$State" "keptCount" "I", Cond.methodLink RX5 125 yX8_takeFirst, Cond.instanceMethod yX8_takeFirst, Cond.selects RX8 yX8_takeFirst yX8_takeFirst, Cond.code yX8_takeFirst cX8_takeFirst 2 none, Cond.methodLink RX8 26 yX4_copy, Cond.methodLink RX11 286 yX4_copy, Cond.methodLink RL 106 yX12_say, Cond.instanceMethod yX12_say, Cond.selects RX12 yX12_say yX12_say, Cond.code yX12_say cX12_say 4 (some .int), Cond.fieldLink RX12 324 "AskBackModel" "saidMany" "I", Cond.fieldLink RX12 390 "AskBackModel" "toldMany" "I", Cond.fieldLink RX12 357 "AskBackModel" "kind" "I", Cond.fieldLink RX12 360 "AskBackModel" "byKey" "I", Cond.fieldLink RX12 393 "AskBackModel" "toldKey" "I", Cond.fieldLink RX12 363 "AskBackModel" "byRule" "I", Cond.fieldLink RX12 396 "AskBackModel" "toldRule" "I", Cond.fieldLink RX12 366 "AskBackModel" "byAnswer" "I", Cond.fieldLink RX12 399 "AskBackModel" "toldAnswer" "I", Cond.fieldLink RX12 354 "AskBackModel" "goes" "I"]
def wsL_law_r45 : List Cond := [Cond.fieldLink RX12 402 "AskBackModel" "toldGoes" "I", Cond.methodLink RX12 387 yX12_answers0, Cond.instanceMethod yX12_answers0, Cond.selects RX12 yX12_answers0 yX12_answers0, Cond.code yX12_answers0 cX12_answers0 5 none, Cond.methodLink RX12 375 yX12_keysHeard, Cond.instanceMethod yX12_keysHeard, Cond.selects RX12 yX12_keysHeard yX12_keysHeard, Cond.code yX12_keysHeard cX12_keysHeard 5 (some .int), Cond.methodLink RX12 335 yX12_placeOf, Cond.instanceMethod yX12_placeOf, Cond.selects RX12 yX12_placeOf yX12_placeOf, Cond.code yX12_placeOf cX12_placeOf 4 (some .int), Cond.methodLink RX12 339 yX12_isAhead, Cond.instanceMethod yX12_isAhead, Cond.selects RX12 yX12_isAhead yX12_isAhead, Cond.code yX12_isAhead cX12_isAhead 8 (some .boolean), Cond.fieldLink RX12 331 "AskBackModel" "isRanked" "Z", Cond.methodLink RX12 351 yX12_makes, Cond.instanceMethod yX12_makes, Cond.selects RX12 yX12_makes yX12_makes, Cond.code yX12_makes cX12_makes 9 (some .boolean), Cond.methodLink RX12 327 yX12_says, Cond.instanceMethod yX12_says]
def wsL_law_r46 : List Cond := [Cond.selects RX12 yX12_says yX12_says, Cond.code yX12_says cX12_says 3 none, Cond.methodLink RX12 378 yX12_remembers, Cond.instanceMethod yX12_remembers, Cond.selects RX12 yX12_remembers yX12_remembers, Cond.code yX12_remembers cX12_remembers 5 none, Cond.methodLink RX12 343 yX12_forgets, Cond.instanceMethod yX12_forgets, Cond.selects RX12 yX12_forgets yX12_forgets, Cond.code yX12_forgets cX12_forgets 3 none, Cond.constantLong RX12 346 (13), Cond.methodLink RX12 372 yX12_firstOf, Cond.instanceMethod yX12_firstOf, Cond.selects RX12 yX12_firstOf yX12_firstOf, Cond.code yX12_firstOf cX12_firstOf 5 (some .int), Cond.methodLink RX12 381 yX12_follows, Cond.instanceMethod yX12_follows, Cond.selects RX12 yX12_follows yX12_follows, Cond.code yX12_follows cX12_follows 8 (some .boolean), Cond.methodLink RX12 348 yX12_whose, Cond.instanceMethod yX12_whose, Cond.selects RX12 yX12_whose yX12_whose, Cond.code yX12_whose cX12_whose 4 (some .int), Cond.methodLink RX12 369 yX12_leadsOn]
def wsL_law_r47 : List Cond := [Cond.instanceMethod yX12_leadsOn, Cond.selects RX12 yX12_leadsOn yX12_leadsOn, Cond.code yX12_leadsOn cX12_leadsOn 3 (some .int), Cond.methodLink RX12 384 yX12_byNone, Cond.instanceMethod yX12_byNone, Cond.selects RX12 yX12_byNone yX12_byNone, Cond.code yX12_byNone cX12_byNone 4 none, Cond.methodLink RL 107 yX11_said, Cond.instanceMethod yX11_said, Cond.selects RX11 yX11_said yX11_said, Cond.code yX11_said cX11_said 2 (some .long), Cond.methodLink RL 111 yX12_said, Cond.instanceMethod yX12_said, Cond.selects RX12 yX12_said yX12_said, Cond.code yX12_said cX12_said 2 (some .long), Cond.methodLink RL 112 yX11_how, Cond.instanceMethod yX11_how, Cond.selects RX11 yX11_how yX11_how, Cond.code yX11_how cX11_how 3 (some .int), Cond.methodLink RL 115 yX12_how, Cond.instanceMethod yX12_how, Cond.selects RX12 yX12_how yX12_how, Cond.code yX12_how cX12_how 3 (some .int), Cond.methodLink RL 116 yX11_remembered]
def wsL_law_r48 : List Cond := [Cond.instanceMethod yX11_remembered, Cond.selects RX11 yX11_remembered yX11_remembered, Cond.code yX11_remembered cX11_remembered 5 (some .long), Cond.fieldLink RX11 294 "AskBack$State" "kept" "[LAskBack$Row;", Cond.methodLink RL 120 yX12_remembered, Cond.instanceMethod yX12_remembered, Cond.selects RX12 yX12_remembered yX12_remembered, Cond.code yX12_remembered cX12_remembered 6 (some .long), Cond.methodLink RL 121 yX11_talk, Cond.instanceMethod yX11_talk, Cond.selects RX11 yX11_talk yX11_talk, Cond.code yX11_talk cX11_talk 5 (some .int), Cond.methodLink RX11 297 yX11_linesStatus, Cond.instanceMethod yX11_linesStatus, Cond.selects RX11 yX11_linesStatus yX11_linesStatus, Cond.code yX11_linesStatus cX11_linesStatus 6 (some .int), Cond.methodLink RX11 376 yX11_askedStatus, Cond.static yX11_askedStatus, Cond.code yX11_askedStatus cX11_askedStatus 4 (some .int), Cond.methodLink RX11 379 yX11_rowStatus, Cond.instanceMethod yX11_rowStatus, Cond.selects RX11 yX11_rowStatus yX11_rowStatus, Cond.code yX11_rowStatus cX11_rowStatus 5 (some .int), Cond.methodLink RX11 301 yX11_listenTo]
def wsL_law_r49 : List Cond := [Cond.instanceMethod yX11_listenTo, Cond.selects RX11 yX11_listenTo yX11_listenTo, Cond.code yX11_listenTo cX11_listenTo 6 none, Cond.methodLink RX11 305 yX7_hold, Cond.instanceMethod yX7_hold, Cond.selects RX7 yX7_hold yX7_hold, Cond.code yX7_hold cX7_hold 5 none, Cond.fieldLink RX7 97 "AskBack$Ear" "order" "[I", Cond.fieldLink RX7 98 "AskBack$Ear" "orderCount" "I", Cond.fieldLink RX7 105 "AskBack$Ear" "line" "LAskBack$Row;", Cond.fieldLink RX7 108 "AskBack$Sayer" "words" "LAskBack$Row;", Cond.fieldLink RX7 111 "AskBack$Sayer" "told" "[I", Cond.methodLink RX7 89 yX9_clear, Cond.instanceMethod yX9_clear, Cond.selects RX9 yX9_clear yX9_clear, Cond.code yX9_clear cX9_clear 1 none, Cond.methodLink RX7 94 yX8_refresh, Cond.methodLink RX7 101 yX5_answer, Cond.methodLink RX7 114 yX9_add, Cond.instanceMethod yX9_add, Cond.selects RX9 yX9_add yX9_add, Cond.code yX9_add cX9_add 4 none, Cond.methodLink RX9 33 yX4_copy, Cond.methodLink RX11 309 yX9_ofKind]
def wsL_law_r50 : List Cond := [Cond.instanceMethod yX9_ofKind, Cond.selects RX9 yX9_ofKind yX9_ofKind, Cond.code yX9_ofKind cX9_ofKind 4 (some .int), Cond.methodLink RL 124 yX12_talk, Cond.instanceMethod yX12_talk, Cond.selects RX12 yX12_talk yX12_talk, Cond.code yX12_talk cX12_talk 9 (some .int), Cond.methodLink RX12 405 yX12_wrongLines, Cond.instanceMethod yX12_wrongLines, Cond.selects RX12 yX12_wrongLines yX12_wrongLines, Cond.code yX12_wrongLines cX12_wrongLines 7 (some .int), Cond.methodLink RX12 409 yX12_works, Cond.instanceMethod yX12_works, Cond.selects RX12 yX12_works yX12_works, Cond.code yX12_works cX12_works 3 none, Cond.methodLink RX12 413 yX12_hearsOf, Cond.instanceMethod yX12_hearsOf, Cond.selects RX12 yX12_hearsOf yX12_hearsOf, Cond.code yX12_hearsOf cX12_hearsOf 3 none, Cond.methodLink RL 125 yX11_spoken, Cond.instanceMethod yX11_spoken, Cond.selects RX11 yX11_spoken yX11_spoken, Cond.code yX11_spoken cX11_spoken 3 (some .long), Cond.fieldLink RX11 312 "AskBack$Talk" "sayings" "[LAskBack$Row;"]
def wsL_law_r51 : List Cond := [Cond.methodLink RL 128 yX12_spoken, Cond.instanceMethod yX12_spoken, Cond.selects RX12 yX12_spoken yX12_spoken, Cond.code yX12_spoken cX12_spoken 3 (some .long), Cond.methodLink RL 129 yX11_lead, Cond.instanceMethod yX11_lead, Cond.selects RX11 yX11_lead yX11_lead, Cond.code yX11_lead cX11_lead 8 (some .int), Cond.fieldLink RX11 319 "AskBack$Search" "led" "[I", Cond.fieldLink RX11 322 "AskBack$Search" "path" "[I", Cond.fieldLink RX11 325 "AskBack$Search" "ledSize" "I", Cond.methodLink RX11 315 yX7_shortest, Cond.instanceMethod yX7_shortest, Cond.selects RX7 yX7_shortest yX7_shortest, Cond.code yX7_shortest cX7_shortest 4 (some .int), Cond.methodLink RX7 118 yX7_reach, Cond.instanceMethod yX7_reach, Cond.selects RX7 yX7_reach yX7_reach, Cond.code yX7_reach cX7_reach 9 (some .boolean), Cond.methodLink RX7 122 yX8_copy, Cond.instanceMethod yX8_copy, Cond.selects RX8 yX8_copy yX8_copy, Cond.code yX8_copy cX8_copy 3 none, Cond.methodLink RX7 126 yX4_same]
def wsL_law_r52 : List Cond := [Cond.instanceMethod yX4_same, Cond.selects RX4 yX4_same yX4_same, Cond.code yX4_same cX4_same 3 (some .boolean), Cond.methodLink RL 133 yX12_lead, Cond.instanceMethod yX12_lead, Cond.selects RX12 yX12_lead yX12_lead, Cond.code yX12_lead cX12_lead 11 (some .int), Cond.fieldLink RX12 422 "AskBackModel" "ledMany" "I", Cond.methodLink RX12 419 yX12_isSaid, Cond.instanceMethod yX12_isSaid, Cond.selects RX12 yX12_isSaid yX12_isSaid, Cond.code yX12_isSaid cX12_isSaid 4 (some .boolean), Cond.methodLink RL 134 yX11_led, Cond.instanceMethod yX11_led, Cond.selects RX11 yX11_led yX11_led, Cond.code yX11_led cX11_led 2 (some .int), Cond.methodLink RL 137 yX12_led, Cond.instanceMethod yX12_led, Cond.selects RX12 yX12_led yX12_led, Cond.code yX12_led cX12_led 2 (some .int), Cond.methodLink RL 138 yX11_face, Cond.instanceMethod yX11_face, Cond.selects RX11 yX11_face yX11_face, Cond.code yX11_face cX11_face 5 (some .int)]
def wsL_law_r53 : List Cond := [Cond.methodLink RX11 328 yX7_meet, Cond.instanceMethod yX7_meet, Cond.selects RX7 yX7_meet yX7_meet, Cond.code yX7_meet cX7_meet 10 (some .int), Cond.classLink RX7 130 RX2, Cond.instantiable RX2 4, Cond.initialized RX2, Cond.instanceMethod yX2_init, Cond.code yX2_init cX2_init 1 none, Cond.methodLink RX2 5 objectInit, Cond.constant RX2 11 (34773), Cond.fieldLink RX2 12 "AskBack$Past" "held" "[J", Cond.fieldLink RX2 16 "AskBack$Past" "ends" "[I", Cond.fieldLink RX2 20 "AskBack$Past" "moments" "I", Cond.fieldLink RX2 24 "AskBack$Past" "end" "I", Cond.methodLink RX7 133 yX2_clear, Cond.instanceMethod yX2_clear, Cond.selects RX2 yX2_clear yX2_clear, Cond.code yX2_clear cX2_clear 1 none, Cond.methodLink RX7 134 yX4_copy, Cond.methodLink RX7 137 yX2_add, Cond.instanceMethod yX2_add, Cond.selects RX2 yX2_add yX2_add, Cond.code yX2_add cX2_add 4 none]
def wsL_law_r54 : List Cond := [Cond.fieldLink RX2 27 "AskBack$State" "turns" "J", Cond.methodLink RX2 33 yX2_lay, Cond.instanceMethod yX2_lay, Cond.selects RX2 yX2_lay yX2_lay, Cond.code yX2_lay cX2_lay 3 none, Cond.methodLink RX2 37 yX2_layRow, Cond.instanceMethod yX2_layRow, Cond.selects RX2 yX2_layRow yX2_layRow, Cond.code yX2_layRow cX2_layRow 3 none, Cond.fieldLink RX2 45 "AskBack$Row" "size" "I", Cond.fieldLink RX2 50 "AskBack$Row" "words" "[J", Cond.methodLink RX2 41 yX2_layKept, Cond.instanceMethod yX2_layKept, Cond.selects RX2 yX2_layKept yX2_layKept, Cond.code yX2_layKept cX2_layKept 3 none, Cond.fieldLink RX2 53 "AskBack$State" "keptCount" "I", Cond.fieldLink RX2 56 "AskBack$State" "kept" "[LAskBack$Row;", Cond.methodLink RX7 140 yX1_listen, Cond.methodLink RX7 143 yX2_likeLatest, Cond.instanceMethod yX2_likeLatest, Cond.selects RX2 yX2_likeLatest yX2_likeLatest, Cond.code yX2_likeLatest cX2_likeLatest 2 (some .int), Cond.methodLink RX2 60 yX2_isLikeLatest, Cond.instanceMethod yX2_isLikeLatest]
def wsL_law_r55 : List Cond := [Cond.selects RX2 yX2_isLikeLatest yX2_isLikeLatest, Cond.code yX2_isLikeLatest cX2_isLikeLatest 6 (some .boolean), Cond.methodLink RX7 147 yX7_closeRing, Cond.instanceMethod yX7_closeRing, Cond.selects RX7 yX7_closeRing yX7_closeRing, Cond.code yX7_closeRing cX7_closeRing 3 none, Cond.methodLink RL 141 yX12_face, Cond.instanceMethod yX12_face, Cond.selects RX12 yX12_face yX12_face, Cond.code yX12_face cX12_face 8 (some .int), Cond.fieldLink RX12 431 "AskBackModel" "ringLong" "I", Cond.methodLink RX12 425 yX12_keeps, Cond.instanceMethod yX12_keeps, Cond.selects RX12 yX12_keeps yX12_keeps, Cond.code yX12_keeps cX12_keeps 9 none, Cond.methodLink RX12 428 yX12_cameAt, Cond.instanceMethod yX12_cameAt, Cond.selects RX12 yX12_cameAt yX12_cameAt, Cond.code yX12_cameAt cX12_cameAt 5 (some .int), Cond.methodLink RL 142 yX11_ring, Cond.instanceMethod yX11_ring, Cond.selects RX11 yX11_ring yX11_ring, Cond.code yX11_ring cX11_ring 2 (some .int), Cond.fieldLink RX11 332 "AskBack$Search" "ringSize" "I"]
def wsL_law_r56 : List Cond := [Cond.fieldLink RX11 335 "AskBack$Search" "ringAhead" "I", Cond.methodLink RL 145 yX12_ring, Cond.instanceMethod yX12_ring, Cond.selects RX12 yX12_ring yX12_ring, Cond.code yX12_ring cX12_ring 2 (some .int), Cond.methodLink RL 146 yX11_broken, Cond.instanceMethod yX11_broken, Cond.selects RX11 yX11_broken yX11_broken, Cond.code yX11_broken cX11_broken 5 (some .int), Cond.methodLink RX11 338 yX0_addCouple, Cond.instanceMethod yX0_addCouple, Cond.selects RX0 yX0_addCouple yX0_addCouple, Cond.code yX0_addCouple cX0_addCouple 5 (some .int), Cond.methodLink RL 150 yX12_broken, Cond.instanceMethod yX12_broken, Cond.selects RX12 yX12_broken yX12_broken, Cond.code yX12_broken cX12_broken 6 (some .int), Cond.methodLink RL 151 yX11_broke, Cond.instanceMethod yX11_broke, Cond.selects RX11 yX11_broke yX11_broke, Cond.code yX11_broke cX11_broke 5 (some .int), Cond.methodLink RX11 342 yX7_firstBroke, Cond.instanceMethod yX7_firstBroke, Cond.selects RX7 yX7_firstBroke yX7_firstBroke]
def wsL_law_r57 : List Cond := [Cond.code yX7_firstBroke cX7_firstBroke 5 (some .int), Cond.methodLink RX7 151 yX0_isBroken, Cond.instanceMethod yX0_isBroken, Cond.selects RX0 yX0_isBroken yX0_isBroken, Cond.code yX0_isBroken cX0_isBroken 4 (some .boolean), Cond.fieldLink RX0 62 "AskBack$Row" "size" "I", Cond.fieldLink RX0 65 "AskBack$Row" "words" "[J", Cond.methodLink RL 154 yX12_broke, Cond.instanceMethod yX12_broke, Cond.selects RX12 yX12_broke yX12_broke, Cond.code yX12_broke cX12_broke 5 (some .int), Cond.methodLink RX12 438 yX12_brokenBy, Cond.instanceMethod yX12_brokenBy, Cond.selects RX12 yX12_brokenBy yX12_brokenBy, Cond.code yX12_brokenBy cX12_brokenBy 6 (some .int), Cond.methodLink RX12 434 yX12_breaks, Cond.instanceMethod yX12_breaks, Cond.selects RX12 yX12_breaks yX12_breaks, Cond.code yX12_breaks cX12_breaks 6 (some .boolean), Cond.methodLink RL 155 yX11_mend, Cond.instanceMethod yX11_mend, Cond.selects RX11 yX11_mend yX11_mend, Cond.code yX11_mend cX11_mend 6 (some .int), Cond.fieldLink RX11 353 "AskBack$Search" "mendCount" "I"]
def wsL_law_r58 : List Cond := [Cond.fieldLink RX11 356 "AskBack$Search" "mendFirst" "I", Cond.methodLink RX11 346 yX7_mendByRules, Cond.instanceMethod yX7_mendByRules, Cond.selects RX7 yX7_mendByRules yX7_mendByRules, Cond.code yX7_mendByRules cX7_mendByRules 5 none, Cond.fieldLink RX7 156 "AskBack$Sayer" "rulesOut" "I", Cond.methodLink RX7 159 yX7_firstBroke, Cond.methodLink RX7 163 yX7_countMend, Cond.instanceMethod yX7_countMend, Cond.selects RX7 yX7_countMend yX7_countMend, Cond.code yX7_countMend cX7_countMend 3 none, Cond.methodLink RX11 350 yX7_mendByTurns, Cond.instanceMethod yX7_mendByTurns, Cond.selects RX7 yX7_mendByTurns yX7_mendByTurns, Cond.code yX7_mendByTurns cX7_mendByTurns 5 none, Cond.fieldLink RX7 166 "AskBack$Sayer" "turnOut" "I", Cond.methodLink RL 158 yX12_mend, Cond.instanceMethod yX12_mend, Cond.selects RX12 yX12_mend yX12_mend, Cond.code yX12_mend cX12_mend 10 (some .int), Cond.methodLink RL 159 yX11_doubt, Cond.instanceMethod yX11_doubt, Cond.selects RX11 yX11_doubt yX11_doubt, Cond.code yX11_doubt cX11_doubt 2 (some .int)]
def wsL_law_r59 : List Cond := [Cond.methodLink RX11 359 yX9_firstSaidBefore, Cond.instanceMethod yX9_firstSaidBefore, Cond.selects RX9 yX9_firstSaidBefore yX9_firstSaidBefore, Cond.code yX9_firstSaidBefore cX9_firstSaidBefore 3 (some .int), Cond.methodLink RX9 41 yX9_timesBefore, Cond.instanceMethod yX9_timesBefore, Cond.selects RX9 yX9_timesBefore yX9_timesBefore, Cond.code yX9_timesBefore cX9_timesBefore 4 (some .int), Cond.methodLink RX9 37 yX4_same, Cond.methodLink RL 162 yX12_doubt, Cond.instanceMethod yX12_doubt, Cond.selects RX12 yX12_doubt yX12_doubt, Cond.code yX12_doubt cX12_doubt 3 (some .int), Cond.methodLink RX12 442 yX12_ahead1, Cond.instanceMethod yX12_ahead1, Cond.selects RX12 yX12_ahead1 yX12_ahead1, Cond.code yX12_ahead1 cX12_ahead1 6 (some .int), Cond.methodLink RL 163 yX11_odds, Cond.instanceMethod yX11_odds, Cond.selects RX11 yX11_odds yX11_odds, Cond.code yX11_odds cX11_odds 2 (some .boolean), Cond.methodLink RX11 362 yX9_repeats, Cond.instanceMethod yX9_repeats, Cond.selects RX9 yX9_repeats yX9_repeats]
def wsL_law_r60 : List Cond := [Cond.code yX9_repeats cX9_repeats 3 (some .int), Cond.methodLink RX11 366 yX11_tellPower, Cond.instanceMethod yX11_tellPower, Cond.selects RX11 yX11_tellPower yX11_tellPower, Cond.code yX11_tellPower cX11_tellPower 6 none, Cond.methodLink RL 166 yX12_odds, Cond.instanceMethod yX12_odds, Cond.selects RX12 yX12_odds yX12_odds, Cond.code yX12_odds cX12_odds 12 (some .boolean), Cond.methodLink RL 167 yX11_claim, Cond.instanceMethod yX11_claim, Cond.selects RX11 yX11_claim yX11_claim, Cond.code yX11_claim cX11_claim 2 (some .int), Cond.methodLink RX11 369 yX9_firstOfKinds, Cond.instanceMethod yX9_firstOfKinds, Cond.selects RX9 yX9_firstOfKinds yX9_firstOfKinds, Cond.code yX9_firstOfKinds cX9_firstOfKinds 3 (some .int), Cond.methodLink RX11 372 yX9_firstBroken, Cond.instanceMethod yX9_firstBroken, Cond.selects RX9 yX9_firstBroken yX9_firstBroken, Cond.code yX9_firstBroken cX9_firstBroken 3 (some .int), Cond.methodLink RX9 45 yX0_isBroken, Cond.methodLink RL 170 yX12_claim, Cond.instanceMethod yX12_claim]
def wsL_law_r61 : List Cond := [Cond.selects RX12 yX12_claim yX12_claim, Cond.code yX12_claim cX12_claim 3 (some .int), Cond.methodLink RX12 445 yX12_isAgainst, Cond.instanceMethod yX12_isAgainst, Cond.selects RX12 yX12_isAgainst yX12_isAgainst, Cond.code yX12_isAgainst cX12_isAgainst 6 (some .boolean), Cond.methodLink RL 171 yX11_least, Cond.instanceMethod yX11_least, Cond.selects RX11 yX11_least yX11_least, Cond.code yX11_least cX11_least 5 (some .int), Cond.methodLink RX11 382 yX7_fewest, Cond.instanceMethod yX7_fewest, Cond.selects RX7 yX7_fewest yX7_fewest, Cond.code yX7_fewest cX7_fewest 7 (some .int), Cond.fieldLink RX7 169 "AskBack$Ear" "fitting" "I", Cond.methodLink RX7 172 yJ6_bitCount_0f7a4, Cond.static yJ6_bitCount_0f7a4, Cond.initialized RJ6, Cond.code yJ6_bitCount_0f7a4 cJ6_bitCount_0f7a4 1 (some .int), Cond.constant RJ6 265 (1431655765), Cond.constant RJ6 266 (858993459), Cond.constant RJ6 267 (252645135), Cond.methodLink RX7 178 yX7_saysWanted, Cond.instanceMethod yX7_saysWanted]
def wsL_law_r62 : List Cond := [Cond.selects RX7 yX7_saysWanted yX7_saysWanted, Cond.code yX7_saysWanted cX7_saysWanted 6 (some .boolean), Cond.methodLink RL 174 yX12_least, Cond.instanceMethod yX12_least, Cond.selects RX12 yX12_least yX12_least, Cond.code yX12_least cX12_least 8 (some .int), Cond.methodLink RX12 448 yX12_bits, Cond.static yX12_bits, Cond.code yX12_bits cX12_bits 3 (some .int), Cond.methodLink RX12 451 yX12_saysWhole, Cond.instanceMethod yX12_saysWhole, Cond.selects RX12 yX12_saysWhole yX12_saysWhole, Cond.code yX12_saysWhole cX12_saysWhole 7 (some .boolean), Cond.methodLink RL 175 yX11_leastSet, Cond.instanceMethod yX11_leastSet, Cond.selects RX11 yX11_leastSet yX11_leastSet, Cond.code yX11_leastSet cX11_leastSet 1 (some .int), Cond.fieldLink RX11 385 "AskBack$Search" "leastRules" "I", Cond.methodLink RL 178 yX12_leastSet, Cond.instanceMethod yX12_leastSet, Cond.selects RX12 yX12_leastSet yX12_leastSet, Cond.code yX12_leastSet cX12_leastSet 1 (some .int), Cond.methodLink RL 179 yX11_orders, Cond.instanceMethod yX11_orders]
def wsL_law_r63 : List Cond := [Cond.selects RX11 yX11_orders yX11_orders, Cond.code yX11_orders cX11_orders 3 (some .int), Cond.fieldLink RX11 388 "AskBack$Talk" "lines" "[LAskBack$Row;", Cond.methodLink RX11 389 yX7_tryOrders, Cond.instanceMethod yX7_tryOrders, Cond.selects RX7 yX7_tryOrders yX7_tryOrders, Cond.code yX7_tryOrders cX7_tryOrders 6 (some .int), Cond.methodLink RX7 182 yX7_saysTalk, Cond.instanceMethod yX7_saysTalk, Cond.selects RX7 yX7_saysTalk yX7_saysTalk, Cond.code yX7_saysTalk cX7_saysTalk 4 (some .boolean), Cond.fieldLink RX7 193 "AskBack$Talk" "size" "I", Cond.fieldLink RX7 196 "AskBack$Talk" "sayings" "[LAskBack$Row;", Cond.methodLink RX7 186 yX7_countAheads, Cond.instanceMethod yX7_countAheads, Cond.selects RX7 yX7_countAheads yX7_countAheads, Cond.code yX7_countAheads cX7_countAheads 4 none, Cond.methodLink RX7 190 yX7_nextOrder, Cond.instanceMethod yX7_nextOrder, Cond.selects RX7 yX7_nextOrder yX7_nextOrder, Cond.code yX7_nextOrder cX7_nextOrder 6 none, Cond.methodLink RX7 199 yX7_swap, Cond.instanceMethod yX7_swap, Cond.selects RX7 yX7_swap yX7_swap]
def wsL_law_r64 : List Cond := [Cond.code yX7_swap cX7_swap 4 none, Cond.methodLink RL 182 yX12_orders, Cond.instanceMethod yX12_orders, Cond.selects RX12 yX12_orders yX12_orders, Cond.code yX12_orders cX12_orders 10 (some .int), Cond.fieldLink RX12 457 "AskBackModel" "orderKeys" "I", Cond.methodLink RX12 454 yX12_saysTalk, Cond.instanceMethod yX12_saysTalk, Cond.selects RX12 yX12_saysTalk yX12_saysTalk, Cond.code yX12_saysTalk cX12_saysTalk 6 (some .boolean), Cond.methodLink RL 183 yX11_ahead, Cond.instanceMethod yX11_ahead, Cond.selects RX11 yX11_ahead yX11_ahead, Cond.code yX11_ahead cX11_ahead 3 (some .int), Cond.fieldLink RX11 393 "AskBack$Search" "orderedKeys" "I", Cond.fieldLink RX11 396 "AskBack$Search" "aheads" "[I", Cond.methodLink RL 186 yX12_ahead, Cond.instanceMethod yX12_ahead, Cond.selects RX12 yX12_ahead yX12_ahead, Cond.code yX12_ahead cX12_ahead 3 (some .int), Cond.methodLink RL 187 yX11_leave, Cond.instanceMethod yX11_leave, Cond.selects RX11 yX11_leave yX11_leave, Cond.code yX11_leave cX11_leave 3 (some .boolean)]
def wsL_law_r65 : List Cond := [Cond.fieldLink RX11 399 "AskBack$Talk" "unread" "[Z", Cond.methodLink RL 191 yX12_leave, Cond.instanceMethod yX12_leave, Cond.selects RX12 yX12_leave yX12_leave, Cond.code yX12_leave cX12_leave 3 (some .boolean), Cond.methodLink RL 192 yX11_heard, Cond.instanceMethod yX11_heard, Cond.selects RX11 yX11_heard yX11_heard, Cond.code yX11_heard cX11_heard 3 (some .int), Cond.methodLink RX11 403 yX9_timesRead, Cond.instanceMethod yX9_timesRead, Cond.selects RX9 yX9_timesRead yX9_timesRead, Cond.code yX9_timesRead cX9_timesRead 5 (some .int), Cond.methodLink RX9 50 yX4_timesOf, Cond.instanceMethod yX4_timesOf, Cond.selects RX4 yX4_timesOf yX4_timesOf, Cond.code yX4_timesOf cX4_timesOf 5 (some .int), Cond.methodLink RL 196 yX12_heard, Cond.instanceMethod yX12_heard, Cond.selects RX12 yX12_heard yX12_heard, Cond.code yX12_heard cX12_heard 7 (some .int), Cond.methodLink RL 197 yX11_mark, Cond.instanceMethod yX11_mark, Cond.selects RX11 yX11_mark yX11_mark]
def wsL_law_r66 : List Cond := [Cond.code yX11_mark cX11_mark 1 (some .int), Cond.methodLink RX11 407 yX0_copy, Cond.instanceMethod yX0_copy, Cond.selects RX0 yX0_copy yX0_copy, Cond.code yX0_copy cX0_copy 3 none, Cond.methodLink RX0 56 arraycopyName, Cond.methodLink RX0 46 yX6_copy, Cond.instanceMethod yX6_copy, Cond.selects RX6 yX6_copy yX6_copy, Cond.code yX6_copy cX6_copy 2 none, Cond.methodLink RX6 71 arraycopyName, Cond.methodLink RX0 50 yX8_copy, Cond.methodLink RL 200 yX12_mark, Cond.instanceMethod yX12_mark, Cond.selects RX12 yX12_mark yX12_mark, Cond.code yX12_mark cX12_mark 1 (some .int), Cond.fieldLink RX12 460 "AskBackModel" "marks" "I", Cond.methodLink RL 201 yX11_back, Cond.instanceMethod yX11_back, Cond.selects RX11 yX11_back yX11_back, Cond.code yX11_back cX11_back 1 (some .int), Cond.methodLink RL 204 yX12_back, Cond.instanceMethod yX12_back, Cond.selects RX12 yX12_back yX12_back]
def wsL_law_r67 : List Cond := [Cond.code yX12_back cX12_back 1 (some .int)]
def wsL_law : List Cond := (wsL_law_r1 ++ (wsL_law_r2 ++ (wsL_law_r3 ++ (wsL_law_r4 ++ (wsL_law_r5 ++ (wsL_law_r6 ++ (wsL_law_r7 ++ (wsL_law_r8 ++ (wsL_law_r9 ++ (wsL_law_r10 ++ (wsL_law_r11 ++ (wsL_law_r12 ++ (wsL_law_r13 ++ (wsL_law_r14 ++ (wsL_law_r15 ++ (wsL_law_r16 ++ (wsL_law_r17 ++ (wsL_law_r18 ++ (wsL_law_r19 ++ (wsL_law_r20 ++ (wsL_law_r21 ++ (wsL_law_r22 ++ (wsL_law_r23 ++ (wsL_law_r24 ++ (wsL_law_r25 ++ (wsL_law_r26 ++ (wsL_law_r27 ++ (wsL_law_r28 ++ (wsL_law_r29 ++ (wsL_law_r30 ++ (wsL_law_r31 ++ (wsL_law_r32 ++ (wsL_law_r33 ++ (wsL_law_r34 ++ (wsL_law_r35 ++ (wsL_law_r36 ++ (wsL_law_r37 ++ (wsL_law_r38 ++ (wsL_law_r39 ++ (wsL_law_r40 ++ (wsL_law_r41 ++ (wsL_law_r42 ++ (wsL_law_r43 ++ (wsL_law_r44 ++ (wsL_law_r45 ++ (wsL_law_r46 ++ (wsL_law_r47 ++ (wsL_law_r48 ++ (wsL_law_r49 ++ (wsL_law_r50 ++ (wsL_law_r51 ++ (wsL_law_r52 ++ (wsL_law_r53 ++ (wsL_law_r54 ++ (wsL_law_r55 ++ (wsL_law_r56 ++ (wsL_law_r57 ++ (wsL_law_r58 ++ (wsL_law_r59 ++ (wsL_law_r60 ++ (wsL_law_r61 ++ (wsL_law_r62 ++ (wsL_law_r63 ++ (wsL_law_r64 ++ (wsL_law_r65 ++ (wsL_law_r66 ++ wsL_law_r67)))))))))))))))))))))))))))))))))))))))))))))))))))))))))))))))))) ++ wsX110 ++ wsX120 ++ wsX30 ++ wsX00 ++ wsX90 ++ wsX70 ++ wsX40 ++ wsX100 ++ wsX60 ++ wsX80 ++ wsX10 ++ wsX50 ++ wsX20 ++ ([] : List Cond)
theorem inlX0 : ∀ w ∈ wsX00, w ∈ wsL_law := fun _ h => List.mem_append_left _ (List.mem_append_left _ (List.mem_append_left _ (List.mem_append_left _ (List.mem_append_left _ (List.mem_append_left _ (List.mem_append_left _ (List.mem_append_left _ (List.mem_append_left _ (List.mem_append_left _ (List.mem_append_right _ h))))))))))
theorem inlX1 : ∀ w ∈ wsX10, w ∈ wsL_law := fun _ h => List.mem_append_left _ (List.mem_append_left _ (List.mem_append_left _ (List.mem_append_right _ h)))
theorem inlX2 : ∀ w ∈ wsX20, w ∈ wsL_law := fun _ h => List.mem_append_left _ (List.mem_append_right _ h)
theorem inlX3 : ∀ w ∈ wsX30, w ∈ wsL_law := fun _ h => List.mem_append_left _ (List.mem_append_left _ (List.mem_append_left _ (List.mem_append_left _ (List.mem_append_left _ (List.mem_append_left _ (List.mem_append_left _ (List.mem_append_left _ (List.mem_append_left _ (List.mem_append_left _ (List.mem_append_left _ (List.mem_append_right _ h)))))))))))
theorem inlX4 : ∀ w ∈ wsX40, w ∈ wsL_law := fun _ h => List.mem_append_left _ (List.mem_append_left _ (List.mem_append_left _ (List.mem_append_left _ (List.mem_append_left _ (List.mem_append_left _ (List.mem_append_left _ (List.mem_append_right _ h)))))))
theorem inlX5 : ∀ w ∈ wsX50, w ∈ wsL_law := fun _ h => List.mem_append_left _ (List.mem_append_left _ (List.mem_append_right _ h))
theorem inlX6 : ∀ w ∈ wsX60, w ∈ wsL_law := fun _ h => List.mem_append_left _ (List.mem_append_left _ (List.mem_append_left _ (List.mem_append_left _ (List.mem_append_left _ (List.mem_append_right _ h)))))
theorem inlX7 : ∀ w ∈ wsX70, w ∈ wsL_law := fun _ h => List.mem_append_left _ (List.mem_append_left _ (List.mem_append_left _ (List.mem_append_left _ (List.mem_append_left _ (List.mem_append_left _ (List.mem_append_left _ (List.mem_append_left _ (List.mem_append_right _ h))))))))
theorem inlX8 : ∀ w ∈ wsX80, w ∈ wsL_law := fun _ h => List.mem_append_left _ (List.mem_append_left _ (List.mem_append_left _ (List.mem_append_left _ (List.mem_append_right _ h))))
theorem inlX9 : ∀ w ∈ wsX90, w ∈ wsL_law := fun _ h => List.mem_append_left _ (List.mem_append_left _ (List.mem_append_left _ (List.mem_append_left _ (List.mem_append_left _ (List.mem_append_left _ (List.mem_append_left _ (List.mem_append_left _ (List.mem_append_left _ (List.mem_append_right _ h)))))))))
theorem inlX10 : ∀ w ∈ wsX100, w ∈ wsL_law := fun _ h => List.mem_append_left _ (List.mem_append_left _ (List.mem_append_left _ (List.mem_append_left _ (List.mem_append_left _ (List.mem_append_left _ (List.mem_append_right _ h))))))
theorem inlX11 : ∀ w ∈ wsX110, w ∈ wsL_law := fun _ h => List.mem_append_left _ (List.mem_append_left _ (List.mem_append_left _ (List.mem_append_left _ (List.mem_append_left _ (List.mem_append_left _ (List.mem_append_left _ (List.mem_append_left _ (List.mem_append_left _ (List.mem_append_left _ (List.mem_append_left _ (List.mem_append_left _ (List.mem_append_left _ (List.mem_append_right _ h)))))))))))))
theorem inlX12 : ∀ w ∈ wsX120, w ∈ wsL_law := fun _ h => List.mem_append_left _ (List.mem_append_left _ (List.mem_append_left _ (List.mem_append_left _ (List.mem_append_left _ (List.mem_append_left _ (List.mem_append_left _ (List.mem_append_left _ (List.mem_append_left _ (List.mem_append_left _ (List.mem_append_left _ (List.mem_append_left _ (List.mem_append_right _ h))))))))))))
abbrev vwCl : List vw_C := [(RX0, TX0, 7), (RX1, TX1, 9), (RX2, TX2, 4), (RX3, TX3, 14), (RX4, TX4, 2), (RX5, TX5, 8), (RX6, TX6, 19), (RX7, TX7, 17), (RX8, TX8, 3), (RX9, TX9, 5), (RX10, TX10, 3), (RX11, TX11, 17), (RX12, TX12, 65)]
theorem inr_1 : ∀ w ∈ wsL_law_r1, w ∈ wsL_law := fun _ h => List.mem_append_left _ (List.mem_append_left _ (List.mem_append_left _ (List.mem_append_left _ (List.mem_append_left _ (List.mem_append_left _ (List.mem_append_left _ (List.mem_append_left _ (List.mem_append_left _ (List.mem_append_left _ (List.mem_append_left _ (List.mem_append_left _ (List.mem_append_left _ (List.mem_append_left _ (List.mem_append_left _ h))))))))))))))
theorem inr_2 : ∀ w ∈ wsL_law_r2, w ∈ wsL_law := fun _ h => List.mem_append_left _ (List.mem_append_left _ (List.mem_append_left _ (List.mem_append_left _ (List.mem_append_left _ (List.mem_append_left _ (List.mem_append_left _ (List.mem_append_left _ (List.mem_append_left _ (List.mem_append_left _ (List.mem_append_left _ (List.mem_append_left _ (List.mem_append_left _ (List.mem_append_left _ (List.mem_append_right _ (List.mem_append_left _ h)))))))))))))))
theorem inr_3 : ∀ w ∈ wsL_law_r3, w ∈ wsL_law := fun _ h => List.mem_append_left _ (List.mem_append_left _ (List.mem_append_left _ (List.mem_append_left _ (List.mem_append_left _ (List.mem_append_left _ (List.mem_append_left _ (List.mem_append_left _ (List.mem_append_left _ (List.mem_append_left _ (List.mem_append_left _ (List.mem_append_left _ (List.mem_append_left _ (List.mem_append_left _ (List.mem_append_right _ (List.mem_append_right _ (List.mem_append_left _ h))))))))))))))))
theorem inr_4 : ∀ w ∈ wsL_law_r4, w ∈ wsL_law := fun _ h => List.mem_append_left _ (List.mem_append_left _ (List.mem_append_left _ (List.mem_append_left _ (List.mem_append_left _ (List.mem_append_left _ (List.mem_append_left _ (List.mem_append_left _ (List.mem_append_left _ (List.mem_append_left _ (List.mem_append_left _ (List.mem_append_left _ (List.mem_append_left _ (List.mem_append_left _ (List.mem_append_right _ (List.mem_append_right _ (List.mem_append_right _ (List.mem_append_left _ h)))))))))))))))))
theorem inr_5 : ∀ w ∈ wsL_law_r5, w ∈ wsL_law := fun _ h => List.mem_append_left _ (List.mem_append_left _ (List.mem_append_left _ (List.mem_append_left _ (List.mem_append_left _ (List.mem_append_left _ (List.mem_append_left _ (List.mem_append_left _ (List.mem_append_left _ (List.mem_append_left _ (List.mem_append_left _ (List.mem_append_left _ (List.mem_append_left _ (List.mem_append_left _ (List.mem_append_right _ (List.mem_append_right _ (List.mem_append_right _ (List.mem_append_right _ (List.mem_append_left _ h))))))))))))))))))
theorem inr_6 : ∀ w ∈ wsL_law_r6, w ∈ wsL_law := fun _ h => List.mem_append_left _ (List.mem_append_left _ (List.mem_append_left _ (List.mem_append_left _ (List.mem_append_left _ (List.mem_append_left _ (List.mem_append_left _ (List.mem_append_left _ (List.mem_append_left _ (List.mem_append_left _ (List.mem_append_left _ (List.mem_append_left _ (List.mem_append_left _ (List.mem_append_left _ (List.mem_append_right _ (List.mem_append_right _ (List.mem_append_right _ (List.mem_append_right _ (List.mem_append_right _ (List.mem_append_left _ h)))))))))))))))))))
theorem inr_7 : ∀ w ∈ wsL_law_r7, w ∈ wsL_law := fun _ h => List.mem_append_left _ (List.mem_append_left _ (List.mem_append_left _ (List.mem_append_left _ (List.mem_append_left _ (List.mem_append_left _ (List.mem_append_left _ (List.mem_append_left _ (List.mem_append_left _ (List.mem_append_left _ (List.mem_append_left _ (List.mem_append_left _ (List.mem_append_left _ (List.mem_append_left _ (List.mem_append_right _ (List.mem_append_right _ (List.mem_append_right _ (List.mem_append_right _ (List.mem_append_right _ (List.mem_append_right _ (List.mem_append_left _ h))))))))))))))))))))
theorem inr_8 : ∀ w ∈ wsL_law_r8, w ∈ wsL_law := fun _ h => List.mem_append_left _ (List.mem_append_left _ (List.mem_append_left _ (List.mem_append_left _ (List.mem_append_left _ (List.mem_append_left _ (List.mem_append_left _ (List.mem_append_left _ (List.mem_append_left _ (List.mem_append_left _ (List.mem_append_left _ (List.mem_append_left _ (List.mem_append_left _ (List.mem_append_left _ (List.mem_append_right _ (List.mem_append_right _ (List.mem_append_right _ (List.mem_append_right _ (List.mem_append_right _ (List.mem_append_right _ (List.mem_append_right _ (List.mem_append_left _ h)))))))))))))))))))))
theorem inr_9 : ∀ w ∈ wsL_law_r9, w ∈ wsL_law := fun _ h => List.mem_append_left _ (List.mem_append_left _ (List.mem_append_left _ (List.mem_append_left _ (List.mem_append_left _ (List.mem_append_left _ (List.mem_append_left _ (List.mem_append_left _ (List.mem_append_left _ (List.mem_append_left _ (List.mem_append_left _ (List.mem_append_left _ (List.mem_append_left _ (List.mem_append_left _ (List.mem_append_right _ (List.mem_append_right _ (List.mem_append_right _ (List.mem_append_right _ (List.mem_append_right _ (List.mem_append_right _ (List.mem_append_right _ (List.mem_append_right _ (List.mem_append_left _ h))))))))))))))))))))))
theorem inr_10 : ∀ w ∈ wsL_law_r10, w ∈ wsL_law := fun _ h => List.mem_append_left _ (List.mem_append_left _ (List.mem_append_left _ (List.mem_append_left _ (List.mem_append_left _ (List.mem_append_left _ (List.mem_append_left _ (List.mem_append_left _ (List.mem_append_left _ (List.mem_append_left _ (List.mem_append_left _ (List.mem_append_left _ (List.mem_append_left _ (List.mem_append_left _ (List.mem_append_right _ (List.mem_append_right _ (List.mem_append_right _ (List.mem_append_right _ (List.mem_append_right _ (List.mem_append_right _ (List.mem_append_right _ (List.mem_append_right _ (List.mem_append_right _ (List.mem_append_left _ h)))))))))))))))))))))))
theorem inr_11 : ∀ w ∈ wsL_law_r11, w ∈ wsL_law := fun _ h => List.mem_append_left _ (List.mem_append_left _ (List.mem_append_left _ (List.mem_append_left _ (List.mem_append_left _ (List.mem_append_left _ (List.mem_append_left _ (List.mem_append_left _ (List.mem_append_left _ (List.mem_append_left _ (List.mem_append_left _ (List.mem_append_left _ (List.mem_append_left _ (List.mem_append_left _ (List.mem_append_right _ (List.mem_append_right _ (List.mem_append_right _ (List.mem_append_right _ (List.mem_append_right _ (List.mem_append_right _ (List.mem_append_right _ (List.mem_append_right _ (List.mem_append_right _ (List.mem_append_right _ (List.mem_append_left _ h))))))))))))))))))))))))
theorem inr_12 : ∀ w ∈ wsL_law_r12, w ∈ wsL_law := fun _ h => List.mem_append_left _ (List.mem_append_left _ (List.mem_append_left _ (List.mem_append_left _ (List.mem_append_left _ (List.mem_append_left _ (List.mem_append_left _ (List.mem_append_left _ (List.mem_append_left _ (List.mem_append_left _ (List.mem_append_left _ (List.mem_append_left _ (List.mem_append_left _ (List.mem_append_left _ (List.mem_append_right _ (List.mem_append_right _ (List.mem_append_right _ (List.mem_append_right _ (List.mem_append_right _ (List.mem_append_right _ (List.mem_append_right _ (List.mem_append_right _ (List.mem_append_right _ (List.mem_append_right _ (List.mem_append_right _ (List.mem_append_left _ h)))))))))))))))))))))))))
theorem inr_13 : ∀ w ∈ wsL_law_r13, w ∈ wsL_law := fun _ h => List.mem_append_left _ (List.mem_append_left _ (List.mem_append_left _ (List.mem_append_left _ (List.mem_append_left _ (List.mem_append_left _ (List.mem_append_left _ (List.mem_append_left _ (List.mem_append_left _ (List.mem_append_left _ (List.mem_append_left _ (List.mem_append_left _ (List.mem_append_left _ (List.mem_append_left _ (List.mem_append_right _ (List.mem_append_right _ (List.mem_append_right _ (List.mem_append_right _ (List.mem_append_right _ (List.mem_append_right _ (List.mem_append_right _ (List.mem_append_right _ (List.mem_append_right _ (List.mem_append_right _ (List.mem_append_right _ (List.mem_append_right _ (List.mem_append_left _ h))))))))))))))))))))))))))
theorem inr_14 : ∀ w ∈ wsL_law_r14, w ∈ wsL_law := fun _ h => List.mem_append_left _ (List.mem_append_left _ (List.mem_append_left _ (List.mem_append_left _ (List.mem_append_left _ (List.mem_append_left _ (List.mem_append_left _ (List.mem_append_left _ (List.mem_append_left _ (List.mem_append_left _ (List.mem_append_left _ (List.mem_append_left _ (List.mem_append_left _ (List.mem_append_left _ (List.mem_append_right _ (List.mem_append_right _ (List.mem_append_right _ (List.mem_append_right _ (List.mem_append_right _ (List.mem_append_right _ (List.mem_append_right _ (List.mem_append_right _ (List.mem_append_right _ (List.mem_append_right _ (List.mem_append_right _ (List.mem_append_right _ (List.mem_append_right _ (List.mem_append_left _ h)))))))))))))))))))))))))))
theorem inr_15 : ∀ w ∈ wsL_law_r15, w ∈ wsL_law := fun _ h => List.mem_append_left _ (List.mem_append_left _ (List.mem_append_left _ (List.mem_append_left _ (List.mem_append_left _ (List.mem_append_left _ (List.mem_append_left _ (List.mem_append_left _ (List.mem_append_left _ (List.mem_append_left _ (List.mem_append_left _ (List.mem_append_left _ (List.mem_append_left _ (List.mem_append_left _ (List.mem_append_right _ (List.mem_append_right _ (List.mem_append_right _ (List.mem_append_right _ (List.mem_append_right _ (List.mem_append_right _ (List.mem_append_right _ (List.mem_append_right _ (List.mem_append_right _ (List.mem_append_right _ (List.mem_append_right _ (List.mem_append_right _ (List.mem_append_right _ (List.mem_append_right _ (List.mem_append_left _ h))))))))))))))))))))))))))))
theorem inr_16 : ∀ w ∈ wsL_law_r16, w ∈ wsL_law := fun _ h => List.mem_append_left _ (List.mem_append_left _ (List.mem_append_left _ (List.mem_append_left _ (List.mem_append_left _ (List.mem_append_left _ (List.mem_append_left _ (List.mem_append_left _ (List.mem_append_left _ (List.mem_append_left _ (List.mem_append_left _ (List.mem_append_left _ (List.mem_append_left _ (List.mem_append_left _ (List.mem_append_right _ (List.mem_append_right _ (List.mem_append_right _ (List.mem_append_right _ (List.mem_append_right _ (List.mem_append_right _ (List.mem_append_right _ (List.mem_append_right _ (List.mem_append_right _ (List.mem_append_right _ (List.mem_append_right _ (List.mem_append_right _ (List.mem_append_right _ (List.mem_append_right _ (List.mem_append_right _ (List.mem_append_left _ h)))))))))))))))))))))))))))))
theorem inr_17 : ∀ w ∈ wsL_law_r17, w ∈ wsL_law := fun _ h => List.mem_append_left _ (List.mem_append_left _ (List.mem_append_left _ (List.mem_append_left _ (List.mem_append_left _ (List.mem_append_left _ (List.mem_append_left _ (List.mem_append_left _ (List.mem_append_left _ (List.mem_append_left _ (List.mem_append_left _ (List.mem_append_left _ (List.mem_append_left _ (List.mem_append_left _ (List.mem_append_right _ (List.mem_append_right _ (List.mem_append_right _ (List.mem_append_right _ (List.mem_append_right _ (List.mem_append_right _ (List.mem_append_right _ (List.mem_append_right _ (List.mem_append_right _ (List.mem_append_right _ (List.mem_append_right _ (List.mem_append_right _ (List.mem_append_right _ (List.mem_append_right _ (List.mem_append_right _ (List.mem_append_right _ (List.mem_append_left _ h))))))))))))))))))))))))))))))
theorem inr_18 : ∀ w ∈ wsL_law_r18, w ∈ wsL_law := fun _ h => List.mem_append_left _ (List.mem_append_left _ (List.mem_append_left _ (List.mem_append_left _ (List.mem_append_left _ (List.mem_append_left _ (List.mem_append_left _ (List.mem_append_left _ (List.mem_append_left _ (List.mem_append_left _ (List.mem_append_left _ (List.mem_append_left _ (List.mem_append_left _ (List.mem_append_left _ (List.mem_append_right _ (List.mem_append_right _ (List.mem_append_right _ (List.mem_append_right _ (List.mem_append_right _ (List.mem_append_right _ (List.mem_append_right _ (List.mem_append_right _ (List.mem_append_right _ (List.mem_append_right _ (List.mem_append_right _ (List.mem_append_right _ (List.mem_append_right _ (List.mem_append_right _ (List.mem_append_right _ (List.mem_append_right _ (List.mem_append_right _ (List.mem_append_left _ h)))))))))))))))))))))))))))))))
theorem inr_19 : ∀ w ∈ wsL_law_r19, w ∈ wsL_law := fun _ h => List.mem_append_left _ (List.mem_append_left _ (List.mem_append_left _ (List.mem_append_left _ (List.mem_append_left _ (List.mem_append_left _ (List.mem_append_left _ (List.mem_append_left _ (List.mem_append_left _ (List.mem_append_left _ (List.mem_append_left _ (List.mem_append_left _ (List.mem_append_left _ (List.mem_append_left _ (List.mem_append_right _ (List.mem_append_right _ (List.mem_append_right _ (List.mem_append_right _ (List.mem_append_right _ (List.mem_append_right _ (List.mem_append_right _ (List.mem_append_right _ (List.mem_append_right _ (List.mem_append_right _ (List.mem_append_right _ (List.mem_append_right _ (List.mem_append_right _ (List.mem_append_right _ (List.mem_append_right _ (List.mem_append_right _ (List.mem_append_right _ (List.mem_append_right _ (List.mem_append_left _ h))))))))))))))))))))))))))))))))
theorem inr_20 : ∀ w ∈ wsL_law_r20, w ∈ wsL_law := fun _ h => List.mem_append_left _ (List.mem_append_left _ (List.mem_append_left _ (List.mem_append_left _ (List.mem_append_left _ (List.mem_append_left _ (List.mem_append_left _ (List.mem_append_left _ (List.mem_append_left _ (List.mem_append_left _ (List.mem_append_left _ (List.mem_append_left _ (List.mem_append_left _ (List.mem_append_left _ (List.mem_append_right _ (List.mem_append_right _ (List.mem_append_right _ (List.mem_append_right _ (List.mem_append_right _ (List.mem_append_right _ (List.mem_append_right _ (List.mem_append_right _ (List.mem_append_right _ (List.mem_append_right _ (List.mem_append_right _ (List.mem_append_right _ (List.mem_append_right _ (List.mem_append_right _ (List.mem_append_right _ (List.mem_append_right _ (List.mem_append_right _ (List.mem_append_right _ (List.mem_append_right _ (List.mem_append_left _ h)))))))))))))))))))))))))))))))))
theorem inr_21 : ∀ w ∈ wsL_law_r21, w ∈ wsL_law := fun _ h => List.mem_append_left _ (List.mem_append_left _ (List.mem_append_left _ (List.mem_append_left _ (List.mem_append_left _ (List.mem_append_left _ (List.mem_append_left _ (List.mem_append_left _ (List.mem_append_left _ (List.mem_append_left _ (List.mem_append_left _ (List.mem_append_left _ (List.mem_append_left _ (List.mem_append_left _ (List.mem_append_right _ (List.mem_append_right _ (List.mem_append_right _ (List.mem_append_right _ (List.mem_append_right _ (List.mem_append_right _ (List.mem_append_right _ (List.mem_append_right _ (List.mem_append_right _ (List.mem_append_right _ (List.mem_append_right _ (List.mem_append_right _ (List.mem_append_right _ (List.mem_append_right _ (List.mem_append_right _ (List.mem_append_right _ (List.mem_append_right _ (List.mem_append_right _ (List.mem_append_right _ (List.mem_append_right _ (List.mem_append_left _ h))))))))))))))))))))))))))))))))))
theorem inr_22 : ∀ w ∈ wsL_law_r22, w ∈ wsL_law := fun _ h => List.mem_append_left _ (List.mem_append_left _ (List.mem_append_left _ (List.mem_append_left _ (List.mem_append_left _ (List.mem_append_left _ (List.mem_append_left _ (List.mem_append_left _ (List.mem_append_left _ (List.mem_append_left _ (List.mem_append_left _ (List.mem_append_left _ (List.mem_append_left _ (List.mem_append_left _ (List.mem_append_right _ (List.mem_append_right _ (List.mem_append_right _ (List.mem_append_right _ (List.mem_append_right _ (List.mem_append_right _ (List.mem_append_right _ (List.mem_append_right _ (List.mem_append_right _ (List.mem_append_right _ (List.mem_append_right _ (List.mem_append_right _ (List.mem_append_right _ (List.mem_append_right _ (List.mem_append_right _ (List.mem_append_right _ (List.mem_append_right _ (List.mem_append_right _ (List.mem_append_right _ (List.mem_append_right _ (List.mem_append_right _ (List.mem_append_left _ h)))))))))))))))))))))))))))))))))))
theorem inr_23 : ∀ w ∈ wsL_law_r23, w ∈ wsL_law := fun _ h => List.mem_append_left _ (List.mem_append_left _ (List.mem_append_left _ (List.mem_append_left _ (List.mem_append_left _ (List.mem_append_left _ (List.mem_append_left _ (List.mem_append_left _ (List.mem_append_left _ (List.mem_append_left _ (List.mem_append_left _ (List.mem_append_left _ (List.mem_append_left _ (List.mem_append_left _ (List.mem_append_right _ (List.mem_append_right _ (List.mem_append_right _ (List.mem_append_right _ (List.mem_append_right _ (List.mem_append_right _ (List.mem_append_right _ (List.mem_append_right _ (List.mem_append_right _ (List.mem_append_right _ (List.mem_append_right _ (List.mem_append_right _ (List.mem_append_right _ (List.mem_append_right _ (List.mem_append_right _ (List.mem_append_right _ (List.mem_append_right _ (List.mem_append_right _ (List.mem_append_right _ (List.mem_append_right _ (List.mem_append_right _ (List.mem_append_right _ (List.mem_append_left _ h))))))))))))))))))))))))))))))))))))
theorem inr_24 : ∀ w ∈ wsL_law_r24, w ∈ wsL_law := fun _ h => List.mem_append_left _ (List.mem_append_left _ (List.mem_append_left _ (List.mem_append_left _ (List.mem_append_left _ (List.mem_append_left _ (List.mem_append_left _ (List.mem_append_left _ (List.mem_append_left _ (List.mem_append_left _ (List.mem_append_left _ (List.mem_append_left _ (List.mem_append_left _ (List.mem_append_left _ (List.mem_append_right _ (List.mem_append_right _ (List.mem_append_right _ (List.mem_append_right _ (List.mem_append_right _ (List.mem_append_right _ (List.mem_append_right _ (List.mem_append_right _ (List.mem_append_right _ (List.mem_append_right _ (List.mem_append_right _ (List.mem_append_right _ (List.mem_append_right _ (List.mem_append_right _ (List.mem_append_right _ (List.mem_append_right _ (List.mem_append_right _ (List.mem_append_right _ (List.mem_append_right _ (List.mem_append_right _ (List.mem_append_right _ (List.mem_append_right _ (List.mem_append_right _ (List.mem_append_left _ h)))))))))))))))))))))))))))))))))))))
theorem inr_25 : ∀ w ∈ wsL_law_r25, w ∈ wsL_law := fun _ h => List.mem_append_left _ (List.mem_append_left _ (List.mem_append_left _ (List.mem_append_left _ (List.mem_append_left _ (List.mem_append_left _ (List.mem_append_left _ (List.mem_append_left _ (List.mem_append_left _ (List.mem_append_left _ (List.mem_append_left _ (List.mem_append_left _ (List.mem_append_left _ (List.mem_append_left _ (List.mem_append_right _ (List.mem_append_right _ (List.mem_append_right _ (List.mem_append_right _ (List.mem_append_right _ (List.mem_append_right _ (List.mem_append_right _ (List.mem_append_right _ (List.mem_append_right _ (List.mem_append_right _ (List.mem_append_right _ (List.mem_append_right _ (List.mem_append_right _ (List.mem_append_right _ (List.mem_append_right _ (List.mem_append_right _ (List.mem_append_right _ (List.mem_append_right _ (List.mem_append_right _ (List.mem_append_right _ (List.mem_append_right _ (List.mem_append_right _ (List.mem_append_right _ (List.mem_append_right _ (List.mem_append_left _ h))))))))))))))))))))))))))))))))))))))
theorem inr_26 : ∀ w ∈ wsL_law_r26, w ∈ wsL_law := fun _ h => List.mem_append_left _ (List.mem_append_left _ (List.mem_append_left _ (List.mem_append_left _ (List.mem_append_left _ (List.mem_append_left _ (List.mem_append_left _ (List.mem_append_left _ (List.mem_append_left _ (List.mem_append_left _ (List.mem_append_left _ (List.mem_append_left _ (List.mem_append_left _ (List.mem_append_left _ (List.mem_append_right _ (List.mem_append_right _ (List.mem_append_right _ (List.mem_append_right _ (List.mem_append_right _ (List.mem_append_right _ (List.mem_append_right _ (List.mem_append_right _ (List.mem_append_right _ (List.mem_append_right _ (List.mem_append_right _ (List.mem_append_right _ (List.mem_append_right _ (List.mem_append_right _ (List.mem_append_right _ (List.mem_append_right _ (List.mem_append_right _ (List.mem_append_right _ (List.mem_append_right _ (List.mem_append_right _ (List.mem_append_right _ (List.mem_append_right _ (List.mem_append_right _ (List.mem_append_right _ (List.mem_append_right _ (List.mem_append_left _ h)))))))))))))))))))))))))))))))))))))))
theorem inr_27 : ∀ w ∈ wsL_law_r27, w ∈ wsL_law := fun _ h => List.mem_append_left _ (List.mem_append_left _ (List.mem_append_left _ (List.mem_append_left _ (List.mem_append_left _ (List.mem_append_left _ (List.mem_append_left _ (List.mem_append_left _ (List.mem_append_left _ (List.mem_append_left _ (List.mem_append_left _ (List.mem_append_left _ (List.mem_append_left _ (List.mem_append_left _ (List.mem_append_right _ (List.mem_append_right _ (List.mem_append_right _ (List.mem_append_right _ (List.mem_append_right _ (List.mem_append_right _ (List.mem_append_right _ (List.mem_append_right _ (List.mem_append_right _ (List.mem_append_right _ (List.mem_append_right _ (List.mem_append_right _ (List.mem_append_right _ (List.mem_append_right _ (List.mem_append_right _ (List.mem_append_right _ (List.mem_append_right _ (List.mem_append_right _ (List.mem_append_right _ (List.mem_append_right _ (List.mem_append_right _ (List.mem_append_right _ (List.mem_append_right _ (List.mem_append_right _ (List.mem_append_right _ (List.mem_append_right _ (List.mem_append_left _ h))))))))))))))))))))))))))))))))))))))))
theorem inr_28 : ∀ w ∈ wsL_law_r28, w ∈ wsL_law := fun _ h => List.mem_append_left _ (List.mem_append_left _ (List.mem_append_left _ (List.mem_append_left _ (List.mem_append_left _ (List.mem_append_left _ (List.mem_append_left _ (List.mem_append_left _ (List.mem_append_left _ (List.mem_append_left _ (List.mem_append_left _ (List.mem_append_left _ (List.mem_append_left _ (List.mem_append_left _ (List.mem_append_right _ (List.mem_append_right _ (List.mem_append_right _ (List.mem_append_right _ (List.mem_append_right _ (List.mem_append_right _ (List.mem_append_right _ (List.mem_append_right _ (List.mem_append_right _ (List.mem_append_right _ (List.mem_append_right _ (List.mem_append_right _ (List.mem_append_right _ (List.mem_append_right _ (List.mem_append_right _ (List.mem_append_right _ (List.mem_append_right _ (List.mem_append_right _ (List.mem_append_right _ (List.mem_append_right _ (List.mem_append_right _ (List.mem_append_right _ (List.mem_append_right _ (List.mem_append_right _ (List.mem_append_right _ (List.mem_append_right _ (List.mem_append_right _ (List.mem_append_left _ h)))))))))))))))))))))))))))))))))))))))))
theorem inr_29 : ∀ w ∈ wsL_law_r29, w ∈ wsL_law := fun _ h => List.mem_append_left _ (List.mem_append_left _ (List.mem_append_left _ (List.mem_append_left _ (List.mem_append_left _ (List.mem_append_left _ (List.mem_append_left _ (List.mem_append_left _ (List.mem_append_left _ (List.mem_append_left _ (List.mem_append_left _ (List.mem_append_left _ (List.mem_append_left _ (List.mem_append_left _ (List.mem_append_right _ (List.mem_append_right _ (List.mem_append_right _ (List.mem_append_right _ (List.mem_append_right _ (List.mem_append_right _ (List.mem_append_right _ (List.mem_append_right _ (List.mem_append_right _ (List.mem_append_right _ (List.mem_append_right _ (List.mem_append_right _ (List.mem_append_right _ (List.mem_append_right _ (List.mem_append_right _ (List.mem_append_right _ (List.mem_append_right _ (List.mem_append_right _ (List.mem_append_right _ (List.mem_append_right _ (List.mem_append_right _ (List.mem_append_right _ (List.mem_append_right _ (List.mem_append_right _ (List.mem_append_right _ (List.mem_append_right _ (List.mem_append_right _ (List.mem_append_right _ (List.mem_append_left _ h))))))))))))))))))))))))))))))))))))))))))
theorem inr_30 : ∀ w ∈ wsL_law_r30, w ∈ wsL_law := fun _ h => List.mem_append_left _ (List.mem_append_left _ (List.mem_append_left _ (List.mem_append_left _ (List.mem_append_left _ (List.mem_append_left _ (List.mem_append_left _ (List.mem_append_left _ (List.mem_append_left _ (List.mem_append_left _ (List.mem_append_left _ (List.mem_append_left _ (List.mem_append_left _ (List.mem_append_left _ (List.mem_append_right _ (List.mem_append_right _ (List.mem_append_right _ (List.mem_append_right _ (List.mem_append_right _ (List.mem_append_right _ (List.mem_append_right _ (List.mem_append_right _ (List.mem_append_right _ (List.mem_append_right _ (List.mem_append_right _ (List.mem_append_right _ (List.mem_append_right _ (List.mem_append_right _ (List.mem_append_right _ (List.mem_append_right _ (List.mem_append_right _ (List.mem_append_right _ (List.mem_append_right _ (List.mem_append_right _ (List.mem_append_right _ (List.mem_append_right _ (List.mem_append_right _ (List.mem_append_right _ (List.mem_append_right _ (List.mem_append_right _ (List.mem_append_right _ (List.mem_append_right _ (List.mem_append_right _ (List.mem_append_left _ h)))))))))))))))))))))))))))))))))))))))))))
theorem inr_31 : ∀ w ∈ wsL_law_r31, w ∈ wsL_law := fun _ h => List.mem_append_left _ (List.mem_append_left _ (List.mem_append_left _ (List.mem_append_left _ (List.mem_append_left _ (List.mem_append_left _ (List.mem_append_left _ (List.mem_append_left _ (List.mem_append_left _ (List.mem_append_left _ (List.mem_append_left _ (List.mem_append_left _ (List.mem_append_left _ (List.mem_append_left _ (List.mem_append_right _ (List.mem_append_right _ (List.mem_append_right _ (List.mem_append_right _ (List.mem_append_right _ (List.mem_append_right _ (List.mem_append_right _ (List.mem_append_right _ (List.mem_append_right _ (List.mem_append_right _ (List.mem_append_right _ (List.mem_append_right _ (List.mem_append_right _ (List.mem_append_right _ (List.mem_append_right _ (List.mem_append_right _ (List.mem_append_right _ (List.mem_append_right _ (List.mem_append_right _ (List.mem_append_right _ (List.mem_append_right _ (List.mem_append_right _ (List.mem_append_right _ (List.mem_append_right _ (List.mem_append_right _ (List.mem_append_right _ (List.mem_append_right _ (List.mem_append_right _ (List.mem_append_right _ (List.mem_append_right _ (List.mem_append_left _ h))))))))))))))))))))))))))))))))))))))))))))
theorem inr_32 : ∀ w ∈ wsL_law_r32, w ∈ wsL_law := fun _ h => List.mem_append_left _ (List.mem_append_left _ (List.mem_append_left _ (List.mem_append_left _ (List.mem_append_left _ (List.mem_append_left _ (List.mem_append_left _ (List.mem_append_left _ (List.mem_append_left _ (List.mem_append_left _ (List.mem_append_left _ (List.mem_append_left _ (List.mem_append_left _ (List.mem_append_left _ (List.mem_append_right _ (List.mem_append_right _ (List.mem_append_right _ (List.mem_append_right _ (List.mem_append_right _ (List.mem_append_right _ (List.mem_append_right _ (List.mem_append_right _ (List.mem_append_right _ (List.mem_append_right _ (List.mem_append_right _ (List.mem_append_right _ (List.mem_append_right _ (List.mem_append_right _ (List.mem_append_right _ (List.mem_append_right _ (List.mem_append_right _ (List.mem_append_right _ (List.mem_append_right _ (List.mem_append_right _ (List.mem_append_right _ (List.mem_append_right _ (List.mem_append_right _ (List.mem_append_right _ (List.mem_append_right _ (List.mem_append_right _ (List.mem_append_right _ (List.mem_append_right _ (List.mem_append_right _ (List.mem_append_right _ (List.mem_append_right _ (List.mem_append_left _ h)))))))))))))))))))))))))))))))))))))))))))))
theorem inr_33 : ∀ w ∈ wsL_law_r33, w ∈ wsL_law := fun _ h => List.mem_append_left _ (List.mem_append_left _ (List.mem_append_left _ (List.mem_append_left _ (List.mem_append_left _ (List.mem_append_left _ (List.mem_append_left _ (List.mem_append_left _ (List.mem_append_left _ (List.mem_append_left _ (List.mem_append_left _ (List.mem_append_left _ (List.mem_append_left _ (List.mem_append_left _ (List.mem_append_right _ (List.mem_append_right _ (List.mem_append_right _ (List.mem_append_right _ (List.mem_append_right _ (List.mem_append_right _ (List.mem_append_right _ (List.mem_append_right _ (List.mem_append_right _ (List.mem_append_right _ (List.mem_append_right _ (List.mem_append_right _ (List.mem_append_right _ (List.mem_append_right _ (List.mem_append_right _ (List.mem_append_right _ (List.mem_append_right _ (List.mem_append_right _ (List.mem_append_right _ (List.mem_append_right _ (List.mem_append_right _ (List.mem_append_right _ (List.mem_append_right _ (List.mem_append_right _ (List.mem_append_right _ (List.mem_append_right _ (List.mem_append_right _ (List.mem_append_right _ (List.mem_append_right _ (List.mem_append_right _ (List.mem_append_right _ (List.mem_append_right _ (List.mem_append_left _ h))))))))))))))))))))))))))))))))))))))))))))))
theorem inr_34 : ∀ w ∈ wsL_law_r34, w ∈ wsL_law := fun _ h => List.mem_append_left _ (List.mem_append_left _ (List.mem_append_left _ (List.mem_append_left _ (List.mem_append_left _ (List.mem_append_left _ (List.mem_append_left _ (List.mem_append_left _ (List.mem_append_left _ (List.mem_append_left _ (List.mem_append_left _ (List.mem_append_left _ (List.mem_append_left _ (List.mem_append_left _ (List.mem_append_right _ (List.mem_append_right _ (List.mem_append_right _ (List.mem_append_right _ (List.mem_append_right _ (List.mem_append_right _ (List.mem_append_right _ (List.mem_append_right _ (List.mem_append_right _ (List.mem_append_right _ (List.mem_append_right _ (List.mem_append_right _ (List.mem_append_right _ (List.mem_append_right _ (List.mem_append_right _ (List.mem_append_right _ (List.mem_append_right _ (List.mem_append_right _ (List.mem_append_right _ (List.mem_append_right _ (List.mem_append_right _ (List.mem_append_right _ (List.mem_append_right _ (List.mem_append_right _ (List.mem_append_right _ (List.mem_append_right _ (List.mem_append_right _ (List.mem_append_right _ (List.mem_append_right _ (List.mem_append_right _ (List.mem_append_right _ (List.mem_append_right _ (List.mem_append_right _ (List.mem_append_left _ h)))))))))))))))))))))))))))))))))))))))))))))))
theorem inr_35 : ∀ w ∈ wsL_law_r35, w ∈ wsL_law := fun _ h => List.mem_append_left _ (List.mem_append_left _ (List.mem_append_left _ (List.mem_append_left _ (List.mem_append_left _ (List.mem_append_left _ (List.mem_append_left _ (List.mem_append_left _ (List.mem_append_left _ (List.mem_append_left _ (List.mem_append_left _ (List.mem_append_left _ (List.mem_append_left _ (List.mem_append_left _ (List.mem_append_right _ (List.mem_append_right _ (List.mem_append_right _ (List.mem_append_right _ (List.mem_append_right _ (List.mem_append_right _ (List.mem_append_right _ (List.mem_append_right _ (List.mem_append_right _ (List.mem_append_right _ (List.mem_append_right _ (List.mem_append_right _ (List.mem_append_right _ (List.mem_append_right _ (List.mem_append_right _ (List.mem_append_right _ (List.mem_append_right _ (List.mem_append_right _ (List.mem_append_right _ (List.mem_append_right _ (List.mem_append_right _ (List.mem_append_right _ (List.mem_append_right _ (List.mem_append_right _ (List.mem_append_right _ (List.mem_append_right _ (List.mem_append_right _ (List.mem_append_right _ (List.mem_append_right _ (List.mem_append_right _ (List.mem_append_right _ (List.mem_append_right _ (List.mem_append_right _ (List.mem_append_right _ (List.mem_append_left _ h))))))))))))))))))))))))))))))))))))))))))))))))
theorem inr_36 : ∀ w ∈ wsL_law_r36, w ∈ wsL_law := fun _ h => List.mem_append_left _ (List.mem_append_left _ (List.mem_append_left _ (List.mem_append_left _ (List.mem_append_left _ (List.mem_append_left _ (List.mem_append_left _ (List.mem_append_left _ (List.mem_append_left _ (List.mem_append_left _ (List.mem_append_left _ (List.mem_append_left _ (List.mem_append_left _ (List.mem_append_left _ (List.mem_append_right _ (List.mem_append_right _ (List.mem_append_right _ (List.mem_append_right _ (List.mem_append_right _ (List.mem_append_right _ (List.mem_append_right _ (List.mem_append_right _ (List.mem_append_right _ (List.mem_append_right _ (List.mem_append_right _ (List.mem_append_right _ (List.mem_append_right _ (List.mem_append_right _ (List.mem_append_right _ (List.mem_append_right _ (List.mem_append_right _ (List.mem_append_right _ (List.mem_append_right _ (List.mem_append_right _ (List.mem_append_right _ (List.mem_append_right _ (List.mem_append_right _ (List.mem_append_right _ (List.mem_append_right _ (List.mem_append_right _ (List.mem_append_right _ (List.mem_append_right _ (List.mem_append_right _ (List.mem_append_right _ (List.mem_append_right _ (List.mem_append_right _ (List.mem_append_right _ (List.mem_append_right _ (List.mem_append_right _ (List.mem_append_left _ h)))))))))))))))))))))))))))))))))))))))))))))))))
theorem inr_37 : ∀ w ∈ wsL_law_r37, w ∈ wsL_law := fun _ h => List.mem_append_left _ (List.mem_append_left _ (List.mem_append_left _ (List.mem_append_left _ (List.mem_append_left _ (List.mem_append_left _ (List.mem_append_left _ (List.mem_append_left _ (List.mem_append_left _ (List.mem_append_left _ (List.mem_append_left _ (List.mem_append_left _ (List.mem_append_left _ (List.mem_append_left _ (List.mem_append_right _ (List.mem_append_right _ (List.mem_append_right _ (List.mem_append_right _ (List.mem_append_right _ (List.mem_append_right _ (List.mem_append_right _ (List.mem_append_right _ (List.mem_append_right _ (List.mem_append_right _ (List.mem_append_right _ (List.mem_append_right _ (List.mem_append_right _ (List.mem_append_right _ (List.mem_append_right _ (List.mem_append_right _ (List.mem_append_right _ (List.mem_append_right _ (List.mem_append_right _ (List.mem_append_right _ (List.mem_append_right _ (List.mem_append_right _ (List.mem_append_right _ (List.mem_append_right _ (List.mem_append_right _ (List.mem_append_right _ (List.mem_append_right _ (List.mem_append_right _ (List.mem_append_right _ (List.mem_append_right _ (List.mem_append_right _ (List.mem_append_right _ (List.mem_append_right _ (List.mem_append_right _ (List.mem_append_right _ (List.mem_append_right _ (List.mem_append_left _ h))))))))))))))))))))))))))))))))))))))))))))))))))
theorem inr_38 : ∀ w ∈ wsL_law_r38, w ∈ wsL_law := fun _ h => List.mem_append_left _ (List.mem_append_left _ (List.mem_append_left _ (List.mem_append_left _ (List.mem_append_left _ (List.mem_append_left _ (List.mem_append_left _ (List.mem_append_left _ (List.mem_append_left _ (List.mem_append_left _ (List.mem_append_left _ (List.mem_append_left _ (List.mem_append_left _ (List.mem_append_left _ (List.mem_append_right _ (List.mem_append_right _ (List.mem_append_right _ (List.mem_append_right _ (List.mem_append_right _ (List.mem_append_right _ (List.mem_append_right _ (List.mem_append_right _ (List.mem_append_right _ (List.mem_append_right _ (List.mem_append_right _ (List.mem_append_right _ (List.mem_append_right _ (List.mem_append_right _ (List.mem_append_right _ (List.mem_append_right _ (List.mem_append_right _ (List.mem_append_right _ (List.mem_append_right _ (List.mem_append_right _ (List.mem_append_right _ (List.mem_append_right _ (List.mem_append_right _ (List.mem_append_right _ (List.mem_append_right _ (List.mem_append_right _ (List.mem_append_right _ (List.mem_append_right _ (List.mem_append_right _ (List.mem_append_right _ (List.mem_append_right _ (List.mem_append_right _ (List.mem_append_right _ (List.mem_append_right _ (List.mem_append_right _ (List.mem_append_right _ (List.mem_append_right _ (List.mem_append_left _ h)))))))))))))))))))))))))))))))))))))))))))))))))))
theorem inr_39 : ∀ w ∈ wsL_law_r39, w ∈ wsL_law := fun _ h => List.mem_append_left _ (List.mem_append_left _ (List.mem_append_left _ (List.mem_append_left _ (List.mem_append_left _ (List.mem_append_left _ (List.mem_append_left _ (List.mem_append_left _ (List.mem_append_left _ (List.mem_append_left _ (List.mem_append_left _ (List.mem_append_left _ (List.mem_append_left _ (List.mem_append_left _ (List.mem_append_right _ (List.mem_append_right _ (List.mem_append_right _ (List.mem_append_right _ (List.mem_append_right _ (List.mem_append_right _ (List.mem_append_right _ (List.mem_append_right _ (List.mem_append_right _ (List.mem_append_right _ (List.mem_append_right _ (List.mem_append_right _ (List.mem_append_right _ (List.mem_append_right _ (List.mem_append_right _ (List.mem_append_right _ (List.mem_append_right _ (List.mem_append_right _ (List.mem_append_right _ (List.mem_append_right _ (List.mem_append_right _ (List.mem_append_right _ (List.mem_append_right _ (List.mem_append_right _ (List.mem_append_right _ (List.mem_append_right _ (List.mem_append_right _ (List.mem_append_right _ (List.mem_append_right _ (List.mem_append_right _ (List.mem_append_right _ (List.mem_append_right _ (List.mem_append_right _ (List.mem_append_right _ (List.mem_append_right _ (List.mem_append_right _ (List.mem_append_right _ (List.mem_append_right _ (List.mem_append_left _ h))))))))))))))))))))))))))))))))))))))))))))))))))))
theorem inr_40 : ∀ w ∈ wsL_law_r40, w ∈ wsL_law := fun _ h => List.mem_append_left _ (List.mem_append_left _ (List.mem_append_left _ (List.mem_append_left _ (List.mem_append_left _ (List.mem_append_left _ (List.mem_append_left _ (List.mem_append_left _ (List.mem_append_left _ (List.mem_append_left _ (List.mem_append_left _ (List.mem_append_left _ (List.mem_append_left _ (List.mem_append_left _ (List.mem_append_right _ (List.mem_append_right _ (List.mem_append_right _ (List.mem_append_right _ (List.mem_append_right _ (List.mem_append_right _ (List.mem_append_right _ (List.mem_append_right _ (List.mem_append_right _ (List.mem_append_right _ (List.mem_append_right _ (List.mem_append_right _ (List.mem_append_right _ (List.mem_append_right _ (List.mem_append_right _ (List.mem_append_right _ (List.mem_append_right _ (List.mem_append_right _ (List.mem_append_right _ (List.mem_append_right _ (List.mem_append_right _ (List.mem_append_right _ (List.mem_append_right _ (List.mem_append_right _ (List.mem_append_right _ (List.mem_append_right _ (List.mem_append_right _ (List.mem_append_right _ (List.mem_append_right _ (List.mem_append_right _ (List.mem_append_right _ (List.mem_append_right _ (List.mem_append_right _ (List.mem_append_right _ (List.mem_append_right _ (List.mem_append_right _ (List.mem_append_right _ (List.mem_append_right _ (List.mem_append_right _ (List.mem_append_left _ h)))))))))))))))))))))))))))))))))))))))))))))))))))))
theorem inr_41 : ∀ w ∈ wsL_law_r41, w ∈ wsL_law := fun _ h => List.mem_append_left _ (List.mem_append_left _ (List.mem_append_left _ (List.mem_append_left _ (List.mem_append_left _ (List.mem_append_left _ (List.mem_append_left _ (List.mem_append_left _ (List.mem_append_left _ (List.mem_append_left _ (List.mem_append_left _ (List.mem_append_left _ (List.mem_append_left _ (List.mem_append_left _ (List.mem_append_right _ (List.mem_append_right _ (List.mem_append_right _ (List.mem_append_right _ (List.mem_append_right _ (List.mem_append_right _ (List.mem_append_right _ (List.mem_append_right _ (List.mem_append_right _ (List.mem_append_right _ (List.mem_append_right _ (List.mem_append_right _ (List.mem_append_right _ (List.mem_append_right _ (List.mem_append_right _ (List.mem_append_right _ (List.mem_append_right _ (List.mem_append_right _ (List.mem_append_right _ (List.mem_append_right _ (List.mem_append_right _ (List.mem_append_right _ (List.mem_append_right _ (List.mem_append_right _ (List.mem_append_right _ (List.mem_append_right _ (List.mem_append_right _ (List.mem_append_right _ (List.mem_append_right _ (List.mem_append_right _ (List.mem_append_right _ (List.mem_append_right _ (List.mem_append_right _ (List.mem_append_right _ (List.mem_append_right _ (List.mem_append_right _ (List.mem_append_right _ (List.mem_append_right _ (List.mem_append_right _ (List.mem_append_right _ (List.mem_append_left _ h))))))))))))))))))))))))))))))))))))))))))))))))))))))
theorem inr_42 : ∀ w ∈ wsL_law_r42, w ∈ wsL_law := fun _ h => List.mem_append_left _ (List.mem_append_left _ (List.mem_append_left _ (List.mem_append_left _ (List.mem_append_left _ (List.mem_append_left _ (List.mem_append_left _ (List.mem_append_left _ (List.mem_append_left _ (List.mem_append_left _ (List.mem_append_left _ (List.mem_append_left _ (List.mem_append_left _ (List.mem_append_left _ (List.mem_append_right _ (List.mem_append_right _ (List.mem_append_right _ (List.mem_append_right _ (List.mem_append_right _ (List.mem_append_right _ (List.mem_append_right _ (List.mem_append_right _ (List.mem_append_right _ (List.mem_append_right _ (List.mem_append_right _ (List.mem_append_right _ (List.mem_append_right _ (List.mem_append_right _ (List.mem_append_right _ (List.mem_append_right _ (List.mem_append_right _ (List.mem_append_right _ (List.mem_append_right _ (List.mem_append_right _ (List.mem_append_right _ (List.mem_append_right _ (List.mem_append_right _ (List.mem_append_right _ (List.mem_append_right _ (List.mem_append_right _ (List.mem_append_right _ (List.mem_append_right _ (List.mem_append_right _ (List.mem_append_right _ (List.mem_append_right _ (List.mem_append_right _ (List.mem_append_right _ (List.mem_append_right _ (List.mem_append_right _ (List.mem_append_right _ (List.mem_append_right _ (List.mem_append_right _ (List.mem_append_right _ (List.mem_append_right _ (List.mem_append_right _ (List.mem_append_left _ h)))))))))))))))))))))))))))))))))))))))))))))))))))))))
theorem inr_43 : ∀ w ∈ wsL_law_r43, w ∈ wsL_law := fun _ h => List.mem_append_left _ (List.mem_append_left _ (List.mem_append_left _ (List.mem_append_left _ (List.mem_append_left _ (List.mem_append_left _ (List.mem_append_left _ (List.mem_append_left _ (List.mem_append_left _ (List.mem_append_left _ (List.mem_append_left _ (List.mem_append_left _ (List.mem_append_left _ (List.mem_append_left _ (List.mem_append_right _ (List.mem_append_right _ (List.mem_append_right _ (List.mem_append_right _ (List.mem_append_right _ (List.mem_append_right _ (List.mem_append_right _ (List.mem_append_right _ (List.mem_append_right _ (List.mem_append_right _ (List.mem_append_right _ (List.mem_append_right _ (List.mem_append_right _ (List.mem_append_right _ (List.mem_append_right _ (List.mem_append_right _ (List.mem_append_right _ (List.mem_append_right _ (List.mem_append_right _ (List.mem_append_right _ (List.mem_append_right _ (List.mem_append_right _ (List.mem_append_right _ (List.mem_append_right _ (List.mem_append_right _ (List.mem_append_right _ (List.mem_append_right _ (List.mem_append_right _ (List.mem_append_right _ (List.mem_append_right _ (List.mem_append_right _ (List.mem_append_right _ (List.mem_append_right _ (List.mem_append_right _ (List.mem_append_right _ (List.mem_append_right _ (List.mem_append_right _ (List.mem_append_right _ (List.mem_append_right _ (List.mem_append_right _ (List.mem_append_right _ (List.mem_append_right _ (List.mem_append_left _ h))))))))))))))))))))))))))))))))))))))))))))))))))))))))
theorem inr_44 : ∀ w ∈ wsL_law_r44, w ∈ wsL_law := fun _ h => List.mem_append_left _ (List.mem_append_left _ (List.mem_append_left _ (List.mem_append_left _ (List.mem_append_left _ (List.mem_append_left _ (List.mem_append_left _ (List.mem_append_left _ (List.mem_append_left _ (List.mem_append_left _ (List.mem_append_left _ (List.mem_append_left _ (List.mem_append_left _ (List.mem_append_left _ (List.mem_append_right _ (List.mem_append_right _ (List.mem_append_right _ (List.mem_append_right _ (List.mem_append_right _ (List.mem_append_right _ (List.mem_append_right _ (List.mem_append_right _ (List.mem_append_right _ (List.mem_append_right _ (List.mem_append_right _ (List.mem_append_right _ (List.mem_append_right _ (List.mem_append_right _ (List.mem_append_right _ (List.mem_append_right _ (List.mem_append_right _ (List.mem_append_right _ (List.mem_append_right _ (List.mem_append_right _ (List.mem_append_right _ (List.mem_append_right _ (List.mem_append_right _ (List.mem_append_right _ (List.mem_append_right _ (List.mem_append_right _ (List.mem_append_right _ (List.mem_append_right _ (List.mem_append_right _ (List.mem_append_right _ (List.mem_append_right _ (List.mem_append_right _ (List.mem_append_right _ (List.mem_append_right _ (List.mem_append_right _ (List.mem_append_right _ (List.mem_append_right _ (List.mem_append_right _ (List.mem_append_right _ (List.mem_append_right _ (List.mem_append_right _ (List.mem_append_right _ (List.mem_append_right _ (List.mem_append_left _ h)))))))))))))))))))))))))))))))))))))))))))))))))))))))))
theorem inr_45 : ∀ w ∈ wsL_law_r45, w ∈ wsL_law := fun _ h => List.mem_append_left _ (List.mem_append_left _ (List.mem_append_left _ (List.mem_append_left _ (List.mem_append_left _ (List.mem_append_left _ (List.mem_append_left _ (List.mem_append_left _ (List.mem_append_left _ (List.mem_append_left _ (List.mem_append_left _ (List.mem_append_left _ (List.mem_append_left _ (List.mem_append_left _ (List.mem_append_right _ (List.mem_append_right _ (List.mem_append_right _ (List.mem_append_right _ (List.mem_append_right _ (List.mem_append_right _ (List.mem_append_right _ (List.mem_append_right _ (List.mem_append_right _ (List.mem_append_right _ (List.mem_append_right _ (List.mem_append_right _ (List.mem_append_right _ (List.mem_append_right _ (List.mem_append_right _ (List.mem_append_right _ (List.mem_append_right _ (List.mem_append_right _ (List.mem_append_right _ (List.mem_append_right _ (List.mem_append_right _ (List.mem_append_right _ (List.mem_append_right _ (List.mem_append_right _ (List.mem_append_right _ (List.mem_append_right _ (List.mem_append_right _ (List.mem_append_right _ (List.mem_append_right _ (List.mem_append_right _ (List.mem_append_right _ (List.mem_append_right _ (List.mem_append_right _ (List.mem_append_right _ (List.mem_append_right _ (List.mem_append_right _ (List.mem_append_right _ (List.mem_append_right _ (List.mem_append_right _ (List.mem_append_right _ (List.mem_append_right _ (List.mem_append_right _ (List.mem_append_right _ (List.mem_append_right _ (List.mem_append_left _ h))))))))))))))))))))))))))))))))))))))))))))))))))))))))))
theorem inr_46 : ∀ w ∈ wsL_law_r46, w ∈ wsL_law := fun _ h => List.mem_append_left _ (List.mem_append_left _ (List.mem_append_left _ (List.mem_append_left _ (List.mem_append_left _ (List.mem_append_left _ (List.mem_append_left _ (List.mem_append_left _ (List.mem_append_left _ (List.mem_append_left _ (List.mem_append_left _ (List.mem_append_left _ (List.mem_append_left _ (List.mem_append_left _ (List.mem_append_right _ (List.mem_append_right _ (List.mem_append_right _ (List.mem_append_right _ (List.mem_append_right _ (List.mem_append_right _ (List.mem_append_right _ (List.mem_append_right _ (List.mem_append_right _ (List.mem_append_right _ (List.mem_append_right _ (List.mem_append_right _ (List.mem_append_right _ (List.mem_append_right _ (List.mem_append_right _ (List.mem_append_right _ (List.mem_append_right _ (List.mem_append_right _ (List.mem_append_right _ (List.mem_append_right _ (List.mem_append_right _ (List.mem_append_right _ (List.mem_append_right _ (List.mem_append_right _ (List.mem_append_right _ (List.mem_append_right _ (List.mem_append_right _ (List.mem_append_right _ (List.mem_append_right _ (List.mem_append_right _ (List.mem_append_right _ (List.mem_append_right _ (List.mem_append_right _ (List.mem_append_right _ (List.mem_append_right _ (List.mem_append_right _ (List.mem_append_right _ (List.mem_append_right _ (List.mem_append_right _ (List.mem_append_right _ (List.mem_append_right _ (List.mem_append_right _ (List.mem_append_right _ (List.mem_append_right _ (List.mem_append_right _ (List.mem_append_left _ h)))))))))))))))))))))))))))))))))))))))))))))))))))))))))))
theorem inr_47 : ∀ w ∈ wsL_law_r47, w ∈ wsL_law := fun _ h => List.mem_append_left _ (List.mem_append_left _ (List.mem_append_left _ (List.mem_append_left _ (List.mem_append_left _ (List.mem_append_left _ (List.mem_append_left _ (List.mem_append_left _ (List.mem_append_left _ (List.mem_append_left _ (List.mem_append_left _ (List.mem_append_left _ (List.mem_append_left _ (List.mem_append_left _ (List.mem_append_right _ (List.mem_append_right _ (List.mem_append_right _ (List.mem_append_right _ (List.mem_append_right _ (List.mem_append_right _ (List.mem_append_right _ (List.mem_append_right _ (List.mem_append_right _ (List.mem_append_right _ (List.mem_append_right _ (List.mem_append_right _ (List.mem_append_right _ (List.mem_append_right _ (List.mem_append_right _ (List.mem_append_right _ (List.mem_append_right _ (List.mem_append_right _ (List.mem_append_right _ (List.mem_append_right _ (List.mem_append_right _ (List.mem_append_right _ (List.mem_append_right _ (List.mem_append_right _ (List.mem_append_right _ (List.mem_append_right _ (List.mem_append_right _ (List.mem_append_right _ (List.mem_append_right _ (List.mem_append_right _ (List.mem_append_right _ (List.mem_append_right _ (List.mem_append_right _ (List.mem_append_right _ (List.mem_append_right _ (List.mem_append_right _ (List.mem_append_right _ (List.mem_append_right _ (List.mem_append_right _ (List.mem_append_right _ (List.mem_append_right _ (List.mem_append_right _ (List.mem_append_right _ (List.mem_append_right _ (List.mem_append_right _ (List.mem_append_right _ (List.mem_append_left _ h))))))))))))))))))))))))))))))))))))))))))))))))))))))))))))
theorem inr_48 : ∀ w ∈ wsL_law_r48, w ∈ wsL_law := fun _ h => List.mem_append_left _ (List.mem_append_left _ (List.mem_append_left _ (List.mem_append_left _ (List.mem_append_left _ (List.mem_append_left _ (List.mem_append_left _ (List.mem_append_left _ (List.mem_append_left _ (List.mem_append_left _ (List.mem_append_left _ (List.mem_append_left _ (List.mem_append_left _ (List.mem_append_left _ (List.mem_append_right _ (List.mem_append_right _ (List.mem_append_right _ (List.mem_append_right _ (List.mem_append_right _ (List.mem_append_right _ (List.mem_append_right _ (List.mem_append_right _ (List.mem_append_right _ (List.mem_append_right _ (List.mem_append_right _ (List.mem_append_right _ (List.mem_append_right _ (List.mem_append_right _ (List.mem_append_right _ (List.mem_append_right _ (List.mem_append_right _ (List.mem_append_right _ (List.mem_append_right _ (List.mem_append_right _ (List.mem_append_right _ (List.mem_append_right _ (List.mem_append_right _ (List.mem_append_right _ (List.mem_append_right _ (List.mem_append_right _ (List.mem_append_right _ (List.mem_append_right _ (List.mem_append_right _ (List.mem_append_right _ (List.mem_append_right _ (List.mem_append_right _ (List.mem_append_right _ (List.mem_append_right _ (List.mem_append_right _ (List.mem_append_right _ (List.mem_append_right _ (List.mem_append_right _ (List.mem_append_right _ (List.mem_append_right _ (List.mem_append_right _ (List.mem_append_right _ (List.mem_append_right _ (List.mem_append_right _ (List.mem_append_right _ (List.mem_append_right _ (List.mem_append_right _ (List.mem_append_left _ h)))))))))))))))))))))))))))))))))))))))))))))))))))))))))))))
theorem inr_49 : ∀ w ∈ wsL_law_r49, w ∈ wsL_law := fun _ h => List.mem_append_left _ (List.mem_append_left _ (List.mem_append_left _ (List.mem_append_left _ (List.mem_append_left _ (List.mem_append_left _ (List.mem_append_left _ (List.mem_append_left _ (List.mem_append_left _ (List.mem_append_left _ (List.mem_append_left _ (List.mem_append_left _ (List.mem_append_left _ (List.mem_append_left _ (List.mem_append_right _ (List.mem_append_right _ (List.mem_append_right _ (List.mem_append_right _ (List.mem_append_right _ (List.mem_append_right _ (List.mem_append_right _ (List.mem_append_right _ (List.mem_append_right _ (List.mem_append_right _ (List.mem_append_right _ (List.mem_append_right _ (List.mem_append_right _ (List.mem_append_right _ (List.mem_append_right _ (List.mem_append_right _ (List.mem_append_right _ (List.mem_append_right _ (List.mem_append_right _ (List.mem_append_right _ (List.mem_append_right _ (List.mem_append_right _ (List.mem_append_right _ (List.mem_append_right _ (List.mem_append_right _ (List.mem_append_right _ (List.mem_append_right _ (List.mem_append_right _ (List.mem_append_right _ (List.mem_append_right _ (List.mem_append_right _ (List.mem_append_right _ (List.mem_append_right _ (List.mem_append_right _ (List.mem_append_right _ (List.mem_append_right _ (List.mem_append_right _ (List.mem_append_right _ (List.mem_append_right _ (List.mem_append_right _ (List.mem_append_right _ (List.mem_append_right _ (List.mem_append_right _ (List.mem_append_right _ (List.mem_append_right _ (List.mem_append_right _ (List.mem_append_right _ (List.mem_append_right _ (List.mem_append_left _ h))))))))))))))))))))))))))))))))))))))))))))))))))))))))))))))
theorem inr_50 : ∀ w ∈ wsL_law_r50, w ∈ wsL_law := fun _ h => List.mem_append_left _ (List.mem_append_left _ (List.mem_append_left _ (List.mem_append_left _ (List.mem_append_left _ (List.mem_append_left _ (List.mem_append_left _ (List.mem_append_left _ (List.mem_append_left _ (List.mem_append_left _ (List.mem_append_left _ (List.mem_append_left _ (List.mem_append_left _ (List.mem_append_left _ (List.mem_append_right _ (List.mem_append_right _ (List.mem_append_right _ (List.mem_append_right _ (List.mem_append_right _ (List.mem_append_right _ (List.mem_append_right _ (List.mem_append_right _ (List.mem_append_right _ (List.mem_append_right _ (List.mem_append_right _ (List.mem_append_right _ (List.mem_append_right _ (List.mem_append_right _ (List.mem_append_right _ (List.mem_append_right _ (List.mem_append_right _ (List.mem_append_right _ (List.mem_append_right _ (List.mem_append_right _ (List.mem_append_right _ (List.mem_append_right _ (List.mem_append_right _ (List.mem_append_right _ (List.mem_append_right _ (List.mem_append_right _ (List.mem_append_right _ (List.mem_append_right _ (List.mem_append_right _ (List.mem_append_right _ (List.mem_append_right _ (List.mem_append_right _ (List.mem_append_right _ (List.mem_append_right _ (List.mem_append_right _ (List.mem_append_right _ (List.mem_append_right _ (List.mem_append_right _ (List.mem_append_right _ (List.mem_append_right _ (List.mem_append_right _ (List.mem_append_right _ (List.mem_append_right _ (List.mem_append_right _ (List.mem_append_right _ (List.mem_append_right _ (List.mem_append_right _ (List.mem_append_right _ (List.mem_append_right _ (List.mem_append_left _ h)))))))))))))))))))))))))))))))))))))))))))))))))))))))))))))))
theorem inr_51 : ∀ w ∈ wsL_law_r51, w ∈ wsL_law := fun _ h => List.mem_append_left _ (List.mem_append_left _ (List.mem_append_left _ (List.mem_append_left _ (List.mem_append_left _ (List.mem_append_left _ (List.mem_append_left _ (List.mem_append_left _ (List.mem_append_left _ (List.mem_append_left _ (List.mem_append_left _ (List.mem_append_left _ (List.mem_append_left _ (List.mem_append_left _ (List.mem_append_right _ (List.mem_append_right _ (List.mem_append_right _ (List.mem_append_right _ (List.mem_append_right _ (List.mem_append_right _ (List.mem_append_right _ (List.mem_append_right _ (List.mem_append_right _ (List.mem_append_right _ (List.mem_append_right _ (List.mem_append_right _ (List.mem_append_right _ (List.mem_append_right _ (List.mem_append_right _ (List.mem_append_right _ (List.mem_append_right _ (List.mem_append_right _ (List.mem_append_right _ (List.mem_append_right _ (List.mem_append_right _ (List.mem_append_right _ (List.mem_append_right _ (List.mem_append_right _ (List.mem_append_right _ (List.mem_append_right _ (List.mem_append_right _ (List.mem_append_right _ (List.mem_append_right _ (List.mem_append_right _ (List.mem_append_right _ (List.mem_append_right _ (List.mem_append_right _ (List.mem_append_right _ (List.mem_append_right _ (List.mem_append_right _ (List.mem_append_right _ (List.mem_append_right _ (List.mem_append_right _ (List.mem_append_right _ (List.mem_append_right _ (List.mem_append_right _ (List.mem_append_right _ (List.mem_append_right _ (List.mem_append_right _ (List.mem_append_right _ (List.mem_append_right _ (List.mem_append_right _ (List.mem_append_right _ (List.mem_append_right _ (List.mem_append_left _ h))))))))))))))))))))))))))))))))))))))))))))))))))))))))))))))))
theorem inr_52 : ∀ w ∈ wsL_law_r52, w ∈ wsL_law := fun _ h => List.mem_append_left _ (List.mem_append_left _ (List.mem_append_left _ (List.mem_append_left _ (List.mem_append_left _ (List.mem_append_left _ (List.mem_append_left _ (List.mem_append_left _ (List.mem_append_left _ (List.mem_append_left _ (List.mem_append_left _ (List.mem_append_left _ (List.mem_append_left _ (List.mem_append_left _ (List.mem_append_right _ (List.mem_append_right _ (List.mem_append_right _ (List.mem_append_right _ (List.mem_append_right _ (List.mem_append_right _ (List.mem_append_right _ (List.mem_append_right _ (List.mem_append_right _ (List.mem_append_right _ (List.mem_append_right _ (List.mem_append_right _ (List.mem_append_right _ (List.mem_append_right _ (List.mem_append_right _ (List.mem_append_right _ (List.mem_append_right _ (List.mem_append_right _ (List.mem_append_right _ (List.mem_append_right _ (List.mem_append_right _ (List.mem_append_right _ (List.mem_append_right _ (List.mem_append_right _ (List.mem_append_right _ (List.mem_append_right _ (List.mem_append_right _ (List.mem_append_right _ (List.mem_append_right _ (List.mem_append_right _ (List.mem_append_right _ (List.mem_append_right _ (List.mem_append_right _ (List.mem_append_right _ (List.mem_append_right _ (List.mem_append_right _ (List.mem_append_right _ (List.mem_append_right _ (List.mem_append_right _ (List.mem_append_right _ (List.mem_append_right _ (List.mem_append_right _ (List.mem_append_right _ (List.mem_append_right _ (List.mem_append_right _ (List.mem_append_right _ (List.mem_append_right _ (List.mem_append_right _ (List.mem_append_right _ (List.mem_append_right _ (List.mem_append_right _ (List.mem_append_left _ h)))))))))))))))))))))))))))))))))))))))))))))))))))))))))))))))))
theorem inr_53 : ∀ w ∈ wsL_law_r53, w ∈ wsL_law := fun _ h => List.mem_append_left _ (List.mem_append_left _ (List.mem_append_left _ (List.mem_append_left _ (List.mem_append_left _ (List.mem_append_left _ (List.mem_append_left _ (List.mem_append_left _ (List.mem_append_left _ (List.mem_append_left _ (List.mem_append_left _ (List.mem_append_left _ (List.mem_append_left _ (List.mem_append_left _ (List.mem_append_right _ (List.mem_append_right _ (List.mem_append_right _ (List.mem_append_right _ (List.mem_append_right _ (List.mem_append_right _ (List.mem_append_right _ (List.mem_append_right _ (List.mem_append_right _ (List.mem_append_right _ (List.mem_append_right _ (List.mem_append_right _ (List.mem_append_right _ (List.mem_append_right _ (List.mem_append_right _ (List.mem_append_right _ (List.mem_append_right _ (List.mem_append_right _ (List.mem_append_right _ (List.mem_append_right _ (List.mem_append_right _ (List.mem_append_right _ (List.mem_append_right _ (List.mem_append_right _ (List.mem_append_right _ (List.mem_append_right _ (List.mem_append_right _ (List.mem_append_right _ (List.mem_append_right _ (List.mem_append_right _ (List.mem_append_right _ (List.mem_append_right _ (List.mem_append_right _ (List.mem_append_right _ (List.mem_append_right _ (List.mem_append_right _ (List.mem_append_right _ (List.mem_append_right _ (List.mem_append_right _ (List.mem_append_right _ (List.mem_append_right _ (List.mem_append_right _ (List.mem_append_right _ (List.mem_append_right _ (List.mem_append_right _ (List.mem_append_right _ (List.mem_append_right _ (List.mem_append_right _ (List.mem_append_right _ (List.mem_append_right _ (List.mem_append_right _ (List.mem_append_right _ (List.mem_append_left _ h))))))))))))))))))))))))))))))))))))))))))))))))))))))))))))))))))
theorem inr_54 : ∀ w ∈ wsL_law_r54, w ∈ wsL_law := fun _ h => List.mem_append_left _ (List.mem_append_left _ (List.mem_append_left _ (List.mem_append_left _ (List.mem_append_left _ (List.mem_append_left _ (List.mem_append_left _ (List.mem_append_left _ (List.mem_append_left _ (List.mem_append_left _ (List.mem_append_left _ (List.mem_append_left _ (List.mem_append_left _ (List.mem_append_left _ (List.mem_append_right _ (List.mem_append_right _ (List.mem_append_right _ (List.mem_append_right _ (List.mem_append_right _ (List.mem_append_right _ (List.mem_append_right _ (List.mem_append_right _ (List.mem_append_right _ (List.mem_append_right _ (List.mem_append_right _ (List.mem_append_right _ (List.mem_append_right _ (List.mem_append_right _ (List.mem_append_right _ (List.mem_append_right _ (List.mem_append_right _ (List.mem_append_right _ (List.mem_append_right _ (List.mem_append_right _ (List.mem_append_right _ (List.mem_append_right _ (List.mem_append_right _ (List.mem_append_right _ (List.mem_append_right _ (List.mem_append_right _ (List.mem_append_right _ (List.mem_append_right _ (List.mem_append_right _ (List.mem_append_right _ (List.mem_append_right _ (List.mem_append_right _ (List.mem_append_right _ (List.mem_append_right _ (List.mem_append_right _ (List.mem_append_right _ (List.mem_append_right _ (List.mem_append_right _ (List.mem_append_right _ (List.mem_append_right _ (List.mem_append_right _ (List.mem_append_right _ (List.mem_append_right _ (List.mem_append_right _ (List.mem_append_right _ (List.mem_append_right _ (List.mem_append_right _ (List.mem_append_right _ (List.mem_append_right _ (List.mem_append_right _ (List.mem_append_right _ (List.mem_append_right _ (List.mem_append_right _ (List.mem_append_left _ h)))))))))))))))))))))))))))))))))))))))))))))))))))))))))))))))))))
theorem inr_55 : ∀ w ∈ wsL_law_r55, w ∈ wsL_law := fun _ h => List.mem_append_left _ (List.mem_append_left _ (List.mem_append_left _ (List.mem_append_left _ (List.mem_append_left _ (List.mem_append_left _ (List.mem_append_left _ (List.mem_append_left _ (List.mem_append_left _ (List.mem_append_left _ (List.mem_append_left _ (List.mem_append_left _ (List.mem_append_left _ (List.mem_append_left _ (List.mem_append_right _ (List.mem_append_right _ (List.mem_append_right _ (List.mem_append_right _ (List.mem_append_right _ (List.mem_append_right _ (List.mem_append_right _ (List.mem_append_right _ (List.mem_append_right _ (List.mem_append_right _ (List.mem_append_right _ (List.mem_append_right _ (List.mem_append_right _ (List.mem_append_right _ (List.mem_append_right _ (List.mem_append_right _ (List.mem_append_right _ (List.mem_append_right _ (List.mem_append_right _ (List.mem_append_right _ (List.mem_append_right _ (List.mem_append_right _ (List.mem_append_right _ (List.mem_append_right _ (List.mem_append_right _ (List.mem_append_right _ (List.mem_append_right _ (List.mem_append_right _ (List.mem_append_right _ (List.mem_append_right _ (List.mem_append_right _ (List.mem_append_right _ (List.mem_append_right _ (List.mem_append_right _ (List.mem_append_right _ (List.mem_append_right _ (List.mem_append_right _ (List.mem_append_right _ (List.mem_append_right _ (List.mem_append_right _ (List.mem_append_right _ (List.mem_append_right _ (List.mem_append_right _ (List.mem_append_right _ (List.mem_append_right _ (List.mem_append_right _ (List.mem_append_right _ (List.mem_append_right _ (List.mem_append_right _ (List.mem_append_right _ (List.mem_append_right _ (List.mem_append_right _ (List.mem_append_right _ (List.mem_append_right _ (List.mem_append_left _ h))))))))))))))))))))))))))))))))))))))))))))))))))))))))))))))))))))
theorem inr_56 : ∀ w ∈ wsL_law_r56, w ∈ wsL_law := fun _ h => List.mem_append_left _ (List.mem_append_left _ (List.mem_append_left _ (List.mem_append_left _ (List.mem_append_left _ (List.mem_append_left _ (List.mem_append_left _ (List.mem_append_left _ (List.mem_append_left _ (List.mem_append_left _ (List.mem_append_left _ (List.mem_append_left _ (List.mem_append_left _ (List.mem_append_left _ (List.mem_append_right _ (List.mem_append_right _ (List.mem_append_right _ (List.mem_append_right _ (List.mem_append_right _ (List.mem_append_right _ (List.mem_append_right _ (List.mem_append_right _ (List.mem_append_right _ (List.mem_append_right _ (List.mem_append_right _ (List.mem_append_right _ (List.mem_append_right _ (List.mem_append_right _ (List.mem_append_right _ (List.mem_append_right _ (List.mem_append_right _ (List.mem_append_right _ (List.mem_append_right _ (List.mem_append_right _ (List.mem_append_right _ (List.mem_append_right _ (List.mem_append_right _ (List.mem_append_right _ (List.mem_append_right _ (List.mem_append_right _ (List.mem_append_right _ (List.mem_append_right _ (List.mem_append_right _ (List.mem_append_right _ (List.mem_append_right _ (List.mem_append_right _ (List.mem_append_right _ (List.mem_append_right _ (List.mem_append_right _ (List.mem_append_right _ (List.mem_append_right _ (List.mem_append_right _ (List.mem_append_right _ (List.mem_append_right _ (List.mem_append_right _ (List.mem_append_right _ (List.mem_append_right _ (List.mem_append_right _ (List.mem_append_right _ (List.mem_append_right _ (List.mem_append_right _ (List.mem_append_right _ (List.mem_append_right _ (List.mem_append_right _ (List.mem_append_right _ (List.mem_append_right _ (List.mem_append_right _ (List.mem_append_right _ (List.mem_append_right _ (List.mem_append_left _ h)))))))))))))))))))))))))))))))))))))))))))))))))))))))))))))))))))))
theorem inr_57 : ∀ w ∈ wsL_law_r57, w ∈ wsL_law := fun _ h => List.mem_append_left _ (List.mem_append_left _ (List.mem_append_left _ (List.mem_append_left _ (List.mem_append_left _ (List.mem_append_left _ (List.mem_append_left _ (List.mem_append_left _ (List.mem_append_left _ (List.mem_append_left _ (List.mem_append_left _ (List.mem_append_left _ (List.mem_append_left _ (List.mem_append_left _ (List.mem_append_right _ (List.mem_append_right _ (List.mem_append_right _ (List.mem_append_right _ (List.mem_append_right _ (List.mem_append_right _ (List.mem_append_right _ (List.mem_append_right _ (List.mem_append_right _ (List.mem_append_right _ (List.mem_append_right _ (List.mem_append_right _ (List.mem_append_right _ (List.mem_append_right _ (List.mem_append_right _ (List.mem_append_right _ (List.mem_append_right _ (List.mem_append_right _ (List.mem_append_right _ (List.mem_append_right _ (List.mem_append_right _ (List.mem_append_right _ (List.mem_append_right _ (List.mem_append_right _ (List.mem_append_right _ (List.mem_append_right _ (List.mem_append_right _ (List.mem_append_right _ (List.mem_append_right _ (List.mem_append_right _ (List.mem_append_right _ (List.mem_append_right _ (List.mem_append_right _ (List.mem_append_right _ (List.mem_append_right _ (List.mem_append_right _ (List.mem_append_right _ (List.mem_append_right _ (List.mem_append_right _ (List.mem_append_right _ (List.mem_append_right _ (List.mem_append_right _ (List.mem_append_right _ (List.mem_append_right _ (List.mem_append_right _ (List.mem_append_right _ (List.mem_append_right _ (List.mem_append_right _ (List.mem_append_right _ (List.mem_append_right _ (List.mem_append_right _ (List.mem_append_right _ (List.mem_append_right _ (List.mem_append_right _ (List.mem_append_right _ (List.mem_append_right _ (List.mem_append_left _ h))))))))))))))))))))))))))))))))))))))))))))))))))))))))))))))))))))))
theorem inr_58 : ∀ w ∈ wsL_law_r58, w ∈ wsL_law := fun _ h => List.mem_append_left _ (List.mem_append_left _ (List.mem_append_left _ (List.mem_append_left _ (List.mem_append_left _ (List.mem_append_left _ (List.mem_append_left _ (List.mem_append_left _ (List.mem_append_left _ (List.mem_append_left _ (List.mem_append_left _ (List.mem_append_left _ (List.mem_append_left _ (List.mem_append_left _ (List.mem_append_right _ (List.mem_append_right _ (List.mem_append_right _ (List.mem_append_right _ (List.mem_append_right _ (List.mem_append_right _ (List.mem_append_right _ (List.mem_append_right _ (List.mem_append_right _ (List.mem_append_right _ (List.mem_append_right _ (List.mem_append_right _ (List.mem_append_right _ (List.mem_append_right _ (List.mem_append_right _ (List.mem_append_right _ (List.mem_append_right _ (List.mem_append_right _ (List.mem_append_right _ (List.mem_append_right _ (List.mem_append_right _ (List.mem_append_right _ (List.mem_append_right _ (List.mem_append_right _ (List.mem_append_right _ (List.mem_append_right _ (List.mem_append_right _ (List.mem_append_right _ (List.mem_append_right _ (List.mem_append_right _ (List.mem_append_right _ (List.mem_append_right _ (List.mem_append_right _ (List.mem_append_right _ (List.mem_append_right _ (List.mem_append_right _ (List.mem_append_right _ (List.mem_append_right _ (List.mem_append_right _ (List.mem_append_right _ (List.mem_append_right _ (List.mem_append_right _ (List.mem_append_right _ (List.mem_append_right _ (List.mem_append_right _ (List.mem_append_right _ (List.mem_append_right _ (List.mem_append_right _ (List.mem_append_right _ (List.mem_append_right _ (List.mem_append_right _ (List.mem_append_right _ (List.mem_append_right _ (List.mem_append_right _ (List.mem_append_right _ (List.mem_append_right _ (List.mem_append_right _ (List.mem_append_left _ h)))))))))))))))))))))))))))))))))))))))))))))))))))))))))))))))))))))))
theorem inr_59 : ∀ w ∈ wsL_law_r59, w ∈ wsL_law := fun _ h => List.mem_append_left _ (List.mem_append_left _ (List.mem_append_left _ (List.mem_append_left _ (List.mem_append_left _ (List.mem_append_left _ (List.mem_append_left _ (List.mem_append_left _ (List.mem_append_left _ (List.mem_append_left _ (List.mem_append_left _ (List.mem_append_left _ (List.mem_append_left _ (List.mem_append_left _ (List.mem_append_right _ (List.mem_append_right _ (List.mem_append_right _ (List.mem_append_right _ (List.mem_append_right _ (List.mem_append_right _ (List.mem_append_right _ (List.mem_append_right _ (List.mem_append_right _ (List.mem_append_right _ (List.mem_append_right _ (List.mem_append_right _ (List.mem_append_right _ (List.mem_append_right _ (List.mem_append_right _ (List.mem_append_right _ (List.mem_append_right _ (List.mem_append_right _ (List.mem_append_right _ (List.mem_append_right _ (List.mem_append_right _ (List.mem_append_right _ (List.mem_append_right _ (List.mem_append_right _ (List.mem_append_right _ (List.mem_append_right _ (List.mem_append_right _ (List.mem_append_right _ (List.mem_append_right _ (List.mem_append_right _ (List.mem_append_right _ (List.mem_append_right _ (List.mem_append_right _ (List.mem_append_right _ (List.mem_append_right _ (List.mem_append_right _ (List.mem_append_right _ (List.mem_append_right _ (List.mem_append_right _ (List.mem_append_right _ (List.mem_append_right _ (List.mem_append_right _ (List.mem_append_right _ (List.mem_append_right _ (List.mem_append_right _ (List.mem_append_right _ (List.mem_append_right _ (List.mem_append_right _ (List.mem_append_right _ (List.mem_append_right _ (List.mem_append_right _ (List.mem_append_right _ (List.mem_append_right _ (List.mem_append_right _ (List.mem_append_right _ (List.mem_append_right _ (List.mem_append_right _ (List.mem_append_right _ (List.mem_append_left _ h))))))))))))))))))))))))))))))))))))))))))))))))))))))))))))))))))))))))
theorem inr_60 : ∀ w ∈ wsL_law_r60, w ∈ wsL_law := fun _ h => List.mem_append_left _ (List.mem_append_left _ (List.mem_append_left _ (List.mem_append_left _ (List.mem_append_left _ (List.mem_append_left _ (List.mem_append_left _ (List.mem_append_left _ (List.mem_append_left _ (List.mem_append_left _ (List.mem_append_left _ (List.mem_append_left _ (List.mem_append_left _ (List.mem_append_left _ (List.mem_append_right _ (List.mem_append_right _ (List.mem_append_right _ (List.mem_append_right _ (List.mem_append_right _ (List.mem_append_right _ (List.mem_append_right _ (List.mem_append_right _ (List.mem_append_right _ (List.mem_append_right _ (List.mem_append_right _ (List.mem_append_right _ (List.mem_append_right _ (List.mem_append_right _ (List.mem_append_right _ (List.mem_append_right _ (List.mem_append_right _ (List.mem_append_right _ (List.mem_append_right _ (List.mem_append_right _ (List.mem_append_right _ (List.mem_append_right _ (List.mem_append_right _ (List.mem_append_right _ (List.mem_append_right _ (List.mem_append_right _ (List.mem_append_right _ (List.mem_append_right _ (List.mem_append_right _ (List.mem_append_right _ (List.mem_append_right _ (List.mem_append_right _ (List.mem_append_right _ (List.mem_append_right _ (List.mem_append_right _ (List.mem_append_right _ (List.mem_append_right _ (List.mem_append_right _ (List.mem_append_right _ (List.mem_append_right _ (List.mem_append_right _ (List.mem_append_right _ (List.mem_append_right _ (List.mem_append_right _ (List.mem_append_right _ (List.mem_append_right _ (List.mem_append_right _ (List.mem_append_right _ (List.mem_append_right _ (List.mem_append_right _ (List.mem_append_right _ (List.mem_append_right _ (List.mem_append_right _ (List.mem_append_right _ (List.mem_append_right _ (List.mem_append_right _ (List.mem_append_right _ (List.mem_append_right _ (List.mem_append_right _ (List.mem_append_left _ h)))))))))))))))))))))))))))))))))))))))))))))))))))))))))))))))))))))))))
theorem inr_61 : ∀ w ∈ wsL_law_r61, w ∈ wsL_law := fun _ h => List.mem_append_left _ (List.mem_append_left _ (List.mem_append_left _ (List.mem_append_left _ (List.mem_append_left _ (List.mem_append_left _ (List.mem_append_left _ (List.mem_append_left _ (List.mem_append_left _ (List.mem_append_left _ (List.mem_append_left _ (List.mem_append_left _ (List.mem_append_left _ (List.mem_append_left _ (List.mem_append_right _ (List.mem_append_right _ (List.mem_append_right _ (List.mem_append_right _ (List.mem_append_right _ (List.mem_append_right _ (List.mem_append_right _ (List.mem_append_right _ (List.mem_append_right _ (List.mem_append_right _ (List.mem_append_right _ (List.mem_append_right _ (List.mem_append_right _ (List.mem_append_right _ (List.mem_append_right _ (List.mem_append_right _ (List.mem_append_right _ (List.mem_append_right _ (List.mem_append_right _ (List.mem_append_right _ (List.mem_append_right _ (List.mem_append_right _ (List.mem_append_right _ (List.mem_append_right _ (List.mem_append_right _ (List.mem_append_right _ (List.mem_append_right _ (List.mem_append_right _ (List.mem_append_right _ (List.mem_append_right _ (List.mem_append_right _ (List.mem_append_right _ (List.mem_append_right _ (List.mem_append_right _ (List.mem_append_right _ (List.mem_append_right _ (List.mem_append_right _ (List.mem_append_right _ (List.mem_append_right _ (List.mem_append_right _ (List.mem_append_right _ (List.mem_append_right _ (List.mem_append_right _ (List.mem_append_right _ (List.mem_append_right _ (List.mem_append_right _ (List.mem_append_right _ (List.mem_append_right _ (List.mem_append_right _ (List.mem_append_right _ (List.mem_append_right _ (List.mem_append_right _ (List.mem_append_right _ (List.mem_append_right _ (List.mem_append_right _ (List.mem_append_right _ (List.mem_append_right _ (List.mem_append_right _ (List.mem_append_right _ (List.mem_append_right _ (List.mem_append_left _ h))))))))))))))))))))))))))))))))))))))))))))))))))))))))))))))))))))))))))
theorem inr_62 : ∀ w ∈ wsL_law_r62, w ∈ wsL_law := fun _ h => List.mem_append_left _ (List.mem_append_left _ (List.mem_append_left _ (List.mem_append_left _ (List.mem_append_left _ (List.mem_append_left _ (List.mem_append_left _ (List.mem_append_left _ (List.mem_append_left _ (List.mem_append_left _ (List.mem_append_left _ (List.mem_append_left _ (List.mem_append_left _ (List.mem_append_left _ (List.mem_append_right _ (List.mem_append_right _ (List.mem_append_right _ (List.mem_append_right _ (List.mem_append_right _ (List.mem_append_right _ (List.mem_append_right _ (List.mem_append_right _ (List.mem_append_right _ (List.mem_append_right _ (List.mem_append_right _ (List.mem_append_right _ (List.mem_append_right _ (List.mem_append_right _ (List.mem_append_right _ (List.mem_append_right _ (List.mem_append_right _ (List.mem_append_right _ (List.mem_append_right _ (List.mem_append_right _ (List.mem_append_right _ (List.mem_append_right _ (List.mem_append_right _ (List.mem_append_right _ (List.mem_append_right _ (List.mem_append_right _ (List.mem_append_right _ (List.mem_append_right _ (List.mem_append_right _ (List.mem_append_right _ (List.mem_append_right _ (List.mem_append_right _ (List.mem_append_right _ (List.mem_append_right _ (List.mem_append_right _ (List.mem_append_right _ (List.mem_append_right _ (List.mem_append_right _ (List.mem_append_right _ (List.mem_append_right _ (List.mem_append_right _ (List.mem_append_right _ (List.mem_append_right _ (List.mem_append_right _ (List.mem_append_right _ (List.mem_append_right _ (List.mem_append_right _ (List.mem_append_right _ (List.mem_append_right _ (List.mem_append_right _ (List.mem_append_right _ (List.mem_append_right _ (List.mem_append_right _ (List.mem_append_right _ (List.mem_append_right _ (List.mem_append_right _ (List.mem_append_right _ (List.mem_append_right _ (List.mem_append_right _ (List.mem_append_right _ (List.mem_append_right _ (List.mem_append_left _ h)))))))))))))))))))))))))))))))))))))))))))))))))))))))))))))))))))))))))))
theorem inr_63 : ∀ w ∈ wsL_law_r63, w ∈ wsL_law := fun _ h => List.mem_append_left _ (List.mem_append_left _ (List.mem_append_left _ (List.mem_append_left _ (List.mem_append_left _ (List.mem_append_left _ (List.mem_append_left _ (List.mem_append_left _ (List.mem_append_left _ (List.mem_append_left _ (List.mem_append_left _ (List.mem_append_left _ (List.mem_append_left _ (List.mem_append_left _ (List.mem_append_right _ (List.mem_append_right _ (List.mem_append_right _ (List.mem_append_right _ (List.mem_append_right _ (List.mem_append_right _ (List.mem_append_right _ (List.mem_append_right _ (List.mem_append_right _ (List.mem_append_right _ (List.mem_append_right _ (List.mem_append_right _ (List.mem_append_right _ (List.mem_append_right _ (List.mem_append_right _ (List.mem_append_right _ (List.mem_append_right _ (List.mem_append_right _ (List.mem_append_right _ (List.mem_append_right _ (List.mem_append_right _ (List.mem_append_right _ (List.mem_append_right _ (List.mem_append_right _ (List.mem_append_right _ (List.mem_append_right _ (List.mem_append_right _ (List.mem_append_right _ (List.mem_append_right _ (List.mem_append_right _ (List.mem_append_right _ (List.mem_append_right _ (List.mem_append_right _ (List.mem_append_right _ (List.mem_append_right _ (List.mem_append_right _ (List.mem_append_right _ (List.mem_append_right _ (List.mem_append_right _ (List.mem_append_right _ (List.mem_append_right _ (List.mem_append_right _ (List.mem_append_right _ (List.mem_append_right _ (List.mem_append_right _ (List.mem_append_right _ (List.mem_append_right _ (List.mem_append_right _ (List.mem_append_right _ (List.mem_append_right _ (List.mem_append_right _ (List.mem_append_right _ (List.mem_append_right _ (List.mem_append_right _ (List.mem_append_right _ (List.mem_append_right _ (List.mem_append_right _ (List.mem_append_right _ (List.mem_append_right _ (List.mem_append_right _ (List.mem_append_right _ (List.mem_append_right _ (List.mem_append_left _ h))))))))))))))))))))))))))))))))))))))))))))))))))))))))))))))))))))))))))))
theorem inr_64 : ∀ w ∈ wsL_law_r64, w ∈ wsL_law := fun _ h => List.mem_append_left _ (List.mem_append_left _ (List.mem_append_left _ (List.mem_append_left _ (List.mem_append_left _ (List.mem_append_left _ (List.mem_append_left _ (List.mem_append_left _ (List.mem_append_left _ (List.mem_append_left _ (List.mem_append_left _ (List.mem_append_left _ (List.mem_append_left _ (List.mem_append_left _ (List.mem_append_right _ (List.mem_append_right _ (List.mem_append_right _ (List.mem_append_right _ (List.mem_append_right _ (List.mem_append_right _ (List.mem_append_right _ (List.mem_append_right _ (List.mem_append_right _ (List.mem_append_right _ (List.mem_append_right _ (List.mem_append_right _ (List.mem_append_right _ (List.mem_append_right _ (List.mem_append_right _ (List.mem_append_right _ (List.mem_append_right _ (List.mem_append_right _ (List.mem_append_right _ (List.mem_append_right _ (List.mem_append_right _ (List.mem_append_right _ (List.mem_append_right _ (List.mem_append_right _ (List.mem_append_right _ (List.mem_append_right _ (List.mem_append_right _ (List.mem_append_right _ (List.mem_append_right _ (List.mem_append_right _ (List.mem_append_right _ (List.mem_append_right _ (List.mem_append_right _ (List.mem_append_right _ (List.mem_append_right _ (List.mem_append_right _ (List.mem_append_right _ (List.mem_append_right _ (List.mem_append_right _ (List.mem_append_right _ (List.mem_append_right _ (List.mem_append_right _ (List.mem_append_right _ (List.mem_append_right _ (List.mem_append_right _ (List.mem_append_right _ (List.mem_append_right _ (List.mem_append_right _ (List.mem_append_right _ (List.mem_append_right _ (List.mem_append_right _ (List.mem_append_right _ (List.mem_append_right _ (List.mem_append_right _ (List.mem_append_right _ (List.mem_append_right _ (List.mem_append_right _ (List.mem_append_right _ (List.mem_append_right _ (List.mem_append_right _ (List.mem_append_right _ (List.mem_append_right _ (List.mem_append_right _ (List.mem_append_left _ h)))))))))))))))))))))))))))))))))))))))))))))))))))))))))))))))))))))))))))))
theorem inr_65 : ∀ w ∈ wsL_law_r65, w ∈ wsL_law := fun _ h => List.mem_append_left _ (List.mem_append_left _ (List.mem_append_left _ (List.mem_append_left _ (List.mem_append_left _ (List.mem_append_left _ (List.mem_append_left _ (List.mem_append_left _ (List.mem_append_left _ (List.mem_append_left _ (List.mem_append_left _ (List.mem_append_left _ (List.mem_append_left _ (List.mem_append_left _ (List.mem_append_right _ (List.mem_append_right _ (List.mem_append_right _ (List.mem_append_right _ (List.mem_append_right _ (List.mem_append_right _ (List.mem_append_right _ (List.mem_append_right _ (List.mem_append_right _ (List.mem_append_right _ (List.mem_append_right _ (List.mem_append_right _ (List.mem_append_right _ (List.mem_append_right _ (List.mem_append_right _ (List.mem_append_right _ (List.mem_append_right _ (List.mem_append_right _ (List.mem_append_right _ (List.mem_append_right _ (List.mem_append_right _ (List.mem_append_right _ (List.mem_append_right _ (List.mem_append_right _ (List.mem_append_right _ (List.mem_append_right _ (List.mem_append_right _ (List.mem_append_right _ (List.mem_append_right _ (List.mem_append_right _ (List.mem_append_right _ (List.mem_append_right _ (List.mem_append_right _ (List.mem_append_right _ (List.mem_append_right _ (List.mem_append_right _ (List.mem_append_right _ (List.mem_append_right _ (List.mem_append_right _ (List.mem_append_right _ (List.mem_append_right _ (List.mem_append_right _ (List.mem_append_right _ (List.mem_append_right _ (List.mem_append_right _ (List.mem_append_right _ (List.mem_append_right _ (List.mem_append_right _ (List.mem_append_right _ (List.mem_append_right _ (List.mem_append_right _ (List.mem_append_right _ (List.mem_append_right _ (List.mem_append_right _ (List.mem_append_right _ (List.mem_append_right _ (List.mem_append_right _ (List.mem_append_right _ (List.mem_append_right _ (List.mem_append_right _ (List.mem_append_right _ (List.mem_append_right _ (List.mem_append_right _ (List.mem_append_right _ (List.mem_append_left _ h))))))))))))))))))))))))))))))))))))))))))))))))))))))))))))))))))))))))))))))
theorem inr_66 : ∀ w ∈ wsL_law_r66, w ∈ wsL_law := fun _ h => List.mem_append_left _ (List.mem_append_left _ (List.mem_append_left _ (List.mem_append_left _ (List.mem_append_left _ (List.mem_append_left _ (List.mem_append_left _ (List.mem_append_left _ (List.mem_append_left _ (List.mem_append_left _ (List.mem_append_left _ (List.mem_append_left _ (List.mem_append_left _ (List.mem_append_left _ (List.mem_append_right _ (List.mem_append_right _ (List.mem_append_right _ (List.mem_append_right _ (List.mem_append_right _ (List.mem_append_right _ (List.mem_append_right _ (List.mem_append_right _ (List.mem_append_right _ (List.mem_append_right _ (List.mem_append_right _ (List.mem_append_right _ (List.mem_append_right _ (List.mem_append_right _ (List.mem_append_right _ (List.mem_append_right _ (List.mem_append_right _ (List.mem_append_right _ (List.mem_append_right _ (List.mem_append_right _ (List.mem_append_right _ (List.mem_append_right _ (List.mem_append_right _ (List.mem_append_right _ (List.mem_append_right _ (List.mem_append_right _ (List.mem_append_right _ (List.mem_append_right _ (List.mem_append_right _ (List.mem_append_right _ (List.mem_append_right _ (List.mem_append_right _ (List.mem_append_right _ (List.mem_append_right _ (List.mem_append_right _ (List.mem_append_right _ (List.mem_append_right _ (List.mem_append_right _ (List.mem_append_right _ (List.mem_append_right _ (List.mem_append_right _ (List.mem_append_right _ (List.mem_append_right _ (List.mem_append_right _ (List.mem_append_right _ (List.mem_append_right _ (List.mem_append_right _ (List.mem_append_right _ (List.mem_append_right _ (List.mem_append_right _ (List.mem_append_right _ (List.mem_append_right _ (List.mem_append_right _ (List.mem_append_right _ (List.mem_append_right _ (List.mem_append_right _ (List.mem_append_right _ (List.mem_append_right _ (List.mem_append_right _ (List.mem_append_right _ (List.mem_append_right _ (List.mem_append_right _ (List.mem_append_right _ (List.mem_append_right _ (List.mem_append_right _ (List.mem_append_left _ h)))))))))))))))))))))))))))))))))))))))))))))))))))))))))))))))))))))))))))))))
theorem inr_67 : ∀ w ∈ wsL_law_r67, w ∈ wsL_law := fun _ h => List.mem_append_left _ (List.mem_append_left _ (List.mem_append_left _ (List.mem_append_left _ (List.mem_append_left _ (List.mem_append_left _ (List.mem_append_left _ (List.mem_append_left _ (List.mem_append_left _ (List.mem_append_left _ (List.mem_append_left _ (List.mem_append_left _ (List.mem_append_left _ (List.mem_append_left _ (List.mem_append_right _ (List.mem_append_right _ (List.mem_append_right _ (List.mem_append_right _ (List.mem_append_right _ (List.mem_append_right _ (List.mem_append_right _ (List.mem_append_right _ (List.mem_append_right _ (List.mem_append_right _ (List.mem_append_right _ (List.mem_append_right _ (List.mem_append_right _ (List.mem_append_right _ (List.mem_append_right _ (List.mem_append_right _ (List.mem_append_right _ (List.mem_append_right _ (List.mem_append_right _ (List.mem_append_right _ (List.mem_append_right _ (List.mem_append_right _ (List.mem_append_right _ (List.mem_append_right _ (List.mem_append_right _ (List.mem_append_right _ (List.mem_append_right _ (List.mem_append_right _ (List.mem_append_right _ (List.mem_append_right _ (List.mem_append_right _ (List.mem_append_right _ (List.mem_append_right _ (List.mem_append_right _ (List.mem_append_right _ (List.mem_append_right _ (List.mem_append_right _ (List.mem_append_right _ (List.mem_append_right _ (List.mem_append_right _ (List.mem_append_right _ (List.mem_append_right _ (List.mem_append_right _ (List.mem_append_right _ (List.mem_append_right _ (List.mem_append_right _ (List.mem_append_right _ (List.mem_append_right _ (List.mem_append_right _ (List.mem_append_right _ (List.mem_append_right _ (List.mem_append_right _ (List.mem_append_right _ (List.mem_append_right _ (List.mem_append_right _ (List.mem_append_right _ (List.mem_append_right _ (List.mem_append_right _ (List.mem_append_right _ (List.mem_append_right _ (List.mem_append_right _ (List.mem_append_right _ (List.mem_append_right _ (List.mem_append_right _ (List.mem_append_right _ (List.mem_append_right _ (h))))))))))))))))))))))))))))))))))))))))))))))))))))))))))))))))))))))))))))))))
