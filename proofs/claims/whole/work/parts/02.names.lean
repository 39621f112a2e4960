/-! names, fields; the one table of words -/
def RX0 : String := "BarrelMoon$Book"
def TX0 : u_T := fun k => match k with
  | 0 => ("BarrelMoon$Book", "sayings", "[I", true)
  | 1 => ("BarrelMoon$Book", "follow", "[Z", true)
  | _ => ("BarrelMoon$Book", "count", "I", false)
def tyX0 : Nat → FieldType := fun k => match k with
  | 0 => .array .int
  | 1 => .array .boolean
  | _ => .int
theorem nmX0 : ∀ a, a < 3 → ∀ b, b < 3 → a ≠ b → (TX0 a).2.1 ≠ (TX0 b).2.1 := by decide +kernel
theorem tyX0_ok : ∀ k, k < 3 → parseFieldDescriptor (TX0 k).2.2.1 = some (tyX0 k) := by decide +kernel
abbrev cX0_init : ByteArray := prog_2_method_1_code
def yX0_init : MethodName := ⟨RX0, "<init>", "()V"⟩
abbrev cX0_size : ByteArray := prog_2_method_2_code
def yX0_size : MethodName := ⟨RX0, "size", "()I"⟩
abbrev cX0_clear : ByteArray := prog_2_method_3_code
def yX0_clear : MethodName := ⟨RX0, "clear", "()V"⟩
abbrev cX0_add : ByteArray := prog_2_method_4_code
def yX0_add : MethodName := ⟨RX0, "add", "(IZ)Z"⟩
abbrev cX0_firstWrong : ByteArray := prog_2_method_5_code
def yX0_firstWrong : MethodName := ⟨RX0, "firstWrong", "(I)I"⟩
def RX1 : String := "BarrelMoon$History"
def TX1 : u_T := fun k => match k with
  | 0 => ("BarrelMoon$History", "moments", "[LBarrelMoon$Moment;", true)
  | _ => ("BarrelMoon$History", "count", "I", false)
def tyX1 : Nat → FieldType := fun k => match k with
  | 0 => .array (.object "BarrelMoon$Moment")
  | _ => .int
theorem nmX1 : ∀ a, a < 2 → ∀ b, b < 2 → a ≠ b → (TX1 a).2.1 ≠ (TX1 b).2.1 := by decide +kernel
theorem tyX1_ok : ∀ k, k < 2 → parseFieldDescriptor (TX1 k).2.2.1 = some (tyX1 k) := by decide +kernel
abbrev cX1_init : ByteArray := prog_3_method_1_code
def yX1_init : MethodName := ⟨RX1, "<init>", "()V"⟩
abbrev cX1_size : ByteArray := prog_3_method_2_code
def yX1_size : MethodName := ⟨RX1, "size", "()I"⟩
abbrev cX1_clear : ByteArray := prog_3_method_3_code
def yX1_clear : MethodName := ⟨RX1, "clear", "()V"⟩
abbrev cX1_add : ByteArray := prog_3_method_4_code
def yX1_add : MethodName := ⟨RX1, "add", "(LBarrelMoon$Moment;)V"⟩
abbrev cX1_loseOldest : ByteArray := prog_3_method_5_code
def yX1_loseOldest : MethodName := ⟨RX1, "loseOldest", "()V"⟩
abbrev cX1_takeLatest : ByteArray := prog_3_method_6_code
def yX1_takeLatest : MethodName := ⟨RX1, "takeLatest", "()LBarrelMoon$Moment;"⟩
def RX2 : String := "BarrelMoon$Moment"
def TX2 : u_T := fun k => match k with
  | 0 => ("BarrelMoon$Moment", "seen", "I", true)
  | 1 => ("BarrelMoon$Moment", "held", "I", true)
  | 2 => ("BarrelMoon$Moment", "forbidden", "I", true)
  | _ => ("BarrelMoon$Moment", "debates", "I", true)
def tyX2 : Nat → FieldType := fun k => match k with
  | 0 => .int
  | 1 => .int
  | 2 => .int
  | _ => .int
theorem nmX2 : ∀ a, a < 4 → ∀ b, b < 4 → a ≠ b → (TX2 a).2.1 ≠ (TX2 b).2.1 := by decide +kernel
theorem tyX2_ok : ∀ k, k < 4 → parseFieldDescriptor (TX2 k).2.2.1 = some (tyX2 k) := by decide +kernel
abbrev cX2_init : ByteArray := prog_4_method_1_code
def yX2_init : MethodName := ⟨RX2, "<init>", "(IIII)V"⟩
def RX3 : String := "BarrelMoon$Questions"
def TX3 : u_T := fun k => match k with
  | 0 => ("BarrelMoon$Questions", "sets", "[I", true)
  | 1 => ("BarrelMoon$Questions", "sayings", "[I", true)
  | 2 => ("BarrelMoon$Questions", "concluded", "[Z", true)
  | _ => ("BarrelMoon$Questions", "count", "I", false)
def tyX3 : Nat → FieldType := fun k => match k with
  | 0 => .array .int
  | 1 => .array .int
  | 2 => .array .boolean
  | _ => .int
theorem nmX3 : ∀ a, a < 4 → ∀ b, b < 4 → a ≠ b → (TX3 a).2.1 ≠ (TX3 b).2.1 := by decide +kernel
theorem tyX3_ok : ∀ k, k < 4 → parseFieldDescriptor (TX3 k).2.2.1 = some (tyX3 k) := by decide +kernel
abbrev cX3_init : ByteArray := prog_5_method_1_code
def yX3_init : MethodName := ⟨RX3, "<init>", "()V"⟩
abbrev cX3_size : ByteArray := prog_5_method_2_code
def yX3_size : MethodName := ⟨RX3, "size", "()I"⟩
abbrev cX3_clear : ByteArray := prog_5_method_3_code
def yX3_clear : MethodName := ⟨RX3, "clear", "()V"⟩
abbrev cX3_add : ByteArray := prog_5_method_4_code
def yX3_add : MethodName := ⟨RX3, "add", "(IIZ)Z"⟩
abbrev cX3_fit : ByteArray := prog_5_method_5_code
def yX3_fit : MethodName := ⟨RX3, "fit", "(LBarrelMoon$Town;I)Z"⟩
def RX4 : String := "BarrelMoon$Town"
def TX4 : u_T := fun k => match k with
  | 0 => ("BarrelMoon$Town", "cost", "[I", true)
  | 1 => ("BarrelMoon$Town", "concludes", "[I", true)
  | 2 => ("BarrelMoon$Town", "needs", "[I", true)
  | 3 => ("BarrelMoon$Town", "things", "I", false)
  | 4 => ("BarrelMoon$Town", "rules", "I", false)
  | _ => ("BarrelMoon$Town", "seenAtFirst", "I", false)
def tyX4 : Nat → FieldType := fun k => match k with
  | 0 => .array .int
  | 1 => .array .int
  | 2 => .array .int
  | 3 => .int
  | 4 => .int
  | _ => .int
theorem nmX4 : ∀ a, a < 6 → ∀ b, b < 6 → a ≠ b → (TX4 a).2.1 ≠ (TX4 b).2.1 := by decide +kernel
theorem tyX4_ok : ∀ k, k < 6 → parseFieldDescriptor (TX4 k).2.2.1 = some (tyX4 k) := by decide +kernel
abbrev cX4_init : ByteArray := prog_6_method_1_code
def yX4_init : MethodName := ⟨RX4, "<init>", "()V"⟩
abbrev cX4_clear : ByteArray := prog_6_method_2_code
def yX4_clear : MethodName := ⟨RX4, "clear", "()V"⟩
abbrev cX4_isNone : ByteArray := prog_6_method_3_code
def yX4_isNone : MethodName := ⟨RX4, "isNone", "()Z"⟩
abbrev cX4_isFull : ByteArray := prog_6_method_4_code
def yX4_isFull : MethodName := ⟨RX4, "isFull", "()Z"⟩
abbrev cX4_addRule : ByteArray := prog_6_method_5_code
def yX4_addRule : MethodName := ⟨RX4, "addRule", "(III)V"⟩
abbrev cX4_sayings : ByteArray := prog_6_method_6_code
def yX4_sayings : MethodName := ⟨RX4, "sayings", "()I"⟩
abbrev cX4_allSayings : ByteArray := prog_6_method_7_code
def yX4_allSayings : MethodName := ⟨RX4, "allSayings", "()I"⟩
abbrev cX4_allRules : ByteArray := prog_6_method_8_code
def yX4_allRules : MethodName := ⟨RX4, "allRules", "()I"⟩
abbrev cX4_hasSaying : ByteArray := prog_6_method_9_code
def yX4_hasSaying : MethodName := ⟨RX4, "hasSaying", "(I)Z"⟩
abbrev cX4_hasSayings : ByteArray := prog_6_method_10_code
def yX4_hasSayings : MethodName := ⟨RX4, "hasSayings", "(I)Z"⟩
abbrev cX4_hasRule : ByteArray := prog_6_method_11_code
def yX4_hasRule : MethodName := ⟨RX4, "hasRule", "(I)Z"⟩
abbrev cX4_closure : ByteArray := prog_6_method_12_code
def yX4_closure : MethodName := ⟨RX4, "closure", "(II)I"⟩
abbrev cX4_quarrelsIn : ByteArray := prog_6_method_13_code
def yX4_quarrelsIn : MethodName := ⟨RX4, "quarrelsIn", "(I)I"⟩
abbrev cX4_costOf : ByteArray := prog_6_method_14_code
def yX4_costOf : MethodName := ⟨RX4, "costOf", "(I)I"⟩
abbrev cX4_concludedBy : ByteArray := prog_6_method_15_code
def yX4_concludedBy : MethodName := ⟨RX4, "concludedBy", "(I)I"⟩
def RX5 : String := "BarrelMoon$TownReader"
def TX5 : u_T := fun k => match k with
  | 0 => ("BarrelMoon$TownReader", "letters", "[I", true)
  | 1 => ("BarrelMoon$TownReader", "length", "I", false)
  | 2 => ("BarrelMoon$TownReader", "at", "I", false)
  | 3 => ("BarrelMoon$TownReader", "numberAt", "I", false)
  | 4 => ("BarrelMoon$TownReader", "faultKind", "I", false)
  | _ => ("BarrelMoon$TownReader", "faultAt", "I", false)
def tyX5 : Nat → FieldType := fun k => match k with
  | 0 => .array .int
  | 1 => .int
  | 2 => .int
  | 3 => .int
  | 4 => .int
  | _ => .int
theorem nmX5 : ∀ a, a < 6 → ∀ b, b < 6 → a ≠ b → (TX5 a).2.1 ≠ (TX5 b).2.1 := by decide +kernel
theorem tyX5_ok : ∀ k, k < 6 → parseFieldDescriptor (TX5 k).2.2.1 = some (tyX5 k) := by decide +kernel
abbrev cX5_init : ByteArray := prog_7_method_1_code
def yX5_init : MethodName := ⟨RX5, "<init>", "()V"⟩
abbrev cX5_append : ByteArray := prog_7_method_2_code
def yX5_append : MethodName := ⟨RX5, "append", "(I)Z"⟩
abbrev cX5_length : ByteArray := prog_7_method_3_code
def yX5_length : MethodName := ⟨RX5, "length", "()I"⟩
abbrev cX5_forgetText : ByteArray := prog_7_method_4_code
def yX5_forgetText : MethodName := ⟨RX5, "forgetText", "()V"⟩
abbrev cX5_faultKind : ByteArray := prog_7_method_5_code
def yX5_faultKind : MethodName := ⟨RX5, "faultKind", "()I"⟩
abbrev cX5_faultAt : ByteArray := prog_7_method_6_code
def yX5_faultAt : MethodName := ⟨RX5, "faultAt", "()I"⟩
abbrev cX5_readInto : ByteArray := prog_7_method_7_code
def yX5_readInto : MethodName := ⟨RX5, "readInto", "(LBarrelMoon$Town;)V"⟩
abbrev cX5_readThings : ByteArray := prog_7_method_8_code
def yX5_readThings : MethodName := ⟨RX5, "readThings", "(LBarrelMoon$Town;)V"⟩
abbrev cX5_readClause : ByteArray := prog_7_method_9_code
def yX5_readClause : MethodName := ⟨RX5, "readClause", "(LBarrelMoon$Town;)V"⟩
abbrev cX5_readRule : ByteArray := prog_7_method_10_code
def yX5_readRule : MethodName := ⟨RX5, "readRule", "(LBarrelMoon$Town;)V"⟩
abbrev cX5_readPremises : ByteArray := prog_7_method_11_code
def yX5_readPremises : MethodName := ⟨RX5, "readPremises", "(LBarrelMoon$Town;I)I"⟩
abbrev cX5_readSeen : ByteArray := prog_7_method_12_code
def yX5_readSeen : MethodName := ⟨RX5, "readSeen", "(LBarrelMoon$Town;)V"⟩
abbrev cX5_number : ByteArray := prog_7_method_13_code
def yX5_number : MethodName := ⟨RX5, "number", "(II)I"⟩
abbrev cX5_isFigure : ByteArray := prog_7_method_14_code
def yX5_isFigure : MethodName := ⟨RX5, "isFigure", "(I)Z"⟩
abbrev cX5_take : ByteArray := prog_7_method_15_code
def yX5_take : MethodName := ⟨RX5, "take", "(I)Z"⟩
abbrev cX5_peek : ByteArray := prog_7_method_16_code
def yX5_peek : MethodName := ⟨RX5, "peek", "()I"⟩
abbrev cX5_stop : ByteArray := prog_7_method_17_code
def yX5_stop : MethodName := ⟨RX5, "stop", "(II)V"⟩
def RX6 : String := "BarrelMoon$Trial"
def TX6 : u_T := fun k => match k with
  | 0 => ("BarrelMoon$Trial", "town", "LBarrelMoon$Town;", true)
  | 1 => ("BarrelMoon$Trial", "seen", "I", true)
  | _ => ("BarrelMoon$Trial", "allowed", "I", true)
def tyX6 : Nat → FieldType := fun k => match k with
  | 0 => .object "BarrelMoon$Town"
  | 1 => .int
  | _ => .int
theorem nmX6 : ∀ a, a < 3 → ∀ b, b < 3 → a ≠ b → (TX6 a).2.1 ≠ (TX6 b).2.1 := by decide +kernel
theorem tyX6_ok : ∀ k, k < 3 → parseFieldDescriptor (TX6 k).2.2.1 = some (tyX6 k) := by decide +kernel
abbrev cX6_init : ByteArray := prog_8_method_1_code
def yX6_init : MethodName := ⟨RX6, "<init>", "(LBarrelMoon$Town;II)V"⟩
abbrev cX6_conclusions : ByteArray := prog_8_method_2_code
def yX6_conclusions : MethodName := ⟨RX6, "conclusions", "()I"⟩
abbrev cX6_concludesBy : ByteArray := prog_8_method_3_code
def yX6_concludesBy : MethodName := ⟨RX6, "concludesBy", "(II)Z"⟩
abbrev cX6_leastProof : ByteArray := prog_8_method_4_code
def yX6_leastProof : MethodName := ⟨RX6, "leastProof", "(I)I"⟩
abbrev cX6_cheapestPeace : ByteArray := prog_8_method_5_code
def yX6_cheapestPeace : MethodName := ⟨RX6, "cheapestPeace", "()I"⟩
abbrev cX6_isPeaceWithout : ByteArray := prog_8_method_6_code
def yX6_isPeaceWithout : MethodName := ⟨RX6, "isPeaceWithout", "(I)Z"⟩
abbrev cX6_fewestWords : ByteArray := prog_8_method_7_code
def yX6_fewestWords : MethodName := ⟨RX6, "fewestWords", "(I)I"⟩
abbrev cX6_leastWords : ByteArray := prog_8_method_8_code
def yX6_leastWords : MethodName := ⟨RX6, "leastWords", "(LBarrelMoon$Trial;IIII)I"⟩
abbrev cX6_bringTo : ByteArray := prog_8_method_9_code
def yX6_bringTo : MethodName := ⟨RX6, "bringTo", "(II)Z"⟩
abbrev cX6_neededRules : ByteArray := prog_8_method_10_code
def yX6_neededRules : MethodName := ⟨RX6, "neededRules", "(I)I"⟩
abbrev cX6_fewestBars : ByteArray := prog_8_method_11_code
def yX6_fewestBars : MethodName := ⟨RX6, "fewestBars", "(I)I"⟩
abbrev cX6_circles : ByteArray := prog_8_method_12_code
def yX6_circles : MethodName := ⟨RX6, "circles", "()I"⟩
abbrev cX6_returnsTo : ByteArray := prog_8_method_13_code
def yX6_returnsTo : MethodName := ⟨RX6, "returnsTo", "(I)Z"⟩
abbrev cX6_isAllowed : ByteArray := prog_8_method_14_code
def yX6_isAllowed : MethodName := ⟨RX6, "isAllowed", "(I)Z"⟩
def RX7 : String := "BarrelMoon"
def TX7 : u_T := fun k => match k with
  | 0 => ("BarrelMoon", "reader", "LBarrelMoon$TownReader;", true)
  | 1 => ("BarrelMoon", "history", "LBarrelMoon$History;", true)
  | 2 => ("BarrelMoon", "questions", "LBarrelMoon$Questions;", true)
  | 3 => ("BarrelMoon", "book", "LBarrelMoon$Book;", true)
  | 4 => ("BarrelMoon", "images", "[LBarrelMoon$Moment;", true)
  | 5 => ("BarrelMoon", "imageSeeds", "[I", true)
  | 6 => ("BarrelMoon", "voteParts", "[J", true)
  | 7 => ("BarrelMoon", "yesCounts", "[I", true)
  | 8 => ("BarrelMoon", "theTown", "LBarrelMoon$Town;", false)
  | 9 => ("BarrelMoon", "draft", "LBarrelMoon$Town;", false)
  | 10 => ("BarrelMoon", "now", "LBarrelMoon$Moment;", false)
  | _ => ("BarrelMoon", "theSeed", "I", false)
def tyX7 : Nat → FieldType := fun k => match k with
  | 0 => .object "BarrelMoon$TownReader"
  | 1 => .object "BarrelMoon$History"
  | 2 => .object "BarrelMoon$Questions"
  | 3 => .object "BarrelMoon$Book"
  | 4 => .array (.object "BarrelMoon$Moment")
  | 5 => .array .int
  | 6 => .array .long
  | 7 => .array .int
  | 8 => .object "BarrelMoon$Town"
  | 9 => .object "BarrelMoon$Town"
  | 10 => .object "BarrelMoon$Moment"
  | _ => .int
theorem nmX7 : ∀ a, a < 12 → ∀ b, b < 12 → a ≠ b → (TX7 a).2.1 ≠ (TX7 b).2.1 := by decide +kernel
theorem tyX7_ok : ∀ k, k < 12 → parseFieldDescriptor (TX7 k).2.2.1 = some (tyX7 k) := by decide +kernel
abbrev cX7_init : ByteArray := prog_1_method_1_code
def yX7_init : MethodName := ⟨RX7, "<init>", "()V"⟩
abbrev cX7_feed : ByteArray := prog_1_method_2_code
def yX7_feed : MethodName := ⟨RX7, "feed", "(I)I"⟩
abbrev cX7_town : ByteArray := prog_1_method_3_code
def yX7_town : MethodName := ⟨RX7, "town", "()I"⟩
abbrev cX7_beginAnew : ByteArray := prog_1_method_4_code
def yX7_beginAnew : MethodName := ⟨RX7, "beginAnew", "()V"⟩
abbrev cX7_fault : ByteArray := prog_1_method_5_code
def yX7_fault : MethodName := ⟨RX7, "fault", "()I"⟩
abbrev cX7_told : ByteArray := prog_1_method_6_code
def yX7_told : MethodName := ⟨RX7, "told", "(I)I"⟩
abbrev cX7_rule : ByteArray := prog_1_method_7_code
def yX7_rule : MethodName := ⟨RX7, "rule", "(II)I"⟩
abbrev cX7_see : ByteArray := prog_1_method_8_code
def yX7_see : MethodName := ⟨RX7, "see", "(IZ)I"⟩
abbrev cX7_forbid : ByteArray := prog_1_method_9_code
def yX7_forbid : MethodName := ⟨RX7, "forbid", "(IZ)I"⟩
abbrev cX7_debate : ByteArray := prog_1_method_10_code
def yX7_debate : MethodName := ⟨RX7, "debate", "()I"⟩
abbrev cX7_drop : ByteArray := prog_1_method_11_code
def yX7_drop : MethodName := ⟨RX7, "drop", "()I"⟩
abbrev cX7_drift : ByteArray := prog_1_method_12_code
def yX7_drift : MethodName := ⟨RX7, "drift", "(I)I"⟩
abbrev cX7_undo : ByteArray := prog_1_method_13_code
def yX7_undo : MethodName := ⟨RX7, "undo", "()I"⟩
abbrev cX7_change : ByteArray := prog_1_method_14_code
def yX7_change : MethodName := ⟨RX7, "change", "(LBarrelMoon$Moment;)V"⟩
abbrev cX7_follows : ByteArray := prog_1_method_15_code
def yX7_follows : MethodName := ⟨RX7, "follows", "(I)I"⟩
abbrev cX7_proof : ByteArray := prog_1_method_16_code
def yX7_proof : MethodName := ⟨RX7, "proof", "(II)I"⟩
abbrev cX7_giveUp : ByteArray := prog_1_method_17_code
def yX7_giveUp : MethodName := ⟨RX7, "giveUp", "(I)I"⟩
abbrev cX7_words : ByteArray := prog_1_method_18_code
def yX7_words : MethodName := ⟨RX7, "words", "(I)I"⟩
abbrev cX7_step : ByteArray := prog_1_method_19_code
def yX7_step : MethodName := ⟨RX7, "step", "(I)I"⟩
abbrev cX7_barred : ByteArray := prog_1_method_20_code
def yX7_barred : MethodName := ⟨RX7, "barred", "(I)I"⟩
abbrev cX7_never : ByteArray := prog_1_method_21_code
def yX7_never : MethodName := ⟨RX7, "never", "()I"⟩
abbrev cX7_round : ByteArray := prog_1_method_22_code
def yX7_round : MethodName := ⟨RX7, "round", "()I"⟩
abbrev cX7_vote : ByteArray := prog_1_method_23_code
def yX7_vote : MethodName := ⟨RX7, "vote", "(II)I"⟩
abbrev cX7_shareVotes : ByteArray := prog_1_method_24_code
def yX7_shareVotes : MethodName := ⟨RX7, "shareVotes", "(II)V"⟩
abbrev cX7_ask : ByteArray := prog_1_method_25_code
def yX7_ask : MethodName := ⟨RX7, "ask", "(IIZ)I"⟩
abbrev cX7_believed : ByteArray := prog_1_method_26_code
def yX7_believed : MethodName := ⟨RX7, "believed", "(I)I"⟩
abbrev cX7_askNext : ByteArray := prog_1_method_27_code
def yX7_askNext : MethodName := ⟨RX7, "askNext", "()I"⟩
abbrev cX7_countAnswers : ByteArray := prog_1_method_28_code
def yX7_countAnswers : MethodName := ⟨RX7, "countAnswers", "()I"⟩
abbrev cX7_countYes : ByteArray := prog_1_method_29_code
def yX7_countYes : MethodName := ⟨RX7, "countYes", "(I)V"⟩
abbrev cX7_write : ByteArray := prog_1_method_30_code
def yX7_write : MethodName := ⟨RX7, "write", "(II)I"⟩
abbrev cX7_tear : ByteArray := prog_1_method_31_code
def yX7_tear : MethodName := ⟨RX7, "tear", "()I"⟩
abbrev cX7_judge : ByteArray := prog_1_method_32_code
def yX7_judge : MethodName := ⟨RX7, "judge", "()I"⟩
abbrev cX7_seed : ByteArray := prog_1_method_33_code
def yX7_seed : MethodName := ⟨RX7, "seed", "(I)I"⟩
abbrev cX7_keep : ByteArray := prog_1_method_34_code
def yX7_keep : MethodName := ⟨RX7, "keep", "(I)I"⟩
abbrev cX7_goBack : ByteArray := prog_1_method_35_code
def yX7_goBack : MethodName := ⟨RX7, "goBack", "(I)I"⟩
abbrev cX7_draw : ByteArray := prog_1_method_36_code
def yX7_draw : MethodName := ⟨RX7, "draw", "(I)I"⟩
abbrev cX7_rulesGoneBy : ByteArray := prog_1_method_37_code
def yX7_rulesGoneBy : MethodName := ⟨RX7, "rulesGoneBy", "()I"⟩
abbrev cX7_trialNow : ByteArray := prog_1_method_38_code
def yX7_trialNow : MethodName := ⟨RX7, "trialNow", "()LBarrelMoon$Trial;"⟩
abbrev cX7_has : ByteArray := prog_1_method_39_code
def yX7_has : MethodName := ⟨RX7, "has", "(II)Z"⟩
abbrev cX7_put : ByteArray := prog_1_method_40_code
def yX7_put : MethodName := ⟨RX7, "put", "(IIZ)I"⟩
abbrev cX7_denialOf : ByteArray := prog_1_method_41_code
def yX7_denialOf : MethodName := ⟨RX7, "denialOf", "(I)I"⟩
def RX8 : String := "BarrelMoonModel"
def TX8 : u_T := fun k => match k with
  | 0 => ("BarrelMoonModel", "things", "I", false)
  | 1 => ("BarrelMoonModel", "rules", "I", false)
  | 2 => ("BarrelMoonModel", "cost", "[I", true)
  | 3 => ("BarrelMoonModel", "concludes", "[I", true)
  | 4 => ("BarrelMoonModel", "needs", "[I", true)
  | 5 => ("BarrelMoonModel", "now", "[I", true)
  | 6 => ("BarrelMoonModel", "seed", "I", false)
  | 7 => ("BarrelMoonModel", "text", "[I", true)
  | 8 => ("BarrelMoonModel", "texted", "I", false)
  | 9 => ("BarrelMoonModel", "faultPlace", "I", false)
  | 10 => ("BarrelMoonModel", "at0", "I", false)
  | 11 => ("BarrelMoonModel", "number", "I", false)
  | 12 => ("BarrelMoonModel", "numberAt", "I", false)
  | 13 => ("BarrelMoonModel", "readThings", "I", false)
  | 14 => ("BarrelMoonModel", "readRules", "I", false)
  | 15 => ("BarrelMoonModel", "readCost", "[I", true)
  | 16 => ("BarrelMoonModel", "readConcludes", "[I", true)
  | 17 => ("BarrelMoonModel", "readNeeds", "[I", true)
  | 18 => ("BarrelMoonModel", "readSeen", "I", false)
  | 19 => ("BarrelMoonModel", "undos", "I", false)
  | 20 => ("BarrelMoonModel", "past", "[I", true)
  | 21 => ("BarrelMoonModel", "parts", "[J", true)
  | 22 => ("BarrelMoonModel", "asked", "I", false)
  | 23 => ("BarrelMoonModel", "askedFrom", "[I", true)
  | 24 => ("BarrelMoonModel", "askedWhat", "[I", true)
  | 25 => ("BarrelMoonModel", "askedIs", "[Z", true)
  | 26 => ("BarrelMoonModel", "answers", "[I", true)
  | 27 => ("BarrelMoonModel", "booked", "I", false)
  | 28 => ("BarrelMoonModel", "bookWhat", "[I", true)
  | 29 => ("BarrelMoonModel", "bookIs", "[I", true)
  | 30 => ("BarrelMoonModel", "images", "[I", true)
  | _ => ("BarrelMoonModel", "isKept", "[Z", true)
def tyX8 : Nat → FieldType := fun k => match k with
  | 0 => .int
  | 1 => .int
  | 2 => .array .int
  | 3 => .array .int
  | 4 => .array .int
  | 5 => .array .int
  | 6 => .int
  | 7 => .array .int
  | 8 => .int
  | 9 => .int
  | 10 => .int
  | 11 => .int
  | 12 => .int
  | 13 => .int
  | 14 => .int
  | 15 => .array .int
  | 16 => .array .int
  | 17 => .array .int
  | 18 => .int
  | 19 => .int
  | 20 => .array .int
  | 21 => .array .long
  | 22 => .int
  | 23 => .array .int
  | 24 => .array .int
  | 25 => .array .boolean
  | 26 => .array .int
  | 27 => .int
  | 28 => .array .int
  | 29 => .array .int
  | 30 => .array .int
  | _ => .array .boolean
theorem nmX8 : ∀ a, a < 32 → ∀ b, b < 32 → a ≠ b → (TX8 a).2.1 ≠ (TX8 b).2.1 := by decide +kernel
theorem tyX8_ok : ∀ k, k < 32 → parseFieldDescriptor (TX8 k).2.2.1 = some (tyX8 k) := by decide +kernel
abbrev cX8_init : ByteArray := prog_10_method_1_code
def yX8_init : MethodName := ⟨RX8, "<init>", "()V"⟩
abbrev cX8_in : ByteArray := prog_10_method_3_code
def yX8_in : MethodName := ⟨RX8, "in", "(JJJ)Z"⟩
abbrev cX8_has : ByteArray := prog_10_method_4_code
def yX8_has : MethodName := ⟨RX8, "has", "(II)Z"⟩
abbrev cX8_bits : ByteArray := prog_10_method_5_code
def yX8_bits : MethodName := ⟨RX8, "bits", "(I)I"⟩
abbrev cX8_isSaying : ByteArray := prog_10_method_6_code
def yX8_isSaying : MethodName := ⟨RX8, "isSaying", "(I)Z"⟩
abbrev cX8_isSet : ByteArray := prog_10_method_7_code
def yX8_isSet : MethodName := ⟨RX8, "isSet", "(I)Z"⟩
abbrev cX8_isRule : ByteArray := prog_10_method_8_code
def yX8_isRule : MethodName := ⟨RX8, "isRule", "(I)Z"⟩
abbrev cX8_denial : ByteArray := prog_10_method_9_code
def yX8_denial : MethodName := ⟨RX8, "denial", "(I)I"⟩
abbrev cX8_feed : ByteArray := prog_10_method_10_code
def yX8_feed : MethodName := ⟨RX8, "feed", "(I)I"⟩
abbrev cX8_here : ByteArray := prog_10_method_11_code
def yX8_here : MethodName := ⟨RX8, "here", "()I"⟩
abbrev cX8_fails : ByteArray := prog_10_method_12_code
def yX8_fails : MethodName := ⟨RX8, "fails", "(II)I"⟩
abbrev cX8_takeNumber : ByteArray := prog_10_method_13_code
def yX8_takeNumber : MethodName := ⟨RX8, "takeNumber", "(II)I"⟩
abbrev cX8_takeThings : ByteArray := prog_10_method_14_code
def yX8_takeThings : MethodName := ⟨RX8, "takeThings", "()I"⟩
abbrev cX8_takeSaying : ByteArray := prog_10_method_15_code
def yX8_takeSaying : MethodName := ⟨RX8, "takeSaying", "(I)I"⟩
abbrev cX8_takeRule : ByteArray := prog_10_method_16_code
def yX8_takeRule : MethodName := ⟨RX8, "takeRule", "()I"⟩
abbrev cX8_takeSeen : ByteArray := prog_10_method_17_code
def yX8_takeSeen : MethodName := ⟨RX8, "takeSeen", "()I"⟩
abbrev cX8_takeClause : ByteArray := prog_10_method_18_code
def yX8_takeClause : MethodName := ⟨RX8, "takeClause", "()I"⟩
abbrev cX8_town : ByteArray := prog_10_method_19_code
def yX8_town : MethodName := ⟨RX8, "town", "()I"⟩
abbrev cX8_fault : ByteArray := prog_10_method_20_code
def yX8_fault : MethodName := ⟨RX8, "fault", "()I"⟩
abbrev cX8_close : ByteArray := prog_10_method_21_code
def yX8_close : MethodName := ⟨RX8, "close", "(II)I"⟩
abbrev cX8_allowed : ByteArray := prog_10_method_22_code
def yX8_allowed : MethodName := ⟨RX8, "allowed", "()I"⟩
abbrev cX8_followsNow : ByteArray := prog_10_method_23_code
def yX8_followsNow : MethodName := ⟨RX8, "followsNow", "()I"⟩
abbrev cX8_quarrels : ByteArray := prog_10_method_24_code
def yX8_quarrels : MethodName := ⟨RX8, "quarrels", "(I)I"⟩
abbrev cX8_told : ByteArray := prog_10_method_25_code
def yX8_told : MethodName := ⟨RX8, "told", "(I)I"⟩
abbrev cX8_rule : ByteArray := prog_10_method_26_code
def yX8_rule : MethodName := ⟨RX8, "rule", "(II)I"⟩
abbrev cX8_remember : ByteArray := prog_10_method_27_code
def yX8_remember : MethodName := ⟨RX8, "remember", "()V"⟩
abbrev cX8_with : ByteArray := prog_10_method_28_code
def yX8_with : MethodName := ⟨RX8, "with", "(IIZ)I"⟩
abbrev cX8_see : ByteArray := prog_10_method_29_code
def yX8_see : MethodName := ⟨RX8, "see", "(IZ)I"⟩
abbrev cX8_forbid : ByteArray := prog_10_method_30_code
def yX8_forbid : MethodName := ⟨RX8, "forbid", "(IZ)I"⟩
abbrev cX8_debateNow : ByteArray := prog_10_method_31_code
def yX8_debateNow : MethodName := ⟨RX8, "debateNow", "()V"⟩
abbrev cX8_debate : ByteArray := prog_10_method_32_code
def yX8_debate : MethodName := ⟨RX8, "debate", "()I"⟩
abbrev cX8_drop : ByteArray := prog_10_method_33_code
def yX8_drop : MethodName := ⟨RX8, "drop", "()I"⟩
abbrev cX8_draw : ByteArray := prog_10_method_34_code
def yX8_draw : MethodName := ⟨RX8, "draw", "(I)I"⟩
abbrev cX8_drift : ByteArray := prog_10_method_35_code
def yX8_drift : MethodName := ⟨RX8, "drift", "(I)I"⟩
abbrev cX8_undo : ByteArray := prog_10_method_36_code
def yX8_undo : MethodName := ⟨RX8, "undo", "()I"⟩
abbrev cX8_follows : ByteArray := prog_10_method_37_code
def yX8_follows : MethodName := ⟨RX8, "follows", "(I)I"⟩
abbrev cX8_proof : ByteArray := prog_10_method_38_code
def yX8_proof : MethodName := ⟨RX8, "proof", "(II)I"⟩
abbrev cX8_costOf : ByteArray := prog_10_method_39_code
def yX8_costOf : MethodName := ⟨RX8, "costOf", "(I)I"⟩
abbrev cX8_giveUp : ByteArray := prog_10_method_40_code
def yX8_giveUp : MethodName := ⟨RX8, "giveUp", "(I)I"⟩
abbrev cX8_doWords : ByteArray := prog_10_method_41_code
def yX8_doWords : MethodName := ⟨RX8, "doWords", "(II)Z"⟩
abbrev cX8_words : ByteArray := prog_10_method_42_code
def yX8_words : MethodName := ⟨RX8, "words", "(I)I"⟩
abbrev cX8_step : ByteArray := prog_10_method_43_code
def yX8_step : MethodName := ⟨RX8, "step", "(I)I"⟩
abbrev cX8_barred : ByteArray := prog_10_method_44_code
def yX8_barred : MethodName := ⟨RX8, "barred", "(I)I"⟩
abbrev cX8_never : ByteArray := prog_10_method_45_code
def yX8_never : MethodName := ⟨RX8, "never", "()I"⟩
abbrev cX8_round : ByteArray := prog_10_method_46_code
def yX8_round : MethodName := ⟨RX8, "round", "()I"⟩
abbrev cX8_vote : ByteArray := prog_10_method_47_code
def yX8_vote : MethodName := ⟨RX8, "vote", "(II)I"⟩
abbrev cX8_ask : ByteArray := prog_10_method_48_code
def yX8_ask : MethodName := ⟨RX8, "ask", "(IIZ)I"⟩
abbrev cX8_isBelieved : ByteArray := prog_10_method_49_code
def yX8_isBelieved : MethodName := ⟨RX8, "isBelieved", "(I)Z"⟩
abbrev cX8_believed : ByteArray := prog_10_method_50_code
def yX8_believed : MethodName := ⟨RX8, "believed", "(I)I"⟩
abbrev cX8_askNext : ByteArray := prog_10_method_51_code
def yX8_askNext : MethodName := ⟨RX8, "askNext", "()I"⟩
abbrev cX8_write : ByteArray := prog_10_method_52_code
def yX8_write : MethodName := ⟨RX8, "write", "(II)I"⟩
abbrev cX8_tear : ByteArray := prog_10_method_53_code
def yX8_tear : MethodName := ⟨RX8, "tear", "()I"⟩
abbrev cX8_judge : ByteArray := prog_10_method_54_code
def yX8_judge : MethodName := ⟨RX8, "judge", "()I"⟩
abbrev cX8_seed : ByteArray := prog_10_method_55_code
def yX8_seed : MethodName := ⟨RX8, "seed", "(I)I"⟩
abbrev cX8_keep : ByteArray := prog_10_method_56_code
def yX8_keep : MethodName := ⟨RX8, "keep", "(I)I"⟩
abbrev cX8_goBack : ByteArray := prog_10_method_57_code
def yX8_goBack : MethodName := ⟨RX8, "goBack", "(I)I"⟩
def RJ6 : String := "java/lang/Integer"
def TJ6 : u_T := fun k => match k with
  | _ => ("", "", "", false)
def tyJ6 : Nat → FieldType := fun k => match k with
  | _ => .int
theorem nmJ6 : ∀ a, a < 0 → ∀ b, b < 0 → a ≠ b → (TJ6 a).2.1 ≠ (TJ6 b).2.1 := by decide +kernel
theorem tyJ6_ok : ∀ k, k < 0 → parseFieldDescriptor (TJ6 k).2.2.1 = some (tyJ6 k) := by decide +kernel
abbrev cJ6_bitCount_0f7a4 : ByteArray := prog_11_method_49_code
def yJ6_bitCount_0f7a4 : MethodName := ⟨RJ6, "bitCount", "(I)I"⟩
def RJ9 : String := "java/lang/Math"
def TJ9 : u_T := fun k => match k with
  | _ => ("", "", "", false)
def tyJ9 : Nat → FieldType := fun k => match k with
  | _ => .int
theorem nmJ9 : ∀ a, a < 0 → ∀ b, b < 0 → a ≠ b → (TJ9 a).2.1 ≠ (TJ9 b).2.1 := by decide +kernel
theorem tyJ9_ok : ∀ k, k < 0 → parseFieldDescriptor (TJ9 k).2.2.1 = some (tyJ9 k) := by decide +kernel
abbrev cJ9_max_7cf53 : ByteArray := prog_12_method_65_code
def yJ9_max_7cf53 : MethodName := ⟨RJ9, "max", "(II)I"⟩
abbrev cJ9_min_7cf53 : ByteArray := prog_12_method_69_code
def yJ9_min_7cf53 : MethodName := ⟨RJ9, "min", "(II)I"⟩
def RL : String := "BarrelMoonLaw"
abbrev cL_law : ByteArray := code
def yL_law : MethodName := ⟨RL, "law", "([I)Z"⟩
def UT : List Cond := lw_tbl.filter goodWord
theorem ut {w : Cond} {i : Nat} (h : lw_tbl[i]? = some w) (g : goodWord w = true) : w ∈ UT := List.mem_filter.mpr ⟨List.mem_of_getElem? h, g⟩
theorem ut_good : GoodIn UT UT := fun w h => ⟨h, good_of_word (List.mem_filter.mp h).2⟩
theorem in_L : Cond.initialized RL ∈ UT := ut (i := 43) (by decide +kernel) rfl
theorem in_X7 : Cond.initialized RX7 ∈ UT := ut (i := 44) (by decide +kernel) rfl
theorem in_X5 : Cond.initialized RX5 ∈ UT := ut (i := 45) (by decide +kernel) rfl
theorem in_X1 : Cond.initialized RX1 ∈ UT := ut (i := 46) (by decide +kernel) rfl
theorem in_X3 : Cond.initialized RX3 ∈ UT := ut (i := 47) (by decide +kernel) rfl
theorem in_X0 : Cond.initialized RX0 ∈ UT := ut (i := 48) (by decide +kernel) rfl
theorem in_X4 : Cond.initialized RX4 ∈ UT := ut (i := 49) (by decide +kernel) rfl
theorem in_X2 : Cond.initialized RX2 ∈ UT := ut (i := 50) (by decide +kernel) rfl
theorem in_X8 : Cond.initialized RX8 ∈ UT := ut (i := 51) (by decide +kernel) rfl
theorem in_J9 : Cond.initialized RJ9 ∈ UT := ut (i := 52) (by decide +kernel) rfl
theorem in_X6 : Cond.initialized RX6 ∈ UT := ut (i := 53) (by decide +kernel) rfl
theorem in_J6 : Cond.initialized RJ6 ∈ UT := ut (i := 54) (by decide +kernel) rfl
theorem cl_L_7 : Cond.classLink RL 7 RX7 ∈ UT := ut (i := 55) (by decide +kernel) rfl
theorem ic_X7 : Cond.instantiable RX7 12 ∈ UT := ut (i := 56) (by decide +kernel) rfl
theorem ml_L_9 : Cond.methodLink RL 9 yX7_init ∈ UT := ut (i := 57) (by decide +kernel) rfl
theorem im_yX7_init : Cond.instanceMethod yX7_init ∈ UT := ut (i := 58) (by decide +kernel) rfl
theorem co_yX7_init : Cond.code yX7_init cX7_init 1 none ∈ UT := ut (i := 59) (by decide +kernel) rfl
theorem ml_X7_3 : Cond.methodLink RX7 3 objectInit ∈ UT := ut (i := 60) (by decide +kernel) rfl
theorem im_objectInit : Cond.instanceMethod objectInit ∈ UT := ut (i := 61) (by decide +kernel) rfl
theorem co_objectInit : Cond.code objectInit ⟨#[0xb1]⟩ 1 none ∈ UT := ut (i := 62) (by decide +kernel) rfl
theorem cl_X7_9 : Cond.classLink RX7 9 RX5 ∈ UT := ut (i := 63) (by decide +kernel) rfl
theorem ic_X5 : Cond.instantiable RX5 6 ∈ UT := ut (i := 64) (by decide +kernel) rfl
theorem im_yX5_init : Cond.instanceMethod yX5_init ∈ UT := ut (i := 66) (by decide +kernel) rfl
theorem co_yX5_init : Cond.code yX5_init cX5_init 1 none ∈ UT := ut (i := 67) (by decide +kernel) rfl
theorem ml_X5_3 : Cond.methodLink RX5 3 objectInit ∈ UT := ut (i := 68) (by decide +kernel) rfl
theorem fl_X5_9 : Cond.fieldLink RX5 9 (TX5 0).1 (TX5 0).2.1 (TX5 0).2.2.1 ∈ UT := ut (i := 69) (by decide +kernel) rfl
theorem fl_X5_15 : Cond.fieldLink RX5 15 (TX5 1).1 (TX5 1).2.1 (TX5 1).2.2.1 ∈ UT := ut (i := 70) (by decide +kernel) rfl
theorem fl_X5_19 : Cond.fieldLink RX5 19 (TX5 2).1 (TX5 2).2.1 (TX5 2).2.2.1 ∈ UT := ut (i := 71) (by decide +kernel) rfl
theorem fl_X5_22 : Cond.fieldLink RX5 22 (TX5 3).1 (TX5 3).2.1 (TX5 3).2.2.1 ∈ UT := ut (i := 72) (by decide +kernel) rfl
theorem fl_X5_25 : Cond.fieldLink RX5 25 (TX5 4).1 (TX5 4).2.1 (TX5 4).2.2.1 ∈ UT := ut (i := 73) (by decide +kernel) rfl
theorem fl_X5_28 : Cond.fieldLink RX5 28 (TX5 5).1 (TX5 5).2.1 (TX5 5).2.2.1 ∈ UT := ut (i := 74) (by decide +kernel) rfl
theorem ac_int : Cond.arrayClass .int ∈ UT := ut (i := 88) (by decide +kernel) rfl
theorem cl_X7_16 : Cond.classLink RX7 16 RX1 ∈ UT := ut (i := 89) (by decide +kernel) rfl
theorem ic_X1 : Cond.instantiable RX1 2 ∈ UT := ut (i := 90) (by decide +kernel) rfl
theorem im_yX1_init : Cond.instanceMethod yX1_init ∈ UT := ut (i := 92) (by decide +kernel) rfl
theorem co_yX1_init : Cond.code yX1_init cX1_init 1 none ∈ UT := ut (i := 93) (by decide +kernel) rfl
theorem ml_X1_3 : Cond.methodLink RX1 3 objectInit ∈ UT := ut (i := 94) (by decide +kernel) rfl
theorem cl_X1_9 : Cond.classLink RX1 9 RX2 ∈ UT := ut (i := 95) (by decide +kernel) rfl
theorem ao_word : Cond.arrayOver (.object RX2) ∈ lw_tbl := List.mem_of_getElem? (i := 96) (by decide +kernel)
theorem fl_X1_11 : Cond.fieldLink RX1 11 (TX1 0).1 (TX1 0).2.1 (TX1 0).2.2.1 ∈ UT := ut (i := 97) (by decide +kernel) rfl
theorem fl_X1_17 : Cond.fieldLink RX1 17 (TX1 1).1 (TX1 1).2.1 (TX1 1).2.2.1 ∈ UT := ut (i := 98) (by decide +kernel) rfl
theorem cl_X7_23 : Cond.classLink RX7 23 RX3 ∈ UT := ut (i := 104) (by decide +kernel) rfl
theorem ic_X3 : Cond.instantiable RX3 4 ∈ UT := ut (i := 105) (by decide +kernel) rfl
theorem im_yX3_init : Cond.instanceMethod yX3_init ∈ UT := ut (i := 107) (by decide +kernel) rfl
theorem co_yX3_init : Cond.code yX3_init cX3_init 1 none ∈ UT := ut (i := 108) (by decide +kernel) rfl
theorem ml_X3_3 : Cond.methodLink RX3 3 objectInit ∈ UT := ut (i := 109) (by decide +kernel) rfl
theorem fl_X3_9 : Cond.fieldLink RX3 9 (TX3 0).1 (TX3 0).2.1 (TX3 0).2.2.1 ∈ UT := ut (i := 110) (by decide +kernel) rfl
theorem fl_X3_15 : Cond.fieldLink RX3 15 (TX3 1).1 (TX3 1).2.1 (TX3 1).2.2.1 ∈ UT := ut (i := 111) (by decide +kernel) rfl
theorem fl_X3_18 : Cond.fieldLink RX3 18 (TX3 2).1 (TX3 2).2.1 (TX3 2).2.2.1 ∈ UT := ut (i := 112) (by decide +kernel) rfl
theorem fl_X3_22 : Cond.fieldLink RX3 22 (TX3 3).1 (TX3 3).2.1 (TX3 3).2.2.1 ∈ UT := ut (i := 113) (by decide +kernel) rfl
theorem ac_boolean : Cond.arrayClass .boolean ∈ UT := ut (i := 123) (by decide +kernel) rfl
theorem cl_X7_30 : Cond.classLink RX7 30 RX0 ∈ UT := ut (i := 124) (by decide +kernel) rfl
theorem ic_X0 : Cond.instantiable RX0 3 ∈ UT := ut (i := 125) (by decide +kernel) rfl
theorem im_yX0_init : Cond.instanceMethod yX0_init ∈ UT := ut (i := 127) (by decide +kernel) rfl
theorem co_yX0_init : Cond.code yX0_init cX0_init 1 none ∈ UT := ut (i := 128) (by decide +kernel) rfl
theorem ml_X0_3 : Cond.methodLink RX0 3 objectInit ∈ UT := ut (i := 129) (by decide +kernel) rfl
theorem fl_X0_9 : Cond.fieldLink RX0 9 (TX0 0).1 (TX0 0).2.1 (TX0 0).2.2.1 ∈ UT := ut (i := 130) (by decide +kernel) rfl
theorem fl_X0_15 : Cond.fieldLink RX0 15 (TX0 1).1 (TX0 1).2.1 (TX0 1).2.2.1 ∈ UT := ut (i := 131) (by decide +kernel) rfl
theorem fl_X0_19 : Cond.fieldLink RX0 19 (TX0 2).1 (TX0 2).2.1 (TX0 2).2.2.1 ∈ UT := ut (i := 132) (by decide +kernel) rfl
theorem cl_X7_37 : Cond.classLink RX7 37 RX2 ∈ UT := ut (i := 140) (by decide +kernel) rfl
theorem cl_X7_54 : Cond.classLink RX7 54 RX4 ∈ UT := ut (i := 141) (by decide +kernel) rfl
theorem ic_X4 : Cond.instantiable RX4 6 ∈ UT := ut (i := 142) (by decide +kernel) rfl
theorem im_yX4_init : Cond.instanceMethod yX4_init ∈ UT := ut (i := 144) (by decide +kernel) rfl
theorem co_yX4_init : Cond.code yX4_init cX4_init 1 none ∈ UT := ut (i := 145) (by decide +kernel) rfl
theorem ml_X4_3 : Cond.methodLink RX4 3 objectInit ∈ UT := ut (i := 146) (by decide +kernel) rfl
theorem fl_X4_9 : Cond.fieldLink RX4 9 (TX4 0).1 (TX4 0).2.1 (TX4 0).2.2.1 ∈ UT := ut (i := 147) (by decide +kernel) rfl
theorem fl_X7_149 : Cond.fieldLink RX7 149 (TX4 0).1 (TX4 0).2.1 (TX4 0).2.2.1 ∈ UT := ut (i := 148) (by decide +kernel) rfl
theorem fl_X4_15 : Cond.fieldLink RX4 15 (TX4 1).1 (TX4 1).2.1 (TX4 1).2.2.1 ∈ UT := ut (i := 149) (by decide +kernel) rfl
theorem fl_X7_152 : Cond.fieldLink RX7 152 (TX4 1).1 (TX4 1).2.1 (TX4 1).2.2.1 ∈ UT := ut (i := 150) (by decide +kernel) rfl
theorem fl_X6_78 : Cond.fieldLink RX6 78 (TX4 1).1 (TX4 1).2.1 (TX4 1).2.2.1 ∈ UT := ut (i := 151) (by decide +kernel) rfl
theorem fl_X4_18 : Cond.fieldLink RX4 18 (TX4 2).1 (TX4 2).2.1 (TX4 2).2.2.1 ∈ UT := ut (i := 152) (by decide +kernel) rfl
theorem fl_X7_155 : Cond.fieldLink RX7 155 (TX4 2).1 (TX4 2).2.1 (TX4 2).2.2.1 ∈ UT := ut (i := 153) (by decide +kernel) rfl
theorem fl_X6_82 : Cond.fieldLink RX6 82 (TX4 2).1 (TX4 2).2.1 (TX4 2).2.2.1 ∈ UT := ut (i := 154) (by decide +kernel) rfl
theorem fl_X4_21 : Cond.fieldLink RX4 21 (TX4 3).1 (TX4 3).2.1 (TX4 3).2.2.1 ∈ UT := ut (i := 155) (by decide +kernel) rfl
theorem fl_X7_112 : Cond.fieldLink RX7 112 (TX4 3).1 (TX4 3).2.1 (TX4 3).2.2.1 ∈ UT := ut (i := 156) (by decide +kernel) rfl
theorem fl_X5_55 : Cond.fieldLink RX5 55 (TX4 3).1 (TX4 3).2.1 (TX4 3).2.2.1 ∈ UT := ut (i := 157) (by decide +kernel) rfl
theorem fl_X4_25 : Cond.fieldLink RX4 25 (TX4 4).1 (TX4 4).2.1 (TX4 4).2.2.1 ∈ UT := ut (i := 158) (by decide +kernel) rfl
theorem fl_X7_98 : Cond.fieldLink RX7 98 (TX4 4).1 (TX4 4).2.1 (TX4 4).2.2.1 ∈ UT := ut (i := 159) (by decide +kernel) rfl
theorem fl_X6_68 : Cond.fieldLink RX6 68 (TX4 4).1 (TX4 4).2.1 (TX4 4).2.2.1 ∈ UT := ut (i := 160) (by decide +kernel) rfl
theorem fl_X4_28 : Cond.fieldLink RX4 28 (TX4 5).1 (TX4 5).2.1 (TX4 5).2.2.1 ∈ UT := ut (i := 161) (by decide +kernel) rfl
theorem fl_X7_101 : Cond.fieldLink RX7 101 (TX4 5).1 (TX4 5).2.1 (TX4 5).2.2.1 ∈ UT := ut (i := 162) (by decide +kernel) rfl
theorem fl_X5_87 : Cond.fieldLink RX5 87 (TX4 5).1 (TX4 5).2.1 (TX4 5).2.2.1 ∈ UT := ut (i := 163) (by decide +kernel) rfl
theorem ac_long : Cond.arrayClass .long ∈ UT := ut (i := 177) (by decide +kernel) rfl
theorem ic_X2 : Cond.instantiable RX2 4 ∈ UT := ut (i := 178) (by decide +kernel) rfl
theorem ml_X7_64 : Cond.methodLink RX7 64 yX2_init ∈ UT := ut (i := 179) (by decide +kernel) rfl
theorem im_yX2_init : Cond.instanceMethod yX2_init ∈ UT := ut (i := 180) (by decide +kernel) rfl
theorem co_yX2_init : Cond.code yX2_init cX2_init 5 none ∈ UT := ut (i := 181) (by decide +kernel) rfl
theorem ml_X2_1 : Cond.methodLink RX2 1 objectInit ∈ UT := ut (i := 182) (by decide +kernel) rfl
theorem fl_X2_7 : Cond.fieldLink RX2 7 (TX2 0).1 (TX2 0).2.1 (TX2 0).2.2.1 ∈ UT := ut (i := 183) (by decide +kernel) rfl
theorem fl_X7_115 : Cond.fieldLink RX7 115 (TX2 0).1 (TX2 0).2.1 (TX2 0).2.2.1 ∈ UT := ut (i := 184) (by decide +kernel) rfl
theorem fl_X2_13 : Cond.fieldLink RX2 13 (TX2 1).1 (TX2 1).2.1 (TX2 1).2.2.1 ∈ UT := ut (i := 185) (by decide +kernel) rfl
theorem fl_X7_118 : Cond.fieldLink RX7 118 (TX2 1).1 (TX2 1).2.1 (TX2 1).2.2.1 ∈ UT := ut (i := 186) (by decide +kernel) rfl
theorem fl_X2_16 : Cond.fieldLink RX2 16 (TX2 2).1 (TX2 2).2.1 (TX2 2).2.2.1 ∈ UT := ut (i := 187) (by decide +kernel) rfl
theorem fl_X7_121 : Cond.fieldLink RX7 121 (TX2 2).1 (TX2 2).2.1 (TX2 2).2.2.1 ∈ UT := ut (i := 188) (by decide +kernel) rfl
theorem fl_X2_19 : Cond.fieldLink RX2 19 (TX2 3).1 (TX2 3).2.1 (TX2 3).2.2.1 ∈ UT := ut (i := 189) (by decide +kernel) rfl
theorem fl_X7_124 : Cond.fieldLink RX7 124 (TX2 3).1 (TX2 3).2.1 (TX2 3).2.2.1 ∈ UT := ut (i := 190) (by decide +kernel) rfl
theorem fl_X7_12 : Cond.fieldLink RX7 12 (TX7 0).1 (TX7 0).2.1 (TX7 0).2.2.1 ∈ UT := ut (i := 200) (by decide +kernel) rfl
theorem fl_X7_19 : Cond.fieldLink RX7 19 (TX7 1).1 (TX7 1).2.1 (TX7 1).2.2.1 ∈ UT := ut (i := 201) (by decide +kernel) rfl
theorem fl_X7_26 : Cond.fieldLink RX7 26 (TX7 2).1 (TX7 2).2.1 (TX7 2).2.2.1 ∈ UT := ut (i := 202) (by decide +kernel) rfl
theorem fl_X7_33 : Cond.fieldLink RX7 33 (TX7 3).1 (TX7 3).2.1 (TX7 3).2.2.1 ∈ UT := ut (i := 203) (by decide +kernel) rfl
theorem fl_X7_39 : Cond.fieldLink RX7 39 (TX7 4).1 (TX7 4).2.1 (TX7 4).2.2.1 ∈ UT := ut (i := 204) (by decide +kernel) rfl
theorem fl_X7_43 : Cond.fieldLink RX7 43 (TX7 5).1 (TX7 5).2.1 (TX7 5).2.2.1 ∈ UT := ut (i := 205) (by decide +kernel) rfl
theorem fl_X7_47 : Cond.fieldLink RX7 47 (TX7 6).1 (TX7 6).2.1 (TX7 6).2.2.1 ∈ UT := ut (i := 206) (by decide +kernel) rfl
theorem fl_X7_51 : Cond.fieldLink RX7 51 (TX7 7).1 (TX7 7).2.1 (TX7 7).2.2.1 ∈ UT := ut (i := 207) (by decide +kernel) rfl
theorem fl_X7_57 : Cond.fieldLink RX7 57 (TX7 8).1 (TX7 8).2.1 (TX7 8).2.2.1 ∈ UT := ut (i := 208) (by decide +kernel) rfl
theorem fl_X7_61 : Cond.fieldLink RX7 61 (TX7 9).1 (TX7 9).2.1 (TX7 9).2.2.1 ∈ UT := ut (i := 209) (by decide +kernel) rfl
theorem fl_X7_67 : Cond.fieldLink RX7 67 (TX7 10).1 (TX7 10).2.1 (TX7 10).2.2.1 ∈ UT := ut (i := 210) (by decide +kernel) rfl
theorem fl_X7_71 : Cond.fieldLink RX7 71 (TX7 11).1 (TX7 11).2.1 (TX7 11).2.2.1 ∈ UT := ut (i := 211) (by decide +kernel) rfl
theorem ml_L_13 : Cond.methodLink RL 13 yX7_feed ∈ UT := ut (i := 237) (by decide +kernel) rfl
theorem im_yX7_feed : Cond.instanceMethod yX7_feed ∈ UT := ut (i := 238) (by decide +kernel) rfl
theorem se_yX7_feed : Cond.selects RX7 yX7_feed yX7_feed ∈ UT := ut (i := 239) (by decide +kernel) rfl
theorem co_yX7_feed : Cond.code yX7_feed cX7_feed 2 (some .int) ∈ UT := ut (i := 240) (by decide +kernel) rfl
theorem kc_X7_75 : Cond.constant RX7 75 (-1000000002) ∈ UT := ut (i := 241) (by decide +kernel) rfl
theorem ml_X7_76 : Cond.methodLink RX7 76 yX5_append ∈ UT := ut (i := 242) (by decide +kernel) rfl
theorem im_yX5_append : Cond.instanceMethod yX5_append ∈ UT := ut (i := 243) (by decide +kernel) rfl
theorem se_yX5_append : Cond.selects RX5 yX5_append yX5_append ∈ UT := ut (i := 244) (by decide +kernel) rfl
theorem co_yX5_append : Cond.code yX5_append cX5_append 2 (some .boolean) ∈ UT := ut (i := 245) (by decide +kernel) rfl
theorem ml_X7_80 : Cond.methodLink RX7 80 yX5_length ∈ UT := ut (i := 246) (by decide +kernel) rfl
theorem im_yX5_length : Cond.instanceMethod yX5_length ∈ UT := ut (i := 247) (by decide +kernel) rfl
theorem se_yX5_length : Cond.selects RX5 yX5_length yX5_length ∈ UT := ut (i := 248) (by decide +kernel) rfl
theorem co_yX5_length : Cond.code yX5_length cX5_length 1 (some .int) ∈ UT := ut (i := 249) (by decide +kernel) rfl
theorem kc_X7_84 : Cond.constant RX7 84 (-1000000004) ∈ UT := ut (i := 250) (by decide +kernel) rfl
theorem ml_L_18 : Cond.methodLink RL 18 yX7_town ∈ UT := ut (i := 251) (by decide +kernel) rfl
theorem im_yX7_town : Cond.instanceMethod yX7_town ∈ UT := ut (i := 252) (by decide +kernel) rfl
theorem se_yX7_town : Cond.selects RX7 yX7_town yX7_town ∈ UT := ut (i := 253) (by decide +kernel) rfl
theorem co_yX7_town : Cond.code yX7_town cX7_town 2 (some .int) ∈ UT := ut (i := 254) (by decide +kernel) rfl
theorem ml_X7_85 : Cond.methodLink RX7 85 yX5_readInto ∈ UT := ut (i := 255) (by decide +kernel) rfl
theorem im_yX5_readInto : Cond.instanceMethod yX5_readInto ∈ UT := ut (i := 256) (by decide +kernel) rfl
theorem se_yX5_readInto : Cond.selects RX5 yX5_readInto yX5_readInto ∈ UT := ut (i := 257) (by decide +kernel) rfl
theorem co_yX5_readInto : Cond.code yX5_readInto cX5_readInto 3 none ∈ UT := ut (i := 258) (by decide +kernel) rfl
theorem ml_X5_31 : Cond.methodLink RX5 31 yX4_clear ∈ UT := ut (i := 259) (by decide +kernel) rfl
theorem im_yX4_clear : Cond.instanceMethod yX4_clear ∈ UT := ut (i := 260) (by decide +kernel) rfl
theorem se_yX4_clear : Cond.selects RX4 yX4_clear yX4_clear ∈ UT := ut (i := 261) (by decide +kernel) rfl
theorem co_yX4_clear : Cond.code yX4_clear cX4_clear 1 none ∈ UT := ut (i := 262) (by decide +kernel) rfl
theorem ml_X5_36 : Cond.methodLink RX5 36 yX5_peek ∈ UT := ut (i := 263) (by decide +kernel) rfl
theorem im_yX5_peek : Cond.instanceMethod yX5_peek ∈ UT := ut (i := 265) (by decide +kernel) rfl
theorem co_yX5_peek : Cond.code yX5_peek cX5_peek 1 (some .int) ∈ UT := ut (i := 266) (by decide +kernel) rfl
theorem ml_X5_40 : Cond.methodLink RX5 40 yX5_readThings ∈ UT := ut (i := 267) (by decide +kernel) rfl
theorem im_yX5_readThings : Cond.instanceMethod yX5_readThings ∈ UT := ut (i := 269) (by decide +kernel) rfl
theorem co_yX5_readThings : Cond.code yX5_readThings cX5_readThings 3 none ∈ UT := ut (i := 270) (by decide +kernel) rfl
theorem ml_X5_47 : Cond.methodLink RX5 47 yX5_take ∈ UT := ut (i := 271) (by decide +kernel) rfl
theorem im_yX5_take : Cond.instanceMethod yX5_take ∈ UT := ut (i := 273) (by decide +kernel) rfl
theorem co_yX5_take : Cond.code yX5_take cX5_take 2 (some .boolean) ∈ UT := ut (i := 274) (by decide +kernel) rfl
theorem ml_X5_62 : Cond.methodLink RX5 62 yX5_stop ∈ UT := ut (i := 275) (by decide +kernel) rfl
theorem im_yX5_stop : Cond.instanceMethod yX5_stop ∈ UT := ut (i := 277) (by decide +kernel) rfl
theorem co_yX5_stop : Cond.code yX5_stop cX5_stop 3 none ∈ UT := ut (i := 278) (by decide +kernel) rfl
theorem ml_X5_51 : Cond.methodLink RX5 51 yX5_number ∈ UT := ut (i := 279) (by decide +kernel) rfl
theorem im_yX5_number : Cond.instanceMethod yX5_number ∈ UT := ut (i := 281) (by decide +kernel) rfl
theorem co_yX5_number : Cond.code yX5_number cX5_number 4 (some .int) ∈ UT := ut (i := 282) (by decide +kernel) rfl
theorem ml_X5_90 : Cond.methodLink RX5 90 yX5_isFigure ∈ UT := ut (i := 283) (by decide +kernel) rfl
theorem sm_yX5_isFigure : Cond.static yX5_isFigure ∈ UT := ut (i := 284) (by decide +kernel) rfl
theorem co_yX5_isFigure : Cond.code yX5_isFigure cX5_isFigure 1 (some .boolean) ∈ UT := ut (i := 285) (by decide +kernel) rfl
theorem ml_X5_93 : Cond.methodLink RX5 93 Lib.Math.min.name ∈ UT := ut (i := 286) (by decide +kernel) rfl
theorem sm_Lib_Math_min_name : Cond.static Lib.Math.min.name ∈ UT := ut (i := 287) (by decide +kernel) rfl
theorem co_Lib_Math_min_name : Cond.code Lib.Math.min.name Lib.Math.min.code 2 (some .int) ∈ UT := ut (i := 288) (by decide +kernel) rfl
theorem ml_X5_44 : Cond.methodLink RX5 44 yX5_readClause ∈ UT := ut (i := 289) (by decide +kernel) rfl
theorem im_yX5_readClause : Cond.instanceMethod yX5_readClause ∈ UT := ut (i := 291) (by decide +kernel) rfl
theorem co_yX5_readClause : Cond.code yX5_readClause cX5_readClause 3 none ∈ UT := ut (i := 292) (by decide +kernel) rfl
theorem ml_X5_58 : Cond.methodLink RX5 58 yX4_isFull ∈ UT := ut (i := 293) (by decide +kernel) rfl
theorem im_yX4_isFull : Cond.instanceMethod yX4_isFull ∈ UT := ut (i := 294) (by decide +kernel) rfl
theorem se_yX4_isFull : Cond.selects RX4 yX4_isFull yX4_isFull ∈ UT := ut (i := 295) (by decide +kernel) rfl
theorem co_yX4_isFull : Cond.code yX4_isFull cX4_isFull 1 (some .boolean) ∈ UT := ut (i := 296) (by decide +kernel) rfl
theorem ml_X5_66 : Cond.methodLink RX5 66 yX5_readRule ∈ UT := ut (i := 297) (by decide +kernel) rfl
theorem im_yX5_readRule : Cond.instanceMethod yX5_readRule ∈ UT := ut (i := 299) (by decide +kernel) rfl
theorem co_yX5_readRule : Cond.code yX5_readRule cX5_readRule 5 none ∈ UT := ut (i := 300) (by decide +kernel) rfl
theorem ml_X5_72 : Cond.methodLink RX5 72 yX4_sayings ∈ UT := ut (i := 301) (by decide +kernel) rfl
theorem im_yX4_sayings : Cond.instanceMethod yX4_sayings ∈ UT := ut (i := 302) (by decide +kernel) rfl
theorem se_yX4_sayings : Cond.selects RX4 yX4_sayings yX4_sayings ∈ UT := ut (i := 303) (by decide +kernel) rfl
theorem co_yX4_sayings : Cond.code yX4_sayings cX4_sayings 1 (some .int) ∈ UT := ut (i := 304) (by decide +kernel) rfl
theorem ml_X5_75 : Cond.methodLink RX5 75 yX5_readPremises ∈ UT := ut (i := 305) (by decide +kernel) rfl
theorem im_yX5_readPremises : Cond.instanceMethod yX5_readPremises ∈ UT := ut (i := 307) (by decide +kernel) rfl
theorem co_yX5_readPremises : Cond.code yX5_readPremises cX5_readPremises 6 (some .int) ∈ UT := ut (i := 308) (by decide +kernel) rfl
theorem sm_yX7_has : Cond.static yX7_has ∈ UT := ut (i := 310) (by decide +kernel) rfl
theorem co_yX7_has : Cond.code yX7_has cX7_has 2 (some .boolean) ∈ UT := ut (i := 311) (by decide +kernel) rfl
theorem ml_X5_79 : Cond.methodLink RX5 79 yX4_addRule ∈ UT := ut (i := 312) (by decide +kernel) rfl
theorem im_yX4_addRule : Cond.instanceMethod yX4_addRule ∈ UT := ut (i := 313) (by decide +kernel) rfl
theorem se_yX4_addRule : Cond.selects RX4 yX4_addRule yX4_addRule ∈ UT := ut (i := 314) (by decide +kernel) rfl
theorem co_yX4_addRule : Cond.code yX4_addRule cX4_addRule 4 none ∈ UT := ut (i := 315) (by decide +kernel) rfl
theorem ml_X4_31 : Cond.methodLink RX4 31 yX4_isFull ∈ UT := ut (i := 316) (by decide +kernel) rfl
theorem ml_X5_69 : Cond.methodLink RX5 69 yX5_readSeen ∈ UT := ut (i := 317) (by decide +kernel) rfl
theorem im_yX5_readSeen : Cond.instanceMethod yX5_readSeen ∈ UT := ut (i := 319) (by decide +kernel) rfl
theorem co_yX5_readSeen : Cond.code yX5_readSeen cX5_readSeen 3 none ∈ UT := ut (i := 320) (by decide +kernel) rfl
theorem ml_X7_89 : Cond.methodLink RX7 89 yX5_forgetText ∈ UT := ut (i := 321) (by decide +kernel) rfl
theorem im_yX5_forgetText : Cond.instanceMethod yX5_forgetText ∈ UT := ut (i := 322) (by decide +kernel) rfl
theorem se_yX5_forgetText : Cond.selects RX5 yX5_forgetText yX5_forgetText ∈ UT := ut (i := 323) (by decide +kernel) rfl
theorem co_yX5_forgetText : Cond.code yX5_forgetText cX5_forgetText 1 none ∈ UT := ut (i := 324) (by decide +kernel) rfl
theorem ml_X7_92 : Cond.methodLink RX7 92 yX5_faultKind ∈ UT := ut (i := 325) (by decide +kernel) rfl
theorem im_yX5_faultKind : Cond.instanceMethod yX5_faultKind ∈ UT := ut (i := 326) (by decide +kernel) rfl
theorem se_yX5_faultKind : Cond.selects RX5 yX5_faultKind yX5_faultKind ∈ UT := ut (i := 327) (by decide +kernel) rfl
theorem co_yX5_faultKind : Cond.code yX5_faultKind cX5_faultKind 1 (some .int) ∈ UT := ut (i := 328) (by decide +kernel) rfl
theorem ml_X7_95 : Cond.methodLink RX7 95 yX7_beginAnew ∈ UT := ut (i := 329) (by decide +kernel) rfl
theorem im_yX7_beginAnew : Cond.instanceMethod yX7_beginAnew ∈ UT := ut (i := 331) (by decide +kernel) rfl
theorem co_yX7_beginAnew : Cond.code yX7_beginAnew cX7_beginAnew 2 none ∈ UT := ut (i := 332) (by decide +kernel) rfl
theorem ml_X7_104 : Cond.methodLink RX7 104 yX1_clear ∈ UT := ut (i := 333) (by decide +kernel) rfl
theorem im_yX1_clear : Cond.instanceMethod yX1_clear ∈ UT := ut (i := 334) (by decide +kernel) rfl
theorem se_yX1_clear : Cond.selects RX1 yX1_clear yX1_clear ∈ UT := ut (i := 335) (by decide +kernel) rfl
theorem co_yX1_clear : Cond.code yX1_clear cX1_clear 1 none ∈ UT := ut (i := 336) (by decide +kernel) rfl
theorem ml_X7_107 : Cond.methodLink RX7 107 yX3_clear ∈ UT := ut (i := 337) (by decide +kernel) rfl
theorem im_yX3_clear : Cond.instanceMethod yX3_clear ∈ UT := ut (i := 338) (by decide +kernel) rfl
theorem se_yX3_clear : Cond.selects RX3 yX3_clear yX3_clear ∈ UT := ut (i := 339) (by decide +kernel) rfl
theorem co_yX3_clear : Cond.code yX3_clear cX3_clear 1 none ∈ UT := ut (i := 340) (by decide +kernel) rfl
theorem ml_X7_108 : Cond.methodLink RX7 108 yX0_clear ∈ UT := ut (i := 341) (by decide +kernel) rfl
theorem im_yX0_clear : Cond.instanceMethod yX0_clear ∈ UT := ut (i := 342) (by decide +kernel) rfl
theorem se_yX0_clear : Cond.selects RX0 yX0_clear yX0_clear ∈ UT := ut (i := 343) (by decide +kernel) rfl
theorem co_yX0_clear : Cond.code yX0_clear cX0_clear 1 none ∈ UT := ut (i := 344) (by decide +kernel) rfl
theorem ml_L_23 : Cond.methodLink RL 23 yX7_fault ∈ UT := ut (i := 345) (by decide +kernel) rfl
theorem im_yX7_fault : Cond.instanceMethod yX7_fault ∈ UT := ut (i := 346) (by decide +kernel) rfl
theorem se_yX7_fault : Cond.selects RX7 yX7_fault yX7_fault ∈ UT := ut (i := 347) (by decide +kernel) rfl
theorem co_yX7_fault : Cond.code yX7_fault cX7_fault 1 (some .int) ∈ UT := ut (i := 348) (by decide +kernel) rfl
theorem ml_X7_109 : Cond.methodLink RX7 109 yX5_faultAt ∈ UT := ut (i := 349) (by decide +kernel) rfl
theorem im_yX5_faultAt : Cond.instanceMethod yX5_faultAt ∈ UT := ut (i := 350) (by decide +kernel) rfl
theorem se_yX5_faultAt : Cond.selects RX5 yX5_faultAt yX5_faultAt ∈ UT := ut (i := 351) (by decide +kernel) rfl
theorem co_yX5_faultAt : Cond.code yX5_faultAt cX5_faultAt 1 (some .int) ∈ UT := ut (i := 352) (by decide +kernel) rfl
theorem ml_L_27 : Cond.methodLink RL 27 yX7_told ∈ UT := ut (i := 353) (by decide +kernel) rfl
theorem im_yX7_told : Cond.instanceMethod yX7_told ∈ UT := ut (i := 354) (by decide +kernel) rfl
theorem se_yX7_told : Cond.selects RX7 yX7_told yX7_told ∈ UT := ut (i := 355) (by decide +kernel) rfl
theorem co_yX7_told : Cond.code yX7_told cX7_told 2 (some .int) ∈ UT := ut (i := 356) (by decide +kernel) rfl
theorem ml_X7_127 : Cond.methodLink RX7 127 yX7_trialNow ∈ UT := ut (i := 357) (by decide +kernel) rfl
theorem im_yX7_trialNow : Cond.instanceMethod yX7_trialNow ∈ UT := ut (i := 359) (by decide +kernel) rfl
theorem co_yX7_trialNow : Cond.code yX7_trialNow cX7_trialNow 1 (some (.object "BarrelMoon$Trial")) ∈ UT := ut (i := 360) (by decide +kernel) rfl
theorem cl_X7_132 : Cond.classLink RX7 132 RX6 ∈ UT := ut (i := 361) (by decide +kernel) rfl
theorem ic_X6 : Cond.instantiable RX6 3 ∈ UT := ut (i := 362) (by decide +kernel) rfl
theorem ml_X7_178 : Cond.methodLink RX7 178 yX7_rulesGoneBy ∈ UT := ut (i := 363) (by decide +kernel) rfl
theorem im_yX7_rulesGoneBy : Cond.instanceMethod yX7_rulesGoneBy ∈ UT := ut (i := 365) (by decide +kernel) rfl
theorem co_yX7_rulesGoneBy : Cond.code yX7_rulesGoneBy cX7_rulesGoneBy 1 (some .int) ∈ UT := ut (i := 366) (by decide +kernel) rfl
theorem ml_X7_247 : Cond.methodLink RX7 247 yX4_allRules ∈ UT := ut (i := 367) (by decide +kernel) rfl
theorem im_yX4_allRules : Cond.instanceMethod yX4_allRules ∈ UT := ut (i := 368) (by decide +kernel) rfl
theorem se_yX4_allRules : Cond.selects RX4 yX4_allRules yX4_allRules ∈ UT := ut (i := 369) (by decide +kernel) rfl
theorem co_yX4_allRules : Cond.code yX4_allRules cX4_allRules 1 (some .int) ∈ UT := ut (i := 370) (by decide +kernel) rfl
theorem ml_X7_279 : Cond.methodLink RX7 279 yX6_init ∈ UT := ut (i := 371) (by decide +kernel) rfl
theorem im_yX6_init : Cond.instanceMethod yX6_init ∈ UT := ut (i := 372) (by decide +kernel) rfl
theorem co_yX6_init : Cond.code yX6_init cX6_init 4 none ∈ UT := ut (i := 373) (by decide +kernel) rfl
theorem ml_X6_3 : Cond.methodLink RX6 3 objectInit ∈ UT := ut (i := 374) (by decide +kernel) rfl
theorem fl_X6_9 : Cond.fieldLink RX6 9 (TX6 0).1 (TX6 0).2.1 (TX6 0).2.2.1 ∈ UT := ut (i := 375) (by decide +kernel) rfl
theorem fl_X6_15 : Cond.fieldLink RX6 15 (TX6 1).1 (TX6 1).2.1 (TX6 1).2.2.1 ∈ UT := ut (i := 376) (by decide +kernel) rfl
theorem fl_X6_19 : Cond.fieldLink RX6 19 (TX6 2).1 (TX6 2).2.1 (TX6 2).2.2.1 ∈ UT := ut (i := 377) (by decide +kernel) rfl
theorem ml_X7_131 : Cond.methodLink RX7 131 yX6_conclusions ∈ UT := ut (i := 385) (by decide +kernel) rfl
theorem im_yX6_conclusions : Cond.instanceMethod yX6_conclusions ∈ UT := ut (i := 386) (by decide +kernel) rfl
theorem se_yX6_conclusions : Cond.selects RX6 yX6_conclusions yX6_conclusions ∈ UT := ut (i := 387) (by decide +kernel) rfl
theorem co_yX6_conclusions : Cond.code yX6_conclusions cX6_conclusions 1 (some .int) ∈ UT := ut (i := 388) (by decide +kernel) rfl
theorem ml_X6_22 : Cond.methodLink RX6 22 yX4_closure ∈ UT := ut (i := 389) (by decide +kernel) rfl
theorem im_yX4_closure : Cond.instanceMethod yX4_closure ∈ UT := ut (i := 390) (by decide +kernel) rfl
theorem se_yX4_closure : Cond.selects RX4 yX4_closure yX4_closure ∈ UT := ut (i := 391) (by decide +kernel) rfl
theorem co_yX4_closure : Cond.code yX4_closure cX4_closure 8 (some .int) ∈ UT := ut (i := 392) (by decide +kernel) rfl
theorem ml_X4_42 : Cond.methodLink RX4 42 yX4_allRules ∈ UT := ut (i := 393) (by decide +kernel) rfl
theorem ml_X7_136 : Cond.methodLink RX7 136 yX4_quarrelsIn ∈ UT := ut (i := 394) (by decide +kernel) rfl
theorem im_yX4_quarrelsIn : Cond.instanceMethod yX4_quarrelsIn ∈ UT := ut (i := 395) (by decide +kernel) rfl
theorem se_yX4_quarrelsIn : Cond.selects RX4 yX4_quarrelsIn yX4_quarrelsIn ∈ UT := ut (i := 396) (by decide +kernel) rfl
theorem co_yX4_quarrelsIn : Cond.code yX4_quarrelsIn cX4_quarrelsIn 4 (some .int) ∈ UT := ut (i := 397) (by decide +kernel) rfl
theorem ml_X7_140 : Cond.methodLink RX7 140 yX3_size ∈ UT := ut (i := 399) (by decide +kernel) rfl
theorem im_yX3_size : Cond.instanceMethod yX3_size ∈ UT := ut (i := 400) (by decide +kernel) rfl
theorem se_yX3_size : Cond.selects RX3 yX3_size yX3_size ∈ UT := ut (i := 401) (by decide +kernel) rfl
theorem co_yX3_size : Cond.code yX3_size cX3_size 1 (some .int) ∈ UT := ut (i := 402) (by decide +kernel) rfl
theorem ml_X7_143 : Cond.methodLink RX7 143 yX0_size ∈ UT := ut (i := 403) (by decide +kernel) rfl
theorem im_yX0_size : Cond.instanceMethod yX0_size ∈ UT := ut (i := 404) (by decide +kernel) rfl
theorem se_yX0_size : Cond.selects RX0 yX0_size yX0_size ∈ UT := ut (i := 405) (by decide +kernel) rfl
theorem co_yX0_size : Cond.code yX0_size cX0_size 1 (some .int) ∈ UT := ut (i := 406) (by decide +kernel) rfl
theorem ml_X7_144 : Cond.methodLink RX7 144 yX1_size ∈ UT := ut (i := 407) (by decide +kernel) rfl
theorem im_yX1_size : Cond.instanceMethod yX1_size ∈ UT := ut (i := 408) (by decide +kernel) rfl
theorem se_yX1_size : Cond.selects RX1 yX1_size yX1_size ∈ UT := ut (i := 409) (by decide +kernel) rfl
theorem co_yX1_size : Cond.code yX1_size cX1_size 1 (some .int) ∈ UT := ut (i := 410) (by decide +kernel) rfl
theorem ml_L_31 : Cond.methodLink RL 31 yX7_rule ∈ UT := ut (i := 411) (by decide +kernel) rfl
theorem im_yX7_rule : Cond.instanceMethod yX7_rule ∈ UT := ut (i := 412) (by decide +kernel) rfl
theorem se_yX7_rule : Cond.selects RX7 yX7_rule yX7_rule ∈ UT := ut (i := 413) (by decide +kernel) rfl
theorem co_yX7_rule : Cond.code yX7_rule cX7_rule 3 (some .int) ∈ UT := ut (i := 414) (by decide +kernel) rfl
theorem ml_X7_145 : Cond.methodLink RX7 145 yX4_hasRule ∈ UT := ut (i := 415) (by decide +kernel) rfl
theorem im_yX4_hasRule : Cond.instanceMethod yX4_hasRule ∈ UT := ut (i := 416) (by decide +kernel) rfl
theorem se_yX4_hasRule : Cond.selects RX4 yX4_hasRule yX4_hasRule ∈ UT := ut (i := 417) (by decide +kernel) rfl
theorem co_yX4_hasRule : Cond.code yX4_hasRule cX4_hasRule 2 (some .boolean) ∈ UT := ut (i := 418) (by decide +kernel) rfl
theorem kc_X7_148 : Cond.constant RX7 148 (-1000000001) ∈ UT := ut (i := 419) (by decide +kernel) rfl
theorem ml_X7_158 : Cond.methodLink RX7 158 yX7_has ∈ UT := ut (i := 420) (by decide +kernel) rfl
theorem ml_L_36 : Cond.methodLink RL 36 yX7_see ∈ UT := ut (i := 421) (by decide +kernel) rfl
theorem im_yX7_see : Cond.instanceMethod yX7_see ∈ UT := ut (i := 422) (by decide +kernel) rfl
theorem se_yX7_see : Cond.selects RX7 yX7_see yX7_see ∈ UT := ut (i := 423) (by decide +kernel) rfl
theorem co_yX7_see : Cond.code yX7_see cX7_see 4 (some .int) ∈ UT := ut (i := 424) (by decide +kernel) rfl
theorem ml_X7_162 : Cond.methodLink RX7 162 yX4_hasSaying ∈ UT := ut (i := 425) (by decide +kernel) rfl
theorem im_yX4_hasSaying : Cond.instanceMethod yX4_hasSaying ∈ UT := ut (i := 426) (by decide +kernel) rfl
theorem se_yX4_hasSaying : Cond.selects RX4 yX4_hasSaying yX4_hasSaying ∈ UT := ut (i := 427) (by decide +kernel) rfl
theorem co_yX4_hasSaying : Cond.code yX4_hasSaying cX4_hasSaying 2 (some .boolean) ∈ UT := ut (i := 428) (by decide +kernel) rfl
theorem ml_X4_35 : Cond.methodLink RX4 35 yX4_sayings ∈ UT := ut (i := 429) (by decide +kernel) rfl
theorem ml_X7_165 : Cond.methodLink RX7 165 yX7_put ∈ UT := ut (i := 430) (by decide +kernel) rfl
theorem sm_yX7_put : Cond.static yX7_put ∈ UT := ut (i := 431) (by decide +kernel) rfl
theorem co_yX7_put : Cond.code yX7_put cX7_put 3 (some .int) ∈ UT := ut (i := 432) (by decide +kernel) rfl
theorem ml_X7_169 : Cond.methodLink RX7 169 yX7_change ∈ UT := ut (i := 433) (by decide +kernel) rfl
theorem im_yX7_change : Cond.instanceMethod yX7_change ∈ UT := ut (i := 435) (by decide +kernel) rfl
theorem co_yX7_change : Cond.code yX7_change cX7_change 2 none ∈ UT := ut (i := 436) (by decide +kernel) rfl
theorem ml_X7_198 : Cond.methodLink RX7 198 yX1_add ∈ UT := ut (i := 437) (by decide +kernel) rfl
theorem im_yX1_add : Cond.instanceMethod yX1_add ∈ UT := ut (i := 438) (by decide +kernel) rfl
theorem se_yX1_add : Cond.selects RX1 yX1_add yX1_add ∈ UT := ut (i := 439) (by decide +kernel) rfl
theorem co_yX1_add : Cond.code yX1_add cX1_add 2 none ∈ UT := ut (i := 440) (by decide +kernel) rfl
theorem ml_X1_21 : Cond.methodLink RX1 21 yX1_loseOldest ∈ UT := ut (i := 441) (by decide +kernel) rfl
theorem im_yX1_loseOldest : Cond.instanceMethod yX1_loseOldest ∈ UT := ut (i := 443) (by decide +kernel) rfl
theorem co_yX1_loseOldest : Cond.code yX1_loseOldest cX1_loseOldest 2 none ∈ UT := ut (i := 444) (by decide +kernel) rfl
theorem ml_L_41 : Cond.methodLink RL 41 yX7_forbid ∈ UT := ut (i := 445) (by decide +kernel) rfl
theorem im_yX7_forbid : Cond.instanceMethod yX7_forbid ∈ UT := ut (i := 446) (by decide +kernel) rfl
theorem se_yX7_forbid : Cond.selects RX7 yX7_forbid yX7_forbid ∈ UT := ut (i := 447) (by decide +kernel) rfl
theorem co_yX7_forbid : Cond.code yX7_forbid cX7_forbid 4 (some .int) ∈ UT := ut (i := 448) (by decide +kernel) rfl
theorem ml_L_45 : Cond.methodLink RL 45 yX7_debate ∈ UT := ut (i := 449) (by decide +kernel) rfl
theorem im_yX7_debate : Cond.instanceMethod yX7_debate ∈ UT := ut (i := 450) (by decide +kernel) rfl
theorem se_yX7_debate : Cond.selects RX7 yX7_debate yX7_debate ∈ UT := ut (i := 451) (by decide +kernel) rfl
theorem co_yX7_debate : Cond.code yX7_debate cX7_debate 2 (some .int) ∈ UT := ut (i := 452) (by decide +kernel) rfl
theorem ml_X7_173 : Cond.methodLink RX7 173 yX4_isNone ∈ UT := ut (i := 453) (by decide +kernel) rfl
theorem im_yX4_isNone : Cond.instanceMethod yX4_isNone ∈ UT := ut (i := 454) (by decide +kernel) rfl
theorem se_yX4_isNone : Cond.selects RX4 yX4_isNone yX4_isNone ∈ UT := ut (i := 455) (by decide +kernel) rfl
theorem co_yX4_isNone : Cond.code yX4_isNone cX4_isNone 1 (some .boolean) ∈ UT := ut (i := 456) (by decide +kernel) rfl
theorem kc_X7_177 : Cond.constant RX7 177 (-1000000003) ∈ UT := ut (i := 457) (by decide +kernel) rfl
theorem ml_X7_181 : Cond.methodLink RX7 181 yX4_closure ∈ UT := ut (i := 458) (by decide +kernel) rfl
theorem ml_L_49 : Cond.methodLink RL 49 yX7_drop ∈ UT := ut (i := 459) (by decide +kernel) rfl
theorem im_yX7_drop : Cond.instanceMethod yX7_drop ∈ UT := ut (i := 460) (by decide +kernel) rfl
theorem se_yX7_drop : Cond.selects RX7 yX7_drop yX7_drop ∈ UT := ut (i := 461) (by decide +kernel) rfl
theorem co_yX7_drop : Cond.code yX7_drop cX7_drop 2 (some .int) ∈ UT := ut (i := 462) (by decide +kernel) rfl
theorem ml_L_53 : Cond.methodLink RL 53 yX7_drift ∈ UT := ut (i := 463) (by decide +kernel) rfl
theorem im_yX7_drift : Cond.instanceMethod yX7_drift ∈ UT := ut (i := 464) (by decide +kernel) rfl
theorem se_yX7_drift : Cond.selects RX7 yX7_drift yX7_drift ∈ UT := ut (i := 465) (by decide +kernel) rfl
theorem co_yX7_drift : Cond.code yX7_drift cX7_drift 7 (some .int) ∈ UT := ut (i := 466) (by decide +kernel) rfl
theorem ml_X7_185 : Cond.methodLink RX7 185 yX4_sayings ∈ UT := ut (i := 467) (by decide +kernel) rfl
theorem ml_X7_188 : Cond.methodLink RX7 188 yX7_draw ∈ UT := ut (i := 468) (by decide +kernel) rfl
theorem im_yX7_draw : Cond.instanceMethod yX7_draw ∈ UT := ut (i := 470) (by decide +kernel) rfl
theorem co_yX7_draw : Cond.code yX7_draw cX7_draw 2 (some .int) ∈ UT := ut (i := 471) (by decide +kernel) rfl
theorem kl_X7_272 : Cond.constantLong RX7 272 (1103515245) ∈ UT := ut (i := 472) (by decide +kernel) rfl
theorem kl_X7_274 : Cond.constantLong RX7 274 (12345) ∈ UT := ut (i := 473) (by decide +kernel) rfl
theorem kl_X7_276 : Cond.constantLong RX7 276 (2147483647) ∈ UT := ut (i := 474) (by decide +kernel) rfl
theorem kc_X7_278 : Cond.constant RX7 278 (65536) ∈ UT := ut (i := 475) (by decide +kernel) rfl
theorem ml_X7_191 : Cond.methodLink RX7 191 yX7_denialOf ∈ UT := ut (i := 476) (by decide +kernel) rfl
theorem sm_yX7_denialOf : Cond.static yX7_denialOf ∈ UT := ut (i := 477) (by decide +kernel) rfl
theorem co_yX7_denialOf : Cond.code yX7_denialOf cX7_denialOf 1 (some .int) ∈ UT := ut (i := 478) (by decide +kernel) rfl
theorem ml_L_57 : Cond.methodLink RL 57 yX7_undo ∈ UT := ut (i := 479) (by decide +kernel) rfl
theorem im_yX7_undo : Cond.instanceMethod yX7_undo ∈ UT := ut (i := 480) (by decide +kernel) rfl
theorem se_yX7_undo : Cond.selects RX7 yX7_undo yX7_undo ∈ UT := ut (i := 481) (by decide +kernel) rfl
theorem co_yX7_undo : Cond.code yX7_undo cX7_undo 2 (some .int) ∈ UT := ut (i := 482) (by decide +kernel) rfl
theorem ml_X7_194 : Cond.methodLink RX7 194 yX1_takeLatest ∈ UT := ut (i := 483) (by decide +kernel) rfl
theorem im_yX1_takeLatest : Cond.instanceMethod yX1_takeLatest ∈ UT := ut (i := 484) (by decide +kernel) rfl
theorem se_yX1_takeLatest : Cond.selects RX1 yX1_takeLatest yX1_takeLatest ∈ UT := ut (i := 485) (by decide +kernel) rfl
theorem co_yX1_takeLatest : Cond.code yX1_takeLatest cX1_takeLatest 1 (some (.object "BarrelMoon$Moment")) ∈ UT := ut (i := 486) (by decide +kernel) rfl
theorem ml_L_61 : Cond.methodLink RL 61 yX7_follows ∈ UT := ut (i := 487) (by decide +kernel) rfl
theorem im_yX7_follows : Cond.instanceMethod yX7_follows ∈ UT := ut (i := 488) (by decide +kernel) rfl
theorem se_yX7_follows : Cond.selects RX7 yX7_follows yX7_follows ∈ UT := ut (i := 489) (by decide +kernel) rfl
theorem co_yX7_follows : Cond.code yX7_follows cX7_follows 2 (some .int) ∈ UT := ut (i := 490) (by decide +kernel) rfl
theorem ml_X7_201 : Cond.methodLink RX7 201 yX4_hasSayings ∈ UT := ut (i := 491) (by decide +kernel) rfl
theorem im_yX4_hasSayings : Cond.instanceMethod yX4_hasSayings ∈ UT := ut (i := 492) (by decide +kernel) rfl
theorem se_yX4_hasSayings : Cond.selects RX4 yX4_hasSayings yX4_hasSayings ∈ UT := ut (i := 493) (by decide +kernel) rfl
theorem co_yX4_hasSayings : Cond.code yX4_hasSayings cX4_hasSayings 2 (some .boolean) ∈ UT := ut (i := 494) (by decide +kernel) rfl
theorem ml_X4_39 : Cond.methodLink RX4 39 yX4_allSayings ∈ UT := ut (i := 495) (by decide +kernel) rfl
theorem im_yX4_allSayings : Cond.instanceMethod yX4_allSayings ∈ UT := ut (i := 496) (by decide +kernel) rfl
theorem se_yX4_allSayings : Cond.selects RX4 yX4_allSayings yX4_allSayings ∈ UT := ut (i := 497) (by decide +kernel) rfl
theorem co_yX4_allSayings : Cond.code yX4_allSayings cX4_allSayings 1 (some .int) ∈ UT := ut (i := 498) (by decide +kernel) rfl
theorem ml_L_65 : Cond.methodLink RL 65 yX7_proof ∈ UT := ut (i := 499) (by decide +kernel) rfl
theorem im_yX7_proof : Cond.instanceMethod yX7_proof ∈ UT := ut (i := 500) (by decide +kernel) rfl
theorem se_yX7_proof : Cond.selects RX7 yX7_proof yX7_proof ∈ UT := ut (i := 501) (by decide +kernel) rfl
theorem co_yX7_proof : Cond.code yX7_proof cX7_proof 4 (some .int) ∈ UT := ut (i := 502) (by decide +kernel) rfl
theorem ml_X7_204 : Cond.methodLink RX7 204 yX6_leastProof ∈ UT := ut (i := 503) (by decide +kernel) rfl
theorem im_yX6_leastProof : Cond.instanceMethod yX6_leastProof ∈ UT := ut (i := 504) (by decide +kernel) rfl
theorem se_yX6_leastProof : Cond.selects RX6 yX6_leastProof yX6_leastProof ∈ UT := ut (i := 505) (by decide +kernel) rfl
theorem co_yX6_leastProof : Cond.code yX6_leastProof cX6_leastProof 6 (some .int) ∈ UT := ut (i := 506) (by decide +kernel) rfl
theorem ml_X6_32 : Cond.methodLink RX6 32 yX6_concludesBy ∈ UT := ut (i := 507) (by decide +kernel) rfl
theorem im_yX6_concludesBy : Cond.instanceMethod yX6_concludesBy ∈ UT := ut (i := 509) (by decide +kernel) rfl
theorem co_yX6_concludesBy : Cond.code yX6_concludesBy cX6_concludesBy 3 (some .boolean) ∈ UT := ut (i := 510) (by decide +kernel) rfl
theorem ml_X6_35 : Cond.methodLink RX6 35 yJ6_bitCount_0f7a4 ∈ UT := ut (i := 512) (by decide +kernel) rfl
theorem sm_yJ6_bitCount_0f7a4 : Cond.static yJ6_bitCount_0f7a4 ∈ UT := ut (i := 513) (by decide +kernel) rfl
theorem co_yJ6_bitCount_0f7a4 : Cond.code yJ6_bitCount_0f7a4 cJ6_bitCount_0f7a4 1 (some .int) ∈ UT := ut (i := 514) (by decide +kernel) rfl
theorem kc_J6_265 : Cond.constant RJ6 265 (1431655765) ∈ UT := ut (i := 515) (by decide +kernel) rfl
theorem kc_J6_266 : Cond.constant RJ6 266 (858993459) ∈ UT := ut (i := 516) (by decide +kernel) rfl
theorem kc_J6_267 : Cond.constant RJ6 267 (252645135) ∈ UT := ut (i := 517) (by decide +kernel) rfl
theorem ml_X6_41 : Cond.methodLink RX6 41 yX6_isAllowed ∈ UT := ut (i := 518) (by decide +kernel) rfl
theorem im_yX6_isAllowed : Cond.instanceMethod yX6_isAllowed ∈ UT := ut (i := 520) (by decide +kernel) rfl
theorem co_yX6_isAllowed : Cond.code yX6_isAllowed cX6_isAllowed 2 (some .boolean) ∈ UT := ut (i := 521) (by decide +kernel) rfl
theorem ml_X7_207 : Cond.methodLink RX7 207 yJ6_bitCount_0f7a4 ∈ UT := ut (i := 522) (by decide +kernel) rfl
theorem ml_L_69 : Cond.methodLink RL 69 yX7_giveUp ∈ UT := ut (i := 523) (by decide +kernel) rfl
theorem im_yX7_giveUp : Cond.instanceMethod yX7_giveUp ∈ UT := ut (i := 524) (by decide +kernel) rfl
theorem se_yX7_giveUp : Cond.selects RX7 yX7_giveUp yX7_giveUp ∈ UT := ut (i := 525) (by decide +kernel) rfl
theorem co_yX7_giveUp : Cond.code yX7_giveUp cX7_giveUp 3 (some .int) ∈ UT := ut (i := 526) (by decide +kernel) rfl
theorem ml_X7_212 : Cond.methodLink RX7 212 yX6_cheapestPeace ∈ UT := ut (i := 527) (by decide +kernel) rfl
theorem im_yX6_cheapestPeace : Cond.instanceMethod yX6_cheapestPeace ∈ UT := ut (i := 528) (by decide +kernel) rfl
theorem se_yX6_cheapestPeace : Cond.selects RX6 yX6_cheapestPeace yX6_cheapestPeace ∈ UT := ut (i := 529) (by decide +kernel) rfl
theorem co_yX6_cheapestPeace : Cond.code yX6_cheapestPeace cX6_cheapestPeace 4 (some .int) ∈ UT := ut (i := 530) (by decide +kernel) rfl
theorem ml_X6_45 : Cond.methodLink RX6 45 yX4_quarrelsIn ∈ UT := ut (i := 531) (by decide +kernel) rfl
theorem ml_X6_48 : Cond.methodLink RX6 48 yX4_costOf ∈ UT := ut (i := 532) (by decide +kernel) rfl
theorem im_yX4_costOf : Cond.instanceMethod yX4_costOf ∈ UT := ut (i := 533) (by decide +kernel) rfl
theorem se_yX4_costOf : Cond.selects RX4 yX4_costOf yX4_costOf ∈ UT := ut (i := 534) (by decide +kernel) rfl
theorem co_yX4_costOf : Cond.code yX4_costOf cX4_costOf 4 (some .int) ∈ UT := ut (i := 535) (by decide +kernel) rfl
theorem ml_X6_51 : Cond.methodLink RX6 51 yX6_isPeaceWithout ∈ UT := ut (i := 536) (by decide +kernel) rfl
theorem im_yX6_isPeaceWithout : Cond.instanceMethod yX6_isPeaceWithout ∈ UT := ut (i := 538) (by decide +kernel) rfl
theorem co_yX6_isPeaceWithout : Cond.code yX6_isPeaceWithout cX6_isPeaceWithout 2 (some .boolean) ∈ UT := ut (i := 539) (by decide +kernel) rfl
theorem ml_X7_215 : Cond.methodLink RX7 215 yX4_costOf ∈ UT := ut (i := 540) (by decide +kernel) rfl
theorem ml_L_73 : Cond.methodLink RL 73 yX7_words ∈ UT := ut (i := 541) (by decide +kernel) rfl
theorem im_yX7_words : Cond.instanceMethod yX7_words ∈ UT := ut (i := 542) (by decide +kernel) rfl
theorem se_yX7_words : Cond.selects RX7 yX7_words yX7_words ∈ UT := ut (i := 543) (by decide +kernel) rfl
theorem co_yX7_words : Cond.code yX7_words cX7_words 2 (some .int) ∈ UT := ut (i := 544) (by decide +kernel) rfl
theorem ml_X7_218 : Cond.methodLink RX7 218 yX6_fewestWords ∈ UT := ut (i := 545) (by decide +kernel) rfl
theorem im_yX6_fewestWords : Cond.instanceMethod yX6_fewestWords ∈ UT := ut (i := 546) (by decide +kernel) rfl
theorem se_yX6_fewestWords : Cond.selects RX6 yX6_fewestWords yX6_fewestWords ∈ UT := ut (i := 547) (by decide +kernel) rfl
theorem co_yX6_fewestWords : Cond.code yX6_fewestWords cX6_fewestWords 4 (some .int) ∈ UT := ut (i := 548) (by decide +kernel) rfl
theorem ml_X6_54 : Cond.methodLink RX6 54 yX4_sayings ∈ UT := ut (i := 549) (by decide +kernel) rfl
theorem ml_X6_58 : Cond.methodLink RX6 58 yX6_leastWords ∈ UT := ut (i := 550) (by decide +kernel) rfl
theorem sm_yX6_leastWords : Cond.static yX6_leastWords ∈ UT := ut (i := 551) (by decide +kernel) rfl
theorem co_yX6_leastWords : Cond.code yX6_leastWords cX6_leastWords 7 (some .int) ∈ UT := ut (i := 552) (by decide +kernel) rfl
theorem ml_X6_62 : Cond.methodLink RX6 62 yX6_bringTo ∈ UT := ut (i := 553) (by decide +kernel) rfl
theorem im_yX6_bringTo : Cond.instanceMethod yX6_bringTo ∈ UT := ut (i := 555) (by decide +kernel) rfl
theorem co_yX6_bringTo : Cond.code yX6_bringTo cX6_bringTo 4 (some .boolean) ∈ UT := ut (i := 556) (by decide +kernel) rfl
theorem ml_L_77 : Cond.methodLink RL 77 yX7_step ∈ UT := ut (i := 558) (by decide +kernel) rfl
theorem im_yX7_step : Cond.instanceMethod yX7_step ∈ UT := ut (i := 559) (by decide +kernel) rfl
theorem se_yX7_step : Cond.selects RX7 yX7_step yX7_step ∈ UT := ut (i := 560) (by decide +kernel) rfl
theorem co_yX7_step : Cond.code yX7_step cX7_step 2 (some .int) ∈ UT := ut (i := 561) (by decide +kernel) rfl
theorem ml_X7_221 : Cond.methodLink RX7 221 yX6_neededRules ∈ UT := ut (i := 562) (by decide +kernel) rfl
theorem im_yX6_neededRules : Cond.instanceMethod yX6_neededRules ∈ UT := ut (i := 563) (by decide +kernel) rfl
theorem se_yX6_neededRules : Cond.selects RX6 yX6_neededRules yX6_neededRules ∈ UT := ut (i := 564) (by decide +kernel) rfl
theorem co_yX6_neededRules : Cond.code yX6_neededRules cX6_neededRules 4 (some .int) ∈ UT := ut (i := 565) (by decide +kernel) rfl
theorem ml_L_81 : Cond.methodLink RL 81 yX7_barred ∈ UT := ut (i := 567) (by decide +kernel) rfl
theorem im_yX7_barred : Cond.instanceMethod yX7_barred ∈ UT := ut (i := 568) (by decide +kernel) rfl
theorem se_yX7_barred : Cond.selects RX7 yX7_barred yX7_barred ∈ UT := ut (i := 569) (by decide +kernel) rfl
theorem co_yX7_barred : Cond.code yX7_barred cX7_barred 2 (some .int) ∈ UT := ut (i := 570) (by decide +kernel) rfl
theorem ml_X7_224 : Cond.methodLink RX7 224 yX6_fewestBars ∈ UT := ut (i := 571) (by decide +kernel) rfl
theorem im_yX6_fewestBars : Cond.instanceMethod yX6_fewestBars ∈ UT := ut (i := 572) (by decide +kernel) rfl
theorem se_yX6_fewestBars : Cond.selects RX6 yX6_fewestBars yX6_fewestBars ∈ UT := ut (i := 573) (by decide +kernel) rfl
theorem co_yX6_fewestBars : Cond.code yX6_fewestBars cX6_fewestBars 6 (some .int) ∈ UT := ut (i := 574) (by decide +kernel) rfl
theorem ml_L_85 : Cond.methodLink RL 85 yX7_never ∈ UT := ut (i := 575) (by decide +kernel) rfl
theorem im_yX7_never : Cond.instanceMethod yX7_never ∈ UT := ut (i := 576) (by decide +kernel) rfl
theorem se_yX7_never : Cond.selects RX7 yX7_never yX7_never ∈ UT := ut (i := 577) (by decide +kernel) rfl
theorem co_yX7_never : Cond.code yX7_never cX7_never 1 (some .int) ∈ UT := ut (i := 578) (by decide +kernel) rfl
theorem ml_X7_227 : Cond.methodLink RX7 227 yX4_allSayings ∈ UT := ut (i := 579) (by decide +kernel) rfl
theorem ml_X7_230 : Cond.methodLink RX7 230 yX4_concludedBy ∈ UT := ut (i := 580) (by decide +kernel) rfl
theorem im_yX4_concludedBy : Cond.instanceMethod yX4_concludedBy ∈ UT := ut (i := 581) (by decide +kernel) rfl
theorem se_yX4_concludedBy : Cond.selects RX4 yX4_concludedBy yX4_concludedBy ∈ UT := ut (i := 582) (by decide +kernel) rfl
theorem co_yX4_concludedBy : Cond.code yX4_concludedBy cX4_concludedBy 4 (some .int) ∈ UT := ut (i := 583) (by decide +kernel) rfl
theorem ml_L_89 : Cond.methodLink RL 89 yX7_round ∈ UT := ut (i := 584) (by decide +kernel) rfl
theorem im_yX7_round : Cond.instanceMethod yX7_round ∈ UT := ut (i := 585) (by decide +kernel) rfl
theorem se_yX7_round : Cond.selects RX7 yX7_round yX7_round ∈ UT := ut (i := 586) (by decide +kernel) rfl
theorem co_yX7_round : Cond.code yX7_round cX7_round 1 (some .int) ∈ UT := ut (i := 587) (by decide +kernel) rfl
theorem ml_X7_233 : Cond.methodLink RX7 233 yX6_circles ∈ UT := ut (i := 588) (by decide +kernel) rfl
theorem im_yX6_circles : Cond.instanceMethod yX6_circles ∈ UT := ut (i := 589) (by decide +kernel) rfl
theorem se_yX6_circles : Cond.selects RX6 yX6_circles yX6_circles ∈ UT := ut (i := 590) (by decide +kernel) rfl
theorem co_yX6_circles : Cond.code yX6_circles cX6_circles 3 (some .int) ∈ UT := ut (i := 591) (by decide +kernel) rfl
theorem ml_X6_75 : Cond.methodLink RX6 75 yX6_returnsTo ∈ UT := ut (i := 592) (by decide +kernel) rfl
theorem im_yX6_returnsTo : Cond.instanceMethod yX6_returnsTo ∈ UT := ut (i := 594) (by decide +kernel) rfl
theorem co_yX6_returnsTo : Cond.code yX6_returnsTo cX6_returnsTo 4 (some .boolean) ∈ UT := ut (i := 595) (by decide +kernel) rfl
theorem ml_L_93 : Cond.methodLink RL 93 yX7_vote ∈ UT := ut (i := 596) (by decide +kernel) rfl
theorem im_yX7_vote : Cond.instanceMethod yX7_vote ∈ UT := ut (i := 597) (by decide +kernel) rfl
theorem se_yX7_vote : Cond.selects RX7 yX7_vote yX7_vote ∈ UT := ut (i := 598) (by decide +kernel) rfl
theorem co_yX7_vote : Cond.code yX7_vote cX7_vote 6 (some .int) ∈ UT := ut (i := 599) (by decide +kernel) rfl
theorem ml_X7_236 : Cond.methodLink RX7 236 yX7_shareVotes ∈ UT := ut (i := 600) (by decide +kernel) rfl
theorem im_yX7_shareVotes : Cond.instanceMethod yX7_shareVotes ∈ UT := ut (i := 602) (by decide +kernel) rfl
theorem co_yX7_shareVotes : Cond.code yX7_shareVotes cX7_shareVotes 7 none ∈ UT := ut (i := 603) (by decide +kernel) rfl
theorem kl_X7_240 : Cond.constantLong RX7 240 (1000000000) ∈ UT := ut (i := 604) (by decide +kernel) rfl
theorem kl_X7_242 : Cond.constantLong RX7 242 (100) ∈ UT := ut (i := 605) (by decide +kernel) rfl
theorem ml_L_97 : Cond.methodLink RL 97 yX7_ask ∈ UT := ut (i := 606) (by decide +kernel) rfl
theorem im_yX7_ask : Cond.instanceMethod yX7_ask ∈ UT := ut (i := 607) (by decide +kernel) rfl
theorem se_yX7_ask : Cond.selects RX7 yX7_ask yX7_ask ∈ UT := ut (i := 608) (by decide +kernel) rfl
theorem co_yX7_ask : Cond.code yX7_ask cX7_ask 4 (some .int) ∈ UT := ut (i := 609) (by decide +kernel) rfl
theorem ml_X7_244 : Cond.methodLink RX7 244 yX3_add ∈ UT := ut (i := 610) (by decide +kernel) rfl
theorem im_yX3_add : Cond.instanceMethod yX3_add ∈ UT := ut (i := 611) (by decide +kernel) rfl
theorem se_yX3_add : Cond.selects RX3 yX3_add yX3_add ∈ UT := ut (i := 612) (by decide +kernel) rfl
theorem co_yX3_add : Cond.code yX3_add cX3_add 4 (some .boolean) ∈ UT := ut (i := 613) (by decide +kernel) rfl
theorem ml_L_102 : Cond.methodLink RL 102 yX7_believed ∈ UT := ut (i := 614) (by decide +kernel) rfl
theorem im_yX7_believed : Cond.instanceMethod yX7_believed ∈ UT := ut (i := 615) (by decide +kernel) rfl
theorem se_yX7_believed : Cond.selects RX7 yX7_believed yX7_believed ∈ UT := ut (i := 616) (by decide +kernel) rfl
theorem co_yX7_believed : Cond.code yX7_believed cX7_believed 6 (some .int) ∈ UT := ut (i := 617) (by decide +kernel) rfl
theorem ml_X7_250 : Cond.methodLink RX7 250 yX3_fit ∈ UT := ut (i := 618) (by decide +kernel) rfl
theorem im_yX3_fit : Cond.instanceMethod yX3_fit ∈ UT := ut (i := 619) (by decide +kernel) rfl
theorem se_yX3_fit : Cond.selects RX3 yX3_fit yX3_fit ∈ UT := ut (i := 620) (by decide +kernel) rfl
theorem co_yX3_fit : Cond.code yX3_fit cX3_fit 4 (some .boolean) ∈ UT := ut (i := 621) (by decide +kernel) rfl
theorem ml_X3_26 : Cond.methodLink RX3 26 yX4_closure ∈ UT := ut (i := 622) (by decide +kernel) rfl
theorem ml_L_106 : Cond.methodLink RL 106 yX7_askNext ∈ UT := ut (i := 624) (by decide +kernel) rfl
theorem im_yX7_askNext : Cond.instanceMethod yX7_askNext ∈ UT := ut (i := 625) (by decide +kernel) rfl
theorem se_yX7_askNext : Cond.selects RX7 yX7_askNext yX7_askNext ∈ UT := ut (i := 626) (by decide +kernel) rfl
theorem co_yX7_askNext : Cond.code yX7_askNext cX7_askNext 6 (some .int) ∈ UT := ut (i := 627) (by decide +kernel) rfl
theorem ml_X7_254 : Cond.methodLink RX7 254 yX7_countAnswers ∈ UT := ut (i := 628) (by decide +kernel) rfl
theorem im_yX7_countAnswers : Cond.instanceMethod yX7_countAnswers ∈ UT := ut (i := 630) (by decide +kernel) rfl
theorem co_yX7_countAnswers : Cond.code yX7_countAnswers cX7_countAnswers 3 (some .int) ∈ UT := ut (i := 631) (by decide +kernel) rfl
theorem ml_X7_262 : Cond.methodLink RX7 262 yX7_countYes ∈ UT := ut (i := 632) (by decide +kernel) rfl
theorem im_yX7_countYes : Cond.instanceMethod yX7_countYes ∈ UT := ut (i := 634) (by decide +kernel) rfl
theorem co_yX7_countYes : Cond.code yX7_countYes cX7_countYes 3 none ∈ UT := ut (i := 635) (by decide +kernel) rfl
theorem ml_X7_257 : Cond.methodLink RX7 257 Lib.Math.max.name ∈ UT := ut (i := 636) (by decide +kernel) rfl
theorem sm_Lib_Math_max_name : Cond.static Lib.Math.max.name ∈ UT := ut (i := 637) (by decide +kernel) rfl
theorem co_Lib_Math_max_name : Cond.code Lib.Math.max.name Lib.Math.max.code 2 (some .int) ∈ UT := ut (i := 638) (by decide +kernel) rfl
theorem ml_L_110 : Cond.methodLink RL 110 yX7_write ∈ UT := ut (i := 639) (by decide +kernel) rfl
theorem im_yX7_write : Cond.instanceMethod yX7_write ∈ UT := ut (i := 640) (by decide +kernel) rfl
theorem se_yX7_write : Cond.selects RX7 yX7_write yX7_write ∈ UT := ut (i := 641) (by decide +kernel) rfl
theorem co_yX7_write : Cond.code yX7_write cX7_write 3 (some .int) ∈ UT := ut (i := 642) (by decide +kernel) rfl
theorem ml_X7_266 : Cond.methodLink RX7 266 yX0_add ∈ UT := ut (i := 643) (by decide +kernel) rfl
theorem im_yX0_add : Cond.instanceMethod yX0_add ∈ UT := ut (i := 644) (by decide +kernel) rfl
theorem se_yX0_add : Cond.selects RX0 yX0_add yX0_add ∈ UT := ut (i := 645) (by decide +kernel) rfl
theorem co_yX0_add : Cond.code yX0_add cX0_add 3 (some .boolean) ∈ UT := ut (i := 646) (by decide +kernel) rfl
theorem ml_L_114 : Cond.methodLink RL 114 yX7_tear ∈ UT := ut (i := 647) (by decide +kernel) rfl
theorem im_yX7_tear : Cond.instanceMethod yX7_tear ∈ UT := ut (i := 648) (by decide +kernel) rfl
theorem se_yX7_tear : Cond.selects RX7 yX7_tear yX7_tear ∈ UT := ut (i := 649) (by decide +kernel) rfl
theorem co_yX7_tear : Cond.code yX7_tear cX7_tear 2 (some .int) ∈ UT := ut (i := 650) (by decide +kernel) rfl
theorem ml_L_118 : Cond.methodLink RL 118 yX7_judge ∈ UT := ut (i := 651) (by decide +kernel) rfl
theorem im_yX7_judge : Cond.instanceMethod yX7_judge ∈ UT := ut (i := 652) (by decide +kernel) rfl
theorem se_yX7_judge : Cond.selects RX7 yX7_judge yX7_judge ∈ UT := ut (i := 653) (by decide +kernel) rfl
theorem co_yX7_judge : Cond.code yX7_judge cX7_judge 1 (some .int) ∈ UT := ut (i := 654) (by decide +kernel) rfl
theorem ml_X7_269 : Cond.methodLink RX7 269 yX0_firstWrong ∈ UT := ut (i := 655) (by decide +kernel) rfl
theorem im_yX0_firstWrong : Cond.instanceMethod yX0_firstWrong ∈ UT := ut (i := 656) (by decide +kernel) rfl
theorem se_yX0_firstWrong : Cond.selects RX0 yX0_firstWrong yX0_firstWrong ∈ UT := ut (i := 657) (by decide +kernel) rfl
theorem co_yX0_firstWrong : Cond.code yX0_firstWrong cX0_firstWrong 3 (some .int) ∈ UT := ut (i := 658) (by decide +kernel) rfl
theorem ml_L_122 : Cond.methodLink RL 122 yX7_seed ∈ UT := ut (i := 660) (by decide +kernel) rfl
theorem im_yX7_seed : Cond.instanceMethod yX7_seed ∈ UT := ut (i := 661) (by decide +kernel) rfl
theorem se_yX7_seed : Cond.selects RX7 yX7_seed yX7_seed ∈ UT := ut (i := 662) (by decide +kernel) rfl
theorem co_yX7_seed : Cond.code yX7_seed cX7_seed 3 (some .int) ∈ UT := ut (i := 663) (by decide +kernel) rfl
theorem ml_L_126 : Cond.methodLink RL 126 yX7_keep ∈ UT := ut (i := 664) (by decide +kernel) rfl
theorem im_yX7_keep : Cond.instanceMethod yX7_keep ∈ UT := ut (i := 665) (by decide +kernel) rfl
theorem se_yX7_keep : Cond.selects RX7 yX7_keep yX7_keep ∈ UT := ut (i := 666) (by decide +kernel) rfl
theorem co_yX7_keep : Cond.code yX7_keep cX7_keep 2 (some .int) ∈ UT := ut (i := 667) (by decide +kernel) rfl
theorem ml_L_130 : Cond.methodLink RL 130 yX7_goBack ∈ UT := ut (i := 668) (by decide +kernel) rfl
theorem im_yX7_goBack : Cond.instanceMethod yX7_goBack ∈ UT := ut (i := 669) (by decide +kernel) rfl
theorem se_yX7_goBack : Cond.selects RX7 yX7_goBack yX7_goBack ∈ UT := ut (i := 670) (by decide +kernel) rfl
theorem co_yX7_goBack : Cond.code yX7_goBack cX7_goBack 3 (some .int) ∈ UT := ut (i := 671) (by decide +kernel) rfl
theorem cl_L_10 : Cond.classLink RL 10 RX8 ∈ UT := ut (i := 672) (by decide +kernel) rfl
theorem ic_X8 : Cond.instantiable RX8 32 ∈ UT := ut (i := 673) (by decide +kernel) rfl
theorem ml_L_12 : Cond.methodLink RL 12 yX8_init ∈ UT := ut (i := 674) (by decide +kernel) rfl
theorem im_yX8_init : Cond.instanceMethod yX8_init ∈ UT := ut (i := 675) (by decide +kernel) rfl
theorem co_yX8_init : Cond.code yX8_init cX8_init 1 none ∈ UT := ut (i := 676) (by decide +kernel) rfl
theorem ml_X8_1 : Cond.methodLink RX8 1 objectInit ∈ UT := ut (i := 677) (by decide +kernel) rfl
theorem fl_X8_70 : Cond.fieldLink RX8 70 (TX8 0).1 (TX8 0).2.1 (TX8 0).2.2.1 ∈ UT := ut (i := 678) (by decide +kernel) rfl
theorem fl_X8_77 : Cond.fieldLink RX8 77 (TX8 1).1 (TX8 1).2.1 (TX8 1).2.2.1 ∈ UT := ut (i := 679) (by decide +kernel) rfl
theorem fl_X8_7 : Cond.fieldLink RX8 7 (TX8 2).1 (TX8 2).2.1 (TX8 2).2.2.1 ∈ UT := ut (i := 680) (by decide +kernel) rfl
theorem fl_X8_13 : Cond.fieldLink RX8 13 (TX8 3).1 (TX8 3).2.1 (TX8 3).2.2.1 ∈ UT := ut (i := 681) (by decide +kernel) rfl
theorem fl_X8_16 : Cond.fieldLink RX8 16 (TX8 4).1 (TX8 4).2.1 (TX8 4).2.2.1 ∈ UT := ut (i := 682) (by decide +kernel) rfl
theorem fl_X8_19 : Cond.fieldLink RX8 19 (TX8 5).1 (TX8 5).2.1 (TX8 5).2.2.1 ∈ UT := ut (i := 683) (by decide +kernel) rfl
theorem fl_X8_180 : Cond.fieldLink RX8 180 (TX8 6).1 (TX8 6).2.1 (TX8 6).2.2.1 ∈ UT := ut (i := 684) (by decide +kernel) rfl
theorem fl_X8_22 : Cond.fieldLink RX8 22 (TX8 7).1 (TX8 7).2.1 (TX8 7).2.2.1 ∈ UT := ut (i := 685) (by decide +kernel) rfl
theorem fl_X8_83 : Cond.fieldLink RX8 83 (TX8 8).1 (TX8 8).2.1 (TX8 8).2.2.1 ∈ UT := ut (i := 686) (by decide +kernel) rfl
theorem fl_X8_25 : Cond.fieldLink RX8 25 (TX8 9).1 (TX8 9).2.1 (TX8 9).2.2.1 ∈ UT := ut (i := 687) (by decide +kernel) rfl
theorem fl_X8_87 : Cond.fieldLink RX8 87 (TX8 10).1 (TX8 10).2.1 (TX8 10).2.2.1 ∈ UT := ut (i := 688) (by decide +kernel) rfl
theorem fl_X8_105 : Cond.fieldLink RX8 105 (TX8 11).1 (TX8 11).2.1 (TX8 11).2.2.1 ∈ UT := ut (i := 689) (by decide +kernel) rfl
theorem fl_X8_102 : Cond.fieldLink RX8 102 (TX8 12).1 (TX8 12).2.1 (TX8 12).2.2.1 ∈ UT := ut (i := 690) (by decide +kernel) rfl
theorem fl_X8_111 : Cond.fieldLink RX8 111 (TX8 13).1 (TX8 13).2.1 (TX8 13).2.2.1 ∈ UT := ut (i := 691) (by decide +kernel) rfl
theorem fl_X8_118 : Cond.fieldLink RX8 118 (TX8 14).1 (TX8 14).2.1 (TX8 14).2.2.1 ∈ UT := ut (i := 692) (by decide +kernel) rfl
theorem fl_X8_29 : Cond.fieldLink RX8 29 (TX8 15).1 (TX8 15).2.1 (TX8 15).2.2.1 ∈ UT := ut (i := 693) (by decide +kernel) rfl
theorem fl_X8_32 : Cond.fieldLink RX8 32 (TX8 16).1 (TX8 16).2.1 (TX8 16).2.2.1 ∈ UT := ut (i := 694) (by decide +kernel) rfl
theorem fl_X8_35 : Cond.fieldLink RX8 35 (TX8 17).1 (TX8 17).2.1 (TX8 17).2.2.1 ∈ UT := ut (i := 695) (by decide +kernel) rfl
theorem fl_X8_125 : Cond.fieldLink RX8 125 (TX8 18).1 (TX8 18).2.1 (TX8 18).2.2.1 ∈ UT := ut (i := 696) (by decide +kernel) rfl
theorem fl_X8_146 : Cond.fieldLink RX8 146 (TX8 19).1 (TX8 19).2.1 (TX8 19).2.2.1 ∈ UT := ut (i := 697) (by decide +kernel) rfl
theorem fl_X8_38 : Cond.fieldLink RX8 38 (TX8 20).1 (TX8 20).2.1 (TX8 20).2.2.1 ∈ UT := ut (i := 698) (by decide +kernel) rfl
theorem fl_X8_41 : Cond.fieldLink RX8 41 (TX8 21).1 (TX8 21).2.1 (TX8 21).2.2.1 ∈ UT := ut (i := 699) (by decide +kernel) rfl
theorem fl_X8_140 : Cond.fieldLink RX8 140 (TX8 22).1 (TX8 22).2.1 (TX8 22).2.2.1 ∈ UT := ut (i := 700) (by decide +kernel) rfl
theorem fl_X8_45 : Cond.fieldLink RX8 45 (TX8 23).1 (TX8 23).2.1 (TX8 23).2.2.1 ∈ UT := ut (i := 701) (by decide +kernel) rfl
theorem fl_X8_48 : Cond.fieldLink RX8 48 (TX8 24).1 (TX8 24).2.1 (TX8 24).2.2.1 ∈ UT := ut (i := 702) (by decide +kernel) rfl
theorem fl_X8_51 : Cond.fieldLink RX8 51 (TX8 25).1 (TX8 25).2.1 (TX8 25).2.2.1 ∈ UT := ut (i := 703) (by decide +kernel) rfl
theorem fl_X8_55 : Cond.fieldLink RX8 55 (TX8 26).1 (TX8 26).2.1 (TX8 26).2.2.1 ∈ UT := ut (i := 704) (by decide +kernel) rfl
theorem fl_X8_143 : Cond.fieldLink RX8 143 (TX8 27).1 (TX8 27).2.1 (TX8 27).2.2.1 ∈ UT := ut (i := 705) (by decide +kernel) rfl
theorem fl_X8_58 : Cond.fieldLink RX8 58 (TX8 28).1 (TX8 28).2.1 (TX8 28).2.2.1 ∈ UT := ut (i := 706) (by decide +kernel) rfl
theorem fl_X8_61 : Cond.fieldLink RX8 61 (TX8 29).1 (TX8 29).2.1 (TX8 29).2.2.1 ∈ UT := ut (i := 707) (by decide +kernel) rfl
theorem fl_X8_64 : Cond.fieldLink RX8 64 (TX8 30).1 (TX8 30).2.1 (TX8 30).2.2.1 ∈ UT := ut (i := 708) (by decide +kernel) rfl
theorem fl_X8_67 : Cond.fieldLink RX8 67 (TX8 31).1 (TX8 31).2.1 (TX8 31).2.2.1 ∈ UT := ut (i := 709) (by decide +kernel) rfl
theorem ml_L_17 : Cond.methodLink RL 17 yX8_feed ∈ UT := ut (i := 775) (by decide +kernel) rfl
theorem im_yX8_feed : Cond.instanceMethod yX8_feed ∈ UT := ut (i := 776) (by decide +kernel) rfl
theorem se_yX8_feed : Cond.selects RX8 yX8_feed yX8_feed ∈ UT := ut (i := 777) (by decide +kernel) rfl
theorem co_yX8_feed : Cond.code yX8_feed cX8_feed 2 (some .int) ∈ UT := ut (i := 778) (by decide +kernel) rfl
theorem kl_X8_80 : Cond.constantLong RX8 80 (255) ∈ UT := ut (i := 779) (by decide +kernel) rfl
theorem ml_X8_73 : Cond.methodLink RX8 73 yX8_in ∈ UT := ut (i := 780) (by decide +kernel) rfl
theorem sm_yX8_in : Cond.static yX8_in ∈ UT := ut (i := 781) (by decide +kernel) rfl
theorem co_yX8_in : Cond.code yX8_in cX8_in 6 (some .boolean) ∈ UT := ut (i := 782) (by decide +kernel) rfl
theorem kc_X8_82 : Cond.constant RX8 82 (-1000000002) ∈ UT := ut (i := 783) (by decide +kernel) rfl
theorem kc_X8_86 : Cond.constant RX8 86 (-1000000004) ∈ UT := ut (i := 784) (by decide +kernel) rfl
theorem ml_L_22 : Cond.methodLink RL 22 yX8_town ∈ UT := ut (i := 785) (by decide +kernel) rfl
theorem im_yX8_town : Cond.instanceMethod yX8_town ∈ UT := ut (i := 786) (by decide +kernel) rfl
theorem se_yX8_town : Cond.selects RX8 yX8_town yX8_town ∈ UT := ut (i := 787) (by decide +kernel) rfl
theorem co_yX8_town : Cond.code yX8_town cX8_town 3 (some .int) ∈ UT := ut (i := 788) (by decide +kernel) rfl
theorem ml_X8_90 : Cond.methodLink RX8 90 yX8_here ∈ UT := ut (i := 789) (by decide +kernel) rfl
theorem im_yX8_here : Cond.instanceMethod yX8_here ∈ UT := ut (i := 791) (by decide +kernel) rfl
theorem co_yX8_here : Cond.code yX8_here cX8_here 1 (some .int) ∈ UT := ut (i := 792) (by decide +kernel) rfl
theorem ml_X8_137 : Cond.methodLink RX8 137 yX8_takeClause ∈ UT := ut (i := 793) (by decide +kernel) rfl
theorem im_yX8_takeClause : Cond.instanceMethod yX8_takeClause ∈ UT := ut (i := 795) (by decide +kernel) rfl
theorem co_yX8_takeClause : Cond.code yX8_takeClause cX8_takeClause 4 (some .int) ∈ UT := ut (i := 796) (by decide +kernel) rfl
theorem ml_X8_98 : Cond.methodLink RX8 98 yX8_fails ∈ UT := ut (i := 797) (by decide +kernel) rfl
theorem im_yX8_fails : Cond.instanceMethod yX8_fails ∈ UT := ut (i := 799) (by decide +kernel) rfl
theorem co_yX8_fails : Cond.code yX8_fails cX8_fails 3 (some .int) ∈ UT := ut (i := 800) (by decide +kernel) rfl
theorem ml_X8_128 : Cond.methodLink RX8 128 yX8_takeThings ∈ UT := ut (i := 801) (by decide +kernel) rfl
theorem im_yX8_takeThings : Cond.instanceMethod yX8_takeThings ∈ UT := ut (i := 803) (by decide +kernel) rfl
theorem co_yX8_takeThings : Cond.code yX8_takeThings cX8_takeThings 2 (some .int) ∈ UT := ut (i := 804) (by decide +kernel) rfl
theorem ml_X8_108 : Cond.methodLink RX8 108 yX8_takeNumber ∈ UT := ut (i := 805) (by decide +kernel) rfl
theorem im_yX8_takeNumber : Cond.instanceMethod yX8_takeNumber ∈ UT := ut (i := 807) (by decide +kernel) rfl
theorem co_yX8_takeNumber : Cond.code yX8_takeNumber cX8_takeNumber 4 (some .int) ∈ UT := ut (i := 808) (by decide +kernel) rfl
theorem kl_X8_94 : Cond.constantLong RX8 94 (48) ∈ UT := ut (i := 809) (by decide +kernel) rfl
theorem kl_X8_96 : Cond.constantLong RX8 96 (57) ∈ UT := ut (i := 810) (by decide +kernel) rfl
theorem ml_X8_131 : Cond.methodLink RX8 131 yX8_takeRule ∈ UT := ut (i := 811) (by decide +kernel) rfl
theorem im_yX8_takeRule : Cond.instanceMethod yX8_takeRule ∈ UT := ut (i := 813) (by decide +kernel) rfl
theorem co_yX8_takeRule : Cond.code yX8_takeRule cX8_takeRule 4 (some .int) ∈ UT := ut (i := 814) (by decide +kernel) rfl
theorem ml_X8_121 : Cond.methodLink RX8 121 yX8_takeSaying ∈ UT := ut (i := 815) (by decide +kernel) rfl
theorem im_yX8_takeSaying : Cond.instanceMethod yX8_takeSaying ∈ UT := ut (i := 817) (by decide +kernel) rfl
theorem co_yX8_takeSaying : Cond.code yX8_takeSaying cX8_takeSaying 3 (some .int) ∈ UT := ut (i := 818) (by decide +kernel) rfl
theorem ml_X8_114 : Cond.methodLink RX8 114 yX8_has ∈ UT := ut (i := 819) (by decide +kernel) rfl
theorem sm_yX8_has : Cond.static yX8_has ∈ UT := ut (i := 820) (by decide +kernel) rfl
theorem co_yX8_has : Cond.code yX8_has cX8_has 2 (some .boolean) ∈ UT := ut (i := 821) (by decide +kernel) rfl
theorem ml_X8_134 : Cond.methodLink RX8 134 yX8_takeSeen ∈ UT := ut (i := 822) (by decide +kernel) rfl
theorem im_yX8_takeSeen : Cond.instanceMethod yX8_takeSeen ∈ UT := ut (i := 824) (by decide +kernel) rfl
theorem co_yX8_takeSeen : Cond.code yX8_takeSeen cX8_takeSeen 2 (some .int) ∈ UT := ut (i := 825) (by decide +kernel) rfl
theorem ml_L_26 : Cond.methodLink RL 26 yX8_fault ∈ UT := ut (i := 826) (by decide +kernel) rfl
theorem im_yX8_fault : Cond.instanceMethod yX8_fault ∈ UT := ut (i := 827) (by decide +kernel) rfl
theorem se_yX8_fault : Cond.selects RX8 yX8_fault yX8_fault ∈ UT := ut (i := 828) (by decide +kernel) rfl
theorem co_yX8_fault : Cond.code yX8_fault cX8_fault 1 (some .int) ∈ UT := ut (i := 829) (by decide +kernel) rfl
theorem ml_L_30 : Cond.methodLink RL 30 yX8_told ∈ UT := ut (i := 830) (by decide +kernel) rfl
theorem im_yX8_told : Cond.instanceMethod yX8_told ∈ UT := ut (i := 831) (by decide +kernel) rfl
theorem se_yX8_told : Cond.selects RX8 yX8_told yX8_told ∈ UT := ut (i := 832) (by decide +kernel) rfl
theorem co_yX8_told : Cond.code yX8_told cX8_told 2 (some .int) ∈ UT := ut (i := 833) (by decide +kernel) rfl
theorem ml_X8_155 : Cond.methodLink RX8 155 yX8_followsNow ∈ UT := ut (i := 834) (by decide +kernel) rfl
theorem im_yX8_followsNow : Cond.instanceMethod yX8_followsNow ∈ UT := ut (i := 836) (by decide +kernel) rfl
theorem co_yX8_followsNow : Cond.code yX8_followsNow cX8_followsNow 1 (some .int) ∈ UT := ut (i := 837) (by decide +kernel) rfl
theorem ml_X8_149 : Cond.methodLink RX8 149 yX8_allowed ∈ UT := ut (i := 838) (by decide +kernel) rfl
theorem im_yX8_allowed : Cond.instanceMethod yX8_allowed ∈ UT := ut (i := 840) (by decide +kernel) rfl
theorem co_yX8_allowed : Cond.code yX8_allowed cX8_allowed 1 (some .int) ∈ UT := ut (i := 841) (by decide +kernel) rfl
theorem ml_X8_152 : Cond.methodLink RX8 152 yX8_close ∈ UT := ut (i := 842) (by decide +kernel) rfl
theorem im_yX8_close : Cond.instanceMethod yX8_close ∈ UT := ut (i := 844) (by decide +kernel) rfl
theorem co_yX8_close : Cond.code yX8_close cX8_close 6 (some .int) ∈ UT := ut (i := 845) (by decide +kernel) rfl
theorem ml_X8_158 : Cond.methodLink RX8 158 yX8_quarrels ∈ UT := ut (i := 846) (by decide +kernel) rfl
theorem sm_yX8_quarrels : Cond.static yX8_quarrels ∈ UT := ut (i := 847) (by decide +kernel) rfl
theorem co_yX8_quarrels : Cond.code yX8_quarrels cX8_quarrels 3 (some .int) ∈ UT := ut (i := 848) (by decide +kernel) rfl
theorem ml_L_35 : Cond.methodLink RL 35 yX8_rule ∈ UT := ut (i := 849) (by decide +kernel) rfl
theorem im_yX8_rule : Cond.instanceMethod yX8_rule ∈ UT := ut (i := 850) (by decide +kernel) rfl
theorem se_yX8_rule : Cond.selects RX8 yX8_rule yX8_rule ∈ UT := ut (i := 851) (by decide +kernel) rfl
theorem co_yX8_rule : Cond.code yX8_rule cX8_rule 3 (some .int) ∈ UT := ut (i := 852) (by decide +kernel) rfl
theorem ml_X8_161 : Cond.methodLink RX8 161 yX8_isRule ∈ UT := ut (i := 853) (by decide +kernel) rfl
theorem im_yX8_isRule : Cond.instanceMethod yX8_isRule ∈ UT := ut (i := 855) (by decide +kernel) rfl
theorem co_yX8_isRule : Cond.code yX8_isRule cX8_isRule 2 (some .boolean) ∈ UT := ut (i := 856) (by decide +kernel) rfl
theorem kc_X8_165 : Cond.constant RX8 165 (-1000000001) ∈ UT := ut (i := 857) (by decide +kernel) rfl
theorem ml_L_40 : Cond.methodLink RL 40 yX8_see ∈ UT := ut (i := 858) (by decide +kernel) rfl
theorem im_yX8_see : Cond.instanceMethod yX8_see ∈ UT := ut (i := 859) (by decide +kernel) rfl
theorem se_yX8_see : Cond.selects RX8 yX8_see yX8_see ∈ UT := ut (i := 860) (by decide +kernel) rfl
theorem co_yX8_see : Cond.code yX8_see cX8_see 4 (some .int) ∈ UT := ut (i := 861) (by decide +kernel) rfl
theorem ml_X8_166 : Cond.methodLink RX8 166 yX8_isSaying ∈ UT := ut (i := 862) (by decide +kernel) rfl
theorem im_yX8_isSaying : Cond.instanceMethod yX8_isSaying ∈ UT := ut (i := 864) (by decide +kernel) rfl
theorem co_yX8_isSaying : Cond.code yX8_isSaying cX8_isSaying 2 (some .boolean) ∈ UT := ut (i := 865) (by decide +kernel) rfl
theorem ml_X8_169 : Cond.methodLink RX8 169 yX8_remember ∈ UT := ut (i := 866) (by decide +kernel) rfl
theorem im_yX8_remember : Cond.instanceMethod yX8_remember ∈ UT := ut (i := 868) (by decide +kernel) rfl
theorem co_yX8_remember : Cond.code yX8_remember cX8_remember 2 none ∈ UT := ut (i := 869) (by decide +kernel) rfl
theorem ml_X8_172 : Cond.methodLink RX8 172 yX8_with ∈ UT := ut (i := 870) (by decide +kernel) rfl
theorem sm_yX8_with : Cond.static yX8_with ∈ UT := ut (i := 871) (by decide +kernel) rfl
theorem co_yX8_with : Cond.code yX8_with cX8_with 3 (some .int) ∈ UT := ut (i := 872) (by decide +kernel) rfl
theorem ml_L_44 : Cond.methodLink RL 44 yX8_forbid ∈ UT := ut (i := 873) (by decide +kernel) rfl
theorem im_yX8_forbid : Cond.instanceMethod yX8_forbid ∈ UT := ut (i := 874) (by decide +kernel) rfl
theorem se_yX8_forbid : Cond.selects RX8 yX8_forbid yX8_forbid ∈ UT := ut (i := 875) (by decide +kernel) rfl
theorem co_yX8_forbid : Cond.code yX8_forbid cX8_forbid 4 (some .int) ∈ UT := ut (i := 876) (by decide +kernel) rfl
theorem ml_L_48 : Cond.methodLink RL 48 yX8_debate ∈ UT := ut (i := 877) (by decide +kernel) rfl
theorem im_yX8_debate : Cond.instanceMethod yX8_debate ∈ UT := ut (i := 878) (by decide +kernel) rfl
theorem se_yX8_debate : Cond.selects RX8 yX8_debate yX8_debate ∈ UT := ut (i := 879) (by decide +kernel) rfl
theorem co_yX8_debate : Cond.code yX8_debate cX8_debate 1 (some .int) ∈ UT := ut (i := 880) (by decide +kernel) rfl
theorem kc_X8_176 : Cond.constant RX8 176 (-1000000003) ∈ UT := ut (i := 881) (by decide +kernel) rfl
theorem ml_X8_177 : Cond.methodLink RX8 177 yX8_debateNow ∈ UT := ut (i := 882) (by decide +kernel) rfl
theorem im_yX8_debateNow : Cond.instanceMethod yX8_debateNow ∈ UT := ut (i := 884) (by decide +kernel) rfl
theorem co_yX8_debateNow : Cond.code yX8_debateNow cX8_debateNow 1 none ∈ UT := ut (i := 885) (by decide +kernel) rfl
theorem ml_L_52 : Cond.methodLink RL 52 yX8_drop ∈ UT := ut (i := 886) (by decide +kernel) rfl
theorem im_yX8_drop : Cond.instanceMethod yX8_drop ∈ UT := ut (i := 887) (by decide +kernel) rfl
theorem se_yX8_drop : Cond.selects RX8 yX8_drop yX8_drop ∈ UT := ut (i := 888) (by decide +kernel) rfl
theorem co_yX8_drop : Cond.code yX8_drop cX8_drop 2 (some .int) ∈ UT := ut (i := 889) (by decide +kernel) rfl
theorem ml_L_56 : Cond.methodLink RL 56 yX8_drift ∈ UT := ut (i := 890) (by decide +kernel) rfl
theorem im_yX8_drift : Cond.instanceMethod yX8_drift ∈ UT := ut (i := 891) (by decide +kernel) rfl
theorem se_yX8_drift : Cond.selects RX8 yX8_drift yX8_drift ∈ UT := ut (i := 892) (by decide +kernel) rfl
theorem co_yX8_drift : Cond.code yX8_drift cX8_drift 4 (some .int) ∈ UT := ut (i := 893) (by decide +kernel) rfl
theorem kl_X8_190 : Cond.constantLong RX8 190 (60) ∈ UT := ut (i := 894) (by decide +kernel) rfl
theorem ml_X8_192 : Cond.methodLink RX8 192 yX8_draw ∈ UT := ut (i := 895) (by decide +kernel) rfl
theorem im_yX8_draw : Cond.instanceMethod yX8_draw ∈ UT := ut (i := 897) (by decide +kernel) rfl
theorem co_yX8_draw : Cond.code yX8_draw cX8_draw 2 (some .int) ∈ UT := ut (i := 898) (by decide +kernel) rfl
theorem kl_X8_183 : Cond.constantLong RX8 183 (1103515245) ∈ UT := ut (i := 899) (by decide +kernel) rfl
theorem kl_X8_185 : Cond.constantLong RX8 185 (12345) ∈ UT := ut (i := 900) (by decide +kernel) rfl
theorem kl_X8_187 : Cond.constantLong RX8 187 (2147483648) ∈ UT := ut (i := 901) (by decide +kernel) rfl
theorem kc_X8_189 : Cond.constant RX8 189 (65536) ∈ UT := ut (i := 902) (by decide +kernel) rfl
theorem ml_X8_195 : Cond.methodLink RX8 195 yX8_denial ∈ UT := ut (i := 903) (by decide +kernel) rfl
theorem sm_yX8_denial : Cond.static yX8_denial ∈ UT := ut (i := 904) (by decide +kernel) rfl
theorem co_yX8_denial : Cond.code yX8_denial cX8_denial 1 (some .int) ∈ UT := ut (i := 905) (by decide +kernel) rfl
theorem ml_L_60 : Cond.methodLink RL 60 yX8_undo ∈ UT := ut (i := 906) (by decide +kernel) rfl
theorem im_yX8_undo : Cond.instanceMethod yX8_undo ∈ UT := ut (i := 907) (by decide +kernel) rfl
theorem se_yX8_undo : Cond.selects RX8 yX8_undo yX8_undo ∈ UT := ut (i := 908) (by decide +kernel) rfl
theorem co_yX8_undo : Cond.code yX8_undo cX8_undo 2 (some .int) ∈ UT := ut (i := 909) (by decide +kernel) rfl
theorem ml_L_64 : Cond.methodLink RL 64 yX8_follows ∈ UT := ut (i := 910) (by decide +kernel) rfl
theorem im_yX8_follows : Cond.instanceMethod yX8_follows ∈ UT := ut (i := 911) (by decide +kernel) rfl
theorem se_yX8_follows : Cond.selects RX8 yX8_follows yX8_follows ∈ UT := ut (i := 912) (by decide +kernel) rfl
theorem co_yX8_follows : Cond.code yX8_follows cX8_follows 2 (some .int) ∈ UT := ut (i := 913) (by decide +kernel) rfl
theorem ml_X8_198 : Cond.methodLink RX8 198 yX8_isSet ∈ UT := ut (i := 914) (by decide +kernel) rfl
theorem im_yX8_isSet : Cond.instanceMethod yX8_isSet ∈ UT := ut (i := 916) (by decide +kernel) rfl
theorem co_yX8_isSet : Cond.code yX8_isSet cX8_isSet 2 (some .boolean) ∈ UT := ut (i := 917) (by decide +kernel) rfl
theorem ml_L_68 : Cond.methodLink RL 68 yX8_proof ∈ UT := ut (i := 918) (by decide +kernel) rfl
theorem im_yX8_proof : Cond.instanceMethod yX8_proof ∈ UT := ut (i := 919) (by decide +kernel) rfl
theorem se_yX8_proof : Cond.selects RX8 yX8_proof yX8_proof ∈ UT := ut (i := 920) (by decide +kernel) rfl
theorem co_yX8_proof : Cond.code yX8_proof cX8_proof 6 (some .int) ∈ UT := ut (i := 921) (by decide +kernel) rfl
theorem ml_X8_201 : Cond.methodLink RX8 201 yX8_bits ∈ UT := ut (i := 922) (by decide +kernel) rfl
theorem sm_yX8_bits : Cond.static yX8_bits ∈ UT := ut (i := 923) (by decide +kernel) rfl
theorem co_yX8_bits : Cond.code yX8_bits cX8_bits 3 (some .int) ∈ UT := ut (i := 924) (by decide +kernel) rfl
theorem ml_L_72 : Cond.methodLink RL 72 yX8_giveUp ∈ UT := ut (i := 925) (by decide +kernel) rfl
theorem im_yX8_giveUp : Cond.instanceMethod yX8_giveUp ∈ UT := ut (i := 926) (by decide +kernel) rfl
theorem se_yX8_giveUp : Cond.selects RX8 yX8_giveUp yX8_giveUp ∈ UT := ut (i := 927) (by decide +kernel) rfl
theorem co_yX8_giveUp : Cond.code yX8_giveUp cX8_giveUp 6 (some .int) ∈ UT := ut (i := 928) (by decide +kernel) rfl
theorem kc_X8_204 : Cond.constant RX8 204 (100000) ∈ UT := ut (i := 929) (by decide +kernel) rfl
theorem ml_X8_205 : Cond.methodLink RX8 205 yX8_costOf ∈ UT := ut (i := 930) (by decide +kernel) rfl
theorem im_yX8_costOf : Cond.instanceMethod yX8_costOf ∈ UT := ut (i := 932) (by decide +kernel) rfl
theorem co_yX8_costOf : Cond.code yX8_costOf cX8_costOf 4 (some .int) ∈ UT := ut (i := 933) (by decide +kernel) rfl
theorem ml_L_76 : Cond.methodLink RL 76 yX8_words ∈ UT := ut (i := 934) (by decide +kernel) rfl
theorem im_yX8_words : Cond.instanceMethod yX8_words ∈ UT := ut (i := 935) (by decide +kernel) rfl
theorem se_yX8_words : Cond.selects RX8 yX8_words yX8_words ∈ UT := ut (i := 936) (by decide +kernel) rfl
theorem co_yX8_words : Cond.code yX8_words cX8_words 7 (some .int) ∈ UT := ut (i := 937) (by decide +kernel) rfl
theorem ml_X8_208 : Cond.methodLink RX8 208 yX8_doWords ∈ UT := ut (i := 938) (by decide +kernel) rfl
theorem im_yX8_doWords : Cond.instanceMethod yX8_doWords ∈ UT := ut (i := 940) (by decide +kernel) rfl
theorem co_yX8_doWords : Cond.code yX8_doWords cX8_doWords 4 (some .boolean) ∈ UT := ut (i := 941) (by decide +kernel) rfl
theorem ml_L_80 : Cond.methodLink RL 80 yX8_step ∈ UT := ut (i := 942) (by decide +kernel) rfl
theorem im_yX8_step : Cond.instanceMethod yX8_step ∈ UT := ut (i := 943) (by decide +kernel) rfl
theorem se_yX8_step : Cond.selects RX8 yX8_step yX8_step ∈ UT := ut (i := 944) (by decide +kernel) rfl
theorem co_yX8_step : Cond.code yX8_step cX8_step 5 (some .int) ∈ UT := ut (i := 945) (by decide +kernel) rfl
theorem ml_L_84 : Cond.methodLink RL 84 yX8_barred ∈ UT := ut (i := 946) (by decide +kernel) rfl
theorem im_yX8_barred : Cond.instanceMethod yX8_barred ∈ UT := ut (i := 947) (by decide +kernel) rfl
theorem se_yX8_barred : Cond.selects RX8 yX8_barred yX8_barred ∈ UT := ut (i := 948) (by decide +kernel) rfl
theorem co_yX8_barred : Cond.code yX8_barred cX8_barred 5 (some .int) ∈ UT := ut (i := 949) (by decide +kernel) rfl
theorem ml_L_88 : Cond.methodLink RL 88 yX8_never ∈ UT := ut (i := 950) (by decide +kernel) rfl
theorem im_yX8_never : Cond.instanceMethod yX8_never ∈ UT := ut (i := 951) (by decide +kernel) rfl
theorem se_yX8_never : Cond.selects RX8 yX8_never yX8_never ∈ UT := ut (i := 952) (by decide +kernel) rfl
theorem co_yX8_never : Cond.code yX8_never cX8_never 3 (some .int) ∈ UT := ut (i := 953) (by decide +kernel) rfl
theorem ml_L_92 : Cond.methodLink RL 92 yX8_round ∈ UT := ut (i := 954) (by decide +kernel) rfl
theorem im_yX8_round : Cond.instanceMethod yX8_round ∈ UT := ut (i := 955) (by decide +kernel) rfl
theorem se_yX8_round : Cond.selects RX8 yX8_round yX8_round ∈ UT := ut (i := 956) (by decide +kernel) rfl
theorem co_yX8_round : Cond.code yX8_round cX8_round 4 (some .int) ∈ UT := ut (i := 957) (by decide +kernel) rfl
theorem ml_L_96 : Cond.methodLink RL 96 yX8_vote ∈ UT := ut (i := 958) (by decide +kernel) rfl
theorem im_yX8_vote : Cond.instanceMethod yX8_vote ∈ UT := ut (i := 959) (by decide +kernel) rfl
theorem se_yX8_vote : Cond.selects RX8 yX8_vote yX8_vote ∈ UT := ut (i := 960) (by decide +kernel) rfl
theorem co_yX8_vote : Cond.code yX8_vote cX8_vote 7 (some .int) ∈ UT := ut (i := 961) (by decide +kernel) rfl
theorem kl_X8_211 : Cond.constantLong RX8 211 (9) ∈ UT := ut (i := 962) (by decide +kernel) rfl
theorem kl_X8_213 : Cond.constantLong RX8 213 (100) ∈ UT := ut (i := 963) (by decide +kernel) rfl
theorem kl_X8_215 : Cond.constantLong RX8 215 (1000000000) ∈ UT := ut (i := 964) (by decide +kernel) rfl
theorem ml_L_101 : Cond.methodLink RL 101 yX8_ask ∈ UT := ut (i := 965) (by decide +kernel) rfl
theorem im_yX8_ask : Cond.instanceMethod yX8_ask ∈ UT := ut (i := 966) (by decide +kernel) rfl
theorem se_yX8_ask : Cond.selects RX8 yX8_ask yX8_ask ∈ UT := ut (i := 967) (by decide +kernel) rfl
theorem co_yX8_ask : Cond.code yX8_ask cX8_ask 4 (some .int) ∈ UT := ut (i := 968) (by decide +kernel) rfl
theorem ml_L_105 : Cond.methodLink RL 105 yX8_believed ∈ UT := ut (i := 969) (by decide +kernel) rfl
theorem im_yX8_believed : Cond.instanceMethod yX8_believed ∈ UT := ut (i := 970) (by decide +kernel) rfl
theorem se_yX8_believed : Cond.selects RX8 yX8_believed yX8_believed ∈ UT := ut (i := 971) (by decide +kernel) rfl
theorem co_yX8_believed : Cond.code yX8_believed cX8_believed 6 (some .int) ∈ UT := ut (i := 972) (by decide +kernel) rfl
theorem kl_X8_217 : Cond.constantLong RX8 217 (2) ∈ UT := ut (i := 973) (by decide +kernel) rfl
theorem ml_X8_219 : Cond.methodLink RX8 219 yX8_isBelieved ∈ UT := ut (i := 974) (by decide +kernel) rfl
theorem im_yX8_isBelieved : Cond.instanceMethod yX8_isBelieved ∈ UT := ut (i := 976) (by decide +kernel) rfl
theorem co_yX8_isBelieved : Cond.code yX8_isBelieved cX8_isBelieved 4 (some .boolean) ∈ UT := ut (i := 977) (by decide +kernel) rfl
theorem ml_L_109 : Cond.methodLink RL 109 yX8_askNext ∈ UT := ut (i := 978) (by decide +kernel) rfl
theorem im_yX8_askNext : Cond.instanceMethod yX8_askNext ∈ UT := ut (i := 979) (by decide +kernel) rfl
theorem se_yX8_askNext : Cond.selects RX8 yX8_askNext yX8_askNext ∈ UT := ut (i := 980) (by decide +kernel) rfl
theorem co_yX8_askNext : Cond.code yX8_askNext cX8_askNext 6 (some .int) ∈ UT := ut (i := 981) (by decide +kernel) rfl
theorem ml_L_113 : Cond.methodLink RL 113 yX8_write ∈ UT := ut (i := 982) (by decide +kernel) rfl
theorem im_yX8_write : Cond.instanceMethod yX8_write ∈ UT := ut (i := 983) (by decide +kernel) rfl
theorem se_yX8_write : Cond.selects RX8 yX8_write yX8_write ∈ UT := ut (i := 984) (by decide +kernel) rfl
theorem co_yX8_write : Cond.code yX8_write cX8_write 3 (some .int) ∈ UT := ut (i := 985) (by decide +kernel) rfl
theorem ml_L_117 : Cond.methodLink RL 117 yX8_tear ∈ UT := ut (i := 986) (by decide +kernel) rfl
theorem im_yX8_tear : Cond.instanceMethod yX8_tear ∈ UT := ut (i := 987) (by decide +kernel) rfl
theorem se_yX8_tear : Cond.selects RX8 yX8_tear yX8_tear ∈ UT := ut (i := 988) (by decide +kernel) rfl
theorem co_yX8_tear : Cond.code yX8_tear cX8_tear 2 (some .int) ∈ UT := ut (i := 989) (by decide +kernel) rfl
theorem ml_L_121 : Cond.methodLink RL 121 yX8_judge ∈ UT := ut (i := 990) (by decide +kernel) rfl
theorem im_yX8_judge : Cond.instanceMethod yX8_judge ∈ UT := ut (i := 991) (by decide +kernel) rfl
theorem se_yX8_judge : Cond.selects RX8 yX8_judge yX8_judge ∈ UT := ut (i := 992) (by decide +kernel) rfl
theorem co_yX8_judge : Cond.code yX8_judge cX8_judge 3 (some .int) ∈ UT := ut (i := 993) (by decide +kernel) rfl
theorem ml_L_125 : Cond.methodLink RL 125 yX8_seed ∈ UT := ut (i := 994) (by decide +kernel) rfl
theorem im_yX8_seed : Cond.instanceMethod yX8_seed ∈ UT := ut (i := 995) (by decide +kernel) rfl
theorem se_yX8_seed : Cond.selects RX8 yX8_seed yX8_seed ∈ UT := ut (i := 996) (by decide +kernel) rfl
theorem co_yX8_seed : Cond.code yX8_seed cX8_seed 3 (some .int) ∈ UT := ut (i := 997) (by decide +kernel) rfl
theorem ml_L_129 : Cond.methodLink RL 129 yX8_keep ∈ UT := ut (i := 998) (by decide +kernel) rfl
theorem im_yX8_keep : Cond.instanceMethod yX8_keep ∈ UT := ut (i := 999) (by decide +kernel) rfl
theorem se_yX8_keep : Cond.selects RX8 yX8_keep yX8_keep ∈ UT := ut (i := 1000) (by decide +kernel) rfl
theorem co_yX8_keep : Cond.code yX8_keep cX8_keep 3 (some .int) ∈ UT := ut (i := 1001) (by decide +kernel) rfl
theorem ml_L_133 : Cond.methodLink RL 133 yX8_goBack ∈ UT := ut (i := 1002) (by decide +kernel) rfl
theorem im_yX8_goBack : Cond.instanceMethod yX8_goBack ∈ UT := ut (i := 1003) (by decide +kernel) rfl
theorem se_yX8_goBack : Cond.selects RX8 yX8_goBack yX8_goBack ∈ UT := ut (i := 1004) (by decide +kernel) rfl
theorem co_yX8_goBack : Cond.code yX8_goBack cX8_goBack 3 (some .int) ∈ UT := ut (i := 1005) (by decide +kernel) rfl
theorem se_yX5_peek : Cond.selects RX5 yX5_peek yX5_peek ∈ UT := ut (i := 0) (by decide +kernel) rfl
theorem se_yX5_readThings : Cond.selects RX5 yX5_readThings yX5_readThings ∈ UT := ut (i := 1) (by decide +kernel) rfl
theorem se_yX5_take : Cond.selects RX5 yX5_take yX5_take ∈ UT := ut (i := 2) (by decide +kernel) rfl
theorem se_yX5_stop : Cond.selects RX5 yX5_stop yX5_stop ∈ UT := ut (i := 3) (by decide +kernel) rfl
theorem se_yX5_number : Cond.selects RX5 yX5_number yX5_number ∈ UT := ut (i := 4) (by decide +kernel) rfl
theorem se_yX5_readClause : Cond.selects RX5 yX5_readClause yX5_readClause ∈ UT := ut (i := 5) (by decide +kernel) rfl
theorem se_yX5_readRule : Cond.selects RX5 yX5_readRule yX5_readRule ∈ UT := ut (i := 6) (by decide +kernel) rfl
theorem se_yX5_readPremises : Cond.selects RX5 yX5_readPremises yX5_readPremises ∈ UT := ut (i := 7) (by decide +kernel) rfl
theorem se_yX5_readSeen : Cond.selects RX5 yX5_readSeen yX5_readSeen ∈ UT := ut (i := 8) (by decide +kernel) rfl
theorem se_yX7_beginAnew : Cond.selects RX7 yX7_beginAnew yX7_beginAnew ∈ UT := ut (i := 9) (by decide +kernel) rfl
theorem se_yX7_trialNow : Cond.selects RX7 yX7_trialNow yX7_trialNow ∈ UT := ut (i := 10) (by decide +kernel) rfl
theorem se_yX7_rulesGoneBy : Cond.selects RX7 yX7_rulesGoneBy yX7_rulesGoneBy ∈ UT := ut (i := 11) (by decide +kernel) rfl
theorem se_yX7_change : Cond.selects RX7 yX7_change yX7_change ∈ UT := ut (i := 12) (by decide +kernel) rfl
theorem se_yX1_loseOldest : Cond.selects RX1 yX1_loseOldest yX1_loseOldest ∈ UT := ut (i := 13) (by decide +kernel) rfl
theorem se_yX7_draw : Cond.selects RX7 yX7_draw yX7_draw ∈ UT := ut (i := 14) (by decide +kernel) rfl
theorem se_yX6_concludesBy : Cond.selects RX6 yX6_concludesBy yX6_concludesBy ∈ UT := ut (i := 15) (by decide +kernel) rfl
theorem se_yX6_isAllowed : Cond.selects RX6 yX6_isAllowed yX6_isAllowed ∈ UT := ut (i := 16) (by decide +kernel) rfl
theorem se_yX6_isPeaceWithout : Cond.selects RX6 yX6_isPeaceWithout yX6_isPeaceWithout ∈ UT := ut (i := 17) (by decide +kernel) rfl
theorem se_yX6_bringTo : Cond.selects RX6 yX6_bringTo yX6_bringTo ∈ UT := ut (i := 18) (by decide +kernel) rfl
theorem se_yX6_returnsTo : Cond.selects RX6 yX6_returnsTo yX6_returnsTo ∈ UT := ut (i := 19) (by decide +kernel) rfl
theorem se_yX7_shareVotes : Cond.selects RX7 yX7_shareVotes yX7_shareVotes ∈ UT := ut (i := 20) (by decide +kernel) rfl
theorem se_yX7_countAnswers : Cond.selects RX7 yX7_countAnswers yX7_countAnswers ∈ UT := ut (i := 21) (by decide +kernel) rfl
theorem se_yX7_countYes : Cond.selects RX7 yX7_countYes yX7_countYes ∈ UT := ut (i := 22) (by decide +kernel) rfl
theorem se_yX8_here : Cond.selects RX8 yX8_here yX8_here ∈ UT := ut (i := 23) (by decide +kernel) rfl
theorem se_yX8_takeClause : Cond.selects RX8 yX8_takeClause yX8_takeClause ∈ UT := ut (i := 24) (by decide +kernel) rfl
theorem se_yX8_fails : Cond.selects RX8 yX8_fails yX8_fails ∈ UT := ut (i := 25) (by decide +kernel) rfl
theorem se_yX8_takeThings : Cond.selects RX8 yX8_takeThings yX8_takeThings ∈ UT := ut (i := 26) (by decide +kernel) rfl
theorem se_yX8_takeNumber : Cond.selects RX8 yX8_takeNumber yX8_takeNumber ∈ UT := ut (i := 27) (by decide +kernel) rfl
theorem se_yX8_takeRule : Cond.selects RX8 yX8_takeRule yX8_takeRule ∈ UT := ut (i := 28) (by decide +kernel) rfl
theorem se_yX8_takeSaying : Cond.selects RX8 yX8_takeSaying yX8_takeSaying ∈ UT := ut (i := 29) (by decide +kernel) rfl
theorem se_yX8_takeSeen : Cond.selects RX8 yX8_takeSeen yX8_takeSeen ∈ UT := ut (i := 30) (by decide +kernel) rfl
theorem se_yX8_followsNow : Cond.selects RX8 yX8_followsNow yX8_followsNow ∈ UT := ut (i := 31) (by decide +kernel) rfl
theorem se_yX8_allowed : Cond.selects RX8 yX8_allowed yX8_allowed ∈ UT := ut (i := 32) (by decide +kernel) rfl
theorem se_yX8_close : Cond.selects RX8 yX8_close yX8_close ∈ UT := ut (i := 33) (by decide +kernel) rfl
theorem se_yX8_isRule : Cond.selects RX8 yX8_isRule yX8_isRule ∈ UT := ut (i := 34) (by decide +kernel) rfl
theorem se_yX8_isSaying : Cond.selects RX8 yX8_isSaying yX8_isSaying ∈ UT := ut (i := 35) (by decide +kernel) rfl
theorem se_yX8_remember : Cond.selects RX8 yX8_remember yX8_remember ∈ UT := ut (i := 36) (by decide +kernel) rfl
theorem se_yX8_debateNow : Cond.selects RX8 yX8_debateNow yX8_debateNow ∈ UT := ut (i := 37) (by decide +kernel) rfl
theorem se_yX8_draw : Cond.selects RX8 yX8_draw yX8_draw ∈ UT := ut (i := 38) (by decide +kernel) rfl
theorem se_yX8_isSet : Cond.selects RX8 yX8_isSet yX8_isSet ∈ UT := ut (i := 39) (by decide +kernel) rfl
theorem se_yX8_costOf : Cond.selects RX8 yX8_costOf yX8_costOf ∈ UT := ut (i := 40) (by decide +kernel) rfl
theorem se_yX8_doWords : Cond.selects RX8 yX8_doWords yX8_doWords ∈ UT := ut (i := 41) (by decide +kernel) rfl
theorem se_yX8_isBelieved : Cond.selects RX8 yX8_isBelieved yX8_isBelieved ∈ UT := ut (i := 42) (by decide +kernel) rfl
def NW : List (String × Nat × MethodName × String) := [(RX7, 11, yX5_init, "BarrelMoon"), (RX7, 18, yX1_init, "BarrelMoon"), (RX7, 25, yX3_init, "BarrelMoon"), (RX7, 32, yX0_init, "BarrelMoon"), (RX7, 56, yX4_init, "BarrelMoon"), (RX5, 83, yX7_has, "BarrelMoon"), (RX4, 45, yX7_has, "BarrelMoon"), (RX6, 28, yX7_has, "BarrelMoon"), (RX6, 65, yX7_denialOf, "BarrelMoon"), (RX6, 71, yX7_put, "BarrelMoon"), (RX3, 32, yX7_has, "BarrelMoon"), (RX0, 23, yX7_has, "BarrelMoon")]
theorem nl_X7_11 : (RX7, 11, yX5_init, "BarrelMoon") ∈ NW := List.mem_of_getElem? (i := 0) rfl
theorem nl_X7_18 : (RX7, 18, yX1_init, "BarrelMoon") ∈ NW := List.mem_of_getElem? (i := 1) rfl
theorem nl_X7_25 : (RX7, 25, yX3_init, "BarrelMoon") ∈ NW := List.mem_of_getElem? (i := 2) rfl
theorem nl_X7_32 : (RX7, 32, yX0_init, "BarrelMoon") ∈ NW := List.mem_of_getElem? (i := 3) rfl
theorem nl_X7_56 : (RX7, 56, yX4_init, "BarrelMoon") ∈ NW := List.mem_of_getElem? (i := 4) rfl
theorem nl_X5_83 : (RX5, 83, yX7_has, "BarrelMoon") ∈ NW := List.mem_of_getElem? (i := 5) rfl
theorem nl_X4_45 : (RX4, 45, yX7_has, "BarrelMoon") ∈ NW := List.mem_of_getElem? (i := 6) rfl
theorem nl_X6_28 : (RX6, 28, yX7_has, "BarrelMoon") ∈ NW := List.mem_of_getElem? (i := 7) rfl
theorem nl_X6_65 : (RX6, 65, yX7_denialOf, "BarrelMoon") ∈ NW := List.mem_of_getElem? (i := 8) rfl
theorem nl_X6_71 : (RX6, 71, yX7_put, "BarrelMoon") ∈ NW := List.mem_of_getElem? (i := 9) rfl
theorem nl_X3_32 : (RX3, 32, yX7_has, "BarrelMoon") ∈ NW := List.mem_of_getElem? (i := 10) rfl
theorem nl_X0_23 : (RX0, 23, yX7_has, "BarrelMoon") ∈ NW := List.mem_of_getElem? (i := 11) rfl
set_option maxRecDepth 20000 in
theorem nw_tbl : ∀ q ∈ NW, Cond.methodLinkNest q.1 q.2.1 q.2.2.1 q.2.2.2 ∈ lw_tbl := by decide +kernel
set_option maxRecDepth 20000 in
theorem ly_X0 : ∀ w ∈ u_ws RX0 TX0 3, w ∈ UT := by decide +kernel
set_option maxRecDepth 20000 in
theorem ly_X1 : ∀ w ∈ u_ws RX1 TX1 2, w ∈ UT := by decide +kernel
set_option maxRecDepth 20000 in
theorem ly_X2 : ∀ w ∈ u_ws RX2 TX2 4, w ∈ UT := by decide +kernel
set_option maxRecDepth 20000 in
theorem ly_X3 : ∀ w ∈ u_ws RX3 TX3 4, w ∈ UT := by decide +kernel
set_option maxRecDepth 20000 in
theorem ly_X4 : ∀ w ∈ u_ws RX4 TX4 6, w ∈ UT := by decide +kernel
set_option maxRecDepth 20000 in
theorem ly_X5 : ∀ w ∈ u_ws RX5 TX5 6, w ∈ UT := by decide +kernel
set_option maxRecDepth 20000 in
theorem ly_X6 : ∀ w ∈ u_ws RX6 TX6 3, w ∈ UT := by decide +kernel
set_option maxRecDepth 20000 in
theorem ly_X7 : ∀ w ∈ u_ws RX7 TX7 12, w ∈ UT := by decide +kernel
set_option maxRecDepth 20000 in
theorem ly_X8 : ∀ w ∈ u_ws RX8 TX8 32, w ∈ UT := by decide +kernel
