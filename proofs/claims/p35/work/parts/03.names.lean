def RX0 : String := "Versefold$Branch"
def TX0 : u_T := fun k => match k with
  | 0 => ("Versefold$Branch", "tellings", "[LVersefold$Telling;", true)
  | 1 => ("Versefold$Branch", "seals", "[I", true)
  | 2 => ("Versefold$Branch", "kept", "[LVersefold$State;", true)
  | 3 => ("Versefold$Branch", "size", "I", false)
  | 4 => ("Versefold$Branch", "origin", "I", false)
  | 5 => ("Versefold$Branch", "forkedAt", "I", false)
  | _ => ("Versefold$Branch", "taken", "I", false)
def tyX0 : Nat → FieldType := fun k => match k with
  | 0 => .array (.object "Versefold$Telling")
  | 1 => .array .int
  | 2 => .array (.object "Versefold$State")
  | 3 => .int
  | 4 => .int
  | 5 => .int
  | _ => .int
abbrev wsX00 : List Cond := u_ws RX0 TX0 7
theorem nmX0 : ∀ a, a < 7 → ∀ b, b < 7 → a ≠ b → (TX0 a).2.1 ≠ (TX0 b).2.1 := by decide +kernel
theorem tyX0_ok : ∀ k, k < 7 → parseFieldDescriptor (TX0 k).2.2.1 = some (tyX0 k) := by decide +kernel
abbrev cX0_init : ByteArray := prog_2_method_1_code
def yX0_init : MethodName := ⟨RX0, "<init>", "()V"⟩
abbrev cX0_isFull : ByteArray := prog_2_method_2_code
def yX0_isFull : MethodName := ⟨RX0, "isFull", "()Z"⟩
abbrev cX0_append : ByteArray := prog_2_method_3_code
def yX0_append : MethodName := ⟨RX0, "append", "(ZZIIII)V"⟩
abbrev cX0_rulesOn : ByteArray := prog_2_method_5_code
def yX0_rulesOn : MethodName := ⟨RX0, "rulesOn", "(I)I"⟩
abbrev cX0_read : ByteArray := prog_2_method_6_code
def yX0_read : MethodName := ⟨RX0, "read", "(IILVersefold$State;)V"⟩
abbrev cX0_hasTrueSeals : ByteArray := prog_2_method_10_code
def yX0_hasTrueSeals : MethodName := ⟨RX0, "hasTrueSeals", "()Z"⟩
def RX1 : String := "Versefold$Listener"
def TX1 : u_T := fun k => match k with
  | 0 => ("Versefold$Listener", "come", "[J", true)
  | 1 => ("Versefold$Listener", "gone", "[J", true)
  | 2 => ("Versefold$Listener", "branch", "I", false)
  | 3 => ("Versefold$Listener", "relation", "I", false)
  | 4 => ("Versefold$Listener", "hour", "I", false)
  | 5 => ("Versefold$Listener", "pairs", "J", false)
  | 6 => ("Versefold$Listener", "heldBefore", "J", false)
  | 7 => ("Versefold$Listener", "first", "I", false)
  | 8 => ("Versefold$Listener", "end", "I", false)
  | _ => ("Versefold$Listener", "untold", "I", false)
def tyX1 : Nat → FieldType := fun k => match k with
  | 0 => .array .long
  | 1 => .array .long
  | 2 => .int
  | 3 => .int
  | 4 => .int
  | 5 => .long
  | 6 => .long
  | 7 => .int
  | 8 => .int
  | _ => .int
abbrev wsX10 : List Cond := u_ws RX1 TX1 10
theorem nmX1 : ∀ a, a < 10 → ∀ b, b < 10 → a ≠ b → (TX1 a).2.1 ≠ (TX1 b).2.1 := by decide +kernel
theorem tyX1_ok : ∀ k, k < 10 → parseFieldDescriptor (TX1 k).2.2.1 = some (tyX1 k) := by decide +kernel
abbrev cX1_init : ByteArray := prog_3_method_1_code
def yX1_init : MethodName := ⟨RX1, "<init>", "()V"⟩
abbrev cX1_hear : ByteArray := prog_3_method_4_code
def yX1_hear : MethodName := ⟨RX1, "hear", "(LVersefold$State;)V"⟩
def RX2 : String := "Versefold$Pattern"
def TX2 : u_T := fun k => match k with
  | 0 => ("Versefold$Pattern", "relation", "I", false)
  | 1 => ("Versefold$Pattern", "isContrary", "Z", false)
  | 2 => ("Versefold$Pattern", "oneShift", "I", false)
  | _ => ("Versefold$Pattern", "otherShift", "I", false)
def tyX2 : Nat → FieldType := fun k => match k with
  | 0 => .int
  | 1 => .boolean
  | 2 => .int
  | _ => .int
abbrev wsX20 : List Cond := u_ws RX2 TX2 4
theorem nmX2 : ∀ a, a < 4 → ∀ b, b < 4 → a ≠ b → (TX2 a).2.1 ≠ (TX2 b).2.1 := by decide +kernel
theorem tyX2_ok : ∀ k, k < 4 → parseFieldDescriptor (TX2 k).2.2.1 = some (tyX2 k) := by decide +kernel
abbrev cX2_init : ByteArray := prog_4_method_1_code
def yX2_init : MethodName := ⟨RX2, "<init>", "()V"⟩
abbrev cX2_become : ByteArray := prog_4_method_2_code
def yX2_become : MethodName := ⟨RX2, "become", "(IIIZ)V"⟩
abbrev cX2_shiftOf : ByteArray := prog_4_method_3_code
def yX2_shiftOf : MethodName := ⟨RX2, "shiftOf", "(I)I"⟩
abbrev cX2_pairOf : ByteArray := prog_4_method_4_code
def yX2_pairOf : MethodName := ⟨RX2, "pairOf", "(I)I"⟩
abbrev cX2_factOf : ByteArray := prog_4_method_5_code
def yX2_factOf : MethodName := ⟨RX2, "factOf", "(I)I"⟩
abbrev cX2_digits : ByteArray := prog_4_method_6_code
def yX2_digits : MethodName := ⟨RX2, "digits", "()I"⟩
abbrev cX2_freeDigits : ByteArray := prog_4_method_7_code
def yX2_freeDigits : MethodName := ⟨RX2, "freeDigits", "()I"⟩
def RX3 : String := "Versefold$Reasons"
def TX3 : u_T := fun k => match k with
  | 0 => ("Versefold$Reasons", "last", "LVersefold$State;", true)
  | 1 => ("Versefold$Reasons", "ranks", "[I", true)
  | 2 => ("Versefold$Reasons", "rulesUsed", "[I", true)
  | 3 => ("Versefold$Reasons", "waysUsed", "[I", true)
  | 4 => ("Versefold$Reasons", "reached", "[J", true)
  | 5 => ("Versefold$Reasons", "added", "[J", true)
  | 6 => ("Versefold$Reasons", "seen", "[J", true)
  | _ => ("Versefold$Reasons", "queue", "[I", true)
def tyX3 : Nat → FieldType := fun k => match k with
  | 0 => .object "Versefold$State"
  | 1 => .array .int
  | 2 => .array .int
  | 3 => .array .int
  | 4 => .array .long
  | 5 => .array .long
  | 6 => .array .long
  | _ => .array .int
abbrev wsX30 : List Cond := u_ws RX3 TX3 8
theorem nmX3 : ∀ a, a < 8 → ∀ b, b < 8 → a ≠ b → (TX3 a).2.1 ≠ (TX3 b).2.1 := by decide +kernel
theorem tyX3_ok : ∀ k, k < 8 → parseFieldDescriptor (TX3 k).2.2.1 = some (tyX3 k) := by decide +kernel
abbrev cX3_init : ByteArray := prog_5_method_1_code
def yX3_init : MethodName := ⟨RX3, "<init>", "()V"⟩
abbrev cX3_read : ByteArray := prog_5_method_2_code
def yX3_read : MethodName := ⟨RX3, "read", "(LVersefold$RuleBook;LVersefold$State;)V"⟩
abbrev cX3_begin : ByteArray := prog_5_method_3_code
def yX3_begin : MethodName := ⟨RX3, "begin", "()V"⟩
abbrev cX3_reachBy : ByteArray := prog_5_method_4_code
def yX3_reachBy : MethodName := ⟨RX3, "reachBy", "(LVersefold$Rule;II)V"⟩
abbrev cX3_reach : ByteArray := prog_5_method_5_code
def yX3_reach : MethodName := ⟨RX3, "reach", "(IIII)V"⟩
abbrev cX3_endStep : ByteArray := prog_5_method_6_code
def yX3_endStep : MethodName := ⟨RX3, "endStep", "()I"⟩
def RX4 : String := "Versefold$Rule"
def TX4 : u_T := fun k => match k with
  | 0 => ("Versefold$Rule", "head", "LVersefold$Pattern;", true)
  | 1 => ("Versefold$Rule", "conditions", "[LVersefold$Pattern;", true)
  | 2 => ("Versefold$Rule", "size", "I", false)
  | 3 => ("Versefold$Rule", "straightRelations", "I", false)
  | 4 => ("Versefold$Rule", "idleDigits", "I", false)
  | _ => ("Versefold$Rule", "wasOn", "Z", false)
def tyX4 : Nat → FieldType := fun k => match k with
  | 0 => .object "Versefold$Pattern"
  | 1 => .array (.object "Versefold$Pattern")
  | 2 => .int
  | 3 => .int
  | 4 => .int
  | _ => .boolean
abbrev wsX40 : List Cond := u_ws RX4 TX4 6
theorem nmX4 : ∀ a, a < 6 → ∀ b, b < 6 → a ≠ b → (TX4 a).2.1 ≠ (TX4 b).2.1 := by decide +kernel
theorem tyX4_ok : ∀ k, k < 6 → parseFieldDescriptor (TX4 k).2.2.1 = some (tyX4 k) := by decide +kernel
abbrev cX4_init : ByteArray := prog_6_method_1_code
def yX4_init : MethodName := ⟨RX4, "<init>", "()V"⟩
abbrev cX4_setHead : ByteArray := prog_6_method_2_code
def yX4_setHead : MethodName := ⟨RX4, "setHead", "(III)V"⟩
abbrev cX4_append : ByteArray := prog_6_method_3_code
def yX4_append : MethodName := ⟨RX4, "append", "(IIIZ)V"⟩
abbrev cX4_isBound : ByteArray := prog_6_method_4_code
def yX4_isBound : MethodName := ⟨RX4, "isBound", "()Z"⟩
abbrev cX4_misfit : ByteArray := prog_6_method_5_code
def yX4_misfit : MethodName := ⟨RX4, "misfit", "(I[J[J)I"⟩
abbrev cX4_headsFrom : ByteArray := prog_6_method_6_code
def yX4_headsFrom : MethodName := ⟨RX4, "headsFrom", "([J)J"⟩
def RX5 : String := "Versefold$RuleBook"
def TX5 : u_T := fun k => match k with
  | 0 => ("Versefold$RuleBook", "rules", "[LVersefold$Rule;", true)
  | 1 => ("Versefold$RuleBook", "layers", "[I", true)
  | _ => ("Versefold$RuleBook", "size", "I", false)
def tyX5 : Nat → FieldType := fun k => match k with
  | 0 => .array (.object "Versefold$Rule")
  | 1 => .array .int
  | _ => .int
abbrev wsX50 : List Cond := u_ws RX5 TX5 3
theorem nmX5 : ∀ a, a < 3 → ∀ b, b < 3 → a ≠ b → (TX5 a).2.1 ≠ (TX5 b).2.1 := by decide +kernel
theorem tyX5_ok : ∀ k, k < 3 → parseFieldDescriptor (TX5 k).2.2.1 = some (tyX5 k) := by decide +kernel
abbrev cX5_init : ByteArray := prog_7_method_1_code
def yX5_init : MethodName := ⟨RX5, "<init>", "()V"⟩
abbrev cX5_canBeOn : ByteArray := prog_7_method_2_code
def yX5_canBeOn : MethodName := ⟨RX5, "canBeOn", "(II)Z"⟩
abbrev cX5_findLayers : ByteArray := prog_7_method_3_code
def yX5_findLayers : MethodName := ⟨RX5, "findLayers", "(I)Z"⟩
abbrev cX5_leastLayer : ByteArray := prog_7_method_4_code
def yX5_leastLayer : MethodName := ⟨RX5, "leastLayer", "(LVersefold$Rule;)I"⟩
abbrev cX5_derive : ByteArray := prog_7_method_5_code
def yX5_derive : MethodName := ⟨RX5, "derive", "(LVersefold$State;)V"⟩
abbrev cX5_deriveLayer : ByteArray := prog_7_method_6_code
def yX5_deriveLayer : MethodName := ⟨RX5, "deriveLayer", "(LVersefold$State;I)V"⟩
def RX6 : String := "Versefold$State"
def TX6 : u_T := fun k => match k with
  | 0 => ("Versefold$State", "told", "[J", true)
  | 1 => ("Versefold$State", "held", "[J", true)
  | _ => ("Versefold$State", "on", "I", false)
def tyX6 : Nat → FieldType := fun k => match k with
  | 0 => .array .long
  | 1 => .array .long
  | _ => .int
abbrev wsX60 : List Cond := u_ws RX6 TX6 3
theorem nmX6 : ∀ a, a < 3 → ∀ b, b < 3 → a ≠ b → (TX6 a).2.1 ≠ (TX6 b).2.1 := by decide +kernel
theorem tyX6_ok : ∀ k, k < 3 → parseFieldDescriptor (TX6 k).2.2.1 = some (tyX6 k) := by decide +kernel
abbrev cX6_init : ByteArray := prog_8_method_1_code
def yX6_init : MethodName := ⟨RX6, "<init>", "()V"⟩
abbrev cX6_has : ByteArray := prog_8_method_2_code
def yX6_has : MethodName := ⟨RX6, "has", "(I)Z"⟩
abbrev cX6_isLike : ByteArray := prog_8_method_3_code
def yX6_isLike : MethodName := ⟨RX6, "isLike", "(LVersefold$State;)Z"⟩
abbrev cX6_copy : ByteArray := prog_8_method_4_code
def yX6_copy : MethodName := ⟨RX6, "copy", "(LVersefold$State;)V"⟩
def RX7 : String := "Versefold$Telling"
def TX7 : u_T := fun k => match k with
  | 0 => ("Versefold$Telling", "isOfRule", "Z", false)
  | 1 => ("Versefold$Telling", "isSo", "Z", false)
  | 2 => ("Versefold$Telling", "about", "I", false)
  | 3 => ("Versefold$Telling", "from", "I", false)
  | 4 => ("Versefold$Telling", "to", "I", false)
  | 5 => ("Versefold$Telling", "digest", "I", false)
  | 6 => ("Versefold$Telling", "forgotten", "Z", false)
  | _ => ("Versefold$Telling", "source", "I", false)
def tyX7 : Nat → FieldType := fun k => match k with
  | 0 => .boolean
  | 1 => .boolean
  | 2 => .int
  | 3 => .int
  | 4 => .int
  | 5 => .int
  | 6 => .boolean
  | _ => .int
abbrev wsX70 : List Cond := u_ws RX7 TX7 8
theorem nmX7 : ∀ a, a < 8 → ∀ b, b < 8 → a ≠ b → (TX7 a).2.1 ≠ (TX7 b).2.1 := by decide +kernel
theorem tyX7_ok : ∀ k, k < 8 → parseFieldDescriptor (TX7 k).2.2.1 = some (tyX7 k) := by decide +kernel
abbrev cX7_init : ByteArray := prog_9_method_1_code
def yX7_init : MethodName := ⟨RX7, "<init>", "()V"⟩
abbrev cX7_setDigest : ByteArray := prog_9_method_2_code
def yX7_setDigest : MethodName := ⟨RX7, "setDigest", "()V"⟩
def RX8 : String := "Versefold"
def TX8 : u_T := fun k => match k with
  | 0 => ("Versefold", "branches", "[LVersefold$Branch;", true)
  | 1 => ("Versefold", "listeners", "[LVersefold$Listener;", true)
  | 2 => ("Versefold", "uniques", "[Z", true)
  | 3 => ("Versefold", "book", "LVersefold$RuleBook;", true)
  | 4 => ("Versefold", "reasons", "LVersefold$Reasons;", true)
  | 5 => ("Versefold", "fresh", "LVersefold$State;", true)
  | 6 => ("Versefold", "branchCount", "I", false)
  | 7 => ("Versefold", "listenerCount", "I", false)
  | _ => ("Versefold", "passedOver", "I", false)
def tyX8 : Nat → FieldType := fun k => match k with
  | 0 => .array (.object "Versefold$Branch")
  | 1 => .array (.object "Versefold$Listener")
  | 2 => .array .boolean
  | 3 => .object "Versefold$RuleBook"
  | 4 => .object "Versefold$Reasons"
  | 5 => .object "Versefold$State"
  | 6 => .int
  | 7 => .int
  | _ => .int
abbrev wsX80 : List Cond := u_ws RX8 TX8 9
theorem nmX8 : ∀ a, a < 9 → ∀ b, b < 9 → a ≠ b → (TX8 a).2.1 ≠ (TX8 b).2.1 := by decide +kernel
theorem tyX8_ok : ∀ k, k < 9 → parseFieldDescriptor (TX8 k).2.2.1 = some (tyX8 k) := by decide +kernel
abbrev cX8_init : ByteArray := prog_1_method_1_code
def yX8_init : MethodName := ⟨RX8, "<init>", "()V"⟩
abbrev cX8_tell : ByteArray := prog_1_method_2_code
def yX8_tell : MethodName := ⟨RX8, "tell", "(IIII)I"⟩
abbrev cX8_untell : ByteArray := prog_1_method_3_code
def yX8_untell : MethodName := ⟨RX8, "untell", "(IIII)I"⟩
abbrev cX8_setUnique : ByteArray := prog_1_method_4_code
def yX8_setUnique : MethodName := ⟨RX8, "setUnique", "(IZ)Z"⟩
abbrev cX8_addRule : ByteArray := prog_1_method_5_code
def yX8_addRule : MethodName := ⟨RX8, "addRule", "(IIIIII)I"⟩
abbrev cX8_addCondition : ByteArray := prog_1_method_6_code
def yX8_addCondition : MethodName := ⟨RX8, "addCondition", "(IIIIZ)I"⟩
abbrev cX8_turn : ByteArray := prog_1_method_7_code
def yX8_turn : MethodName := ⟨RX8, "turn", "(IIZ)I"⟩
abbrev cX8_isOn : ByteArray := prog_1_method_8_code
def yX8_isOn : MethodName := ⟨RX8, "isOn", "(III)Z"⟩
abbrev cX8_layer : ByteArray := prog_1_method_9_code
def yX8_layer : MethodName := ⟨RX8, "layer", "(II)I"⟩
abbrev cX8_knowing : ByteArray := prog_1_method_10_code
def yX8_knowing : MethodName := ⟨RX8, "knowing", "(I)I"⟩
abbrev cX8_holds : ByteArray := prog_1_method_11_code
def yX8_holds : MethodName := ⟨RX8, "holds", "(IIII)Z"⟩
abbrev cX8_holdsAnew : ByteArray := prog_1_method_12_code
def yX8_holdsAnew : MethodName := ⟨RX8, "holdsAnew", "(IIII)Z"⟩
abbrev cX8_count : ByteArray := prog_1_method_13_code
def yX8_count : MethodName := ⟨RX8, "count", "(IIII)I"⟩
abbrev cX8_rank : ByteArray := prog_1_method_17_code
def yX8_rank : MethodName := ⟨RX8, "rank", "(IIII)I"⟩
abbrev cX8_derivedShare : ByteArray := prog_1_method_31_code
def yX8_derivedShare : MethodName := ⟨RX8, "derivedShare", "(II)F"⟩
abbrev cX8_meanRank : ByteArray := prog_1_method_32_code
def yX8_meanRank : MethodName := ⟨RX8, "meanRank", "(II)D"⟩
abbrev cX8_isSound : ByteArray := prog_1_method_33_code
def yX8_isSound : MethodName := ⟨RX8, "isSound", "()Z"⟩
abbrev cX8_isBelow : ByteArray := prog_1_method_34_code
def yX8_isBelow : MethodName := ⟨RX8, "isBelow", "(II)Z"⟩
abbrev cX8_isAmong : ByteArray := prog_1_method_35_code
def yX8_isAmong : MethodName := ⟨RX8, "isAmong", "(II)Z"⟩
abbrev cX8_chained : ByteArray := prog_1_method_36_code
def yX8_chained : MethodName := ⟨RX8, "chained", "(II)I"⟩
abbrev cX8_branchAt : ByteArray := prog_1_method_37_code
def yX8_branchAt : MethodName := ⟨RX8, "branchAt", "(I)LVersefold$Branch;"⟩
abbrev cX8_ruleAt : ByteArray := prog_1_method_38_code
def yX8_ruleAt : MethodName := ⟨RX8, "ruleAt", "(I)LVersefold$Rule;"⟩
abbrev cX8_checkKnowing : ByteArray := prog_1_method_40_code
def yX8_checkKnowing : MethodName := ⟨RX8, "checkKnowing", "(LVersefold$Branch;I)V"⟩
abbrev cX8_checkFact : ByteArray := prog_1_method_41_code
def yX8_checkFact : MethodName := ⟨RX8, "checkFact", "(I)V"⟩
abbrev cX8_checkHour : ByteArray := prog_1_method_42_code
def yX8_checkHour : MethodName := ⟨RX8, "checkHour", "(I)V"⟩
abbrev cX8_checkSpan : ByteArray := prog_1_method_43_code
def yX8_checkSpan : MethodName := ⟨RX8, "checkSpan", "(II)V"⟩
abbrev cX8_checkRelation : ByteArray := prog_1_method_44_code
def yX8_checkRelation : MethodName := ⟨RX8, "checkRelation", "(I)V"⟩
abbrev cX8_checkPattern : ByteArray := prog_1_method_45_code
def yX8_checkPattern : MethodName := ⟨RX8, "checkPattern", "(III)V"⟩
abbrev cX8_checkRoom : ByteArray := prog_1_method_46_code
def yX8_checkRoom : MethodName := ⟨RX8, "checkRoom", "(LVersefold$Branch;)V"⟩
abbrev cX8_checkAsked : ByteArray := prog_1_method_47_code
def yX8_checkAsked : MethodName := ⟨RX8, "checkAsked", "(LVersefold$Branch;III)V"⟩
abbrev cX8_checkHeld : ByteArray := prog_1_method_48_code
def yX8_checkHeld : MethodName := ⟨RX8, "checkHeld", "(LVersefold$State;I)V"⟩
abbrev cX8_hasRival : ByteArray := prog_1_method_49_code
def yX8_hasRival : MethodName := ⟨RX8, "hasRival", "(LVersefold$Branch;III)Z"⟩
abbrev cX8_pairsOf : ByteArray := prog_1_method_51_code
def yX8_pairsOf : MethodName := ⟨RX8, "pairsOf", "(II)J"⟩
abbrev cX8_stateOf : ByteArray := prog_1_method_52_code
def yX8_stateOf : MethodName := ⟨RX8, "stateOf", "(LVersefold$Branch;II)LVersefold$State;"⟩
abbrev cX8_stateAnew : ByteArray := prog_1_method_53_code
def yX8_stateAnew : MethodName := ⟨RX8, "stateAnew", "(LVersefold$Branch;II)LVersefold$State;"⟩
abbrev cX8_findReason : ByteArray := prog_1_method_54_code
def yX8_findReason : MethodName := ⟨RX8, "findReason", "(IIII)V"⟩
abbrev cX8_inform : ByteArray := prog_1_method_55_code
def yX8_inform : MethodName := ⟨RX8, "inform", "(I)V"⟩
abbrev cX8_agreesWithAnew : ByteArray := prog_1_method_56_code
def yX8_agreesWithAnew : MethodName := ⟨RX8, "agreesWithAnew", "(LVersefold$Branch;)Z"⟩
def RX9 : String := "VersefoldModel"
def TX9 : u_T := fun k => match k with
  | _ => ("", "", "", false)
def tyX9 : Nat → FieldType := fun k => match k with
  | _ => .int
abbrev wsX90 : List Cond := u_ws RX9 TX9 0
theorem nmX9 : ∀ a, a < 0 → ∀ b, b < 0 → a ≠ b → (TX9 a).2.1 ≠ (TX9 b).2.1 := by decide +kernel
theorem tyX9_ok : ∀ k, k < 0 → parseFieldDescriptor (TX9 k).2.2.1 = some (tyX9 k) := by decide +kernel
def RJx145de : String := "java/io/Serializable"
def TJx145de : u_T := fun k => match k with
  | _ => ("", "", "", false)
def tyJx145de : Nat → FieldType := fun k => match k with
  | _ => .int
abbrev wsJx145de0 : List Cond := u_ws RJx145de TJx145de 0
theorem nmJx145de : ∀ a, a < 0 → ∀ b, b < 0 → a ≠ b → (TJx145de a).2.1 ≠ (TJx145de b).2.1 := by decide +kernel
theorem tyJx145de_ok : ∀ k, k < 0 → parseFieldDescriptor (TJx145de k).2.2.1 = some (tyJx145de k) := by decide +kernel
def RJx00060 : String := "java/lang/ArrayIndexOutOfBoundsException"
def TJx00060 : u_T := fun k => match k with
  | 0 => ("java/lang/Throwable", "backtrace", "Ljava/lang/Object;", false)
  | 1 => ("java/lang/Throwable", "detailMessage", "Ljava/lang/String;", false)
  | 2 => ("java/lang/Throwable", "cause", "Ljava/lang/Throwable;", false)
  | 3 => ("java/lang/Throwable", "stackTrace", "[Ljava/lang/StackTraceElement;", false)
  | 4 => ("java/lang/Throwable", "depth", "I", false)
  | _ => ("java/lang/Throwable", "suppressedExceptions", "Ljava/util/List;", false)
def tyJx00060 : Nat → FieldType := fun k => match k with
  | 0 => .object "java/lang/Object"
  | 1 => .object "java/lang/String"
  | 2 => .object "java/lang/Throwable"
  | 3 => .array (.object "java/lang/StackTraceElement")
  | 4 => .int
  | _ => .object "java/util/List"
abbrev wsJx000600 : List Cond := u_ws RJx00060 TJx00060 6
theorem nmJx00060 : ∀ a, a < 6 → ∀ b, b < 6 → a ≠ b → (TJx00060 a).2.1 ≠ (TJx00060 b).2.1 := by decide +kernel
theorem tyJx00060_ok : ∀ k, k < 6 → parseFieldDescriptor (TJx00060 k).2.2.1 = some (tyJx00060 k) := by decide +kernel
abbrev cJx00060_init_a7421 : ByteArray := prog_14_method_2_code
def yJx00060_init_a7421 : MethodName := ⟨RJx00060, "<init>", "(Ljava/lang/String;)V"⟩
def RJ13 : String := "java/lang/Long"
def TJ13 : u_T := fun k => match k with
  | _ => ("", "", "", false)
def tyJ13 : Nat → FieldType := fun k => match k with
  | _ => .int
abbrev wsJ130 : List Cond := u_ws RJ13 TJ13 0
theorem nmJ13 : ∀ a, a < 0 → ∀ b, b < 0 → a ≠ b → (TJ13 a).2.1 ≠ (TJ13 b).2.1 := by decide +kernel
theorem tyJ13_ok : ∀ k, k < 0 → parseFieldDescriptor (TJ13 k).2.2.1 = some (tyJ13 k) := by decide +kernel
abbrev cJ13_bitCount_95d88 : ByteArray := prog_19_method_50_code
def yJ13_bitCount_95d88 : MethodName := ⟨RJ13, "bitCount", "(J)I"⟩
def RJ9 : String := "java/lang/Math"
def TJ9 : u_T := fun k => match k with
  | _ => ("", "", "", false)
def tyJ9 : Nat → FieldType := fun k => match k with
  | _ => .int
abbrev wsJ90 : List Cond := u_ws RJ9 TJ9 0
theorem nmJ9 : ∀ a, a < 0 → ∀ b, b < 0 → a ≠ b → (TJ9 a).2.1 ≠ (TJ9 b).2.1 := by decide +kernel
theorem tyJ9_ok : ∀ k, k < 0 → parseFieldDescriptor (TJ9 k).2.2.1 = some (tyJ9 k) := by decide +kernel
abbrev cJ9_max_7cf53 : ByteArray := prog_20_method_65_code
def yJ9_max_7cf53 : MethodName := ⟨RJ9, "max", "(II)I"⟩
def RJ0 : String := "java/lang/String"
def TJ0 : u_T := fun k => match k with
  | 0 => ("java/lang/String", "value", "[B", true)
  | _ => ("java/lang/String", "coder", "B", true)
def tyJ0 : Nat → FieldType := fun k => match k with
  | 0 => .array .byte
  | _ => .byte
abbrev wsJ00 : List Cond := u_ws RJ0 TJ0 2
theorem nmJ0 : ∀ a, a < 2 → ∀ b, b < 2 → a ≠ b → (TJ0 a).2.1 ≠ (TJ0 b).2.1 := by decide +kernel
theorem tyJ0_ok : ∀ k, k < 2 → parseFieldDescriptor (TJ0 k).2.2.1 = some (tyJ0 k) := by decide +kernel
def RJ10 : String := "java/lang/System"
def TJ10 : u_T := fun k => match k with
  | _ => ("", "", "", false)
def tyJ10 : Nat → FieldType := fun k => match k with
  | _ => .int
abbrev wsJ100 : List Cond := u_ws RJ10 TJ10 0
theorem nmJ10 : ∀ a, a < 0 → ∀ b, b < 0 → a ≠ b → (TJ10 a).2.1 ≠ (TJ10 b).2.1 := by decide +kernel
theorem tyJ10_ok : ∀ k, k < 0 → parseFieldDescriptor (TJ10 k).2.2.1 = some (tyJ10 k) := by decide +kernel
def RJ7 : String := "java/util/Arrays"
def TJ7 : u_T := fun k => match k with
  | _ => ("", "", "", false)
def tyJ7 : Nat → FieldType := fun k => match k with
  | _ => .int
abbrev wsJ70 : List Cond := u_ws RJ7 TJ7 0
theorem nmJ7 : ∀ a, a < 0 → ∀ b, b < 0 → a ≠ b → (TJ7 a).2.1 ≠ (TJ7 b).2.1 := by decide +kernel
theorem tyJ7_ok : ∀ k, k < 0 → parseFieldDescriptor (TJ7 k).2.2.1 = some (tyJ7 k) := by decide +kernel
abbrev cJ7_fill_d0a16 : ByteArray := prog_26_method_101_code
def yJ7_fill_d0a16 : MethodName := ⟨RJ7, "fill", "([JJ)V"⟩
abbrev cJ7_fill_53178 : ByteArray := prog_26_method_103_code
def yJ7_fill_53178 : MethodName := ⟨RJ7, "fill", "([II)V"⟩
def RL : String := "VersefoldLaw"
abbrev cL_cell : ByteArray := method_2_code
def yL_cell : MethodName := ⟨RL, "cell", "([II)I"⟩
abbrev cL_tell : ByteArray := method_3_code
def yL_tell : MethodName := ⟨RL, "tell", "(LVersefold;IIII)I"⟩
abbrev cL_untell : ByteArray := method_4_code
def yL_untell : MethodName := ⟨RL, "untell", "(LVersefold;IIII)I"⟩
abbrev cL_addRule : ByteArray := method_5_code
def yL_addRule : MethodName := ⟨RL, "addRule", "(LVersefold;IIIIII)I"⟩
abbrev cL_addCondition : ByteArray := method_6_code
def yL_addCondition : MethodName := ⟨RL, "addCondition", "(LVersefold;IIIIZ)I"⟩
abbrev cL_turn : ByteArray := method_7_code
def yL_turn : MethodName := ⟨RL, "turn", "(LVersefold;IIZ)I"⟩
abbrev cL_layer : ByteArray := method_8_code
def yL_layer : MethodName := ⟨RL, "layer", "(LVersefold;II)I"⟩
abbrev cL_knowing : ByteArray := method_9_code
def yL_knowing : MethodName := ⟨RL, "knowing", "(LVersefold;I)I"⟩
abbrev cL_count : ByteArray := method_10_code
def yL_count : MethodName := ⟨RL, "count", "(LVersefold;IIII)I"⟩
abbrev cL_rank : ByteArray := method_11_code
def yL_rank : MethodName := ⟨RL, "rank", "(LVersefold;IIII)I"⟩
abbrev cL_derivedShare : ByteArray := method_12_code
def yL_derivedShare : MethodName := ⟨RL, "derivedShare", "(LVersefold;II)F"⟩
abbrev cL_meanRank : ByteArray := method_13_code
def yL_meanRank : MethodName := ⟨RL, "meanRank", "(LVersefold;II)D"⟩
abbrev cL_holds : ByteArray := method_14_code
def yL_holds : MethodName := ⟨RL, "holds", "(LVersefold;IIII)I"⟩
abbrev cL_holdsAnew : ByteArray := method_15_code
def yL_holdsAnew : MethodName := ⟨RL, "holdsAnew", "(LVersefold;IIII)I"⟩
abbrev cL_isOn : ByteArray := method_16_code
def yL_isOn : MethodName := ⟨RL, "isOn", "(LVersefold;III)I"⟩
abbrev cL_setUnique : ByteArray := method_17_code
def yL_setUnique : MethodName := ⟨RL, "setUnique", "(LVersefold;IZ)I"⟩
abbrev cL_in : ByteArray := method_18_code
def yL_in : MethodName := ⟨RL, "in", "([III)I"⟩
abbrev cL_at : ByteArray := method_19_code
def yL_at : MethodName := ⟨RL, "at", "(II)I"⟩
abbrev cL_tells : ByteArray := method_20_code
def yL_tells : MethodName := ⟨RL, "tells", "([IIIIIII)V"⟩
abbrev cL_isTold : ByteArray := method_21_code
def yL_isTold : MethodName := ⟨RL, "isTold", "([IIIII)Z"⟩
abbrev cL_isRuled : ByteArray := method_22_code
def yL_isRuled : MethodName := ⟨RL, "isRuled", "([IIII)Z"⟩
abbrev cL_layers : ByteArray := method_23_code
def yL_layers : MethodName := ⟨RL, "layers", "([I[Z)[I"⟩
abbrev cL_rules : ByteArray := method_24_code
def yL_rules : MethodName := ⟨RL, "rules", "([III)[Z"⟩
abbrev cL_fact : ByteArray := method_25_code
def yL_fact : MethodName := ⟨RL, "fact", "([II[I)I"⟩
abbrev cL_ranks : ByteArray := method_26_code
def yL_ranks : MethodName := ⟨RL, "ranks", "([IIII)[I"⟩
abbrev cL_isUsed : ByteArray := method_27_code
def yL_isUsed : MethodName := ⟨RL, "isUsed", "([II[I)Z"⟩
abbrev cL_anyFact : ByteArray := method_28_code
def yL_anyFact : MethodName := ⟨RL, "anyFact", "([II)I"⟩
abbrev cL_isBound : ByteArray := method_29_code
def yL_isBound : MethodName := ⟨RL, "isBound", "([III)Z"⟩
abbrev cL_canTurn : ByteArray := method_30_code
def yL_canTurn : MethodName := ⟨RL, "canTurn", "([III)Z"⟩
abbrev cL_isRule : ByteArray := method_31_code
def yL_isRule : MethodName := ⟨RL, "isRule", "(LVersefold;[I[II)Z"⟩
abbrev cL_isTelling : ByteArray := method_32_code
def yL_isTelling : MethodName := ⟨RL, "isTelling", "(LVersefold;[I[III)Z"⟩
abbrev cL_isBegun : ByteArray := method_33_code
def yL_isBegun : MethodName := ⟨RL, "isBegun", "(LVersefold;[I[I)Z"⟩
abbrev cL_areRanks : ByteArray := method_34_code
def yL_areRanks : MethodName := ⟨RL, "areRanks", "(LVersefold;[IIII[II)Z"⟩
abbrev cL_areFigures : ByteArray := method_35_code
def yL_areFigures : MethodName := ⟨RL, "areFigures", "(LVersefold;[II)Z"⟩
abbrev cL_law : ByteArray := code
def yL_law : MethodName := ⟨RL, "law", "([I)Z"⟩
abbrev vwCl : List vw_C := [(RJ0, TJ0, 2), (RJx00060, TJx00060, 6), (RX0, TX0, 7), (RX1, TX1, 10), (RX2, TX2, 4), (RX3, TX3, 8), (RX4, TX4, 6), (RX5, TX5, 3), (RX6, TX6, 3), (RX7, TX7, 8), (RX8, TX8, 9)]
