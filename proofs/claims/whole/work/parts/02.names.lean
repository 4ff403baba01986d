/-! NAMES: classes, fields, methods: out of the printed names -/
def RX0 : String := "QuoteMind$1"
def TX0 : u_T := fun k => match k with
  | _ => ("", "", "", false)
def tyX0 : Nat → FieldType := fun k => match k with
  | _ => .int
theorem nmX0 : ∀ a, a < 0 → ∀ b, b < 0 → a ≠ b → (TX0 a).2.1 ≠ (TX0 b).2.1 := by decide +kernel
theorem tyX0_ok : ∀ k, k < 0 → parseFieldDescriptor (TX0 k).2.2.1 = some (tyX0 k) := by decide +kernel
def RX1 : String := "QuoteMind$Backward"
def TX1 : u_T := fun k => match k with
  | 0 => ("QuoteMind$Backward", "chances", "[[I", true)
  | 1 => ("QuoteMind$Backward", "values", "[[J", true)
  | 2 => ("QuoteMind$Backward", "bestBids", "[[I", true)
  | 3 => ("QuoteMind$Backward", "bestAsks", "[[I", true)
  | 4 => ("QuoteMind$Backward", "worths", "[[J", true)
  | 5 => ("QuoteMind$Backward", "meetings", "[[D", true)
  | _ => ("QuoteMind$Backward", "limit", "I", false)
def tyX1 : Nat → FieldType := fun k => match k with
  | 0 => .array (.array .int)
  | 1 => .array (.array .long)
  | 2 => .array (.array .int)
  | 3 => .array (.array .int)
  | 4 => .array (.array .long)
  | 5 => .array (.array .double)
  | _ => .int
theorem nmX1 : ∀ a, a < 7 → ∀ b, b < 7 → a ≠ b → (TX1 a).2.1 ≠ (TX1 b).2.1 := by decide +kernel
theorem tyX1_ok : ∀ k, k < 7 → parseFieldDescriptor (TX1 k).2.2.1 = some (tyX1 k) := by decide +kernel
abbrev cX1_init : ByteArray := prog_3_method_1_code
def yX1_init : MethodName := ⟨RX1, "<init>", "()V"⟩
abbrev cX1_look : ByteArray := prog_3_method_2_code
def yX1_look : MethodName := ⟨RX1, "look", "(LQuoteMind$Market;I)V"⟩
abbrev cX1_solve : ByteArray := prog_3_method_3_code
def yX1_solve : MethodName := ⟨RX1, "solve", "(III)V"⟩
abbrev cX1_weigh : ByteArray := prog_3_method_4_code
def yX1_weigh : MethodName := ⟨RX1, "weigh", "([[III)V"⟩
abbrev cX1_meet : ByteArray := prog_3_method_5_code
def yX1_meet : MethodName := ⟨RX1, "meet", "(I)V"⟩
abbrev cX1_valueOf : ByteArray := prog_3_method_6_code
def yX1_valueOf : MethodName := ⟨RX1, "valueOf", "(II)J"⟩
abbrev cX1_worthOf : ByteArray := prog_3_method_7_code
def yX1_worthOf : MethodName := ⟨RX1, "worthOf", "(II)J"⟩
abbrev cX1_meetingOf : ByteArray := prog_3_method_8_code
def yX1_meetingOf : MethodName := ⟨RX1, "meetingOf", "(II)D"⟩
abbrev cX1_bestOf : ByteArray := prog_3_method_9_code
def yX1_bestOf : MethodName := ⟨RX1, "bestOf", "(III)I"⟩
abbrev cX1_finish : ByteArray := prog_3_method_10_code
def yX1_finish : MethodName := ⟨RX1, "finish", "([JI)V"⟩
abbrev cX1_held : ByteArray := prog_3_method_11_code
def yX1_held : MethodName := ⟨RX1, "held", "([JI)J"⟩
abbrev cX1_choose : ByteArray := prog_3_method_12_code
def yX1_choose : MethodName := ⟨RX1, "choose", "(II)V"⟩
abbrev cX1_mean : ByteArray := prog_3_method_13_code
def yX1_mean : MethodName := ⟨RX1, "mean", "(IIJJJ)J"⟩
abbrev cX1_chanceToMeet : ByteArray := prog_3_method_14_code
def yX1_chanceToMeet : MethodName := ⟨RX1, "chanceToMeet", "(II)D"⟩
def RX2 : String := "QuoteMind$Market"
def TX2 : u_T := fun k => match k with
  | 0 => ("QuoteMind$Market", "settings", "[I", true)
  | 1 => ("QuoteMind$Market", "odds", "[[I", true)
  | 2 => ("QuoteMind$Market", "rivals", "[LQuoteMind$Rival;", true)
  | 3 => ("QuoteMind$Market", "rivalCount", "I", false)
  | 4 => ("QuoteMind$Market", "decks", "[[I", true)
  | _ => ("QuoteMind$Market", "street", "I", false)
def tyX2 : Nat → FieldType := fun k => match k with
  | 0 => .array .int
  | 1 => .array (.array .int)
  | 2 => .array (.object "QuoteMind$Rival")
  | 3 => .int
  | 4 => .array (.array .int)
  | _ => .int
theorem nmX2 : ∀ a, a < 6 → ∀ b, b < 6 → a ≠ b → (TX2 a).2.1 ≠ (TX2 b).2.1 := by decide +kernel
theorem tyX2_ok : ∀ k, k < 6 → parseFieldDescriptor (TX2 k).2.2.1 = some (tyX2 k) := by decide +kernel
abbrev cX2_init : ByteArray := prog_4_method_1_code
def yX2_init : MethodName := ⟨RX2, "<init>", "()V"⟩
abbrev cX2_mayBe : ByteArray := prog_4_method_2_code
def yX2_mayBe : MethodName := ⟨RX2, "mayBe", "(II)Z"⟩
abbrev cX2_addRival : ByteArray := prog_4_method_3_code
def yX2_addRival : MethodName := ⟨RX2, "addRival", "(III)I"⟩
abbrev cX2_rivalOf : ByteArray := prog_4_method_4_code
def yX2_rivalOf : MethodName := ⟨RX2, "rivalOf", "(I)LQuoteMind$Rival;"⟩
abbrev cX2_holderOf : ByteArray := prog_4_method_5_code
def yX2_holderOf : MethodName := ⟨RX2, "holderOf", "(II)I"⟩
abbrev cX2_takes : ByteArray := prog_4_method_6_code
def yX2_takes : MethodName := ⟨RX2, "takes", "(II)Z"⟩
abbrev cX2_copyDeck : ByteArray := prog_4_method_7_code
def yX2_copyDeck : MethodName := ⟨RX2, "copyDeck", "(II)I"⟩
abbrev cX2_likely : ByteArray := prog_4_method_8_code
def yX2_likely : MethodName := ⟨RX2, "likely", "(III)I"⟩
abbrev cX2_besideRival : ByteArray := prog_4_method_9_code
def yX2_besideRival : MethodName := ⟨RX2, "besideRival", "(III)I"⟩
abbrev cX2_becomes : ByteArray := prog_4_method_10_code
def yX2_becomes : MethodName := ⟨RX2, "becomes", "(LQuoteMind$Market;)V"⟩
def RX3 : String := "QuoteMind$Notes"
def TX3 : u_T := fun k => match k with
  | 0 => ("QuoteMind$Notes", "seenStocks", "[I", true)
  | 1 => ("QuoteMind$Notes", "seenBids", "[I", true)
  | 2 => ("QuoteMind$Notes", "seenAsks", "[I", true)
  | 3 => ("QuoteMind$Notes", "seenCount", "I", false)
  | 4 => ("QuoteMind$Notes", "eventKinds", "[I", true)
  | 5 => ("QuoteMind$Notes", "eventNumbers", "[I", true)
  | _ => ("QuoteMind$Notes", "eventCount", "I", false)
def tyX3 : Nat → FieldType := fun k => match k with
  | 0 => .array .int
  | 1 => .array .int
  | 2 => .array .int
  | 3 => .int
  | 4 => .array .int
  | 5 => .array .int
  | _ => .int
theorem nmX3 : ∀ a, a < 7 → ∀ b, b < 7 → a ≠ b → (TX3 a).2.1 ≠ (TX3 b).2.1 := by decide +kernel
theorem tyX3_ok : ∀ k, k < 7 → parseFieldDescriptor (TX3 k).2.2.1 = some (tyX3 k) := by decide +kernel
abbrev cX3_init : ByteArray := prog_5_method_1_code
def yX3_init : MethodName := ⟨RX3, "<init>", "()V"⟩
abbrev cX3_settingOf : ByteArray := prog_5_method_2_code
def yX3_settingOf : MethodName := ⟨RX3, "settingOf", "(I)I"⟩
abbrev cX3_addSeen : ByteArray := prog_5_method_3_code
def yX3_addSeen : MethodName := ⟨RX3, "addSeen", "(III)I"⟩
abbrev cX3_addEvent : ByteArray := prog_5_method_4_code
def yX3_addEvent : MethodName := ⟨RX3, "addEvent", "(II)I"⟩
abbrev cX3_lastTold : ByteArray := prog_5_method_5_code
def yX3_lastTold : MethodName := ⟨RX3, "lastTold", "(II)I"⟩
abbrev cX3_placesEmptied : ByteArray := prog_5_method_6_code
def yX3_placesEmptied : MethodName := ⟨RX3, "placesEmptied", "()I"⟩
abbrev cX3_becomes : ByteArray := prog_5_method_7_code
def yX3_becomes : MethodName := ⟨RX3, "becomes", "(LQuoteMind$Notes;)V"⟩
def RX4 : String := "QuoteMind$OrderText"
def TX4 : u_T := fun k => match k with
  | 0 => ("QuoteMind$OrderText", "signs", "[B", true)
  | 1 => ("QuoteMind$OrderText", "length", "I", false)
  | 2 => ("QuoteMind$OrderText", "cursor", "I", false)
  | 3 => ("QuoteMind$OrderText", "words", "[LQuoteMind$Word;", true)
  | 4 => ("QuoteMind$OrderText", "numbers", "[I", true)
  | _ => ("QuoteMind$OrderText", "orderCount", "I", false)
def tyX4 : Nat → FieldType := fun k => match k with
  | 0 => .array .byte
  | 1 => .int
  | 2 => .int
  | 3 => .array (.object "QuoteMind$Word")
  | 4 => .array .int
  | _ => .int
theorem nmX4 : ∀ a, a < 6 → ∀ b, b < 6 → a ≠ b → (TX4 a).2.1 ≠ (TX4 b).2.1 := by decide +kernel
theorem tyX4_ok : ∀ k, k < 6 → parseFieldDescriptor (TX4 k).2.2.1 = some (tyX4 k) := by decide +kernel
abbrev cX4_init : ByteArray := prog_6_method_1_code
def yX4_init : MethodName := ⟨RX4, "<init>", "()V"⟩
abbrev cX4_addSign : ByteArray := prog_6_method_2_code
def yX4_addSign : MethodName := ⟨RX4, "addSign", "(I)I"⟩
abbrev cX4_empty : ByteArray := prog_6_method_3_code
def yX4_empty : MethodName := ⟨RX4, "empty", "()V"⟩
abbrev cX4_faultOfAll : ByteArray := prog_6_method_4_code
def yX4_faultOfAll : MethodName := ⟨RX4, "faultOfAll", "()I"⟩
abbrev cX4_faultOfOrder : ByteArray := prog_6_method_5_code
def yX4_faultOfOrder : MethodName := ⟨RX4, "faultOfOrder", "()I"⟩
abbrev cX4_endOfRun : ByteArray := prog_6_method_6_code
def yX4_endOfRun : MethodName := ⟨RX4, "endOfRun", "(ICCI)I"⟩
abbrev cX4_numberAt : ByteArray := prog_6_method_7_code
def yX4_numberAt : MethodName := ⟨RX4, "numberAt", "(II)I"⟩
def RX5 : String := "QuoteMind$Rival"
def TX5 : u_T := fun k => match k with
  | 0 => ("QuoteMind$Rival", "kind", "I", true)
  | 1 => ("QuoteMind$Rival", "x", "I", true)
  | _ => ("QuoteMind$Rival", "y", "I", true)
def tyX5 : Nat → FieldType := fun k => match k with
  | 0 => .int
  | 1 => .int
  | _ => .int
theorem nmX5 : ∀ a, a < 3 → ∀ b, b < 3 → a ≠ b → (TX5 a).2.1 ≠ (TX5 b).2.1 := by decide +kernel
theorem tyX5_ok : ∀ k, k < 3 → parseFieldDescriptor (TX5 k).2.2.1 = some (tyX5 k) := by decide +kernel
abbrev cX5_init : ByteArray := prog_7_method_1_code
def yX5_init : MethodName := ⟨RX5, "<init>", "(III)V"⟩
abbrev cX5_isKeen : ByteArray := prog_7_method_2_code
def yX5_isKeen : MethodName := ⟨RX5, "isKeen", "()Z"⟩
abbrev cX5_isShy : ByteArray := prog_7_method_3_code
def yX5_isShy : MethodName := ⟨RX5, "isShy", "()Z"⟩
abbrev cX5_distance : ByteArray := prog_7_method_4_code
def yX5_distance : MethodName := ⟨RX5, "distance", "(II)I"⟩
abbrev cX5_keenDistance : ByteArray := prog_7_method_5_code
def yX5_keenDistance : MethodName := ⟨RX5, "keenDistance", "(I)I"⟩
def RX6 : String := "QuoteMind$State"
def TX6 : u_T := fun k => match k with
  | 0 => ("QuoteMind$State", "market", "LQuoteMind$Market;", true)
  | 1 => ("QuoteMind$State", "truth", "LQuoteMind$Truth;", true)
  | 2 => ("QuoteMind$State", "notes", "LQuoteMind$Notes;", true)
  | _ => ("QuoteMind$State", "rule", "[[I", true)
def tyX6 : Nat → FieldType := fun k => match k with
  | 0 => .object "QuoteMind$Market"
  | 1 => .object "QuoteMind$Truth"
  | 2 => .object "QuoteMind$Notes"
  | _ => .array (.array .int)
theorem nmX6 : ∀ a, a < 4 → ∀ b, b < 4 → a ≠ b → (TX6 a).2.1 ≠ (TX6 b).2.1 := by decide +kernel
theorem tyX6_ok : ∀ k, k < 4 → parseFieldDescriptor (TX6 k).2.2.1 = some (tyX6 k) := by decide +kernel
abbrev cX6_init : ByteArray := prog_8_method_1_code
def yX6_init : MethodName := ⟨RX6, "<init>", "()V"⟩
abbrev cX6_pairAsOne : ByteArray := prog_8_method_2_code
def yX6_pairAsOne : MethodName := ⟨RX6, "pairAsOne", "(II)I"⟩
abbrev cX6_changeRule : ByteArray := prog_8_method_3_code
def yX6_changeRule : MethodName := ⟨RX6, "changeRule", "(III)I"⟩
abbrev cX6_becomes : ByteArray := prog_8_method_4_code
def yX6_becomes : MethodName := ⟨RX6, "becomes", "(LQuoteMind$State;)V"⟩
def RX7 : String := "QuoteMind$Tape"
def TX7 : u_T := fun k => match k with
  | 0 => ("QuoteMind$Tape", "items", "[J", true)
  | 1 => ("QuoteMind$Tape", "sort", "I", false)
  | _ => ("QuoteMind$Tape", "length", "I", false)
def tyX7 : Nat → FieldType := fun k => match k with
  | 0 => .array .long
  | 1 => .int
  | _ => .int
theorem nmX7 : ∀ a, a < 3 → ∀ b, b < 3 → a ≠ b → (TX7 a).2.1 ≠ (TX7 b).2.1 := by decide +kernel
theorem tyX7_ok : ∀ k, k < 3 → parseFieldDescriptor (TX7 k).2.2.1 = some (tyX7 k) := by decide +kernel
abbrev cX7_init : ByteArray := prog_9_method_1_code
def yX7_init : MethodName := ⟨RX7, "<init>", "()V"⟩
abbrev cX7_becomeRow : ByteArray := prog_9_method_2_code
def yX7_becomeRow : MethodName := ⟨RX7, "becomeRow", "(II)V"⟩
abbrev cX7_narrowed : ByteArray := prog_9_method_3_code
def yX7_narrowed : MethodName := ⟨RX7, "narrowed", "(J)J"⟩
abbrev cX7_hasRun : ByteArray := prog_9_method_4_code
def yX7_hasRun : MethodName := ⟨RX7, "hasRun", "(II)Z"⟩
def RX8 : String := "QuoteMind$Truth"
def TX8 : u_T := fun k => match k with
  | 0 => ("QuoteMind$Truth", "quotes", "[I", true)
  | 1 => ("QuoteMind$Truth", "stock", "I", false)
  | 2 => ("QuoteMind$Truth", "cash", "I", false)
  | 3 => ("QuoteMind$Truth", "middle", "D", false)
  | _ => ("QuoteMind$Truth", "spread", "D", false)
def tyX8 : Nat → FieldType := fun k => match k with
  | 0 => .array .int
  | 1 => .int
  | 2 => .int
  | 3 => .double
  | _ => .double
theorem nmX8 : ∀ a, a < 5 → ∀ b, b < 5 → a ≠ b → (TX8 a).2.1 ≠ (TX8 b).2.1 := by decide +kernel
theorem tyX8_ok : ∀ k, k < 5 → parseFieldDescriptor (TX8 k).2.2.1 = some (tyX8 k) := by decide +kernel
abbrev cX8_init : ByteArray := prog_10_method_1_code
def yX8_init : MethodName := ⟨RX8, "<init>", "()V"⟩
abbrev cX8_deal : ByteArray := prog_10_method_2_code
def yX8_deal : MethodName := ⟨RX8, "deal", "(IIII)I"⟩
abbrev cX8_isInt : ByteArray := prog_10_method_3_code
def yX8_isInt : MethodName := ⟨RX8, "isInt", "(J)Z"⟩
abbrev cX8_smooth : ByteArray := prog_10_method_4_code
def yX8_smooth : MethodName := ⟨RX8, "smooth", "(D)V"⟩
abbrev cX8_becomes : ByteArray := prog_10_method_5_code
def yX8_becomes : MethodName := ⟨RX8, "becomes", "(LQuoteMind$Truth;)V"⟩
def RX9 : String := "QuoteMind$Word"
def TX9 : u_T := fun k => match k with
  | _ => ("", "", "", false)
def tyX9 : Nat → FieldType := fun k => match k with
  | _ => .int
theorem nmX9 : ∀ a, a < 0 → ∀ b, b < 0 → a ≠ b → (TX9 a).2.1 ≠ (TX9 b).2.1 := by decide +kernel
theorem tyX9_ok : ∀ k, k < 0 → parseFieldDescriptor (TX9 k).2.2.1 = some (tyX9 k) := by decide +kernel
abbrev cX9_of : ByteArray := prog_11_method_4_code
def yX9_of : MethodName := ⟨RX9, "of", "([BII)LQuoteMind$Word;"⟩
abbrev cX9_isAt : ByteArray := prog_11_method_5_code
def yX9_isAt : MethodName := ⟨RX9, "isAt", "([BII)Z"⟩
abbrev cX9_hasDigits : ByteArray := prog_11_method_6_code
def yX9_hasDigits : MethodName := ⟨RX9, "hasDigits", "(I)Z"⟩
def RX10 : String := "QuoteMind"
def TX10 : u_T := fun k => match k with
  | 0 => ("QuoteMind", "now", "LQuoteMind$State;", true)
  | 1 => ("QuoteMind", "kept", "LQuoteMind$State;", true)
  | 2 => ("QuoteMind", "isKept", "Z", false)
  | 3 => ("QuoteMind", "backward", "LQuoteMind$Backward;", true)
  | 4 => ("QuoteMind", "text", "LQuoteMind$OrderText;", true)
  | 5 => ("QuoteMind", "tapes", "[LQuoteMind$Tape;", true)
  | _ => ("QuoteMind", "slip", "Ljava/lang/StringBuilder;", true)
def tyX10 : Nat → FieldType := fun k => match k with
  | 0 => .object "QuoteMind$State"
  | 1 => .object "QuoteMind$State"
  | 2 => .boolean
  | 3 => .object "QuoteMind$Backward"
  | 4 => .object "QuoteMind$OrderText"
  | 5 => .array (.object "QuoteMind$Tape")
  | _ => .object "java/lang/StringBuilder"
theorem nmX10 : ∀ a, a < 7 → ∀ b, b < 7 → a ≠ b → (TX10 a).2.1 ≠ (TX10 b).2.1 := by decide +kernel
theorem tyX10_ok : ∀ k, k < 7 → parseFieldDescriptor (TX10 k).2.2.1 = some (tyX10 k) := by decide +kernel
abbrev cX10_init : ByteArray := prog_1_method_1_code
def yX10_init : MethodName := ⟨RX10, "<init>", "()V"⟩
abbrev cX10_set : ByteArray := prog_1_method_2_code
def yX10_set : MethodName := ⟨RX10, "set", "(II)I"⟩
abbrev cX10_told : ByteArray := prog_1_method_3_code
def yX10_told : MethodName := ⟨RX10, "told", "(I)J"⟩
abbrev cX10_odds : ByteArray := prog_1_method_4_code
def yX10_odds : MethodName := ⟨RX10, "odds", "(III)I"⟩
abbrev cX10_rival : ByteArray := prog_1_method_5_code
def yX10_rival : MethodName := ⟨RX10, "rival", "(III)I"⟩
abbrev cX10_theirs : ByteArray := prog_1_method_6_code
def yX10_theirs : MethodName := ⟨RX10, "theirs", "(III)I"⟩
abbrev cX10_lay : ByteArray := prog_1_method_7_code
def yX10_lay : MethodName := ⟨RX10, "lay", "(III)I"⟩
abbrev cX10_at : ByteArray := prog_1_method_8_code
def yX10_at : MethodName := ⟨RX10, "at", "(II)I"⟩
abbrev cX10_street : ByteArray := prog_1_method_9_code
def yX10_street : MethodName := ⟨RX10, "street", "(I)I"⟩
abbrev cX10_copy : ByteArray := prog_1_method_10_code
def yX10_copy : MethodName := ⟨RX10, "copy", "(II)I"⟩
abbrev cX10_chance : ByteArray := prog_1_method_11_code
def yX10_chance : MethodName := ⟨RX10, "chance", "(II)I"⟩
abbrev cX10_value : ByteArray := prog_1_method_12_code
def yX10_value : MethodName := ⟨RX10, "value", "(II)J"⟩
abbrev cX10_best : ByteArray := prog_1_method_13_code
def yX10_best : MethodName := ⟨RX10, "best", "(III)I"⟩
abbrev cX10_rule : ByteArray := prog_1_method_14_code
def yX10_rule : MethodName := ⟨RX10, "rule", "(III)I"⟩
abbrev cX10_adopt : ByteArray := prog_1_method_15_code
def yX10_adopt : MethodName := ⟨RX10, "adopt", "(I)I"⟩
abbrev cX10_worth : ByteArray := prog_1_method_16_code
def yX10_worth : MethodName := ⟨RX10, "worth", "(III)J"⟩
abbrev cX10_ruled : ByteArray := prog_1_method_17_code
def yX10_ruled : MethodName := ⟨RX10, "ruled", "(II)I"⟩
abbrev cX10_reserve : ByteArray := prog_1_method_18_code
def yX10_reserve : MethodName := ⟨RX10, "reserve", "(III)I"⟩
abbrev cX10_meeting : ByteArray := prog_1_method_19_code
def yX10_meeting : MethodName := ⟨RX10, "meeting", "(II)J"⟩
abbrev cX10_middle : ByteArray := prog_1_method_20_code
def yX10_middle : MethodName := ⟨RX10, "middle", "(I)J"⟩
abbrev cX10_quote : ByteArray := prog_1_method_21_code
def yX10_quote : MethodName := ⟨RX10, "quote", "(II)I"⟩
abbrev cX10_trade : ByteArray := prog_1_method_22_code
def yX10_trade : MethodName := ⟨RX10, "trade", "(I)I"⟩
abbrev cX10_feed : ByteArray := prog_1_method_23_code
def yX10_feed : MethodName := ⟨RX10, "feed", "(I)I"⟩
abbrev cX10_read : ByteArray := prog_1_method_24_code
def yX10_read : MethodName := ⟨RX10, "read", "()I"⟩
abbrev cX10_ticket : ByteArray := prog_1_method_25_code
def yX10_ticket : MethodName := ⟨RX10, "ticket", "(I)I"⟩
abbrev cX10_see : ByteArray := prog_1_method_26_code
def yX10_see : MethodName := ⟨RX10, "see", "(III)I"⟩
abbrev cX10_fits : ByteArray := prog_1_method_27_code
def yX10_fits : MethodName := ⟨RX10, "fits", "(I)I"⟩
abbrev cX10_event : ByteArray := prog_1_method_28_code
def yX10_event : MethodName := ⟨RX10, "event", "(II)I"⟩
abbrev cX10_after : ByteArray := prog_1_method_29_code
def yX10_after : MethodName := ⟨RX10, "after", "()J"⟩
abbrev cX10_taken : ByteArray := prog_1_method_30_code
def yX10_taken : MethodName := ⟨RX10, "taken", "(III)J"⟩
abbrev cX10_judge : ByteArray := prog_1_method_31_code
def yX10_judge : MethodName := ⟨RX10, "judge", "(III)I"⟩
abbrev cX10_image : ByteArray := prog_1_method_32_code
def yX10_image : MethodName := ⟨RX10, "image", "()I"⟩
abbrev cX10_undo : ByteArray := prog_1_method_33_code
def yX10_undo : MethodName := ⟨RX10, "undo", "()I"⟩
abbrev cX10_count : ByteArray := prog_1_method_34_code
def yX10_count : MethodName := ⟨RX10, "count", "(I)I"⟩
abbrev cX10_tape : ByteArray := prog_1_method_35_code
def yX10_tape : MethodName := ⟨RX10, "tape", "(III)I"⟩
abbrev cX10_item : ByteArray := prog_1_method_36_code
def yX10_item : MethodName := ⟨RX10, "item", "(IIJ)I"⟩
abbrev cX10_peek : ByteArray := prog_1_method_37_code
def yX10_peek : MethodName := ⟨RX10, "peek", "(II)J"⟩
abbrev cX10_shift : ByteArray := prog_1_method_38_code
def yX10_shift : MethodName := ⟨RX10, "shift", "(IIIII)I"⟩
abbrev cX10_within : ByteArray := prog_1_method_39_code
def yX10_within : MethodName := ⟨RX10, "within", "(III)Z"⟩
abbrev cX10_isSide : ByteArray := prog_1_method_40_code
def yX10_isSide : MethodName := ⟨RX10, "isSide", "(I)Z"⟩
abbrev cX10_isDistance : ByteArray := prog_1_method_41_code
def yX10_isDistance : MethodName := ⟨RX10, "isDistance", "(I)Z"⟩
abbrev cX10_isQuote : ByteArray := prog_1_method_42_code
def yX10_isQuote : MethodName := ⟨RX10, "isQuote", "(I)Z"⟩
abbrev cX10_isStock : ByteArray := prog_1_method_43_code
def yX10_isStock : MethodName := ⟨RX10, "isStock", "(I)Z"⟩
abbrev cX10_isDeck : ByteArray := prog_1_method_44_code
def yX10_isDeck : MethodName := ⟨RX10, "isDeck", "(I)Z"⟩
abbrev cX10_isPlace : ByteArray := prog_1_method_45_code
def yX10_isPlace : MethodName := ⟨RX10, "isPlace", "(I)Z"⟩
abbrev cX10_isTape : ByteArray := prog_1_method_46_code
def yX10_isTape : MethodName := ⟨RX10, "isTape", "(I)Z"⟩
abbrev cX10_limitNow : ByteArray := prog_1_method_47_code
def yX10_limitNow : MethodName := ⟨RX10, "limitNow", "()I"⟩
abbrev cX10_isWithinLimit : ByteArray := prog_1_method_48_code
def yX10_isWithinLimit : MethodName := ⟨RX10, "isWithinLimit", "(I)Z"⟩
abbrev cX10_solveNow : ByteArray := prog_1_method_49_code
def yX10_solveNow : MethodName := ⟨RX10, "solveNow", "(I)V"⟩
abbrev cX10_wasDone : ByteArray := prog_1_method_50_code
def yX10_wasDone : MethodName := ⟨RX10, "wasDone", "(I)Z"⟩
abbrev cX10_isDone : ByteArray := prog_1_method_51_code
def yX10_isDone : MethodName := ⟨RX10, "isDone", "(LQuoteMind$Word;I)Z"⟩
abbrev cX10_writeTicket : ByteArray := prog_1_method_52_code
def yX10_writeTicket : MethodName := ⟨RX10, "writeTicket", "()V"⟩
abbrev cX10_writeQuote : ByteArray := prog_1_method_53_code
def yX10_writeQuote : MethodName := ⟨RX10, "writeQuote", "(I)V"⟩
abbrev cX10_isSeenBy : ByteArray := prog_1_method_54_code
def yX10_isSeenBy : MethodName := ⟨RX10, "isSeenBy", "(I)Z"⟩
abbrev cX10_isSeenWithinLimit : ByteArray := prog_1_method_55_code
def yX10_isSeenWithinLimit : MethodName := ⟨RX10, "isSeenWithinLimit", "()Z"⟩
abbrev cX10_commonDivisor : ByteArray := prog_1_method_56_code
def yX10_commonDivisor : MethodName := ⟨RX10, "commonDivisor", "(II)I"⟩
abbrev cX10_doubleBits : ByteArray := prog_1_method_57_code
def yX10_doubleBits : MethodName := ⟨RX10, "doubleBits", "(D)J"⟩
abbrev cX10_bitsOf : ByteArray := prog_1_method_58_code
def yX10_bitsOf : MethodName := ⟨RX10, "bitsOf", "(DII)J"⟩
abbrev cX10_copyRows : ByteArray := prog_1_method_59_code
def yX10_copyRows : MethodName := ⟨RX10, "copyRows", "([[I[[I)V"⟩
def RX11 : String := "QuoteMindModel"
def TX11 : u_T := fun k => match k with
  | 0 => ("QuoteMindModel", "now", "[I", true)
  | 1 => ("QuoteMindModel", "old", "[I", true)
  | 2 => ("QuoteMindModel", "middle", "D", false)
  | 3 => ("QuoteMindModel", "spread", "D", false)
  | 4 => ("QuoteMindModel", "imaged", "Z", false)
  | 5 => ("QuoteMindModel", "oldMiddle", "D", false)
  | 6 => ("QuoteMindModel", "oldSpread", "D", false)
  | 7 => ("QuoteMindModel", "value", "[J", true)
  | 8 => ("QuoteMindModel", "best", "[I", true)
  | 9 => ("QuoteMindModel", "worth", "[J", true)
  | 10 => ("QuoteMindModel", "meet", "[D", true)
  | 11 => ("QuoteMindModel", "chances", "[I", true)
  | 12 => ("QuoteMindModel", "texts", "I", false)
  | 13 => ("QuoteMindModel", "text", "[I", true)
  | 14 => ("QuoteMindModel", "order", "[I", true)
  | 15 => ("QuoteMindModel", "number", "[I", true)
  | 16 => ("QuoteMindModel", "at", "I", false)
  | 17 => ("QuoteMindModel", "fault", "I", false)
  | 18 => ("QuoteMindModel", "ticketLong", "I", false)
  | 19 => ("QuoteMindModel", "ticket", "[I", true)
  | 20 => ("QuoteMindModel", "sort", "[I", true)
  | 21 => ("QuoteMindModel", "long1", "[I", true)
  | 22 => ("QuoteMindModel", "items", "[J", true)
  | _ => ("QuoteMindModel", "moved", "[J", true)
def tyX11 : Nat → FieldType := fun k => match k with
  | 0 => .array .int
  | 1 => .array .int
  | 2 => .double
  | 3 => .double
  | 4 => .boolean
  | 5 => .double
  | 6 => .double
  | 7 => .array .long
  | 8 => .array .int
  | 9 => .array .long
  | 10 => .array .double
  | 11 => .array .int
  | 12 => .int
  | 13 => .array .int
  | 14 => .array .int
  | 15 => .array .int
  | 16 => .int
  | 17 => .int
  | 18 => .int
  | 19 => .array .int
  | 20 => .array .int
  | 21 => .array .int
  | 22 => .array .long
  | _ => .array .long
theorem nmX11 : ∀ a, a < 24 → ∀ b, b < 24 → a ≠ b → (TX11 a).2.1 ≠ (TX11 b).2.1 := by decide +kernel
theorem tyX11_ok : ∀ k, k < 24 → parseFieldDescriptor (TX11 k).2.2.1 = some (tyX11 k) := by decide +kernel
abbrev cX11_init : ByteArray := prog_13_method_1_code
def yX11_init : MethodName := ⟨RX11, "<init>", "()V"⟩
abbrev cX11_within : ByteArray := prog_13_method_2_code
def yX11_within : MethodName := ⟨RX11, "within", "(III)Z"⟩
abbrev cX11_becomes : ByteArray := prog_13_method_3_code
def yX11_becomes : MethodName := ⟨RX11, "becomes", "(II)I"⟩
abbrev cX11_isSo : ByteArray := prog_13_method_4_code
def yX11_isSo : MethodName := ⟨RX11, "isSo", "(II)Z"⟩
abbrev cX11_set : ByteArray := prog_13_method_5_code
def yX11_set : MethodName := ⟨RX11, "set", "(II)I"⟩
abbrev cX11_told : ByteArray := prog_13_method_6_code
def yX11_told : MethodName := ⟨RX11, "told", "(I)J"⟩
abbrev cX11_isSide : ByteArray := prog_13_method_7_code
def yX11_isSide : MethodName := ⟨RX11, "isSide", "(I)Z"⟩
abbrev cX11_odds : ByteArray := prog_13_method_8_code
def yX11_odds : MethodName := ⟨RX11, "odds", "(III)I"⟩
abbrev cX11_isRival : ByteArray := prog_13_method_9_code
def yX11_isRival : MethodName := ⟨RX11, "isRival", "(I)Z"⟩
abbrev cX11_rival : ByteArray := prog_13_method_10_code
def yX11_rival : MethodName := ⟨RX11, "rival", "(III)I"⟩
abbrev cX11_theirsOf : ByteArray := prog_13_method_11_code
def yX11_theirsOf : MethodName := ⟨RX11, "theirsOf", "(III)I"⟩
abbrev cX11_theirs : ByteArray := prog_13_method_12_code
def yX11_theirs : MethodName := ⟨RX11, "theirs", "(III)I"⟩
abbrev cX11_isDeck : ByteArray := prog_13_method_13_code
def yX11_isDeck : MethodName := ⟨RX11, "isDeck", "(I)Z"⟩
abbrev cX11_takes : ByteArray := prog_13_method_14_code
def yX11_takes : MethodName := ⟨RX11, "takes", "(II)Z"⟩
abbrev cX11_lay : ByteArray := prog_13_method_15_code
def yX11_lay : MethodName := ⟨RX11, "lay", "(III)I"⟩
abbrev cX11_at : ByteArray := prog_13_method_16_code
def yX11_at : MethodName := ⟨RX11, "at", "(II)I"⟩
abbrev cX11_street : ByteArray := prog_13_method_17_code
def yX11_street : MethodName := ⟨RX11, "street", "(I)I"⟩
abbrev cX11_copy : ByteArray := prog_13_method_18_code
def yX11_copy : MethodName := ⟨RX11, "copy", "(II)I"⟩
abbrev cX11_chanceOf : ByteArray := prog_13_method_19_code
def yX11_chanceOf : MethodName := ⟨RX11, "chanceOf", "(II)I"⟩
abbrev cX11_chance : ByteArray := prog_13_method_20_code
def yX11_chance : MethodName := ⟨RX11, "chance", "(II)I"⟩
abbrev cX11_isStock : ByteArray := prog_13_method_21_code
def yX11_isStock : MethodName := ⟨RX11, "isStock", "(I)Z"⟩
abbrev cX11_place : ByteArray := prog_13_method_22_code
def yX11_place : MethodName := ⟨RX11, "place", "(II)I"⟩
abbrev cX11_brings : ByteArray := prog_13_method_23_code
def yX11_brings : MethodName := ⟨RX11, "brings", "([JIIII)J"⟩
abbrev cX11_values : ByteArray := prog_13_method_24_code
def yX11_values : MethodName := ⟨RX11, "values", "()V"⟩
abbrev cX11_value : ByteArray := prog_13_method_25_code
def yX11_value : MethodName := ⟨RX11, "value", "(II)J"⟩
abbrev cX11_best : ByteArray := prog_13_method_26_code
def yX11_best : MethodName := ⟨RX11, "best", "(III)I"⟩
abbrev cX11_rule : ByteArray := prog_13_method_27_code
def yX11_rule : MethodName := ⟨RX11, "rule", "(III)I"⟩
abbrev cX11_adopt : ByteArray := prog_13_method_28_code
def yX11_adopt : MethodName := ⟨RX11, "adopt", "(I)I"⟩
abbrev cX11_worth : ByteArray := prog_13_method_29_code
def yX11_worth : MethodName := ⟨RX11, "worth", "(III)J"⟩
abbrev cX11_ruled : ByteArray := prog_13_method_30_code
def yX11_ruled : MethodName := ⟨RX11, "ruled", "(II)I"⟩
abbrev cX11_reserve : ByteArray := prog_13_method_31_code
def yX11_reserve : MethodName := ⟨RX11, "reserve", "(III)I"⟩
abbrev cX11_meeting : ByteArray := prog_13_method_32_code
def yX11_meeting : MethodName := ⟨RX11, "meeting", "(II)J"⟩
abbrev cX11_middle : ByteArray := prog_13_method_33_code
def yX11_middle : MethodName := ⟨RX11, "middle", "(I)J"⟩
abbrev cX11_quote : ByteArray := prog_13_method_34_code
def yX11_quote : MethodName := ⟨RX11, "quote", "(II)I"⟩
abbrev cX11_trade : ByteArray := prog_13_method_35_code
def yX11_trade : MethodName := ⟨RX11, "trade", "(I)I"⟩
abbrev cX11_feed : ByteArray := prog_13_method_36_code
def yX11_feed : MethodName := ⟨RX11, "feed", "(I)I"⟩
abbrev cX11_isFrom : ByteArray := prog_13_method_37_code
def yX11_isFrom : MethodName := ⟨RX11, "isFrom", "(II)Z"⟩
abbrev cX11_isWord : ByteArray := prog_13_method_38_code
def yX11_isWord : MethodName := ⟨RX11, "isWord", "(ILjava/lang/String;)Z"⟩
abbrev cX11_word : ByteArray := prog_13_method_39_code
def yX11_word : MethodName := ⟨RX11, "word", "(I)Ljava/lang/String;"⟩
abbrev cX11_isOrder : ByteArray := prog_13_method_40_code
def yX11_isOrder : MethodName := ⟨RX11, "isOrder", "(I)Z"⟩
abbrev cX11_does : ByteArray := prog_13_method_41_code
def yX11_does : MethodName := ⟨RX11, "does", "(II)Z"⟩
abbrev cX11_read : ByteArray := prog_13_method_42_code
def yX11_read : MethodName := ⟨RX11, "read", "()I"⟩
abbrev cX11_writes : ByteArray := prog_13_method_43_code
def yX11_writes : MethodName := ⟨RX11, "writes", "(I)V"⟩
abbrev cX11_writesNumber : ByteArray := prog_13_method_44_code
def yX11_writesNumber : MethodName := ⟨RX11, "writesNumber", "(J)V"⟩
abbrev cX11_writesAll : ByteArray := prog_13_method_45_code
def yX11_writesAll : MethodName := ⟨RX11, "writesAll", "(Ljava/lang/String;)V"⟩
abbrev cX11_tickets : ByteArray := prog_13_method_46_code
def yX11_tickets : MethodName := ⟨RX11, "tickets", "()V"⟩
abbrev cX11_ticket : ByteArray := prog_13_method_47_code
def yX11_ticket : MethodName := ⟨RX11, "ticket", "(I)I"⟩
abbrev cX11_see : ByteArray := prog_13_method_48_code
def yX11_see : MethodName := ⟨RX11, "see", "(III)I"⟩
abbrev cX11_fits : ByteArray := prog_13_method_49_code
def yX11_fits : MethodName := ⟨RX11, "fits", "(I)I"⟩
abbrev cX11_setBy : ByteArray := prog_13_method_50_code
def yX11_setBy : MethodName := ⟨RX11, "setBy", "(I)I"⟩
abbrev cX11_event : ByteArray := prog_13_method_51_code
def yX11_event : MethodName := ⟨RX11, "event", "(II)I"⟩
abbrev cX11_after : ByteArray := prog_13_method_52_code
def yX11_after : MethodName := ⟨RX11, "after", "()J"⟩
abbrev cX11_taken : ByteArray := prog_13_method_53_code
def yX11_taken : MethodName := ⟨RX11, "taken", "(III)J"⟩
abbrev cX11_isTape : ByteArray := prog_13_method_54_code
def yX11_isTape : MethodName := ⟨RX11, "isTape", "(I)Z"⟩
abbrev cX11_judge : ByteArray := prog_13_method_55_code
def yX11_judge : MethodName := ⟨RX11, "judge", "(III)I"⟩
abbrev cX11_image : ByteArray := prog_13_method_56_code
def yX11_image : MethodName := ⟨RX11, "image", "()I"⟩
abbrev cX11_undo : ByteArray := prog_13_method_57_code
def yX11_undo : MethodName := ⟨RX11, "undo", "()I"⟩
abbrev cX11_count : ByteArray := prog_13_method_58_code
def yX11_count : MethodName := ⟨RX11, "count", "(I)I"⟩
abbrev cX11_tape : ByteArray := prog_13_method_59_code
def yX11_tape : MethodName := ⟨RX11, "tape", "(III)I"⟩
abbrev cX11_item : ByteArray := prog_13_method_60_code
def yX11_item : MethodName := ⟨RX11, "item", "(IIJ)I"⟩
abbrev cX11_peek : ByteArray := prog_13_method_61_code
def yX11_peek : MethodName := ⟨RX11, "peek", "(II)J"⟩
abbrev cX11_shift : ByteArray := prog_13_method_62_code
def yX11_shift : MethodName := ⟨RX11, "shift", "(IIIII)I"⟩
def RJx145de : String := "java/io/Serializable"
def TJx145de : u_T := fun k => match k with
  | _ => ("", "", "", false)
def tyJx145de : Nat → FieldType := fun k => match k with
  | _ => .int
theorem nmJx145de : ∀ a, a < 0 → ∀ b, b < 0 → a ≠ b → (TJx145de a).2.1 ≠ (TJx145de b).2.1 := by decide +kernel
theorem tyJx145de_ok : ∀ k, k < 0 → parseFieldDescriptor (TJx145de k).2.2.1 = some (tyJx145de k) := by decide +kernel
def RJ5 : String := "java/lang/AbstractStringBuilder"
def TJ5 : u_T := fun k => match k with
  | _ => ("", "", "", false)
def tyJ5 : Nat → FieldType := fun k => match k with
  | _ => .int
theorem nmJ5 : ∀ a, a < 0 → ∀ b, b < 0 → a ≠ b → (TJ5 a).2.1 ≠ (TJ5 b).2.1 := by decide +kernel
theorem tyJ5_ok : ∀ k, k < 0 → parseFieldDescriptor (TJ5 k).2.2.1 = some (tyJ5 k) := by decide +kernel
abbrev cJ5_init_d00df : ByteArray := prog_14_method_2_code
def yJ5_init_d00df : MethodName := ⟨RJ5, "<init>", "(I)V"⟩
abbrev cJ5_length_8abf5 : ByteArray := prog_14_method_6_code
def yJ5_length_8abf5 : MethodName := ⟨RJ5, "length", "()I"⟩
abbrev cJ5_ensureCapacityInternal_d00df : ByteArray := prog_14_method_9_code
def yJ5_ensureCapacityInternal_d00df : MethodName := ⟨RJ5, "ensureCapacityInternal", "(I)V"⟩
abbrev cJ5_newCapacity_0f7a4 : ByteArray := prog_14_method_10_code
def yJ5_newCapacity_0f7a4 : MethodName := ⟨RJ5, "newCapacity", "(I)I"⟩
abbrev cJ5_inflate_da8c8 : ByteArray := prog_14_method_11_code
def yJ5_inflate_da8c8 : MethodName := ⟨RJ5, "inflate", "()V"⟩
abbrev cJ5_setLength_d00df : ByteArray := prog_14_method_13_code
def yJ5_setLength_d00df : MethodName := ⟨RJ5, "setLength", "(I)V"⟩
abbrev cJ5_charAt_5068e : ByteArray := prog_14_method_14_code
def yJ5_charAt_5068e : MethodName := ⟨RJ5, "charAt", "(I)C"⟩
abbrev cJ5_append_cf1ce : ByteArray := prog_14_method_22_code
def yJ5_append_cf1ce : MethodName := ⟨RJ5, "append", "(Ljava/lang/String;)Ljava/lang/AbstractStringBuilder;"⟩
abbrev cJ5_appendNull_278bc : ByteArray := prog_14_method_26_code
def yJ5_appendNull_278bc : MethodName := ⟨RJ5, "appendNull", "()Ljava/lang/AbstractStringBuilder;"⟩
abbrev cJ5_append_3fe6f : ByteArray := prog_14_method_31_code
def yJ5_append_3fe6f : MethodName := ⟨RJ5, "append", "(C)Ljava/lang/AbstractStringBuilder;"⟩
abbrev cJ5_append_c97b9 : ByteArray := prog_14_method_32_code
def yJ5_append_c97b9 : MethodName := ⟨RJ5, "append", "(I)Ljava/lang/AbstractStringBuilder;"⟩
abbrev cJ5_isLatin1_aae02 : ByteArray := prog_14_method_68_code
def yJ5_isLatin1_aae02 : MethodName := ⟨RJ5, "isLatin1", "()Z"⟩
abbrev cJ5_inflateIfNeededFor_a7421 : ByteArray := prog_14_method_71_code
def yJ5_inflateIfNeededFor_a7421 : MethodName := ⟨RJ5, "inflateIfNeededFor", "(Ljava/lang/String;)V"⟩
abbrev cJ5_putStringAt_47b60 : ByteArray := prog_14_method_73_code
def yJ5_putStringAt_47b60 : MethodName := ⟨RJ5, "putStringAt", "(ILjava/lang/String;)V"⟩
def RJx2cfe8 : String := "java/lang/Appendable"
def TJx2cfe8 : u_T := fun k => match k with
  | _ => ("", "", "", false)
def tyJx2cfe8 : Nat → FieldType := fun k => match k with
  | _ => .int
theorem nmJx2cfe8 : ∀ a, a < 0 → ∀ b, b < 0 → a ≠ b → (TJx2cfe8 a).2.1 ≠ (TJx2cfe8 b).2.1 := by decide +kernel
theorem tyJx2cfe8_ok : ∀ k, k < 0 → parseFieldDescriptor (TJx2cfe8 k).2.2.1 = some (tyJx2cfe8 k) := by decide +kernel
def RJx9f9b0 : String := "java/lang/CharSequence"
def TJx9f9b0 : u_T := fun k => match k with
  | _ => ("", "", "", false)
def tyJx9f9b0 : Nat → FieldType := fun k => match k with
  | _ => .int
theorem nmJx9f9b0 : ∀ a, a < 0 → ∀ b, b < 0 → a ≠ b → (TJx9f9b0 a).2.1 ≠ (TJx9f9b0 b).2.1 := by decide +kernel
theorem tyJx9f9b0_ok : ∀ k, k < 0 → parseFieldDescriptor (TJx9f9b0 k).2.2.1 = some (tyJx9f9b0 k) := by decide +kernel
def RJx8e188 : String := "java/lang/Cloneable"
def TJx8e188 : u_T := fun k => match k with
  | _ => ("", "", "", false)
def tyJx8e188 : Nat → FieldType := fun k => match k with
  | _ => .int
theorem nmJx8e188 : ∀ a, a < 0 → ∀ b, b < 0 → a ≠ b → (TJx8e188 a).2.1 ≠ (TJx8e188 b).2.1 := by decide +kernel
theorem tyJx8e188_ok : ∀ k, k < 0 → parseFieldDescriptor (TJx8e188 k).2.2.1 = some (tyJx8e188 k) := by decide +kernel
def RJxb160c : String := "java/lang/Comparable"
def TJxb160c : u_T := fun k => match k with
  | _ => ("", "", "", false)
def tyJxb160c : Nat → FieldType := fun k => match k with
  | _ => .int
theorem nmJxb160c : ∀ a, a < 0 → ∀ b, b < 0 → a ≠ b → (TJxb160c a).2.1 ≠ (TJxb160c b).2.1 := by decide +kernel
theorem tyJxb160c_ok : ∀ k, k < 0 → parseFieldDescriptor (TJxb160c k).2.2.1 = some (tyJxb160c k) := by decide +kernel
def RJxe99ae : String := "java/lang/Double"
def TJxe99ae : u_T := fun k => match k with
  | _ => ("", "", "", false)
def tyJxe99ae : Nat → FieldType := fun k => match k with
  | _ => .int
theorem nmJxe99ae : ∀ a, a < 0 → ∀ b, b < 0 → a ≠ b → (TJxe99ae a).2.1 ≠ (TJxe99ae b).2.1 := by decide +kernel
theorem tyJxe99ae_ok : ∀ k, k < 0 → parseFieldDescriptor (TJxe99ae k).2.2.1 = some (tyJxe99ae k) := by decide +kernel
abbrev cJxe99ae_isNaN_b9ae7 : ByteArray := prog_16_method_6_code
def yJxe99ae_isNaN_b9ae7 : MethodName := ⟨RJxe99ae, "isNaN", "(D)Z"⟩
abbrev cJxe99ae_doubleToLongBits_ccdee : ByteArray := prog_16_method_23_code
def yJxe99ae_doubleToLongBits_ccdee : MethodName := ⟨RJxe99ae, "doubleToLongBits", "(D)J"⟩
def RJx29ce0 : String := "java/lang/Enum"
def TJx29ce0 : u_T := fun k => match k with
  | _ => ("", "", "", false)
def tyJx29ce0 : Nat → FieldType := fun k => match k with
  | _ => .int
theorem nmJx29ce0 : ∀ a, a < 0 → ∀ b, b < 0 → a ≠ b → (TJx29ce0 a).2.1 ≠ (TJx29ce0 b).2.1 := by decide +kernel
theorem tyJx29ce0_ok : ∀ k, k < 0 → parseFieldDescriptor (TJx29ce0 k).2.2.1 = some (tyJx29ce0 k) := by decide +kernel
abbrev cJx29ce0_ordinal_8abf5 : ByteArray := prog_17_method_2_code
def yJx29ce0_ordinal_8abf5 : MethodName := ⟨RJx29ce0, "ordinal", "()I"⟩
def RJxf58ca : String := "java/lang/Float"
def TJxf58ca : u_T := fun k => match k with
  | _ => ("", "", "", false)
def tyJxf58ca : Nat → FieldType := fun k => match k with
  | _ => .int
theorem nmJxf58ca : ∀ a, a < 0 → ∀ b, b < 0 → a ≠ b → (TJxf58ca a).2.1 ≠ (TJxf58ca b).2.1 := by decide +kernel
theorem tyJxf58ca_ok : ∀ k, k < 0 → parseFieldDescriptor (TJxf58ca k).2.2.1 = some (tyJxf58ca k) := by decide +kernel
abbrev cJxf58ca_isNaN_12338 : ByteArray := prog_18_method_6_code
def yJxf58ca_isNaN_12338 : MethodName := ⟨RJxf58ca, "isNaN", "(F)Z"⟩
abbrev cJxf58ca_floatToIntBits_5c35a : ByteArray := prog_18_method_24_code
def yJxf58ca_floatToIntBits_5c35a : MethodName := ⟨RJxf58ca, "floatToIntBits", "(F)I"⟩
def RJ6 : String := "java/lang/Integer"
def TJ6 : u_T := fun k => match k with
  | _ => ("", "", "", false)
def tyJ6 : Nat → FieldType := fun k => match k with
  | _ => .int
theorem nmJ6 : ∀ a, a < 0 → ∀ b, b < 0 → a ≠ b → (TJ6 a).2.1 ≠ (TJ6 b).2.1 := by decide +kernel
theorem tyJ6_ok : ∀ k, k < 0 → parseFieldDescriptor (TJ6 k).2.2.1 = some (tyJ6 k) := by decide +kernel
abbrev cJ6_getChars_ba4f3 : ByteArray := prog_19_method_12_code
def yJ6_getChars_ba4f3 : MethodName := ⟨RJ6, "getChars", "(II[B)I"⟩
abbrev cJ6_stringSize_0f7a4 : ByteArray := prog_19_method_13_code
def yJ6_stringSize_0f7a4 : MethodName := ⟨RJ6, "stringSize", "(I)I"⟩
def RJ9 : String := "java/lang/Math"
def TJ9 : u_T := fun k => match k with
  | _ => ("", "", "", false)
def tyJ9 : Nat → FieldType := fun k => match k with
  | _ => .int
theorem nmJ9 : ∀ a, a < 0 → ∀ b, b < 0 → a ≠ b → (TJ9 a).2.1 ≠ (TJ9 b).2.1 := by decide +kernel
theorem tyJ9_ok : ∀ k, k < 0 → parseFieldDescriptor (TJ9 k).2.2.1 = some (tyJ9 k) := by decide +kernel
abbrev cJ9_floorDiv_f86c9 : ByteArray := prog_20_method_49_code
def yJ9_floorDiv_f86c9 : MethodName := ⟨RJ9, "floorDiv", "(JJ)J"⟩
abbrev cJ9_max_7cf53 : ByteArray := prog_20_method_65_code
def yJ9_max_7cf53 : MethodName := ⟨RJ9, "max", "(II)I"⟩
abbrev cJ9_min_7cf53 : ByteArray := prog_20_method_69_code
def yJ9_min_7cf53 : MethodName := ⟨RJ9, "min", "(II)I"⟩
def RJxd2413 : String := "java/lang/Number"
def TJxd2413 : u_T := fun k => match k with
  | _ => ("", "", "", false)
def tyJxd2413 : Nat → FieldType := fun k => match k with
  | _ => .int
theorem nmJxd2413 : ∀ a, a < 0 → ∀ b, b < 0 → a ≠ b → (TJxd2413 a).2.1 ≠ (TJxd2413 b).2.1 := by decide +kernel
theorem tyJxd2413_ok : ∀ k, k < 0 → parseFieldDescriptor (TJxd2413 k).2.2.1 = some (tyJxd2413 k) := by decide +kernel
def RJ0 : String := "java/lang/String"
def TJ0 : u_T := fun k => match k with
  | _ => ("", "", "", false)
def tyJ0 : Nat → FieldType := fun k => match k with
  | _ => .int
theorem nmJ0 : ∀ a, a < 0 → ∀ b, b < 0 → a ≠ b → (TJ0 a).2.1 ≠ (TJ0 b).2.1 := by decide +kernel
theorem tyJ0_ok : ∀ k, k < 0 → parseFieldDescriptor (TJ0 k).2.2.1 = some (tyJ0 k) := by decide +kernel
abbrev cJ0_length_8abf5 : ByteArray := prog_22_method_54_code
def yJ0_length_8abf5 : MethodName := ⟨RJ0, "length", "()I"⟩
abbrev cJ0_charAt_5068e : ByteArray := prog_22_method_56_code
def yJ0_charAt_5068e : MethodName := ⟨RJ0, "charAt", "(I)C"⟩
abbrev cJ0_getBytes_840e7 : ByteArray := prog_22_method_147_code
def yJ0_getBytes_840e7 : MethodName := ⟨RJ0, "getBytes", "([BIB)V"⟩
abbrev cJ0_coder_7d493 : ByteArray := prog_22_method_152_code
def yJ0_coder_7d493 : MethodName := ⟨RJ0, "coder", "()B"⟩
abbrev cJ0_isLatin1_aae02 : ByteArray := prog_22_method_154_code
def yJ0_isLatin1_aae02 : MethodName := ⟨RJ0, "isLatin1", "()Z"⟩
abbrev cJ0_checkIndex_df160 : ByteArray := prog_22_method_155_code
def yJ0_checkIndex_df160 : MethodName := ⟨RJ0, "checkIndex", "(II)V"⟩
abbrev cJ0_checkBoundsOffCount_cabcc : ByteArray := prog_22_method_157_code
def yJ0_checkBoundsOffCount_cabcc : MethodName := ⟨RJ0, "checkBoundsOffCount", "(III)I"⟩
abbrev cJ0_checkBoundsBeginEnd_23922 : ByteArray := prog_22_method_158_code
def yJ0_checkBoundsBeginEnd_23922 : MethodName := ⟨RJ0, "checkBoundsBeginEnd", "(III)V"⟩
def RJ4 : String := "java/lang/StringBuilder"
def TJ4 : u_T := fun k => match k with
  | 0 => ("java/lang/AbstractStringBuilder", "value", "[B", false)
  | 1 => ("java/lang/AbstractStringBuilder", "coder", "B", false)
  | 2 => ("java/lang/AbstractStringBuilder", "maybeLatin1", "Z", false)
  | _ => ("java/lang/AbstractStringBuilder", "count", "I", false)
def tyJ4 : Nat → FieldType := fun k => match k with
  | 0 => .array .byte
  | 1 => .byte
  | 2 => .boolean
  | _ => .int
theorem nmJ4 : ∀ a, a < 4 → ∀ b, b < 4 → a ≠ b → (TJ4 a).2.1 ≠ (TJ4 b).2.1 := by decide +kernel
theorem tyJ4_ok : ∀ k, k < 4 → parseFieldDescriptor (TJ4 k).2.2.1 = some (tyJ4 k) := by decide +kernel
abbrev cJ4_init_da8c8 : ByteArray := prog_23_method_1_code
def yJ4_init_da8c8 : MethodName := ⟨RJ4, "<init>", "()V"⟩
abbrev cJ4_append_15ec4 : ByteArray := prog_23_method_7_code
def yJ4_append_15ec4 : MethodName := ⟨RJ4, "append", "(Ljava/lang/String;)Ljava/lang/StringBuilder;"⟩
abbrev cJ4_append_cf468 : ByteArray := prog_23_method_14_code
def yJ4_append_cf468 : MethodName := ⟨RJ4, "append", "(C)Ljava/lang/StringBuilder;"⟩
abbrev cJ4_append_bf812 : ByteArray := prog_23_method_15_code
def yJ4_append_bf812 : MethodName := ⟨RJ4, "append", "(I)Ljava/lang/StringBuilder;"⟩
abbrev cJ4_charAt_5068e : ByteArray := prog_23_method_88_code
def yJ4_charAt_5068e : MethodName := ⟨RJ4, "charAt", "(I)C"⟩
abbrev cJ4_setLength_d00df : ByteArray := prog_23_method_89_code
def yJ4_setLength_d00df : MethodName := ⟨RJ4, "setLength", "(I)V"⟩
abbrev cJ4_length_8abf5 : ByteArray := prog_23_method_93_code
def yJ4_length_8abf5 : MethodName := ⟨RJ4, "length", "()I"⟩
def RJ1 : String := "java/lang/StringLatin1"
def TJ1 : u_T := fun k => match k with
  | _ => ("", "", "", false)
def tyJ1 : Nat → FieldType := fun k => match k with
  | _ => .int
theorem nmJ1 : ∀ a, a < 0 → ∀ b, b < 0 → a ≠ b → (TJ1 a).2.1 ≠ (TJ1 b).2.1 := by decide +kernel
theorem tyJ1_ok : ∀ k, k < 0 → parseFieldDescriptor (TJ1 k).2.2.1 = some (tyJ1 k) := by decide +kernel
abbrev cJ1_charAt_3b067 : ByteArray := prog_24_method_2_code
def yJ1_charAt_3b067 : MethodName := ⟨RJ1, "charAt", "([BI)C"⟩
abbrev cJ1_canEncode_fc78d : ByteArray := prog_24_method_3_code
def yJ1_canEncode_fc78d : MethodName := ⟨RJ1, "canEncode", "(C)Z"⟩
abbrev cJ1_fillNull_b72d1 : ByteArray := prog_24_method_48_code
def yJ1_fillNull_b72d1 : MethodName := ⟨RJ1, "fillNull", "([BII)V"⟩
abbrev cJ1_inflate_0e8fd : ByteArray := prog_24_method_50_code
def yJ1_inflate_0e8fd : MethodName := ⟨RJ1, "inflate", "([BI[BII)V"⟩
def RJ2 : String := "java/lang/StringUTF16"
def TJ2 : u_T := fun k => match k with
  | _ => ("", "", "", false)
def tyJ2 : Nat → FieldType := fun k => match k with
  | _ => .int
theorem nmJ2 : ∀ a, a < 0 → ∀ b, b < 0 → a ≠ b → (TJ2 a).2.1 ≠ (TJ2 b).2.1 := by decide +kernel
theorem tyJ2_ok : ∀ k, k < 0 → parseFieldDescriptor (TJ2 k).2.2.1 = some (tyJ2 k) := by decide +kernel
abbrev cJ2_newBytesFor_77867 : ByteArray := prog_25_method_2_code
def yJ2_newBytesFor_77867 : MethodName := ⟨RJ2, "newBytesFor", "(I)[B"⟩
abbrev cJ2_newBytesLength_0f7a4 : ByteArray := prog_25_method_3_code
def yJ2_newBytesLength_0f7a4 : MethodName := ⟨RJ2, "newBytesLength", "(I)I"⟩
abbrev cJ2_putChar_b72d1 : ByteArray := prog_25_method_4_code
def yJ2_putChar_b72d1 : MethodName := ⟨RJ2, "putChar", "([BII)V"⟩
abbrev cJ2_getChar_3b067 : ByteArray := prog_25_method_5_code
def yJ2_getChar_3b067 : MethodName := ⟨RJ2, "getChar", "([BI)C"⟩
abbrev cJ2_length_9d52b : ByteArray := prog_25_method_6_code
def yJ2_length_9d52b : MethodName := ⟨RJ2, "length", "([B)I"⟩
abbrev cJ2_fillNull_b72d1 : ByteArray := prog_25_method_70_code
def yJ2_fillNull_b72d1 : MethodName := ⟨RJ2, "fillNull", "([BII)V"⟩
abbrev cJ2_putCharSB_b72d1 : ByteArray := prog_25_method_71_code
def yJ2_putCharSB_b72d1 : MethodName := ⟨RJ2, "putCharSB", "([BII)V"⟩
abbrev cJ2_getChars_46870 : ByteArray := prog_25_method_77_code
def yJ2_getChars_46870 : MethodName := ⟨RJ2, "getChars", "(III[B)I"⟩
abbrev cJ2_putCharsAt_cd4e5 : ByteArray := prog_25_method_81_code
def yJ2_putCharsAt_cd4e5 : MethodName := ⟨RJ2, "putCharsAt", "([BICCCC)I"⟩
abbrev cJ2_charAt_3b067 : ByteArray := prog_25_method_83_code
def yJ2_charAt_3b067 : MethodName := ⟨RJ2, "charAt", "([BI)C"⟩
abbrev cJ2_inflate_0e8fd : ByteArray := prog_25_method_86_code
def yJ2_inflate_0e8fd : MethodName := ⟨RJ2, "inflate", "([BI[BII)V"⟩
abbrev cJ2_getChars_ba4f3 : ByteArray := prog_25_method_89_code
def yJ2_getChars_ba4f3 : MethodName := ⟨RJ2, "getChars", "(II[B)I"⟩
abbrev cJ2_checkIndex_2214a : ByteArray := prog_25_method_91_code
def yJ2_checkIndex_2214a : MethodName := ⟨RJ2, "checkIndex", "(I[B)V"⟩
abbrev cJ2_checkBoundsBeginEnd_d044e : ByteArray := prog_25_method_93_code
def yJ2_checkBoundsBeginEnd_d044e : MethodName := ⟨RJ2, "checkBoundsBeginEnd", "(II[B)V"⟩
abbrev cJ2_checkBoundsOffCount_d044e : ByteArray := prog_25_method_94_code
def yJ2_checkBoundsOffCount_d044e : MethodName := ⟨RJ2, "checkBoundsOffCount", "(II[B)V"⟩
def RJ10 : String := "java/lang/System"
def TJ10 : u_T := fun k => match k with
  | _ => ("", "", "", false)
def tyJ10 : Nat → FieldType := fun k => match k with
  | _ => .int
theorem nmJ10 : ∀ a, a < 0 → ∀ b, b < 0 → a ≠ b → (TJ10 a).2.1 ≠ (TJ10 b).2.1 := by decide +kernel
theorem tyJ10_ok : ∀ k, k < 0 → parseFieldDescriptor (TJ10 k).2.2.1 = some (tyJ10 k) := by decide +kernel
def RJxfd54e : String := "java/lang/constant/Constable"
def TJxfd54e : u_T := fun k => match k with
  | _ => ("", "", "", false)
def tyJxfd54e : Nat → FieldType := fun k => match k with
  | _ => .int
theorem nmJxfd54e : ∀ a, a < 0 → ∀ b, b < 0 → a ≠ b → (TJxfd54e a).2.1 ≠ (TJxfd54e b).2.1 := by decide +kernel
theorem tyJxfd54e_ok : ∀ k, k < 0 → parseFieldDescriptor (TJxfd54e k).2.2.1 = some (tyJxfd54e k) := by decide +kernel
def RJx3cf43 : String := "java/lang/constant/ConstantDesc"
def TJx3cf43 : u_T := fun k => match k with
  | _ => ("", "", "", false)
def tyJx3cf43 : Nat → FieldType := fun k => match k with
  | _ => .int
theorem nmJx3cf43 : ∀ a, a < 0 → ∀ b, b < 0 → a ≠ b → (TJx3cf43 a).2.1 ≠ (TJx3cf43 b).2.1 := by decide +kernel
theorem tyJx3cf43_ok : ∀ k, k < 0 → parseFieldDescriptor (TJx3cf43 k).2.2.1 = some (tyJx3cf43 k) := by decide +kernel
def RJ7 : String := "java/util/Arrays"
def TJ7 : u_T := fun k => match k with
  | _ => ("", "", "", false)
def tyJ7 : Nat → FieldType := fun k => match k with
  | _ => .int
theorem nmJ7 : ∀ a, a < 0 → ∀ b, b < 0 → a ≠ b → (TJ7 a).2.1 ≠ (TJ7 b).2.1 := by decide +kernel
theorem tyJ7_ok : ∀ k, k < 0 → parseFieldDescriptor (TJ7 k).2.2.1 = some (tyJ7 k) := by decide +kernel
abbrev cJ7_rangeCheck_23922 : ByteArray := prog_27_method_30_code
def yJ7_rangeCheck_23922 : MethodName := ⟨RJ7, "rangeCheck", "(III)V"⟩
abbrev cJ7_fill_d0a16 : ByteArray := prog_27_method_101_code
def yJ7_fill_d0a16 : MethodName := ⟨RJ7, "fill", "([JJ)V"⟩
abbrev cJ7_fill_53178 : ByteArray := prog_27_method_103_code
def yJ7_fill_53178 : MethodName := ⟨RJ7, "fill", "([II)V"⟩
abbrev cJ7_fill_eb02e : ByteArray := prog_27_method_110_code
def yJ7_fill_eb02e : MethodName := ⟨RJ7, "fill", "([BIIB)V"⟩
abbrev cJ7_copyOf_9075b : ByteArray := prog_27_method_121_code
def yJ7_copyOf_9075b : MethodName := ⟨RJ7, "copyOf", "([BI)[B"⟩
def RJ8 : String := "jdk/internal/util/ArraysSupport"
def TJ8 : u_T := fun k => match k with
  | _ => ("", "", "", false)
def tyJ8 : Nat → FieldType := fun k => match k with
  | _ => .int
theorem nmJ8 : ∀ a, a < 0 → ∀ b, b < 0 → a ≠ b → (TJ8 a).2.1 ≠ (TJ8 b).2.1 := by decide +kernel
theorem tyJ8_ok : ∀ k, k < 0 → parseFieldDescriptor (TJ8 k).2.2.1 = some (tyJ8 k) := by decide +kernel
abbrev cJ8_newLength_cabcc : ByteArray := prog_28_method_27_code
def yJ8_newLength_cabcc : MethodName := ⟨RJ8, "newLength", "(III)I"⟩
abbrev cJ8_hugeLength_7cf53 : ByteArray := prog_28_method_28_code
def yJ8_hugeLength_7cf53 : MethodName := ⟨RJ8, "hugeLength", "(II)I"⟩
def RJ3 : String := "jdk/internal/util/Preconditions"
def TJ3 : u_T := fun k => match k with
  | _ => ("", "", "", false)
def tyJ3 : Nat → FieldType := fun k => match k with
  | _ => .int
theorem nmJ3 : ∀ a, a < 0 → ∀ b, b < 0 → a ≠ b → (TJ3 a).2.1 ≠ (TJ3 b).2.1 := by decide +kernel
theorem tyJ3_ok : ∀ k, k < 0 → parseFieldDescriptor (TJ3 k).2.2.1 = some (tyJ3 k) := by decide +kernel
abbrev cJ3_checkIndex_8e157 : ByteArray := prog_29_method_11_code
def yJ3_checkIndex_8e157 : MethodName := ⟨RJ3, "checkIndex", "(IILjava/util/function/BiFunction;)I"⟩
abbrev cJ3_checkFromToIndex_8c36e : ByteArray := prog_29_method_12_code
def yJ3_checkFromToIndex_8c36e : MethodName := ⟨RJ3, "checkFromToIndex", "(IIILjava/util/function/BiFunction;)I"⟩
abbrev cJ3_checkFromIndexSize_8c36e : ByteArray := prog_29_method_13_code
def yJ3_checkFromIndexSize_8c36e : MethodName := ⟨RJ3, "checkFromIndexSize", "(IIILjava/util/function/BiFunction;)I"⟩
def RL : String := "QuoteMindLaw"
abbrev cL_law : ByteArray := code
def yL_law : MethodName := x
