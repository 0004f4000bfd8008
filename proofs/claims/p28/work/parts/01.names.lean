/-! names, fields, decode rows -/
def RX0 : String := "LiarMaps$Game"
def TX0 : u_T := fun k => match k with
  | 0 => ("LiarMaps$Game", "settings", "[I", true)
  | 1 => ("LiarMaps$Game", "roads", "I", false)
  | 2 => ("LiarMaps$Game", "treasure", "I", false)
  | 3 => ("LiarMaps$Game", "begun", "Z", false)
  | 4 => ("LiarMaps$Game", "revealed", "I", false)
  | 5 => ("LiarMaps$Game", "known", "I", false)
  | 6 => ("LiarMaps$Game", "turns", "I", false)
  | 7 => ("LiarMaps$Game", "finder", "I", false)
  | 8 => ("LiarMaps$Game", "zero", "LLiarMaps$Player;", true)
  | 9 => ("LiarMaps$Game", "one", "LLiarMaps$Player;", true)
  | 10 => ("LiarMaps$Game", "two", "LLiarMaps$Player;", true)
  | 11 => ("LiarMaps$Game", "told", "[I", true)
  | 12 => ("LiarMaps$Game", "digs", "[I", true)
  | _ => ("LiarMaps$Game", "digsSoFar", "I", false)
def tyX0 : Nat → FieldType := fun k => match k with
  | 0 => .array .int
  | 1 => .int
  | 2 => .int
  | 3 => .boolean
  | 4 => .int
  | 5 => .int
  | 6 => .int
  | 7 => .int
  | 8 => .object "LiarMaps$Player"
  | 9 => .object "LiarMaps$Player"
  | 10 => .object "LiarMaps$Player"
  | 11 => .array .int
  | 12 => .array .int
  | _ => .int
abbrev wsX00 : List Cond := u_ws RX0 TX0 14
theorem nmX0 : ∀ a, a < 14 → ∀ b, b < 14 → a ≠ b → (TX0 a).2.1 ≠ (TX0 b).2.1 := by decide +kernel
theorem tyX0_ok : ∀ k, k < 14 → parseFieldDescriptor (TX0 k).2.2.1 = some (tyX0 k) := by decide +kernel
abbrev cX0_init : ByteArray := prog_2_method_1_code
def yX0_init : MethodName := ⟨RX0, "<init>", "()V"⟩
abbrev cX0_become : ByteArray := prog_2_method_2_code
def yX0_become : MethodName := ⟨RX0, "become", "(LLiarMaps$Game;)V"⟩
abbrev cX0_changeSetting : ByteArray := prog_2_method_3_code
def yX0_changeSetting : MethodName := ⟨RX0, "changeSetting", "(II)I"⟩
abbrev cX0_layRoad : ByteArray := prog_2_method_4_code
def yX0_layRoad : MethodName := ⟨RX0, "layRoad", "(II)I"⟩
abbrev cX0_hideTreasure : ByteArray := prog_2_method_5_code
def yX0_hideTreasure : MethodName := ⟨RX0, "hideTreasure", "(I)I"⟩
abbrev cX0_start : ByteArray := prog_2_method_6_code
def yX0_start : MethodName := ⟨RX0, "start", "()I"⟩
abbrev cX0_makeClaim : ByteArray := prog_2_method_7_code
def yX0_makeClaim : MethodName := ⟨RX0, "makeClaim", "(III)I"⟩
abbrev cX0_checkClaim : ByteArray := prog_2_method_8_code
def yX0_checkClaim : MethodName := ⟨RX0, "checkClaim", "(III)I"⟩
abbrev cX0_settleCheck : ByteArray := prog_2_method_9_code
def yX0_settleCheck : MethodName := ⟨RX0, "settleCheck", "(LLiarMaps$Player;LLiarMaps$Player;I)I"⟩
abbrev cX0_digAt : ByteArray := prog_2_method_10_code
def yX0_digAt : MethodName := ⟨RX0, "digAt", "(I)I"⟩
abbrev cX0_noteDigging : ByteArray := prog_2_method_11_code
def yX0_noteDigging : MethodName := ⟨RX0, "noteDigging", "(II)V"⟩
abbrev cX0_passTurn : ByteArray := prog_2_method_12_code
def yX0_passTurn : MethodName := ⟨RX0, "passTurn", "()I"⟩
abbrev cX0_next : ByteArray := prog_2_method_13_code
def yX0_next : MethodName := ⟨RX0, "next", "()I"⟩
abbrev cX0_goesOn : ByteArray := prog_2_method_14_code
def yX0_goesOn : MethodName := ⟨RX0, "goesOn", "()Z"⟩
abbrev cX0_stage : ByteArray := prog_2_method_15_code
def yX0_stage : MethodName := ⟨RX0, "stage", "()I"⟩
abbrev cX0_seat : ByteArray := prog_2_method_16_code
def yX0_seat : MethodName := ⟨RX0, "seat", "(I)LLiarMaps$Player;"⟩
abbrev cX0_setting : ByteArray := prog_2_method_17_code
def yX0_setting : MethodName := ⟨RX0, "setting", "(I)I"⟩
abbrev cX0_toldOf : ByteArray := prog_2_method_18_code
def yX0_toldOf : MethodName := ⟨RX0, "toldOf", "(I)I"⟩
abbrev cX0_dugAs : ByteArray := prog_2_method_19_code
def yX0_dugAs : MethodName := ⟨RX0, "dugAs", "(I)I"⟩
abbrev cX0_seenOf : ByteArray := prog_2_method_20_code
def yX0_seenOf : MethodName := ⟨RX0, "seenOf", "(II)I"⟩
abbrev cX0_knownTo : ByteArray := prog_2_method_21_code
def yX0_knownTo : MethodName := ⟨RX0, "knownTo", "(I)I"⟩
abbrev cX0_claimants : ByteArray := prog_2_method_22_code
def yX0_claimants : MethodName := ⟨RX0, "claimants", "(IZ)I"⟩
abbrev cX0_shownLies : ByteArray := prog_2_method_23_code
def yX0_shownLies : MethodName := ⟨RX0, "shownLies", "()I"⟩
abbrev cX0_moreKnownBy : ByteArray := prog_2_method_24_code
def yX0_moreKnownBy : MethodName := ⟨RX0, "moreKnownBy", "(I)I"⟩
abbrev cX0_fitsWhatWasTold : ByteArray := prog_2_method_25_code
def yX0_fitsWhatWasTold : MethodName := ⟨RX0, "fitsWhatWasTold", "(I)Z"⟩
def RX1 : String := "LiarMaps$Land"
def TX1 : u_T := fun k => match k with
  | _ => ("", "", "", false)
def tyX1 : Nat → FieldType := fun k => match k with
  | _ => .int
abbrev wsX10 : List Cond := u_ws RX1 TX1 0
theorem nmX1 : ∀ a, a < 0 → ∀ b, b < 0 → a ≠ b → (TX1 a).2.1 ≠ (TX1 b).2.1 := by decide +kernel
theorem tyX1_ok : ∀ k, k < 0 → parseFieldDescriptor (TX1 k).2.2.1 = some (tyX1 k) := by decide +kernel
abbrev cX1_isPlace : ByteArray := prog_3_method_2_code
def yX1_isPlace : MethodName := ⟨RX1, "isPlace", "(I)Z"⟩
abbrev cX1_wrongEnds : ByteArray := prog_3_method_3_code
def yX1_wrongEnds : MethodName := ⟨RX1, "wrongEnds", "(II)I"⟩
abbrev cX1_numberOf : ByteArray := prog_3_method_4_code
def yX1_numberOf : MethodName := ⟨RX1, "numberOf", "(II)I"⟩
abbrev cX1_roadBetween : ByteArray := prog_3_method_5_code
def yX1_roadBetween : MethodName := ⟨RX1, "roadBetween", "(II)I"⟩
abbrev cX1_roadsAt : ByteArray := prog_3_method_6_code
def yX1_roadsAt : MethodName := ⟨RX1, "roadsAt", "(I)I"⟩
abbrev cX1_thirdOf : ByteArray := prog_3_method_7_code
def yX1_thirdOf : MethodName := ⟨RX1, "thirdOf", "(I)I"⟩
abbrev cX1_placesBeside : ByteArray := prog_3_method_8_code
def yX1_placesBeside : MethodName := ⟨RX1, "placesBeside", "(II)I"⟩
abbrev cX1_distance : ByteArray := prog_3_method_9_code
def yX1_distance : MethodName := ⟨RX1, "distance", "(III)I"⟩
abbrev cX1_besideAny : ByteArray := prog_3_method_10_code
def yX1_besideAny : MethodName := ⟨RX1, "besideAny", "(II)I"⟩
abbrev cX1_withWhatFollows : ByteArray := prog_3_method_11_code
def yX1_withWhatFollows : MethodName := ⟨RX1, "withWhatFollows", "(II)I"⟩
abbrev cX1_followingAt : ByteArray := prog_3_method_12_code
def yX1_followingAt : MethodName := ⟨RX1, "followingAt", "(III)I"⟩
def RX2 : String := "LiarMaps$Pad"
def TX2 : u_T := fun k => match k with
  | 0 => ("LiarMaps$Pad", "signs", "[C", true)
  | _ => ("LiarMaps$Pad", "length", "I", false)
def tyX2 : Nat → FieldType := fun k => match k with
  | 0 => .array .char
  | _ => .int
abbrev wsX20 : List Cond := u_ws RX2 TX2 2
theorem nmX2 : ∀ a, a < 2 → ∀ b, b < 2 → a ≠ b → (TX2 a).2.1 ≠ (TX2 b).2.1 := by decide +kernel
theorem tyX2_ok : ∀ k, k < 2 → parseFieldDescriptor (TX2 k).2.2.1 = some (tyX2 k) := by decide +kernel
abbrev cX2_init : ByteArray := prog_4_method_1_code
def yX2_init : MethodName := ⟨RX2, "<init>", "()V"⟩
abbrev cX2_append : ByteArray := prog_4_method_2_code
def yX2_append : MethodName := ⟨RX2, "append", "(J)I"⟩
abbrev cX2_charactersIn : ByteArray := prog_4_method_3_code
def yX2_charactersIn : MethodName := ⟨RX2, "charactersIn", "(J)I"⟩
abbrev cX2_codeIn : ByteArray := prog_4_method_4_code
def yX2_codeIn : MethodName := ⟨RX2, "codeIn", "(JI)I"⟩
abbrev cX2_empty : ByteArray := prog_4_method_5_code
def yX2_empty : MethodName := ⟨RX2, "empty", "()I"⟩
abbrev cX2_sign : ByteArray := prog_4_method_6_code
def yX2_sign : MethodName := ⟨RX2, "sign", "(I)I"⟩
abbrev cX2_placeAt : ByteArray := prog_4_method_7_code
def yX2_placeAt : MethodName := ⟨RX2, "placeAt", "(I)I"⟩
abbrev cX2_digitAt : ByteArray := prog_4_method_8_code
def yX2_digitAt : MethodName := ⟨RX2, "digitAt", "(I)I"⟩
abbrev cX2_startsOrder : ByteArray := prog_4_method_9_code
def yX2_startsOrder : MethodName := ⟨RX2, "startsOrder", "(I)Z"⟩
abbrev cX2_firstFault : ByteArray := prog_4_method_10_code
def yX2_firstFault : MethodName := ⟨RX2, "firstFault", "()I"⟩
abbrev cX2_dueAfter : ByteArray := prog_4_method_11_code
def yX2_dueAfter : MethodName := ⟨RX2, "dueAfter", "(II)I"⟩
abbrev cX2_dueAfterLetter : ByteArray := prog_4_method_12_code
def yX2_dueAfterLetter : MethodName := ⟨RX2, "dueAfterLetter", "(I)I"⟩
abbrev cX2_isPlaceSign : ByteArray := prog_4_method_13_code
def yX2_isPlaceSign : MethodName := ⟨RX2, "isPlaceSign", "(I)Z"⟩
def RX3 : String := "LiarMaps$Past"
def TX3 : u_T := fun k => match k with
  | 0 => ("LiarMaps$Past", "cells", "[LLiarMaps$Game;", true)
  | 1 => ("LiarMaps$Past", "free", "I", false)
  | _ => ("LiarMaps$Past", "kept", "I", false)
def tyX3 : Nat → FieldType := fun k => match k with
  | 0 => .array (.object "LiarMaps$Game")
  | 1 => .int
  | _ => .int
abbrev wsX30 : List Cond := u_ws RX3 TX3 3
theorem nmX3 : ∀ a, a < 3 → ∀ b, b < 3 → a ≠ b → (TX3 a).2.1 ≠ (TX3 b).2.1 := by decide +kernel
theorem tyX3_ok : ∀ k, k < 3 → parseFieldDescriptor (TX3 k).2.2.1 = some (tyX3 k) := by decide +kernel
abbrev cX3_init : ByteArray := prog_5_method_1_code
def yX3_init : MethodName := ⟨RX3, "<init>", "()V"⟩
abbrev cX3_hold : ByteArray := prog_5_method_2_code
def yX3_hold : MethodName := ⟨RX3, "hold", "(LLiarMaps$Game;)V"⟩
abbrev cX3_keep : ByteArray := prog_5_method_3_code
def yX3_keep : MethodName := ⟨RX3, "keep", "()V"⟩
abbrev cX3_goBack : ByteArray := prog_5_method_4_code
def yX3_goBack : MethodName := ⟨RX3, "goBack", "(LLiarMaps$Game;)Z"⟩
abbrev cX3_cell : ByteArray := prog_5_method_5_code
def yX3_cell : MethodName := ⟨RX3, "cell", "(I)LLiarMaps$Game;"⟩
def RX4 : String := "LiarMaps$Player"
def TX4 : u_T := fun k => match k with
  | 0 => ("LiarMaps$Player", "purse", "I", false)
  | 1 => ("LiarMaps$Player", "saysThere", "I", false)
  | 2 => ("LiarMaps$Player", "saysNot", "I", false)
  | 3 => ("LiarMaps$Player", "liesFound", "I", false)
  | 4 => ("LiarMaps$Player", "checks", "I", false)
  | 5 => ("LiarMaps$Player", "checksThatFound", "I", false)
  | _ => ("LiarMaps$Player", "diggings", "I", false)
def tyX4 : Nat → FieldType := fun k => match k with
  | 0 => .int
  | 1 => .int
  | 2 => .int
  | 3 => .int
  | 4 => .int
  | 5 => .int
  | _ => .int
abbrev wsX40 : List Cond := u_ws RX4 TX4 7
theorem nmX4 : ∀ a, a < 7 → ∀ b, b < 7 → a ≠ b → (TX4 a).2.1 ≠ (TX4 b).2.1 := by decide +kernel
theorem tyX4_ok : ∀ k, k < 7 → parseFieldDescriptor (TX4 k).2.2.1 = some (tyX4 k) := by decide +kernel
abbrev cX4_init : ByteArray := prog_6_method_1_code
def yX4_init : MethodName := ⟨RX4, "<init>", "()V"⟩
abbrev cX4_become : ByteArray := prog_6_method_2_code
def yX4_become : MethodName := ⟨RX4, "become", "(LLiarMaps$Player;)V"⟩
abbrev cX4_say : ByteArray := prog_6_method_3_code
def yX4_say : MethodName := ⟨RX4, "say", "(IZ)V"⟩
abbrev cX4_saying : ByteArray := prog_6_method_4_code
def yX4_saying : MethodName := ⟨RX4, "saying", "(Z)I"⟩
abbrev cX4_claims : ByteArray := prog_6_method_5_code
def yX4_claims : MethodName := ⟨RX4, "claims", "()I"⟩
abbrev cX4_lies : ByteArray := prog_6_method_6_code
def yX4_lies : MethodName := ⟨RX4, "lies", "(I)I"⟩
abbrev cX4_shownLies : ByteArray := prog_6_method_7_code
def yX4_shownLies : MethodName := ⟨RX4, "shownLies", "(II)I"⟩
abbrev cX4_pay : ByteArray := prog_6_method_8_code
def yX4_pay : MethodName := ⟨RX4, "pay", "(LLiarMaps$Player;I)V"⟩
abbrev cX4_take : ByteArray := prog_6_method_9_code
def yX4_take : MethodName := ⟨RX4, "take", "(I)V"⟩
def RX5 : String := "LiarMaps$Slot"
def TX5 : u_T := fun k => match k with
  | 0 => ("LiarMaps$Slot", "game", "LLiarMaps$Game;", true)
  | _ => ("LiarMaps$Slot", "filled", "Z", false)
def tyX5 : Nat → FieldType := fun k => match k with
  | 0 => .object "LiarMaps$Game"
  | _ => .boolean
abbrev wsX50 : List Cond := u_ws RX5 TX5 2
theorem nmX5 : ∀ a, a < 2 → ∀ b, b < 2 → a ≠ b → (TX5 a).2.1 ≠ (TX5 b).2.1 := by decide +kernel
theorem tyX5_ok : ∀ k, k < 2 → parseFieldDescriptor (TX5 k).2.2.1 = some (tyX5 k) := by decide +kernel
abbrev cX5_init : ByteArray := prog_7_method_1_code
def yX5_init : MethodName := ⟨RX5, "<init>", "()V"⟩
def RX6 : String := "LiarMaps"
def TX6 : u_T := fun k => match k with
  | 0 => ("LiarMaps", "now", "LLiarMaps$Game;", true)
  | 1 => ("LiarMaps", "past", "LLiarMaps$Past;", true)
  | 2 => ("LiarMaps", "pad", "LLiarMaps$Pad;", true)
  | 3 => ("LiarMaps", "slotZero", "LLiarMaps$Slot;", true)
  | _ => ("LiarMaps", "slotOne", "LLiarMaps$Slot;", true)
def tyX6 : Nat → FieldType := fun k => match k with
  | 0 => .object "LiarMaps$Game"
  | 1 => .object "LiarMaps$Past"
  | 2 => .object "LiarMaps$Pad"
  | 3 => .object "LiarMaps$Slot"
  | _ => .object "LiarMaps$Slot"
abbrev wsX60 : List Cond := u_ws RX6 TX6 5
theorem nmX6 : ∀ a, a < 5 → ∀ b, b < 5 → a ≠ b → (TX6 a).2.1 ≠ (TX6 b).2.1 := by decide +kernel
theorem tyX6_ok : ∀ k, k < 5 → parseFieldDescriptor (TX6 k).2.2.1 = some (tyX6 k) := by decide +kernel
abbrev cX6_init : ByteArray := prog_1_method_1_code
def yX6_init : MethodName := ⟨RX6, "<init>", "()V"⟩
abbrev cX6_set : ByteArray := prog_1_method_2_code
def yX6_set : MethodName := ⟨RX6, "set", "(II)I"⟩
abbrev cX6_road : ByteArray := prog_1_method_3_code
def yX6_road : MethodName := ⟨RX6, "road", "(II)I"⟩
abbrev cX6_treasure : ByteArray := prog_1_method_4_code
def yX6_treasure : MethodName := ⟨RX6, "treasure", "(I)I"⟩
abbrev cX6_begin : ByteArray := prog_1_method_5_code
def yX6_begin : MethodName := ⟨RX6, "begin", "()I"⟩
abbrev cX6_claim : ByteArray := prog_1_method_6_code
def yX6_claim : MethodName := ⟨RX6, "claim", "(III)I"⟩
abbrev cX6_check : ByteArray := prog_1_method_7_code
def yX6_check : MethodName := ⟨RX6, "check", "(III)I"⟩
abbrev cX6_dig : ByteArray := prog_1_method_8_code
def yX6_dig : MethodName := ⟨RX6, "dig", "(I)I"⟩
abbrev cX6_pass : ByteArray := prog_1_method_9_code
def yX6_pass : MethodName := ⟨RX6, "pass", "()I"⟩
abbrev cX6_keptIfDone : ByteArray := prog_1_method_10_code
def yX6_keptIfDone : MethodName := ⟨RX6, "keptIfDone", "(I)I"⟩
abbrev cX6_ofRoad : ByteArray := prog_1_method_11_code
def yX6_ofRoad : MethodName := ⟨RX6, "ofRoad", "(III)I"⟩
abbrev cX6_knows : ByteArray := prog_1_method_12_code
def yX6_knows : MethodName := ⟨RX6, "knows", "(III)I"⟩
abbrev cX6_player : ByteArray := prog_1_method_13_code
def yX6_player : MethodName := ⟨RX6, "player", "(II)I"⟩
abbrev cX6_place : ByteArray := prog_1_method_14_code
def yX6_place : MethodName := ⟨RX6, "place", "(II)I"⟩
abbrev cX6_dug : ByteArray := prog_1_method_15_code
def yX6_dug : MethodName := ⟨RX6, "dug", "(I)I"⟩
abbrev cX6_count : ByteArray := prog_1_method_16_code
def yX6_count : MethodName := ⟨RX6, "count", "(I)I"⟩
abbrev cX6_canBe : ByteArray := prog_1_method_17_code
def yX6_canBe : MethodName := ⟨RX6, "canBe", "()I"⟩
abbrev cX6_shows : ByteArray := prog_1_method_18_code
def yX6_shows : MethodName := ⟨RX6, "shows", "(II)I"⟩
abbrev cX6_bestShow : ByteArray := prog_1_method_19_code
def yX6_bestShow : MethodName := ⟨RX6, "bestShow", "(I)I"⟩
abbrev cX6_knownWay : ByteArray := prog_1_method_20_code
def yX6_knownWay : MethodName := ⟨RX6, "knownWay", "(II)I"⟩
abbrev cX6_put : ByteArray := prog_1_method_21_code
def yX6_put : MethodName := ⟨RX6, "put", "(J)I"⟩
abbrev cX6_wipe : ByteArray := prog_1_method_22_code
def yX6_wipe : MethodName := ⟨RX6, "wipe", "()I"⟩
abbrev cX6_fault : ByteArray := prog_1_method_23_code
def yX6_fault : MethodName := ⟨RX6, "fault", "()I"⟩
abbrev cX6_carryOut : ByteArray := prog_1_method_24_code
def yX6_carryOut : MethodName := ⟨RX6, "carryOut", "()I"⟩
abbrev cX6_carryOutOrder : ByteArray := prog_1_method_25_code
def yX6_carryOutOrder : MethodName := ⟨RX6, "carryOutOrder", "(I)I"⟩
abbrev cX6_undo : ByteArray := prog_1_method_26_code
def yX6_undo : MethodName := ⟨RX6, "undo", "()I"⟩
abbrev cX6_save : ByteArray := prog_1_method_27_code
def yX6_save : MethodName := ⟨RX6, "save", "(I)I"⟩
abbrev cX6_restore : ByteArray := prog_1_method_28_code
def yX6_restore : MethodName := ⟨RX6, "restore", "(I)I"⟩
abbrev cX6_slotOf : ByteArray := prog_1_method_29_code
def yX6_slotOf : MethodName := ⟨RX6, "slotOf", "(I)LLiarMaps$Slot;"⟩
abbrev cX6_isSlot : ByteArray := prog_1_method_30_code
def yX6_isSlot : MethodName := ⟨RX6, "isSlot", "(I)Z"⟩
abbrev cX6_isPlayer : ByteArray := prog_1_method_31_code
def yX6_isPlayer : MethodName := ⟨RX6, "isPlayer", "(I)Z"⟩
abbrev cX6_isIn : ByteArray := prog_1_method_32_code
def yX6_isIn : MethodName := ⟨RX6, "isIn", "(II)I"⟩
abbrev cX6_copyRow : ByteArray := prog_1_method_33_code
def yX6_copyRow : MethodName := ⟨RX6, "copyRow", "([I[I)V"⟩
def RX7 : String := "LiarMapsModel"
def TX7 : u_T := fun k => match k with
  | _ => ("", "", "", false)
def tyX7 : Nat → FieldType := fun k => match k with
  | _ => .int
abbrev wsX70 : List Cond := u_ws RX7 TX7 0
theorem nmX7 : ∀ a, a < 0 → ∀ b, b < 0 → a ≠ b → (TX7 a).2.1 ≠ (TX7 b).2.1 := by decide +kernel
theorem tyX7_ok : ∀ k, k < 0 → parseFieldDescriptor (TX7 k).2.2.1 = some (tyX7 k) := by decide +kernel
def RJ6 : String := "java/lang/Integer"
def TJ6 : u_T := fun k => match k with
  | _ => ("", "", "", false)
def tyJ6 : Nat → FieldType := fun k => match k with
  | _ => .int
abbrev wsJ60 : List Cond := u_ws RJ6 TJ6 0
theorem nmJ6 : ∀ a, a < 0 → ∀ b, b < 0 → a ≠ b → (TJ6 a).2.1 ≠ (TJ6 b).2.1 := by decide +kernel
theorem tyJ6_ok : ∀ k, k < 0 → parseFieldDescriptor (TJ6 k).2.2.1 = some (tyJ6 k) := by decide +kernel
abbrev cJ6_bitCount_0f7a4 : ByteArray := prog_10_method_49_code
def yJ6_bitCount_0f7a4 : MethodName := ⟨RJ6, "bitCount", "(I)I"⟩
def RJ9 : String := "java/lang/Math"
def TJ9 : u_T := fun k => match k with
  | _ => ("", "", "", false)
def tyJ9 : Nat → FieldType := fun k => match k with
  | _ => .int
abbrev wsJ90 : List Cond := u_ws RJ9 TJ9 0
theorem nmJ9 : ∀ a, a < 0 → ∀ b, b < 0 → a ≠ b → (TJ9 a).2.1 ≠ (TJ9 b).2.1 := by decide +kernel
theorem tyJ9_ok : ∀ k, k < 0 → parseFieldDescriptor (TJ9 k).2.2.1 = some (tyJ9 k) := by decide +kernel
abbrev cJ9_max_7cf53 : ByteArray := prog_11_method_65_code
def yJ9_max_7cf53 : MethodName := ⟨RJ9, "max", "(II)I"⟩
abbrev cJ9_min_7cf53 : ByteArray := prog_11_method_69_code
def yJ9_min_7cf53 : MethodName := ⟨RJ9, "min", "(II)I"⟩
def RJ10 : String := "java/lang/System"
def TJ10 : u_T := fun k => match k with
  | _ => ("", "", "", false)
def tyJ10 : Nat → FieldType := fun k => match k with
  | _ => .int
abbrev wsJ100 : List Cond := u_ws RJ10 TJ10 0
theorem nmJ10 : ∀ a, a < 0 → ∀ b, b < 0 → a ≠ b → (TJ10 a).2.1 ≠ (TJ10 b).2.1 := by decide +kernel
theorem tyJ10_ok : ∀ k, k < 0 → parseFieldDescriptor (TJ10 k).2.2.1 = some (tyJ10 k) := by decide +kernel
def RL : String := "LiarMapsLaw"
abbrev cL_cell : ByteArray := method_2_code
def yL_cell : MethodName := ⟨RL, "cell", "([II)I"⟩
abbrev cL_acts : ByteArray := method_3_code
def yL_acts : MethodName := ⟨RL, "acts", "(LLiarMaps;I)I"⟩
abbrev cL_hangs : ByteArray := method_4_code
def yL_hangs : MethodName := ⟨RL, "hangs", "(LLiarMaps;)Z"⟩
abbrev cL_same : ByteArray := method_5_code
def yL_same : MethodName := ⟨RL, "same", "(LLiarMaps;LLiarMaps;)Z"⟩
abbrev cL_refuses : ByteArray := method_6_code
def yL_refuses : MethodName := ⟨RL, "refuses", "(LLiarMaps;I)Z"⟩
abbrev cL_law : ByteArray := code
def yL_law : MethodName := ⟨RL, "law", "([I)Z"⟩
theorem dX0_init_0 : decode cX0_init 0 = .ok (.aload_n 0, 1) := by decide +kernel
theorem dX0_init_1 : decode cX0_init 1 = .ok (.invokespecial 3, 3) := by decide +kernel
theorem dX0_init_4 : decode cX0_init 4 = .ok (.aload_n 0, 1) := by decide +kernel
theorem dX0_init_5 : decode cX0_init 5 = .ok (.iconst 4, 1) := by decide +kernel
theorem dX0_init_6 : decode cX0_init 6 = .ok (.newarray .int, 2) := by decide +kernel
theorem dX0_init_8 : decode cX0_init 8 = .ok (.putfield 9, 3) := by decide +kernel
theorem dX0_init_11 : decode cX0_init 11 = .ok (.aload_n 0, 1) := by decide +kernel
theorem dX0_init_12 : decode cX0_init 12 = .ok (.bipush (-6), 2) := by decide +kernel
theorem dX0_init_14 : decode cX0_init 14 = .ok (.putfield 15, 3) := by decide +kernel
theorem dX0_init_17 : decode cX0_init 17 = .ok (.aload_n 0, 1) := by decide +kernel
theorem dX0_init_18 : decode cX0_init 18 = .ok (.new 19, 3) := by decide +kernel
theorem dX0_init_21 : decode cX0_init 21 = .ok (.dup, 1) := by decide +kernel
theorem dX0_init_22 : decode cX0_init 22 = .ok (.invokespecial 21, 3) := by decide +kernel
theorem dX0_init_25 : decode cX0_init 25 = .ok (.putfield 22, 3) := by decide +kernel
theorem dX0_init_28 : decode cX0_init 28 = .ok (.aload_n 0, 1) := by decide +kernel
theorem dX0_init_29 : decode cX0_init 29 = .ok (.new 19, 3) := by decide +kernel
theorem dX0_init_32 : decode cX0_init 32 = .ok (.dup, 1) := by decide +kernel
theorem dX0_init_33 : decode cX0_init 33 = .ok (.invokespecial 21, 3) := by decide +kernel
theorem dX0_init_36 : decode cX0_init 36 = .ok (.putfield 26, 3) := by decide +kernel
theorem dX0_init_39 : decode cX0_init 39 = .ok (.aload_n 0, 1) := by decide +kernel
theorem dX0_init_40 : decode cX0_init 40 = .ok (.new 19, 3) := by decide +kernel
theorem dX0_init_43 : decode cX0_init 43 = .ok (.dup, 1) := by decide +kernel
theorem dX0_init_44 : decode cX0_init 44 = .ok (.invokespecial 21, 3) := by decide +kernel
theorem dX0_init_47 : decode cX0_init 47 = .ok (.putfield 29, 3) := by decide +kernel
theorem dX0_init_50 : decode cX0_init 50 = .ok (.aload_n 0, 1) := by decide +kernel
theorem dX0_init_51 : decode cX0_init 51 = .ok (.bipush 8, 2) := by decide +kernel
theorem dX0_init_53 : decode cX0_init 53 = .ok (.newarray .int, 2) := by decide +kernel
theorem dX0_init_55 : decode cX0_init 55 = .ok (.putfield 34, 3) := by decide +kernel
theorem dX0_init_58 : decode cX0_init 58 = .ok (.aload_n 0, 1) := by decide +kernel
theorem dX0_init_59 : decode cX0_init 59 = .ok (.sipush 150, 3) := by decide +kernel
theorem dX0_init_62 : decode cX0_init 62 = .ok (.newarray .int, 2) := by decide +kernel
theorem dX0_init_64 : decode cX0_init 64 = .ok (.putfield 37, 3) := by decide +kernel
theorem dX0_init_67 : decode cX0_init 67 = .ok (.iconst 0, 1) := by decide +kernel
theorem dX0_init_68 : decode cX0_init 68 = .ok (.istore_n 1, 1) := by decide +kernel
theorem dX0_init_69 : decode cX0_init 69 = .ok (.iload_n 1, 1) := by decide +kernel
theorem dX0_init_70 : decode cX0_init 70 = .ok (.aload_n 0, 1) := by decide +kernel
theorem dX0_init_71 : decode cX0_init 71 = .ok (.getfield 9, 3) := by decide +kernel
theorem dX0_init_74 : decode cX0_init 74 = .ok (.arraylength, 1) := by decide +kernel
theorem dX0_init_75 : decode cX0_init 75 = .ok (.if_icmp .ge 28, 3) := by decide +kernel
theorem dX0_init_78 : decode cX0_init 78 = .ok (.iload_n 1, 1) := by decide +kernel
theorem dX0_init_79 : decode cX0_init 79 = .ok (.getstatic 40, 3) := by decide +kernel
theorem dX0_init_82 : decode cX0_init 82 = .ok (.arraylength, 1) := by decide +kernel
theorem dX0_init_83 : decode cX0_init 83 = .ok (.if_icmp .ge 20, 3) := by decide +kernel
theorem dX0_init_86 : decode cX0_init 86 = .ok (.aload_n 0, 1) := by decide +kernel
theorem dX0_init_87 : decode cX0_init 87 = .ok (.getfield 9, 3) := by decide +kernel
theorem dX0_init_90 : decode cX0_init 90 = .ok (.iload_n 1, 1) := by decide +kernel
theorem dX0_init_91 : decode cX0_init 91 = .ok (.getstatic 40, 3) := by decide +kernel
theorem dX0_init_94 : decode cX0_init 94 = .ok (.iload_n 1, 1) := by decide +kernel
theorem dX0_init_95 : decode cX0_init 95 = .ok (.iaload, 1) := by decide +kernel
theorem dX0_init_96 : decode cX0_init 96 = .ok (.iastore, 1) := by decide +kernel
theorem dX0_init_97 : decode cX0_init 97 = .ok (.iinc 1 1, 3) := by decide +kernel
theorem dX0_init_100 : decode cX0_init 100 = .ok (.goto (-31), 3) := by decide +kernel
theorem dX0_init_103 : decode cX0_init 103 = .ok (.iconst 0, 1) := by decide +kernel
theorem dX0_init_104 : decode cX0_init 104 = .ok (.istore_n 1, 1) := by decide +kernel
theorem dX0_init_105 : decode cX0_init 105 = .ok (.iload_n 1, 1) := by decide +kernel
theorem dX0_init_106 : decode cX0_init 106 = .ok (.aload_n 0, 1) := by decide +kernel
theorem dX0_init_107 : decode cX0_init 107 = .ok (.getfield 34, 3) := by decide +kernel
theorem dX0_init_110 : decode cX0_init 110 = .ok (.arraylength, 1) := by decide +kernel
theorem dX0_init_111 : decode cX0_init 111 = .ok (.if_icmp .ge 17, 3) := by decide +kernel
theorem dX0_init_114 : decode cX0_init 114 = .ok (.aload_n 0, 1) := by decide +kernel
theorem dX0_init_115 : decode cX0_init 115 = .ok (.getfield 34, 3) := by decide +kernel
theorem dX0_init_118 : decode cX0_init 118 = .ok (.iload_n 1, 1) := by decide +kernel
theorem dX0_init_119 : decode cX0_init 119 = .ok (.bipush (-6), 2) := by decide +kernel
theorem dX0_init_121 : decode cX0_init 121 = .ok (.iastore, 1) := by decide +kernel
theorem dX0_init_122 : decode cX0_init 122 = .ok (.iinc 1 1, 3) := by decide +kernel
theorem dX0_init_125 : decode cX0_init 125 = .ok (.goto (-20), 3) := by decide +kernel
theorem dX0_init_128 : decode cX0_init 128 = .ok (.return_, 1) := by decide +kernel
theorem dX0_become_0 : decode cX0_become 0 = .ok (.aload_n 1, 1) := by decide +kernel
theorem dX0_become_1 : decode cX0_become 1 = .ok (.getfield 9, 3) := by decide +kernel
theorem dX0_become_4 : decode cX0_become 4 = .ok (.aload_n 0, 1) := by decide +kernel
theorem dX0_become_5 : decode cX0_become 5 = .ok (.getfield 9, 3) := by decide +kernel
theorem dX0_become_8 : decode cX0_become 8 = .ok (.invokestatic 43, 3) := by decide +kernel
theorem dX0_become_11 : decode cX0_become 11 = .ok (.aload_n 0, 1) := by decide +kernel
theorem dX0_become_12 : decode cX0_become 12 = .ok (.aload_n 1, 1) := by decide +kernel
theorem dX0_become_13 : decode cX0_become 13 = .ok (.getfield 47, 3) := by decide +kernel
theorem dX0_become_16 : decode cX0_become 16 = .ok (.putfield 47, 3) := by decide +kernel
theorem dX0_become_19 : decode cX0_become 19 = .ok (.aload_n 0, 1) := by decide +kernel
theorem dX0_become_20 : decode cX0_become 20 = .ok (.aload_n 1, 1) := by decide +kernel
theorem dX0_become_21 : decode cX0_become 21 = .ok (.getfield 50, 3) := by decide +kernel
theorem dX0_become_24 : decode cX0_become 24 = .ok (.putfield 50, 3) := by decide +kernel
theorem dX0_become_27 : decode cX0_become 27 = .ok (.aload_n 0, 1) := by decide +kernel
theorem dX0_become_28 : decode cX0_become 28 = .ok (.aload_n 1, 1) := by decide +kernel
theorem dX0_become_29 : decode cX0_become 29 = .ok (.getfield 53, 3) := by decide +kernel
theorem dX0_become_32 : decode cX0_become 32 = .ok (.putfield 53, 3) := by decide +kernel
theorem dX0_become_35 : decode cX0_become 35 = .ok (.aload_n 0, 1) := by decide +kernel
theorem dX0_become_36 : decode cX0_become 36 = .ok (.aload_n 1, 1) := by decide +kernel
theorem dX0_become_37 : decode cX0_become 37 = .ok (.getfield 57, 3) := by decide +kernel
theorem dX0_become_40 : decode cX0_become 40 = .ok (.putfield 57, 3) := by decide +kernel
theorem dX0_become_43 : decode cX0_become 43 = .ok (.aload_n 0, 1) := by decide +kernel
theorem dX0_become_44 : decode cX0_become 44 = .ok (.aload_n 1, 1) := by decide +kernel
theorem dX0_become_45 : decode cX0_become 45 = .ok (.getfield 60, 3) := by decide +kernel
theorem dX0_become_48 : decode cX0_become 48 = .ok (.putfield 60, 3) := by decide +kernel
theorem dX0_become_51 : decode cX0_become 51 = .ok (.aload_n 0, 1) := by decide +kernel
theorem dX0_become_52 : decode cX0_become 52 = .ok (.aload_n 1, 1) := by decide +kernel
theorem dX0_become_53 : decode cX0_become 53 = .ok (.getfield 63, 3) := by decide +kernel
theorem dX0_become_56 : decode cX0_become 56 = .ok (.putfield 63, 3) := by decide +kernel
theorem dX0_become_59 : decode cX0_become 59 = .ok (.aload_n 0, 1) := by decide +kernel
theorem dX0_become_60 : decode cX0_become 60 = .ok (.aload_n 1, 1) := by decide +kernel
theorem dX0_become_61 : decode cX0_become 61 = .ok (.getfield 15, 3) := by decide +kernel
theorem dX0_become_64 : decode cX0_become 64 = .ok (.putfield 15, 3) := by decide +kernel
theorem dX0_become_67 : decode cX0_become 67 = .ok (.aload_n 0, 1) := by decide +kernel
theorem dX0_become_68 : decode cX0_become 68 = .ok (.getfield 22, 3) := by decide +kernel
theorem dX0_become_71 : decode cX0_become 71 = .ok (.aload_n 1, 1) := by decide +kernel
theorem dX0_become_72 : decode cX0_become 72 = .ok (.getfield 22, 3) := by decide +kernel
theorem dX0_become_75 : decode cX0_become 75 = .ok (.invokevirtual 66, 3) := by decide +kernel
theorem dX0_become_78 : decode cX0_become 78 = .ok (.aload_n 0, 1) := by decide +kernel
theorem dX0_become_79 : decode cX0_become 79 = .ok (.getfield 26, 3) := by decide +kernel
theorem dX0_become_82 : decode cX0_become 82 = .ok (.aload_n 1, 1) := by decide +kernel
theorem dX0_become_83 : decode cX0_become 83 = .ok (.getfield 26, 3) := by decide +kernel
theorem dX0_become_86 : decode cX0_become 86 = .ok (.invokevirtual 66, 3) := by decide +kernel
theorem dX0_become_89 : decode cX0_become 89 = .ok (.aload_n 0, 1) := by decide +kernel
theorem dX0_become_90 : decode cX0_become 90 = .ok (.getfield 29, 3) := by decide +kernel
theorem dX0_become_93 : decode cX0_become 93 = .ok (.aload_n 1, 1) := by decide +kernel
theorem dX0_become_94 : decode cX0_become 94 = .ok (.getfield 29, 3) := by decide +kernel
theorem dX0_become_97 : decode cX0_become 97 = .ok (.invokevirtual 66, 3) := by decide +kernel
theorem dX0_become_100 : decode cX0_become 100 = .ok (.aload_n 1, 1) := by decide +kernel
theorem dX0_become_101 : decode cX0_become 101 = .ok (.getfield 34, 3) := by decide +kernel
theorem dX0_become_104 : decode cX0_become 104 = .ok (.aload_n 0, 1) := by decide +kernel
theorem dX0_become_105 : decode cX0_become 105 = .ok (.getfield 34, 3) := by decide +kernel
theorem dX0_become_108 : decode cX0_become 108 = .ok (.invokestatic 43, 3) := by decide +kernel
theorem dX0_become_111 : decode cX0_become 111 = .ok (.aload_n 1, 1) := by decide +kernel
theorem dX0_become_112 : decode cX0_become 112 = .ok (.getfield 37, 3) := by decide +kernel
theorem dX0_become_115 : decode cX0_become 115 = .ok (.aload_n 0, 1) := by decide +kernel
theorem dX0_become_116 : decode cX0_become 116 = .ok (.getfield 37, 3) := by decide +kernel
theorem dX0_become_119 : decode cX0_become 119 = .ok (.invokestatic 43, 3) := by decide +kernel
theorem dX0_become_122 : decode cX0_become 122 = .ok (.aload_n 0, 1) := by decide +kernel
theorem dX0_become_123 : decode cX0_become 123 = .ok (.aload_n 1, 1) := by decide +kernel
theorem dX0_become_124 : decode cX0_become 124 = .ok (.getfield 70, 3) := by decide +kernel
theorem dX0_become_127 : decode cX0_become 127 = .ok (.putfield 70, 3) := by decide +kernel
theorem dX0_become_130 : decode cX0_become 130 = .ok (.return_, 1) := by decide +kernel
theorem dX0_changeSetting_0 : decode cX0_changeSetting 0 = .ok (.iload_n 1, 1) := by decide +kernel
theorem dX0_changeSetting_1 : decode cX0_changeSetting 1 = .ok (.ifCond .lt 46, 3) := by decide +kernel
theorem dX0_changeSetting_4 : decode cX0_changeSetting 4 = .ok (.iload_n 1, 1) := by decide +kernel
theorem dX0_changeSetting_5 : decode cX0_changeSetting 5 = .ok (.aload_n 0, 1) := by decide +kernel
theorem dX0_changeSetting_6 : decode cX0_changeSetting 6 = .ok (.getfield 9, 3) := by decide +kernel
theorem dX0_changeSetting_9 : decode cX0_changeSetting 9 = .ok (.arraylength, 1) := by decide +kernel
theorem dX0_changeSetting_10 : decode cX0_changeSetting 10 = .ok (.if_icmp .ge 37, 3) := by decide +kernel
theorem dX0_changeSetting_13 : decode cX0_changeSetting 13 = .ok (.iload_n 1, 1) := by decide +kernel
theorem dX0_changeSetting_14 : decode cX0_changeSetting 14 = .ok (.getstatic 73, 3) := by decide +kernel
theorem dX0_changeSetting_17 : decode cX0_changeSetting 17 = .ok (.arraylength, 1) := by decide +kernel
theorem dX0_changeSetting_18 : decode cX0_changeSetting 18 = .ok (.if_icmp .ge 29, 3) := by decide +kernel
theorem dX0_changeSetting_21 : decode cX0_changeSetting 21 = .ok (.iload_n 1, 1) := by decide +kernel
theorem dX0_changeSetting_22 : decode cX0_changeSetting 22 = .ok (.getstatic 76, 3) := by decide +kernel
theorem dX0_changeSetting_25 : decode cX0_changeSetting 25 = .ok (.arraylength, 1) := by decide +kernel
theorem dX0_changeSetting_26 : decode cX0_changeSetting 26 = .ok (.if_icmp .ge 21, 3) := by decide +kernel
theorem dX0_changeSetting_29 : decode cX0_changeSetting 29 = .ok (.iload_n 2, 1) := by decide +kernel
theorem dX0_changeSetting_30 : decode cX0_changeSetting 30 = .ok (.getstatic 73, 3) := by decide +kernel
theorem dX0_changeSetting_33 : decode cX0_changeSetting 33 = .ok (.iload_n 1, 1) := by decide +kernel
theorem dX0_changeSetting_34 : decode cX0_changeSetting 34 = .ok (.iaload, 1) := by decide +kernel
theorem dX0_changeSetting_35 : decode cX0_changeSetting 35 = .ok (.if_icmp .lt 12, 3) := by decide +kernel
theorem dX0_changeSetting_38 : decode cX0_changeSetting 38 = .ok (.iload_n 2, 1) := by decide +kernel
theorem dX0_changeSetting_39 : decode cX0_changeSetting 39 = .ok (.getstatic 76, 3) := by decide +kernel
theorem dX0_changeSetting_42 : decode cX0_changeSetting 42 = .ok (.iload_n 1, 1) := by decide +kernel
theorem dX0_changeSetting_43 : decode cX0_changeSetting 43 = .ok (.iaload, 1) := by decide +kernel
theorem dX0_changeSetting_44 : decode cX0_changeSetting 44 = .ok (.if_icmp .le 6, 3) := by decide +kernel
theorem dX0_changeSetting_47 : decode cX0_changeSetting 47 = .ok (.bipush (-2), 2) := by decide +kernel
theorem dX0_changeSetting_49 : decode cX0_changeSetting 49 = .ok (.ireturn, 1) := by decide +kernel
theorem dX0_changeSetting_50 : decode cX0_changeSetting 50 = .ok (.aload_n 0, 1) := by decide +kernel
theorem dX0_changeSetting_51 : decode cX0_changeSetting 51 = .ok (.getfield 9, 3) := by decide +kernel
theorem dX0_changeSetting_54 : decode cX0_changeSetting 54 = .ok (.iload_n 1, 1) := by decide +kernel
theorem dX0_changeSetting_55 : decode cX0_changeSetting 55 = .ok (.iaload, 1) := by decide +kernel
theorem dX0_changeSetting_56 : decode cX0_changeSetting 56 = .ok (.istore_n 3, 1) := by decide +kernel
theorem dX0_changeSetting_57 : decode cX0_changeSetting 57 = .ok (.aload_n 0, 1) := by decide +kernel
theorem dX0_changeSetting_58 : decode cX0_changeSetting 58 = .ok (.getfield 9, 3) := by decide +kernel
theorem dX0_changeSetting_61 : decode cX0_changeSetting 61 = .ok (.iload_n 1, 1) := by decide +kernel
theorem dX0_changeSetting_62 : decode cX0_changeSetting 62 = .ok (.iload_n 2, 1) := by decide +kernel
theorem dX0_changeSetting_63 : decode cX0_changeSetting 63 = .ok (.iastore, 1) := by decide +kernel
theorem dX0_changeSetting_64 : decode cX0_changeSetting 64 = .ok (.iload_n 3, 1) := by decide +kernel
theorem dX0_changeSetting_65 : decode cX0_changeSetting 65 = .ok (.ireturn, 1) := by decide +kernel
theorem dX0_layRoad_0 : decode cX0_layRoad 0 = .ok (.iload_n 1, 1) := by decide +kernel
theorem dX0_layRoad_1 : decode cX0_layRoad 1 = .ok (.iload_n 2, 1) := by decide +kernel
theorem dX0_layRoad_2 : decode cX0_layRoad 2 = .ok (.invokestatic 79, 3) := by decide +kernel
theorem dX0_layRoad_5 : decode cX0_layRoad 5 = .ok (.istore_n 3, 1) := by decide +kernel
theorem dX0_layRoad_6 : decode cX0_layRoad 6 = .ok (.iload_n 3, 1) := by decide +kernel
theorem dX0_layRoad_7 : decode cX0_layRoad 7 = .ok (.ifCond .eq 5, 3) := by decide +kernel
theorem dX0_layRoad_10 : decode cX0_layRoad 10 = .ok (.iload_n 3, 1) := by decide +kernel
theorem dX0_layRoad_11 : decode cX0_layRoad 11 = .ok (.ireturn, 1) := by decide +kernel
theorem dX0_layRoad_12 : decode cX0_layRoad 12 = .ok (.aload_n 0, 1) := by decide +kernel
theorem dX0_layRoad_13 : decode cX0_layRoad 13 = .ok (.getfield 53, 3) := by decide +kernel
theorem dX0_layRoad_16 : decode cX0_layRoad 16 = .ok (.ifCond .eq 6, 3) := by decide +kernel
theorem dX0_layRoad_19 : decode cX0_layRoad 19 = .ok (.bipush (-5), 2) := by decide +kernel
theorem dX0_layRoad_21 : decode cX0_layRoad 21 = .ok (.ireturn, 1) := by decide +kernel
theorem dX0_layRoad_22 : decode cX0_layRoad 22 = .ok (.aload_n 0, 1) := by decide +kernel
theorem dX0_layRoad_23 : decode cX0_layRoad 23 = .ok (.dup, 1) := by decide +kernel
theorem dX0_layRoad_24 : decode cX0_layRoad 24 = .ok (.getfield 47, 3) := by decide +kernel
theorem dX0_layRoad_27 : decode cX0_layRoad 27 = .ok (.iload_n 1, 1) := by decide +kernel
theorem dX0_layRoad_28 : decode cX0_layRoad 28 = .ok (.iload_n 2, 1) := by decide +kernel
theorem dX0_layRoad_29 : decode cX0_layRoad 29 = .ok (.invokestatic 83, 3) := by decide +kernel
theorem dX0_layRoad_32 : decode cX0_layRoad 32 = .ok (.ixor, 1) := by decide +kernel
theorem dX0_layRoad_33 : decode cX0_layRoad 33 = .ok (.putfield 47, 3) := by decide +kernel
theorem dX0_layRoad_36 : decode cX0_layRoad 36 = .ok (.aload_n 0, 1) := by decide +kernel
theorem dX0_layRoad_37 : decode cX0_layRoad 37 = .ok (.getfield 47, 3) := by decide +kernel
theorem dX0_layRoad_40 : decode cX0_layRoad 40 = .ok (.invokestatic 86, 3) := by decide +kernel
theorem dX0_layRoad_43 : decode cX0_layRoad 43 = .ok (.ireturn, 1) := by decide +kernel
theorem dX0_hideTreasure_0 : decode cX0_hideTreasure 0 = .ok (.iload_n 1, 1) := by decide +kernel
theorem dX0_hideTreasure_1 : decode cX0_hideTreasure 1 = .ok (.invokestatic 92, 3) := by decide +kernel
theorem dX0_hideTreasure_4 : decode cX0_hideTreasure 4 = .ok (.ifCond .ne 5, 3) := by decide +kernel
theorem dX0_hideTreasure_7 : decode cX0_hideTreasure 7 = .ok (.iconst (-1), 1) := by decide +kernel
theorem dX0_hideTreasure_8 : decode cX0_hideTreasure 8 = .ok (.ireturn, 1) := by decide +kernel
theorem dX0_hideTreasure_9 : decode cX0_hideTreasure 9 = .ok (.aload_n 0, 1) := by decide +kernel
theorem dX0_hideTreasure_10 : decode cX0_hideTreasure 10 = .ok (.getfield 53, 3) := by decide +kernel
theorem dX0_hideTreasure_13 : decode cX0_hideTreasure 13 = .ok (.ifCond .eq 6, 3) := by decide +kernel
theorem dX0_hideTreasure_16 : decode cX0_hideTreasure 16 = .ok (.bipush (-5), 2) := by decide +kernel
theorem dX0_hideTreasure_18 : decode cX0_hideTreasure 18 = .ok (.ireturn, 1) := by decide +kernel
theorem dX0_hideTreasure_19 : decode cX0_hideTreasure 19 = .ok (.aload_n 0, 1) := by decide +kernel
theorem dX0_hideTreasure_20 : decode cX0_hideTreasure 20 = .ok (.getfield 50, 3) := by decide +kernel
theorem dX0_hideTreasure_23 : decode cX0_hideTreasure 23 = .ok (.istore_n 2, 1) := by decide +kernel
theorem dX0_hideTreasure_24 : decode cX0_hideTreasure 24 = .ok (.aload_n 0, 1) := by decide +kernel
theorem dX0_hideTreasure_25 : decode cX0_hideTreasure 25 = .ok (.iload_n 1, 1) := by decide +kernel
theorem dX0_hideTreasure_26 : decode cX0_hideTreasure 26 = .ok (.putfield 50, 3) := by decide +kernel
theorem dX0_hideTreasure_29 : decode cX0_hideTreasure 29 = .ok (.iload_n 2, 1) := by decide +kernel
theorem dX0_hideTreasure_30 : decode cX0_hideTreasure 30 = .ok (.ireturn, 1) := by decide +kernel
theorem dX0_start_0 : decode cX0_start 0 = .ok (.aload_n 0, 1) := by decide +kernel
theorem dX0_start_1 : decode cX0_start 1 = .ok (.getfield 53, 3) := by decide +kernel
theorem dX0_start_4 : decode cX0_start 4 = .ok (.ifCond .eq 6, 3) := by decide +kernel
theorem dX0_start_7 : decode cX0_start 7 = .ok (.bipush (-5), 2) := by decide +kernel
theorem dX0_start_9 : decode cX0_start 9 = .ok (.ireturn, 1) := by decide +kernel
theorem dX0_start_10 : decode cX0_start 10 = .ok (.aload_n 0, 1) := by decide +kernel
theorem dX0_start_11 : decode cX0_start 11 = .ok (.iconst 1, 1) := by decide +kernel
theorem dX0_start_12 : decode cX0_start 12 = .ok (.putfield 53, 3) := by decide +kernel
theorem dX0_start_15 : decode cX0_start 15 = .ok (.aload_n 0, 1) := by decide +kernel
theorem dX0_start_16 : decode cX0_start 16 = .ok (.aload_n 0, 1) := by decide +kernel
theorem dX0_start_17 : decode cX0_start 17 = .ok (.getfield 47, 3) := by decide +kernel
theorem dX0_start_20 : decode cX0_start 20 = .ok (.aload_n 0, 1) := by decide +kernel
theorem dX0_start_21 : decode cX0_start 21 = .ok (.getfield 57, 3) := by decide +kernel
theorem dX0_start_24 : decode cX0_start 24 = .ok (.invokestatic 96, 3) := by decide +kernel
theorem dX0_start_27 : decode cX0_start 27 = .ok (.putfield 60, 3) := by decide +kernel
theorem dX0_start_30 : decode cX0_start 30 = .ok (.aload_n 0, 1) := by decide +kernel
theorem dX0_start_31 : decode cX0_start 31 = .ok (.getfield 60, 3) := by decide +kernel
theorem dX0_start_34 : decode cX0_start 34 = .ok (.invokestatic 86, 3) := by decide +kernel
theorem dX0_start_37 : decode cX0_start 37 = .ok (.ireturn, 1) := by decide +kernel
theorem dX0_makeClaim_0 : decode cX0_makeClaim 0 = .ok (.iload_n 1, 1) := by decide +kernel
theorem dX0_makeClaim_1 : decode cX0_makeClaim 1 = .ok (.iload_n 2, 1) := by decide +kernel
theorem dX0_makeClaim_2 : decode cX0_makeClaim 2 = .ok (.invokestatic 79, 3) := by decide +kernel
theorem dX0_makeClaim_5 : decode cX0_makeClaim 5 = .ok (.istore 4, 2) := by decide +kernel
theorem dX0_makeClaim_7 : decode cX0_makeClaim 7 = .ok (.iload 4, 2) := by decide +kernel
theorem dX0_makeClaim_9 : decode cX0_makeClaim 9 = .ok (.ifCond .eq 6, 3) := by decide +kernel
theorem dX0_makeClaim_12 : decode cX0_makeClaim 12 = .ok (.iload 4, 2) := by decide +kernel
theorem dX0_makeClaim_14 : decode cX0_makeClaim 14 = .ok (.ireturn, 1) := by decide +kernel
theorem dX0_makeClaim_15 : decode cX0_makeClaim 15 = .ok (.iload_n 3, 1) := by decide +kernel
theorem dX0_makeClaim_16 : decode cX0_makeClaim 16 = .ok (.ifCond .eq 11, 3) := by decide +kernel
theorem dX0_makeClaim_19 : decode cX0_makeClaim 19 = .ok (.iload_n 3, 1) := by decide +kernel
theorem dX0_makeClaim_20 : decode cX0_makeClaim 20 = .ok (.iconst 1, 1) := by decide +kernel
theorem dX0_makeClaim_21 : decode cX0_makeClaim 21 = .ok (.if_icmp .eq 6, 3) := by decide +kernel
theorem dX0_makeClaim_24 : decode cX0_makeClaim 24 = .ok (.bipush (-2), 2) := by decide +kernel
theorem dX0_makeClaim_26 : decode cX0_makeClaim 26 = .ok (.ireturn, 1) := by decide +kernel
theorem dX0_makeClaim_27 : decode cX0_makeClaim 27 = .ok (.aload_n 0, 1) := by decide +kernel
theorem dX0_makeClaim_28 : decode cX0_makeClaim 28 = .ok (.invokevirtual 99, 3) := by decide +kernel
theorem dX0_makeClaim_31 : decode cX0_makeClaim 31 = .ok (.ifCond .ne 6, 3) := by decide +kernel
theorem dX0_makeClaim_34 : decode cX0_makeClaim 34 = .ok (.bipush (-5), 2) := by decide +kernel
theorem dX0_makeClaim_36 : decode cX0_makeClaim 36 = .ok (.ireturn, 1) := by decide +kernel
theorem dX0_makeClaim_37 : decode cX0_makeClaim 37 = .ok (.aload_n 0, 1) := by decide +kernel
theorem dX0_makeClaim_38 : decode cX0_makeClaim 38 = .ok (.aload_n 0, 1) := by decide +kernel
theorem dX0_makeClaim_39 : decode cX0_makeClaim 39 = .ok (.invokevirtual 103, 3) := by decide +kernel
theorem dX0_makeClaim_42 : decode cX0_makeClaim 42 = .ok (.invokevirtual 107, 3) := by decide +kernel
theorem dX0_makeClaim_45 : decode cX0_makeClaim 45 = .ok (.astore 5, 2) := by decide +kernel
theorem dX0_makeClaim_47 : decode cX0_makeClaim 47 = .ok (.aload 5, 2) := by decide +kernel
theorem dX0_makeClaim_49 : decode cX0_makeClaim 49 = .ok (.iload_n 1, 1) := by decide +kernel
theorem dX0_makeClaim_50 : decode cX0_makeClaim 50 = .ok (.iload_n 2, 1) := by decide +kernel
theorem dX0_makeClaim_51 : decode cX0_makeClaim 51 = .ok (.invokestatic 83, 3) := by decide +kernel
theorem dX0_makeClaim_54 : decode cX0_makeClaim 54 = .ok (.iload_n 3, 1) := by decide +kernel
theorem dX0_makeClaim_55 : decode cX0_makeClaim 55 = .ok (.iconst 1, 1) := by decide +kernel
theorem dX0_makeClaim_56 : decode cX0_makeClaim 56 = .ok (.if_icmp .ne 7, 3) := by decide +kernel
theorem dX0_makeClaim_59 : decode cX0_makeClaim 59 = .ok (.iconst 1, 1) := by decide +kernel
theorem dX0_makeClaim_60 : decode cX0_makeClaim 60 = .ok (.goto 4, 3) := by decide +kernel
theorem dX0_makeClaim_63 : decode cX0_makeClaim 63 = .ok (.iconst 0, 1) := by decide +kernel
theorem dX0_makeClaim_64 : decode cX0_makeClaim 64 = .ok (.invokevirtual 111, 3) := by decide +kernel
theorem dX0_makeClaim_67 : decode cX0_makeClaim 67 = .ok (.aload_n 0, 1) := by decide +kernel
theorem dX0_makeClaim_68 : decode cX0_makeClaim 68 = .ok (.dup, 1) := by decide +kernel
theorem dX0_makeClaim_69 : decode cX0_makeClaim 69 = .ok (.getfield 63, 3) := by decide +kernel
theorem dX0_makeClaim_72 : decode cX0_makeClaim 72 = .ok (.iconst 1, 1) := by decide +kernel
theorem dX0_makeClaim_73 : decode cX0_makeClaim 73 = .ok (.iadd, 1) := by decide +kernel
theorem dX0_makeClaim_74 : decode cX0_makeClaim 74 = .ok (.putfield 63, 3) := by decide +kernel
theorem dX0_makeClaim_77 : decode cX0_makeClaim 77 = .ok (.aload 5, 2) := by decide +kernel
theorem dX0_makeClaim_79 : decode cX0_makeClaim 79 = .ok (.invokevirtual 115, 3) := by decide +kernel
theorem dX0_makeClaim_82 : decode cX0_makeClaim 82 = .ok (.ireturn, 1) := by decide +kernel
theorem dX0_checkClaim_0 : decode cX0_checkClaim 0 = .ok (.iload_n 1, 1) := by decide +kernel
theorem dX0_checkClaim_1 : decode cX0_checkClaim 1 = .ok (.invokestatic 118, 3) := by decide +kernel
theorem dX0_checkClaim_4 : decode cX0_checkClaim 4 = .ok (.ifCond .eq 11, 3) := by decide +kernel
theorem dX0_checkClaim_7 : decode cX0_checkClaim 7 = .ok (.iload_n 2, 1) := by decide +kernel
theorem dX0_checkClaim_8 : decode cX0_checkClaim 8 = .ok (.iload_n 3, 1) := by decide +kernel
theorem dX0_checkClaim_9 : decode cX0_checkClaim 9 = .ok (.invokestatic 79, 3) := by decide +kernel
theorem dX0_checkClaim_12 : decode cX0_checkClaim 12 = .ok (.goto 4, 3) := by decide +kernel
theorem dX0_checkClaim_15 : decode cX0_checkClaim 15 = .ok (.iconst (-1), 1) := by decide +kernel
theorem dX0_checkClaim_16 : decode cX0_checkClaim 16 = .ok (.istore 4, 2) := by decide +kernel
theorem dX0_checkClaim_18 : decode cX0_checkClaim 18 = .ok (.iload 4, 2) := by decide +kernel
theorem dX0_checkClaim_20 : decode cX0_checkClaim 20 = .ok (.ifCond .eq 6, 3) := by decide +kernel
theorem dX0_checkClaim_23 : decode cX0_checkClaim 23 = .ok (.iload 4, 2) := by decide +kernel
theorem dX0_checkClaim_25 : decode cX0_checkClaim 25 = .ok (.ireturn, 1) := by decide +kernel
theorem dX0_checkClaim_26 : decode cX0_checkClaim 26 = .ok (.iload_n 1, 1) := by decide +kernel
theorem dX0_checkClaim_27 : decode cX0_checkClaim 27 = .ok (.aload_n 0, 1) := by decide +kernel
theorem dX0_checkClaim_28 : decode cX0_checkClaim 28 = .ok (.invokevirtual 103, 3) := by decide +kernel
theorem dX0_checkClaim_31 : decode cX0_checkClaim 31 = .ok (.if_icmp .ne 6, 3) := by decide +kernel
theorem dX0_checkClaim_34 : decode cX0_checkClaim 34 = .ok (.bipush (-2), 2) := by decide +kernel
theorem dX0_checkClaim_36 : decode cX0_checkClaim 36 = .ok (.ireturn, 1) := by decide +kernel
theorem dX0_checkClaim_37 : decode cX0_checkClaim 37 = .ok (.iload_n 2, 1) := by decide +kernel
theorem dX0_checkClaim_38 : decode cX0_checkClaim 38 = .ok (.iload_n 3, 1) := by decide +kernel
theorem dX0_checkClaim_39 : decode cX0_checkClaim 39 = .ok (.invokestatic 83, 3) := by decide +kernel
theorem dX0_checkClaim_42 : decode cX0_checkClaim 42 = .ok (.istore 5, 2) := by decide +kernel
theorem dX0_checkClaim_44 : decode cX0_checkClaim 44 = .ok (.aload_n 0, 1) := by decide +kernel
theorem dX0_checkClaim_45 : decode cX0_checkClaim 45 = .ok (.iload_n 1, 1) := by decide +kernel
theorem dX0_checkClaim_46 : decode cX0_checkClaim 46 = .ok (.invokevirtual 107, 3) := by decide +kernel
theorem dX0_checkClaim_49 : decode cX0_checkClaim 49 = .ok (.astore 6, 2) := by decide +kernel
theorem dX0_checkClaim_51 : decode cX0_checkClaim 51 = .ok (.aload 6, 2) := by decide +kernel
theorem dX0_checkClaim_53 : decode cX0_checkClaim 53 = .ok (.getfield 121, 3) := by decide +kernel
theorem dX0_checkClaim_56 : decode cX0_checkClaim 56 = .ok (.aload 6, 2) := by decide +kernel
theorem dX0_checkClaim_58 : decode cX0_checkClaim 58 = .ok (.getfield 124, 3) := by decide +kernel
theorem dX0_checkClaim_61 : decode cX0_checkClaim 61 = .ok (.ior, 1) := by decide +kernel
theorem dX0_checkClaim_62 : decode cX0_checkClaim 62 = .ok (.iload 5, 2) := by decide +kernel
theorem dX0_checkClaim_64 : decode cX0_checkClaim 64 = .ok (.iand, 1) := by decide +kernel
theorem dX0_checkClaim_65 : decode cX0_checkClaim 65 = .ok (.ifCond .eq 7, 3) := by decide +kernel
theorem dX0_checkClaim_68 : decode cX0_checkClaim 68 = .ok (.iconst 1, 1) := by decide +kernel
theorem dX0_checkClaim_69 : decode cX0_checkClaim 69 = .ok (.goto 4, 3) := by decide +kernel
theorem dX0_checkClaim_72 : decode cX0_checkClaim 72 = .ok (.iconst 0, 1) := by decide +kernel
theorem dX0_checkClaim_73 : decode cX0_checkClaim 73 = .ok (.istore 7, 2) := by decide +kernel
theorem dX0_checkClaim_75 : decode cX0_checkClaim 75 = .ok (.aload_n 0, 1) := by decide +kernel
theorem dX0_checkClaim_76 : decode cX0_checkClaim 76 = .ok (.invokevirtual 99, 3) := by decide +kernel
theorem dX0_checkClaim_79 : decode cX0_checkClaim 79 = .ok (.ifCond .eq 18, 3) := by decide +kernel
theorem dX0_checkClaim_82 : decode cX0_checkClaim 82 = .ok (.iload 7, 2) := by decide +kernel
theorem dX0_checkClaim_84 : decode cX0_checkClaim 84 = .ok (.ifCond .eq 13, 3) := by decide +kernel
theorem dX0_checkClaim_87 : decode cX0_checkClaim 87 = .ok (.aload_n 0, 1) := by decide +kernel
theorem dX0_checkClaim_88 : decode cX0_checkClaim 88 = .ok (.getfield 57, 3) := by decide +kernel
theorem dX0_checkClaim_91 : decode cX0_checkClaim 91 = .ok (.iload 5, 2) := by decide +kernel
theorem dX0_checkClaim_93 : decode cX0_checkClaim 93 = .ok (.iand, 1) := by decide +kernel
theorem dX0_checkClaim_94 : decode cX0_checkClaim 94 = .ok (.ifCond .eq 6, 3) := by decide +kernel
theorem dX0_checkClaim_97 : decode cX0_checkClaim 97 = .ok (.bipush (-5), 2) := by decide +kernel
theorem dX0_checkClaim_99 : decode cX0_checkClaim 99 = .ok (.ireturn, 1) := by decide +kernel
theorem dX0_checkClaim_100 : decode cX0_checkClaim 100 = .ok (.aload_n 0, 1) := by decide +kernel
theorem dX0_checkClaim_101 : decode cX0_checkClaim 101 = .ok (.aload_n 0, 1) := by decide +kernel
theorem dX0_checkClaim_102 : decode cX0_checkClaim 102 = .ok (.aload_n 0, 1) := by decide +kernel
theorem dX0_checkClaim_103 : decode cX0_checkClaim 103 = .ok (.invokevirtual 103, 3) := by decide +kernel
theorem dX0_checkClaim_106 : decode cX0_checkClaim 106 = .ok (.invokevirtual 107, 3) := by decide +kernel
theorem dX0_checkClaim_109 : decode cX0_checkClaim 109 = .ok (.aload 6, 2) := by decide +kernel
theorem dX0_checkClaim_111 : decode cX0_checkClaim 111 = .ok (.iload 5, 2) := by decide +kernel
theorem dX0_checkClaim_113 : decode cX0_checkClaim 113 = .ok (.invokevirtual 127, 3) := by decide +kernel
theorem dX0_checkClaim_116 : decode cX0_checkClaim 116 = .ok (.ireturn, 1) := by decide +kernel
theorem dX0_settleCheck_0 : decode cX0_settleCheck 0 = .ok (.aload_n 1, 1) := by decide +kernel
theorem dX0_settleCheck_1 : decode cX0_settleCheck 1 = .ok (.dup, 1) := by decide +kernel
theorem dX0_settleCheck_2 : decode cX0_settleCheck 2 = .ok (.getfield 131, 3) := by decide +kernel
theorem dX0_settleCheck_5 : decode cX0_settleCheck 5 = .ok (.iconst 1, 1) := by decide +kernel
theorem dX0_settleCheck_6 : decode cX0_settleCheck 6 = .ok (.iadd, 1) := by decide +kernel
theorem dX0_settleCheck_7 : decode cX0_settleCheck 7 = .ok (.putfield 131, 3) := by decide +kernel
theorem dX0_settleCheck_10 : decode cX0_settleCheck 10 = .ok (.aload_n 1, 1) := by decide +kernel
theorem dX0_settleCheck_11 : decode cX0_settleCheck 11 = .ok (.aload_n 2, 1) := by decide +kernel
theorem dX0_settleCheck_12 : decode cX0_settleCheck 12 = .ok (.aload_n 0, 1) := by decide +kernel
theorem dX0_settleCheck_13 : decode cX0_settleCheck 13 = .ok (.iconst 0, 1) := by decide +kernel
theorem dX0_settleCheck_14 : decode cX0_settleCheck 14 = .ok (.invokevirtual 134, 3) := by decide +kernel
theorem dX0_settleCheck_17 : decode cX0_settleCheck 17 = .ok (.invokevirtual 137, 3) := by decide +kernel
theorem dX0_settleCheck_20 : decode cX0_settleCheck 20 = .ok (.aload_n 0, 1) := by decide +kernel
theorem dX0_settleCheck_21 : decode cX0_settleCheck 21 = .ok (.dup, 1) := by decide +kernel
theorem dX0_settleCheck_22 : decode cX0_settleCheck 22 = .ok (.getfield 57, 3) := by decide +kernel
theorem dX0_settleCheck_25 : decode cX0_settleCheck 25 = .ok (.iload_n 3, 1) := by decide +kernel
theorem dX0_settleCheck_26 : decode cX0_settleCheck 26 = .ok (.ior, 1) := by decide +kernel
theorem dX0_settleCheck_27 : decode cX0_settleCheck 27 = .ok (.putfield 57, 3) := by decide +kernel
theorem dX0_settleCheck_30 : decode cX0_settleCheck 30 = .ok (.aload_n 0, 1) := by decide +kernel
theorem dX0_settleCheck_31 : decode cX0_settleCheck 31 = .ok (.aload_n 0, 1) := by decide +kernel
theorem dX0_settleCheck_32 : decode cX0_settleCheck 32 = .ok (.getfield 47, 3) := by decide +kernel
theorem dX0_settleCheck_35 : decode cX0_settleCheck 35 = .ok (.aload_n 0, 1) := by decide +kernel
theorem dX0_settleCheck_36 : decode cX0_settleCheck 36 = .ok (.getfield 57, 3) := by decide +kernel
theorem dX0_settleCheck_39 : decode cX0_settleCheck 39 = .ok (.invokestatic 96, 3) := by decide +kernel
theorem dX0_settleCheck_42 : decode cX0_settleCheck 42 = .ok (.putfield 60, 3) := by decide +kernel
theorem dX0_settleCheck_45 : decode cX0_settleCheck 45 = .ok (.aload_n 2, 1) := by decide +kernel
theorem dX0_settleCheck_46 : decode cX0_settleCheck 46 = .ok (.aload_n 0, 1) := by decide +kernel
theorem dX0_settleCheck_47 : decode cX0_settleCheck 47 = .ok (.getfield 47, 3) := by decide +kernel
theorem dX0_settleCheck_50 : decode cX0_settleCheck 50 = .ok (.invokevirtual 141, 3) := by decide +kernel
theorem dX0_settleCheck_53 : decode cX0_settleCheck 53 = .ok (.iload_n 3, 1) := by decide +kernel
theorem dX0_settleCheck_54 : decode cX0_settleCheck 54 = .ok (.iand, 1) := by decide +kernel
theorem dX0_settleCheck_55 : decode cX0_settleCheck 55 = .ok (.ifCond .eq 7, 3) := by decide +kernel
theorem dX0_settleCheck_58 : decode cX0_settleCheck 58 = .ok (.iconst 1, 1) := by decide +kernel
theorem dX0_settleCheck_59 : decode cX0_settleCheck 59 = .ok (.goto 4, 3) := by decide +kernel
theorem dX0_settleCheck_62 : decode cX0_settleCheck 62 = .ok (.iconst 0, 1) := by decide +kernel
theorem dX0_settleCheck_63 : decode cX0_settleCheck 63 = .ok (.istore 4, 2) := by decide +kernel
theorem dX0_settleCheck_65 : decode cX0_settleCheck 65 = .ok (.iload 4, 2) := by decide +kernel
theorem dX0_settleCheck_67 : decode cX0_settleCheck 67 = .ok (.ifCond .eq 33, 3) := by decide +kernel
theorem dX0_settleCheck_70 : decode cX0_settleCheck 70 = .ok (.aload_n 1, 1) := by decide +kernel
theorem dX0_settleCheck_71 : decode cX0_settleCheck 71 = .ok (.dup, 1) := by decide +kernel
theorem dX0_settleCheck_72 : decode cX0_settleCheck 72 = .ok (.getfield 144, 3) := by decide +kernel
theorem dX0_settleCheck_75 : decode cX0_settleCheck 75 = .ok (.iconst 1, 1) := by decide +kernel
theorem dX0_settleCheck_76 : decode cX0_settleCheck 76 = .ok (.iadd, 1) := by decide +kernel
theorem dX0_settleCheck_77 : decode cX0_settleCheck 77 = .ok (.putfield 144, 3) := by decide +kernel
theorem dX0_settleCheck_80 : decode cX0_settleCheck 80 = .ok (.aload_n 2, 1) := by decide +kernel
theorem dX0_settleCheck_81 : decode cX0_settleCheck 81 = .ok (.dup, 1) := by decide +kernel
theorem dX0_settleCheck_82 : decode cX0_settleCheck 82 = .ok (.getfield 147, 3) := by decide +kernel
theorem dX0_settleCheck_85 : decode cX0_settleCheck 85 = .ok (.iconst 1, 1) := by decide +kernel
theorem dX0_settleCheck_86 : decode cX0_settleCheck 86 = .ok (.iadd, 1) := by decide +kernel
theorem dX0_settleCheck_87 : decode cX0_settleCheck 87 = .ok (.putfield 147, 3) := by decide +kernel
theorem dX0_settleCheck_90 : decode cX0_settleCheck 90 = .ok (.aload_n 2, 1) := by decide +kernel
theorem dX0_settleCheck_91 : decode cX0_settleCheck 91 = .ok (.aload_n 1, 1) := by decide +kernel
theorem dX0_settleCheck_92 : decode cX0_settleCheck 92 = .ok (.aload_n 0, 1) := by decide +kernel
theorem dX0_settleCheck_93 : decode cX0_settleCheck 93 = .ok (.iconst 1, 1) := by decide +kernel
theorem dX0_settleCheck_94 : decode cX0_settleCheck 94 = .ok (.invokevirtual 134, 3) := by decide +kernel
theorem dX0_settleCheck_97 : decode cX0_settleCheck 97 = .ok (.invokevirtual 137, 3) := by decide +kernel
theorem dX0_settleCheck_100 : decode cX0_settleCheck 100 = .ok (.aload_n 0, 1) := by decide +kernel
theorem dX0_settleCheck_101 : decode cX0_settleCheck 101 = .ok (.dup, 1) := by decide +kernel
theorem dX0_settleCheck_102 : decode cX0_settleCheck 102 = .ok (.getfield 63, 3) := by decide +kernel
theorem dX0_settleCheck_105 : decode cX0_settleCheck 105 = .ok (.iconst 1, 1) := by decide +kernel
theorem dX0_settleCheck_106 : decode cX0_settleCheck 106 = .ok (.iadd, 1) := by decide +kernel
theorem dX0_settleCheck_107 : decode cX0_settleCheck 107 = .ok (.putfield 63, 3) := by decide +kernel
theorem dX0_settleCheck_110 : decode cX0_settleCheck 110 = .ok (.iload 4, 2) := by decide +kernel
theorem dX0_settleCheck_112 : decode cX0_settleCheck 112 = .ok (.ifCond .eq 7, 3) := by decide +kernel
theorem dX0_settleCheck_115 : decode cX0_settleCheck 115 = .ok (.iconst 1, 1) := by decide +kernel
theorem dX0_settleCheck_116 : decode cX0_settleCheck 116 = .ok (.goto 4, 3) := by decide +kernel
theorem dX0_settleCheck_119 : decode cX0_settleCheck 119 = .ok (.iconst 0, 1) := by decide +kernel
theorem dX0_settleCheck_120 : decode cX0_settleCheck 120 = .ok (.ireturn, 1) := by decide +kernel
theorem dX0_digAt_0 : decode cX0_digAt 0 = .ok (.iload_n 1, 1) := by decide +kernel
theorem dX0_digAt_1 : decode cX0_digAt 1 = .ok (.invokestatic 92, 3) := by decide +kernel
theorem dX0_digAt_4 : decode cX0_digAt 4 = .ok (.ifCond .ne 5, 3) := by decide +kernel
theorem dX0_digAt_7 : decode cX0_digAt 7 = .ok (.iconst (-1), 1) := by decide +kernel
theorem dX0_digAt_8 : decode cX0_digAt 8 = .ok (.ireturn, 1) := by decide +kernel
theorem dX0_digAt_9 : decode cX0_digAt 9 = .ok (.aload_n 0, 1) := by decide +kernel
theorem dX0_digAt_10 : decode cX0_digAt 10 = .ok (.aload_n 0, 1) := by decide +kernel
theorem dX0_digAt_11 : decode cX0_digAt 11 = .ok (.invokevirtual 103, 3) := by decide +kernel
theorem dX0_digAt_14 : decode cX0_digAt 14 = .ok (.invokevirtual 107, 3) := by decide +kernel
theorem dX0_digAt_17 : decode cX0_digAt 17 = .ok (.astore_n 2, 1) := by decide +kernel
theorem dX0_digAt_18 : decode cX0_digAt 18 = .ok (.aload_n 0, 1) := by decide +kernel
theorem dX0_digAt_19 : decode cX0_digAt 19 = .ok (.invokevirtual 99, 3) := by decide +kernel
theorem dX0_digAt_22 : decode cX0_digAt 22 = .ok (.ifCond .eq 15, 3) := by decide +kernel
theorem dX0_digAt_25 : decode cX0_digAt 25 = .ok (.aload_n 2, 1) := by decide +kernel
theorem dX0_digAt_26 : decode cX0_digAt 26 = .ok (.getfield 150, 3) := by decide +kernel
theorem dX0_digAt_29 : decode cX0_digAt 29 = .ok (.aload_n 0, 1) := by decide +kernel
theorem dX0_digAt_30 : decode cX0_digAt 30 = .ok (.iconst 2, 1) := by decide +kernel
theorem dX0_digAt_31 : decode cX0_digAt 31 = .ok (.invokevirtual 134, 3) := by decide +kernel
theorem dX0_digAt_34 : decode cX0_digAt 34 = .ok (.if_icmp .ge 6, 3) := by decide +kernel
theorem dX0_digAt_37 : decode cX0_digAt 37 = .ok (.bipush (-5), 2) := by decide +kernel
theorem dX0_digAt_39 : decode cX0_digAt 39 = .ok (.ireturn, 1) := by decide +kernel
theorem dX0_digAt_40 : decode cX0_digAt 40 = .ok (.aload_n 2, 1) := by decide +kernel
theorem dX0_digAt_41 : decode cX0_digAt 41 = .ok (.dup, 1) := by decide +kernel
theorem dX0_digAt_42 : decode cX0_digAt 42 = .ok (.getfield 150, 3) := by decide +kernel
theorem dX0_digAt_45 : decode cX0_digAt 45 = .ok (.aload_n 0, 1) := by decide +kernel
theorem dX0_digAt_46 : decode cX0_digAt 46 = .ok (.iconst 2, 1) := by decide +kernel
theorem dX0_digAt_47 : decode cX0_digAt 47 = .ok (.invokevirtual 134, 3) := by decide +kernel
theorem dX0_digAt_50 : decode cX0_digAt 50 = .ok (.isub, 1) := by decide +kernel
theorem dX0_digAt_51 : decode cX0_digAt 51 = .ok (.putfield 150, 3) := by decide +kernel
theorem dX0_digAt_54 : decode cX0_digAt 54 = .ok (.aload_n 2, 1) := by decide +kernel
theorem dX0_digAt_55 : decode cX0_digAt 55 = .ok (.dup, 1) := by decide +kernel
theorem dX0_digAt_56 : decode cX0_digAt 56 = .ok (.getfield 153, 3) := by decide +kernel
theorem dX0_digAt_59 : decode cX0_digAt 59 = .ok (.iconst 1, 1) := by decide +kernel
theorem dX0_digAt_60 : decode cX0_digAt 60 = .ok (.iadd, 1) := by decide +kernel
theorem dX0_digAt_61 : decode cX0_digAt 61 = .ok (.putfield 153, 3) := by decide +kernel
theorem dX0_digAt_64 : decode cX0_digAt 64 = .ok (.aload_n 0, 1) := by decide +kernel
theorem dX0_digAt_65 : decode cX0_digAt 65 = .ok (.getfield 47, 3) := by decide +kernel
theorem dX0_digAt_68 : decode cX0_digAt 68 = .ok (.iload_n 1, 1) := by decide +kernel
theorem dX0_digAt_69 : decode cX0_digAt 69 = .ok (.aload_n 0, 1) := by decide +kernel
theorem dX0_digAt_70 : decode cX0_digAt 70 = .ok (.getfield 50, 3) := by decide +kernel
theorem dX0_digAt_73 : decode cX0_digAt 73 = .ok (.invokestatic 156, 3) := by decide +kernel
theorem dX0_digAt_76 : decode cX0_digAt 76 = .ok (.istore_n 3, 1) := by decide +kernel
theorem dX0_digAt_77 : decode cX0_digAt 77 = .ok (.aload_n 0, 1) := by decide +kernel
theorem dX0_digAt_78 : decode cX0_digAt 78 = .ok (.iload_n 1, 1) := by decide +kernel
theorem dX0_digAt_79 : decode cX0_digAt 79 = .ok (.iload_n 3, 1) := by decide +kernel
theorem dX0_digAt_80 : decode cX0_digAt 80 = .ok (.invokevirtual 160, 3) := by decide +kernel
theorem dX0_digAt_83 : decode cX0_digAt 83 = .ok (.iload_n 3, 1) := by decide +kernel
theorem dX0_digAt_84 : decode cX0_digAt 84 = .ok (.ifCond .ne 20, 3) := by decide +kernel
theorem dX0_digAt_87 : decode cX0_digAt 87 = .ok (.aload_n 0, 1) := by decide +kernel
theorem dX0_digAt_88 : decode cX0_digAt 88 = .ok (.aload_n 0, 1) := by decide +kernel
theorem dX0_digAt_89 : decode cX0_digAt 89 = .ok (.invokevirtual 103, 3) := by decide +kernel
theorem dX0_digAt_92 : decode cX0_digAt 92 = .ok (.putfield 15, 3) := by decide +kernel
theorem dX0_digAt_95 : decode cX0_digAt 95 = .ok (.aload_n 2, 1) := by decide +kernel
theorem dX0_digAt_96 : decode cX0_digAt 96 = .ok (.aload_n 0, 1) := by decide +kernel
theorem dX0_digAt_97 : decode cX0_digAt 97 = .ok (.iconst 3, 1) := by decide +kernel
theorem dX0_digAt_98 : decode cX0_digAt 98 = .ok (.invokevirtual 134, 3) := by decide +kernel
theorem dX0_digAt_101 : decode cX0_digAt 101 = .ok (.invokevirtual 164, 3) := by decide +kernel
theorem dX0_digAt_104 : decode cX0_digAt 104 = .ok (.aload_n 0, 1) := by decide +kernel
theorem dX0_digAt_105 : decode cX0_digAt 105 = .ok (.dup, 1) := by decide +kernel
theorem dX0_digAt_106 : decode cX0_digAt 106 = .ok (.getfield 63, 3) := by decide +kernel
theorem dX0_digAt_109 : decode cX0_digAt 109 = .ok (.iconst 1, 1) := by decide +kernel
theorem dX0_digAt_110 : decode cX0_digAt 110 = .ok (.iadd, 1) := by decide +kernel
theorem dX0_digAt_111 : decode cX0_digAt 111 = .ok (.putfield 63, 3) := by decide +kernel
theorem dX0_digAt_114 : decode cX0_digAt 114 = .ok (.iload_n 3, 1) := by decide +kernel
theorem dX0_digAt_115 : decode cX0_digAt 115 = .ok (.ireturn, 1) := by decide +kernel
theorem dX0_noteDigging_0 : decode cX0_noteDigging 0 = .ok (.iload_n 1, 1) := by decide +kernel
theorem dX0_noteDigging_1 : decode cX0_noteDigging 1 = .ok (.ifCond .lt 19, 3) := by decide +kernel
theorem dX0_noteDigging_4 : decode cX0_noteDigging 4 = .ok (.iload_n 1, 1) := by decide +kernel
theorem dX0_noteDigging_5 : decode cX0_noteDigging 5 = .ok (.aload_n 0, 1) := by decide +kernel
theorem dX0_noteDigging_6 : decode cX0_noteDigging 6 = .ok (.getfield 34, 3) := by decide +kernel
theorem dX0_noteDigging_9 : decode cX0_noteDigging 9 = .ok (.arraylength, 1) := by decide +kernel
theorem dX0_noteDigging_10 : decode cX0_noteDigging 10 = .ok (.if_icmp .ge 10, 3) := by decide +kernel
theorem dX0_noteDigging_13 : decode cX0_noteDigging 13 = .ok (.aload_n 0, 1) := by decide +kernel
theorem dX0_noteDigging_14 : decode cX0_noteDigging 14 = .ok (.getfield 34, 3) := by decide +kernel
theorem dX0_noteDigging_17 : decode cX0_noteDigging 17 = .ok (.iload_n 1, 1) := by decide +kernel
theorem dX0_noteDigging_18 : decode cX0_noteDigging 18 = .ok (.iload_n 2, 1) := by decide +kernel
theorem dX0_noteDigging_19 : decode cX0_noteDigging 19 = .ok (.iastore, 1) := by decide +kernel
theorem dX0_noteDigging_20 : decode cX0_noteDigging 20 = .ok (.aload_n 0, 1) := by decide +kernel
theorem dX0_noteDigging_21 : decode cX0_noteDigging 21 = .ok (.getfield 70, 3) := by decide +kernel
theorem dX0_noteDigging_24 : decode cX0_noteDigging 24 = .ok (.ifCond .lt 35, 3) := by decide +kernel
theorem dX0_noteDigging_27 : decode cX0_noteDigging 27 = .ok (.aload_n 0, 1) := by decide +kernel
theorem dX0_noteDigging_28 : decode cX0_noteDigging 28 = .ok (.getfield 70, 3) := by decide +kernel
theorem dX0_noteDigging_31 : decode cX0_noteDigging 31 = .ok (.aload_n 0, 1) := by decide +kernel
theorem dX0_noteDigging_32 : decode cX0_noteDigging 32 = .ok (.getfield 37, 3) := by decide +kernel
theorem dX0_noteDigging_35 : decode cX0_noteDigging 35 = .ok (.arraylength, 1) := by decide +kernel
theorem dX0_noteDigging_36 : decode cX0_noteDigging 36 = .ok (.if_icmp .ge 23, 3) := by decide +kernel
theorem dX0_noteDigging_39 : decode cX0_noteDigging 39 = .ok (.aload_n 0, 1) := by decide +kernel
theorem dX0_noteDigging_40 : decode cX0_noteDigging 40 = .ok (.getfield 37, 3) := by decide +kernel
theorem dX0_noteDigging_43 : decode cX0_noteDigging 43 = .ok (.aload_n 0, 1) := by decide +kernel
theorem dX0_noteDigging_44 : decode cX0_noteDigging 44 = .ok (.getfield 70, 3) := by decide +kernel
theorem dX0_noteDigging_47 : decode cX0_noteDigging 47 = .ok (.iload_n 1, 1) := by decide +kernel
theorem dX0_noteDigging_48 : decode cX0_noteDigging 48 = .ok (.iastore, 1) := by decide +kernel
theorem dX0_noteDigging_49 : decode cX0_noteDigging 49 = .ok (.aload_n 0, 1) := by decide +kernel
theorem dX0_noteDigging_50 : decode cX0_noteDigging 50 = .ok (.dup, 1) := by decide +kernel
theorem dX0_noteDigging_51 : decode cX0_noteDigging 51 = .ok (.getfield 70, 3) := by decide +kernel
theorem dX0_noteDigging_54 : decode cX0_noteDigging 54 = .ok (.iconst 1, 1) := by decide +kernel
theorem dX0_noteDigging_55 : decode cX0_noteDigging 55 = .ok (.iadd, 1) := by decide +kernel
theorem dX0_noteDigging_56 : decode cX0_noteDigging 56 = .ok (.putfield 70, 3) := by decide +kernel
theorem dX0_noteDigging_59 : decode cX0_noteDigging 59 = .ok (.return_, 1) := by decide +kernel
theorem dX0_passTurn_0 : decode cX0_passTurn 0 = .ok (.aload_n 0, 1) := by decide +kernel
theorem dX0_passTurn_1 : decode cX0_passTurn 1 = .ok (.invokevirtual 99, 3) := by decide +kernel
theorem dX0_passTurn_4 : decode cX0_passTurn 4 = .ok (.ifCond .ne 6, 3) := by decide +kernel
theorem dX0_passTurn_7 : decode cX0_passTurn 7 = .ok (.bipush (-5), 2) := by decide +kernel
theorem dX0_passTurn_9 : decode cX0_passTurn 9 = .ok (.ireturn, 1) := by decide +kernel
theorem dX0_passTurn_10 : decode cX0_passTurn 10 = .ok (.aload_n 0, 1) := by decide +kernel
theorem dX0_passTurn_11 : decode cX0_passTurn 11 = .ok (.dup, 1) := by decide +kernel
theorem dX0_passTurn_12 : decode cX0_passTurn 12 = .ok (.getfield 63, 3) := by decide +kernel
theorem dX0_passTurn_15 : decode cX0_passTurn 15 = .ok (.iconst 1, 1) := by decide +kernel
theorem dX0_passTurn_16 : decode cX0_passTurn 16 = .ok (.iadd, 1) := by decide +kernel
theorem dX0_passTurn_17 : decode cX0_passTurn 17 = .ok (.putfield 63, 3) := by decide +kernel
theorem dX0_passTurn_20 : decode cX0_passTurn 20 = .ok (.aload_n 0, 1) := by decide +kernel
theorem dX0_passTurn_21 : decode cX0_passTurn 21 = .ok (.invokevirtual 103, 3) := by decide +kernel
theorem dX0_passTurn_24 : decode cX0_passTurn 24 = .ok (.ireturn, 1) := by decide +kernel
theorem dX0_next_0 : decode cX0_next 0 = .ok (.aload_n 0, 1) := by decide +kernel
theorem dX0_next_1 : decode cX0_next 1 = .ok (.getfield 63, 3) := by decide +kernel
theorem dX0_next_4 : decode cX0_next 4 = .ok (.iconst 3, 1) := by decide +kernel
theorem dX0_next_5 : decode cX0_next 5 = .ok (.irem, 1) := by decide +kernel
theorem dX0_next_6 : decode cX0_next 6 = .ok (.ireturn, 1) := by decide +kernel
theorem dX0_goesOn_0 : decode cX0_goesOn 0 = .ok (.aload_n 0, 1) := by decide +kernel
theorem dX0_goesOn_1 : decode cX0_goesOn 1 = .ok (.invokevirtual 168, 3) := by decide +kernel
theorem dX0_goesOn_4 : decode cX0_goesOn 4 = .ok (.iconst 1, 1) := by decide +kernel
theorem dX0_goesOn_5 : decode cX0_goesOn 5 = .ok (.if_icmp .ne 7, 3) := by decide +kernel
theorem dX0_goesOn_8 : decode cX0_goesOn 8 = .ok (.iconst 1, 1) := by decide +kernel
theorem dX0_goesOn_9 : decode cX0_goesOn 9 = .ok (.goto 4, 3) := by decide +kernel
theorem dX0_goesOn_12 : decode cX0_goesOn 12 = .ok (.iconst 0, 1) := by decide +kernel
theorem dX0_goesOn_13 : decode cX0_goesOn 13 = .ok (.ireturn, 1) := by decide +kernel
theorem dX0_stage_0 : decode cX0_stage 0 = .ok (.aload_n 0, 1) := by decide +kernel
theorem dX0_stage_1 : decode cX0_stage 1 = .ok (.getfield 53, 3) := by decide +kernel
theorem dX0_stage_4 : decode cX0_stage 4 = .ok (.ifCond .ne 5, 3) := by decide +kernel
theorem dX0_stage_7 : decode cX0_stage 7 = .ok (.iconst 0, 1) := by decide +kernel
theorem dX0_stage_8 : decode cX0_stage 8 = .ok (.ireturn, 1) := by decide +kernel
theorem dX0_stage_9 : decode cX0_stage 9 = .ok (.aload_n 0, 1) := by decide +kernel
theorem dX0_stage_10 : decode cX0_stage 10 = .ok (.getfield 15, 3) := by decide +kernel
theorem dX0_stage_13 : decode cX0_stage 13 = .ok (.bipush (-6), 2) := by decide +kernel
theorem dX0_stage_15 : decode cX0_stage 15 = .ok (.if_icmp .ne 17, 3) := by decide +kernel
theorem dX0_stage_18 : decode cX0_stage 18 = .ok (.aload_n 0, 1) := by decide +kernel
theorem dX0_stage_19 : decode cX0_stage 19 = .ok (.getfield 63, 3) := by decide +kernel
theorem dX0_stage_22 : decode cX0_stage 22 = .ok (.sipush 150, 3) := by decide +kernel
theorem dX0_stage_25 : decode cX0_stage 25 = .ok (.if_icmp .ge 7, 3) := by decide +kernel
theorem dX0_stage_28 : decode cX0_stage 28 = .ok (.iconst 1, 1) := by decide +kernel
theorem dX0_stage_29 : decode cX0_stage 29 = .ok (.goto 4, 3) := by decide +kernel
theorem dX0_stage_32 : decode cX0_stage 32 = .ok (.iconst 2, 1) := by decide +kernel
theorem dX0_stage_33 : decode cX0_stage 33 = .ok (.ireturn, 1) := by decide +kernel
theorem dX0_seat_0 : decode cX0_seat 0 = .ok (.iload_n 1, 1) := by decide +kernel
theorem dX0_seat_1 : decode cX0_seat 1 = .ok (.ifCond .ne 8, 3) := by decide +kernel
theorem dX0_seat_4 : decode cX0_seat 4 = .ok (.aload_n 0, 1) := by decide +kernel
theorem dX0_seat_5 : decode cX0_seat 5 = .ok (.getfield 22, 3) := by decide +kernel
theorem dX0_seat_8 : decode cX0_seat 8 = .ok (.areturn, 1) := by decide +kernel
theorem dX0_seat_9 : decode cX0_seat 9 = .ok (.iload_n 1, 1) := by decide +kernel
theorem dX0_seat_10 : decode cX0_seat 10 = .ok (.iconst 1, 1) := by decide +kernel
theorem dX0_seat_11 : decode cX0_seat 11 = .ok (.if_icmp .ne 10, 3) := by decide +kernel
theorem dX0_seat_14 : decode cX0_seat 14 = .ok (.aload_n 0, 1) := by decide +kernel
theorem dX0_seat_15 : decode cX0_seat 15 = .ok (.getfield 26, 3) := by decide +kernel
theorem dX0_seat_18 : decode cX0_seat 18 = .ok (.goto 7, 3) := by decide +kernel
theorem dX0_seat_21 : decode cX0_seat 21 = .ok (.aload_n 0, 1) := by decide +kernel
theorem dX0_seat_22 : decode cX0_seat 22 = .ok (.getfield 29, 3) := by decide +kernel
theorem dX0_seat_25 : decode cX0_seat 25 = .ok (.areturn, 1) := by decide +kernel
theorem dX0_setting_0 : decode cX0_setting 0 = .ok (.iload_n 1, 1) := by decide +kernel
theorem dX0_setting_1 : decode cX0_setting 1 = .ok (.ifCond .lt 21, 3) := by decide +kernel
theorem dX0_setting_4 : decode cX0_setting 4 = .ok (.iload_n 1, 1) := by decide +kernel
theorem dX0_setting_5 : decode cX0_setting 5 = .ok (.aload_n 0, 1) := by decide +kernel
theorem dX0_setting_6 : decode cX0_setting 6 = .ok (.getfield 9, 3) := by decide +kernel
theorem dX0_setting_9 : decode cX0_setting 9 = .ok (.arraylength, 1) := by decide +kernel
theorem dX0_setting_10 : decode cX0_setting 10 = .ok (.if_icmp .ge 12, 3) := by decide +kernel
theorem dX0_setting_13 : decode cX0_setting 13 = .ok (.aload_n 0, 1) := by decide +kernel
theorem dX0_setting_14 : decode cX0_setting 14 = .ok (.getfield 9, 3) := by decide +kernel
theorem dX0_setting_17 : decode cX0_setting 17 = .ok (.iload_n 1, 1) := by decide +kernel
theorem dX0_setting_18 : decode cX0_setting 18 = .ok (.iaload, 1) := by decide +kernel
theorem dX0_setting_19 : decode cX0_setting 19 = .ok (.goto 4, 3) := by decide +kernel
theorem dX0_setting_22 : decode cX0_setting 22 = .ok (.iconst 0, 1) := by decide +kernel
theorem dX0_setting_23 : decode cX0_setting 23 = .ok (.ireturn, 1) := by decide +kernel
theorem dX0_toldOf_0 : decode cX0_toldOf 0 = .ok (.iload_n 1, 1) := by decide +kernel
theorem dX0_toldOf_1 : decode cX0_toldOf 1 = .ok (.ifCond .lt 21, 3) := by decide +kernel
theorem dX0_toldOf_4 : decode cX0_toldOf 4 = .ok (.iload_n 1, 1) := by decide +kernel
theorem dX0_toldOf_5 : decode cX0_toldOf 5 = .ok (.aload_n 0, 1) := by decide +kernel
theorem dX0_toldOf_6 : decode cX0_toldOf 6 = .ok (.getfield 34, 3) := by decide +kernel
theorem dX0_toldOf_9 : decode cX0_toldOf 9 = .ok (.arraylength, 1) := by decide +kernel
theorem dX0_toldOf_10 : decode cX0_toldOf 10 = .ok (.if_icmp .ge 12, 3) := by decide +kernel
theorem dX0_toldOf_13 : decode cX0_toldOf 13 = .ok (.aload_n 0, 1) := by decide +kernel
theorem dX0_toldOf_14 : decode cX0_toldOf 14 = .ok (.getfield 34, 3) := by decide +kernel
theorem dX0_toldOf_17 : decode cX0_toldOf 17 = .ok (.iload_n 1, 1) := by decide +kernel
theorem dX0_toldOf_18 : decode cX0_toldOf 18 = .ok (.iaload, 1) := by decide +kernel
theorem dX0_toldOf_19 : decode cX0_toldOf 19 = .ok (.goto 5, 3) := by decide +kernel
theorem dX0_toldOf_22 : decode cX0_toldOf 22 = .ok (.bipush (-6), 2) := by decide +kernel
theorem dX0_toldOf_24 : decode cX0_toldOf 24 = .ok (.ireturn, 1) := by decide +kernel
theorem dX0_dugAs_0 : decode cX0_dugAs 0 = .ok (.iload_n 1, 1) := by decide +kernel
theorem dX0_dugAs_1 : decode cX0_dugAs 1 = .ok (.ifCond .lt 29, 3) := by decide +kernel
theorem dX0_dugAs_4 : decode cX0_dugAs 4 = .ok (.iload_n 1, 1) := by decide +kernel
theorem dX0_dugAs_5 : decode cX0_dugAs 5 = .ok (.aload_n 0, 1) := by decide +kernel
theorem dX0_dugAs_6 : decode cX0_dugAs 6 = .ok (.getfield 70, 3) := by decide +kernel
theorem dX0_dugAs_9 : decode cX0_dugAs 9 = .ok (.if_icmp .ge 21, 3) := by decide +kernel
theorem dX0_dugAs_12 : decode cX0_dugAs 12 = .ok (.iload_n 1, 1) := by decide +kernel
theorem dX0_dugAs_13 : decode cX0_dugAs 13 = .ok (.aload_n 0, 1) := by decide +kernel
theorem dX0_dugAs_14 : decode cX0_dugAs 14 = .ok (.getfield 37, 3) := by decide +kernel
theorem dX0_dugAs_17 : decode cX0_dugAs 17 = .ok (.arraylength, 1) := by decide +kernel
theorem dX0_dugAs_18 : decode cX0_dugAs 18 = .ok (.if_icmp .ge 12, 3) := by decide +kernel
theorem dX0_dugAs_21 : decode cX0_dugAs 21 = .ok (.aload_n 0, 1) := by decide +kernel
theorem dX0_dugAs_22 : decode cX0_dugAs 22 = .ok (.getfield 37, 3) := by decide +kernel
theorem dX0_dugAs_25 : decode cX0_dugAs 25 = .ok (.iload_n 1, 1) := by decide +kernel
theorem dX0_dugAs_26 : decode cX0_dugAs 26 = .ok (.iaload, 1) := by decide +kernel
theorem dX0_dugAs_27 : decode cX0_dugAs 27 = .ok (.goto 4, 3) := by decide +kernel
theorem dX0_dugAs_30 : decode cX0_dugAs 30 = .ok (.iconst (-1), 1) := by decide +kernel
theorem dX0_dugAs_31 : decode cX0_dugAs 31 = .ok (.ireturn, 1) := by decide +kernel
theorem dX0_seenOf_0 : decode cX0_seenOf 0 = .ok (.iload_n 1, 1) := by decide +kernel
theorem dX0_seenOf_1 : decode cX0_seenOf 1 = .ok (.iload_n 2, 1) := by decide +kernel
theorem dX0_seenOf_2 : decode cX0_seenOf 2 = .ok (.iand, 1) := by decide +kernel
theorem dX0_seenOf_3 : decode cX0_seenOf 3 = .ok (.ifCond .eq 14, 3) := by decide +kernel
theorem dX0_seenOf_6 : decode cX0_seenOf 6 = .ok (.iload_n 1, 1) := by decide +kernel
theorem dX0_seenOf_7 : decode cX0_seenOf 7 = .ok (.aload_n 0, 1) := by decide +kernel
theorem dX0_seenOf_8 : decode cX0_seenOf 8 = .ok (.getfield 47, 3) := by decide +kernel
theorem dX0_seenOf_11 : decode cX0_seenOf 11 = .ok (.invokestatic 171, 3) := by decide +kernel
theorem dX0_seenOf_14 : decode cX0_seenOf 14 = .ok (.goto 5, 3) := by decide +kernel
theorem dX0_seenOf_17 : decode cX0_seenOf 17 = .ok (.bipush (-6), 2) := by decide +kernel
theorem dX0_seenOf_19 : decode cX0_seenOf 19 = .ok (.ireturn, 1) := by decide +kernel
theorem dX0_knownTo_0 : decode cX0_knownTo 0 = .ok (.aload_n 0, 1) := by decide +kernel
theorem dX0_knownTo_1 : decode cX0_knownTo 1 = .ok (.getfield 60, 3) := by decide +kernel
theorem dX0_knownTo_4 : decode cX0_knownTo 4 = .ok (.iload_n 1, 1) := by decide +kernel
theorem dX0_knownTo_5 : decode cX0_knownTo 5 = .ok (.invokestatic 174, 3) := by decide +kernel
theorem dX0_knownTo_8 : decode cX0_knownTo 8 = .ok (.ior, 1) := by decide +kernel
theorem dX0_knownTo_9 : decode cX0_knownTo 9 = .ok (.ireturn, 1) := by decide +kernel
theorem dX0_claimants_0 : decode cX0_claimants 0 = .ok (.iload_n 1, 1) := by decide +kernel
theorem dX0_claimants_1 : decode cX0_claimants 1 = .ok (.aload_n 0, 1) := by decide +kernel
theorem dX0_claimants_2 : decode cX0_claimants 2 = .ok (.getfield 22, 3) := by decide +kernel
theorem dX0_claimants_5 : decode cX0_claimants 5 = .ok (.iload_n 2, 1) := by decide +kernel
theorem dX0_claimants_6 : decode cX0_claimants 6 = .ok (.invokevirtual 177, 3) := by decide +kernel
theorem dX0_claimants_9 : decode cX0_claimants 9 = .ok (.invokestatic 171, 3) := by decide +kernel
theorem dX0_claimants_12 : decode cX0_claimants 12 = .ok (.iload_n 1, 1) := by decide +kernel
theorem dX0_claimants_13 : decode cX0_claimants 13 = .ok (.aload_n 0, 1) := by decide +kernel
theorem dX0_claimants_14 : decode cX0_claimants 14 = .ok (.getfield 26, 3) := by decide +kernel
theorem dX0_claimants_17 : decode cX0_claimants 17 = .ok (.iload_n 2, 1) := by decide +kernel
theorem dX0_claimants_18 : decode cX0_claimants 18 = .ok (.invokevirtual 177, 3) := by decide +kernel
theorem dX0_claimants_21 : decode cX0_claimants 21 = .ok (.invokestatic 171, 3) := by decide +kernel
theorem dX0_claimants_24 : decode cX0_claimants 24 = .ok (.iconst 1, 1) := by decide +kernel
theorem dX0_claimants_25 : decode cX0_claimants 25 = .ok (.ishl, 1) := by decide +kernel
theorem dX0_claimants_26 : decode cX0_claimants 26 = .ok (.ior, 1) := by decide +kernel
theorem dX0_claimants_27 : decode cX0_claimants 27 = .ok (.iload_n 1, 1) := by decide +kernel
theorem dX0_claimants_28 : decode cX0_claimants 28 = .ok (.aload_n 0, 1) := by decide +kernel
theorem dX0_claimants_29 : decode cX0_claimants 29 = .ok (.getfield 29, 3) := by decide +kernel
theorem dX0_claimants_32 : decode cX0_claimants 32 = .ok (.iload_n 2, 1) := by decide +kernel
theorem dX0_claimants_33 : decode cX0_claimants 33 = .ok (.invokevirtual 177, 3) := by decide +kernel
theorem dX0_claimants_36 : decode cX0_claimants 36 = .ok (.invokestatic 171, 3) := by decide +kernel
theorem dX0_claimants_39 : decode cX0_claimants 39 = .ok (.iconst 2, 1) := by decide +kernel
theorem dX0_claimants_40 : decode cX0_claimants 40 = .ok (.ishl, 1) := by decide +kernel
theorem dX0_claimants_41 : decode cX0_claimants 41 = .ok (.ior, 1) := by decide +kernel
theorem dX0_claimants_42 : decode cX0_claimants 42 = .ok (.ireturn, 1) := by decide +kernel
theorem dX0_shownLies_0 : decode cX0_shownLies 0 = .ok (.aload_n 0, 1) := by decide +kernel
theorem dX0_shownLies_1 : decode cX0_shownLies 1 = .ok (.getfield 22, 3) := by decide +kernel
theorem dX0_shownLies_4 : decode cX0_shownLies 4 = .ok (.aload_n 0, 1) := by decide +kernel
theorem dX0_shownLies_5 : decode cX0_shownLies 5 = .ok (.getfield 47, 3) := by decide +kernel
theorem dX0_shownLies_8 : decode cX0_shownLies 8 = .ok (.aload_n 0, 1) := by decide +kernel
theorem dX0_shownLies_9 : decode cX0_shownLies 9 = .ok (.getfield 60, 3) := by decide +kernel
theorem dX0_shownLies_12 : decode cX0_shownLies 12 = .ok (.invokevirtual 181, 3) := by decide +kernel
theorem dX0_shownLies_15 : decode cX0_shownLies 15 = .ok (.aload_n 0, 1) := by decide +kernel
theorem dX0_shownLies_16 : decode cX0_shownLies 16 = .ok (.getfield 26, 3) := by decide +kernel
theorem dX0_shownLies_19 : decode cX0_shownLies 19 = .ok (.aload_n 0, 1) := by decide +kernel
theorem dX0_shownLies_20 : decode cX0_shownLies 20 = .ok (.getfield 47, 3) := by decide +kernel
theorem dX0_shownLies_23 : decode cX0_shownLies 23 = .ok (.aload_n 0, 1) := by decide +kernel
theorem dX0_shownLies_24 : decode cX0_shownLies 24 = .ok (.getfield 60, 3) := by decide +kernel
theorem dX0_shownLies_27 : decode cX0_shownLies 27 = .ok (.invokevirtual 181, 3) := by decide +kernel
theorem dX0_shownLies_30 : decode cX0_shownLies 30 = .ok (.iadd, 1) := by decide +kernel
theorem dX0_shownLies_31 : decode cX0_shownLies 31 = .ok (.aload_n 0, 1) := by decide +kernel
theorem dX0_shownLies_32 : decode cX0_shownLies 32 = .ok (.getfield 29, 3) := by decide +kernel
theorem dX0_shownLies_35 : decode cX0_shownLies 35 = .ok (.aload_n 0, 1) := by decide +kernel
theorem dX0_shownLies_36 : decode cX0_shownLies 36 = .ok (.getfield 47, 3) := by decide +kernel
theorem dX0_shownLies_39 : decode cX0_shownLies 39 = .ok (.aload_n 0, 1) := by decide +kernel
theorem dX0_shownLies_40 : decode cX0_shownLies 40 = .ok (.getfield 60, 3) := by decide +kernel
theorem dX0_shownLies_43 : decode cX0_shownLies 43 = .ok (.invokevirtual 181, 3) := by decide +kernel
theorem dX0_shownLies_46 : decode cX0_shownLies 46 = .ok (.iadd, 1) := by decide +kernel
theorem dX0_shownLies_47 : decode cX0_shownLies 47 = .ok (.ireturn, 1) := by decide +kernel
theorem dX0_moreKnownBy_0 : decode cX0_moreKnownBy 0 = .ok (.aload_n 0, 1) := by decide +kernel
theorem dX0_moreKnownBy_1 : decode cX0_moreKnownBy 1 = .ok (.getfield 47, 3) := by decide +kernel
theorem dX0_moreKnownBy_4 : decode cX0_moreKnownBy 4 = .ok (.aload_n 0, 1) := by decide +kernel
theorem dX0_moreKnownBy_5 : decode cX0_moreKnownBy 5 = .ok (.getfield 60, 3) := by decide +kernel
theorem dX0_moreKnownBy_8 : decode cX0_moreKnownBy 8 = .ok (.iload_n 1, 1) := by decide +kernel
theorem dX0_moreKnownBy_9 : decode cX0_moreKnownBy 9 = .ok (.ior, 1) := by decide +kernel
theorem dX0_moreKnownBy_10 : decode cX0_moreKnownBy 10 = .ok (.invokestatic 96, 3) := by decide +kernel
theorem dX0_moreKnownBy_13 : decode cX0_moreKnownBy 13 = .ok (.invokestatic 86, 3) := by decide +kernel
theorem dX0_moreKnownBy_16 : decode cX0_moreKnownBy 16 = .ok (.aload_n 0, 1) := by decide +kernel
theorem dX0_moreKnownBy_17 : decode cX0_moreKnownBy 17 = .ok (.getfield 60, 3) := by decide +kernel
theorem dX0_moreKnownBy_20 : decode cX0_moreKnownBy 20 = .ok (.invokestatic 86, 3) := by decide +kernel
theorem dX0_moreKnownBy_23 : decode cX0_moreKnownBy 23 = .ok (.isub, 1) := by decide +kernel
theorem dX0_moreKnownBy_24 : decode cX0_moreKnownBy 24 = .ok (.ireturn, 1) := by decide +kernel
theorem dX0_fitsWhatWasTold_0 : decode cX0_fitsWhatWasTold 0 = .ok (.iconst 0, 1) := by decide +kernel
theorem dX0_fitsWhatWasTold_1 : decode cX0_fitsWhatWasTold 1 = .ok (.istore_n 2, 1) := by decide +kernel
theorem dX0_fitsWhatWasTold_2 : decode cX0_fitsWhatWasTold 2 = .ok (.iload_n 2, 1) := by decide +kernel
theorem dX0_fitsWhatWasTold_3 : decode cX0_fitsWhatWasTold 3 = .ok (.aload_n 0, 1) := by decide +kernel
theorem dX0_fitsWhatWasTold_4 : decode cX0_fitsWhatWasTold 4 = .ok (.getfield 34, 3) := by decide +kernel
theorem dX0_fitsWhatWasTold_7 : decode cX0_fitsWhatWasTold 7 = .ok (.arraylength, 1) := by decide +kernel
theorem dX0_fitsWhatWasTold_8 : decode cX0_fitsWhatWasTold 8 = .ok (.if_icmp .ge 40, 3) := by decide +kernel
theorem dX0_fitsWhatWasTold_11 : decode cX0_fitsWhatWasTold 11 = .ok (.aload_n 0, 1) := by decide +kernel
theorem dX0_fitsWhatWasTold_12 : decode cX0_fitsWhatWasTold 12 = .ok (.getfield 34, 3) := by decide +kernel
theorem dX0_fitsWhatWasTold_15 : decode cX0_fitsWhatWasTold 15 = .ok (.iload_n 2, 1) := by decide +kernel
theorem dX0_fitsWhatWasTold_16 : decode cX0_fitsWhatWasTold 16 = .ok (.iaload, 1) := by decide +kernel
theorem dX0_fitsWhatWasTold_17 : decode cX0_fitsWhatWasTold 17 = .ok (.bipush (-6), 2) := by decide +kernel
theorem dX0_fitsWhatWasTold_19 : decode cX0_fitsWhatWasTold 19 = .ok (.if_icmp .eq 23, 3) := by decide +kernel
theorem dX0_fitsWhatWasTold_22 : decode cX0_fitsWhatWasTold 22 = .ok (.aload_n 0, 1) := by decide +kernel
theorem dX0_fitsWhatWasTold_23 : decode cX0_fitsWhatWasTold 23 = .ok (.getfield 34, 3) := by decide +kernel
theorem dX0_fitsWhatWasTold_26 : decode cX0_fitsWhatWasTold 26 = .ok (.iload_n 2, 1) := by decide +kernel
theorem dX0_fitsWhatWasTold_27 : decode cX0_fitsWhatWasTold 27 = .ok (.iaload, 1) := by decide +kernel
theorem dX0_fitsWhatWasTold_28 : decode cX0_fitsWhatWasTold 28 = .ok (.aload_n 0, 1) := by decide +kernel
theorem dX0_fitsWhatWasTold_29 : decode cX0_fitsWhatWasTold 29 = .ok (.getfield 47, 3) := by decide +kernel
theorem dX0_fitsWhatWasTold_32 : decode cX0_fitsWhatWasTold 32 = .ok (.iload_n 1, 1) := by decide +kernel
theorem dX0_fitsWhatWasTold_33 : decode cX0_fitsWhatWasTold 33 = .ok (.iload_n 2, 1) := by decide +kernel
theorem dX0_fitsWhatWasTold_34 : decode cX0_fitsWhatWasTold 34 = .ok (.invokestatic 156, 3) := by decide +kernel
theorem dX0_fitsWhatWasTold_37 : decode cX0_fitsWhatWasTold 37 = .ok (.if_icmp .eq 5, 3) := by decide +kernel
theorem dX0_fitsWhatWasTold_40 : decode cX0_fitsWhatWasTold 40 = .ok (.iconst 0, 1) := by decide +kernel
theorem dX0_fitsWhatWasTold_41 : decode cX0_fitsWhatWasTold 41 = .ok (.ireturn, 1) := by decide +kernel
theorem dX0_fitsWhatWasTold_42 : decode cX0_fitsWhatWasTold 42 = .ok (.iinc 2 1, 3) := by decide +kernel
theorem dX0_fitsWhatWasTold_45 : decode cX0_fitsWhatWasTold 45 = .ok (.goto (-43), 3) := by decide +kernel
theorem dX0_fitsWhatWasTold_48 : decode cX0_fitsWhatWasTold 48 = .ok (.iconst 1, 1) := by decide +kernel
theorem dX0_fitsWhatWasTold_49 : decode cX0_fitsWhatWasTold 49 = .ok (.ireturn, 1) := by decide +kernel
theorem dX1_isPlace_0 : decode cX1_isPlace 0 = .ok (.iload_n 0, 1) := by decide +kernel
theorem dX1_isPlace_1 : decode cX1_isPlace 1 = .ok (.ifCond .lt 13, 3) := by decide +kernel
theorem dX1_isPlace_4 : decode cX1_isPlace 4 = .ok (.iload_n 0, 1) := by decide +kernel
theorem dX1_isPlace_5 : decode cX1_isPlace 5 = .ok (.bipush 8, 2) := by decide +kernel
theorem dX1_isPlace_7 : decode cX1_isPlace 7 = .ok (.if_icmp .ge 7, 3) := by decide +kernel
theorem dX1_isPlace_10 : decode cX1_isPlace 10 = .ok (.iconst 1, 1) := by decide +kernel
theorem dX1_isPlace_11 : decode cX1_isPlace 11 = .ok (.goto 4, 3) := by decide +kernel
theorem dX1_isPlace_14 : decode cX1_isPlace 14 = .ok (.iconst 0, 1) := by decide +kernel
theorem dX1_isPlace_15 : decode cX1_isPlace 15 = .ok (.ireturn, 1) := by decide +kernel
theorem dX1_wrongEnds_0 : decode cX1_wrongEnds 0 = .ok (.iload_n 0, 1) := by decide +kernel
theorem dX1_wrongEnds_1 : decode cX1_wrongEnds 1 = .ok (.invokestatic 11, 3) := by decide +kernel
theorem dX1_wrongEnds_4 : decode cX1_wrongEnds 4 = .ok (.ifCond .eq 10, 3) := by decide +kernel
theorem dX1_wrongEnds_7 : decode cX1_wrongEnds 7 = .ok (.iload_n 1, 1) := by decide +kernel
theorem dX1_wrongEnds_8 : decode cX1_wrongEnds 8 = .ok (.invokestatic 11, 3) := by decide +kernel
theorem dX1_wrongEnds_11 : decode cX1_wrongEnds 11 = .ok (.ifCond .ne 5, 3) := by decide +kernel
theorem dX1_wrongEnds_14 : decode cX1_wrongEnds 14 = .ok (.iconst (-1), 1) := by decide +kernel
theorem dX1_wrongEnds_15 : decode cX1_wrongEnds 15 = .ok (.ireturn, 1) := by decide +kernel
theorem dX1_wrongEnds_16 : decode cX1_wrongEnds 16 = .ok (.iload_n 0, 1) := by decide +kernel
theorem dX1_wrongEnds_17 : decode cX1_wrongEnds 17 = .ok (.iload_n 1, 1) := by decide +kernel
theorem dX1_wrongEnds_18 : decode cX1_wrongEnds 18 = .ok (.if_icmp .ne 8, 3) := by decide +kernel
theorem dX1_wrongEnds_21 : decode cX1_wrongEnds 21 = .ok (.bipush (-2), 2) := by decide +kernel
theorem dX1_wrongEnds_23 : decode cX1_wrongEnds 23 = .ok (.goto 4, 3) := by decide +kernel
theorem dX1_wrongEnds_26 : decode cX1_wrongEnds 26 = .ok (.iconst 0, 1) := by decide +kernel
theorem dX1_wrongEnds_27 : decode cX1_wrongEnds 27 = .ok (.ireturn, 1) := by decide +kernel
theorem dX1_numberOf_0 : decode cX1_numberOf 0 = .ok (.iload_n 0, 1) := by decide +kernel
theorem dX1_numberOf_1 : decode cX1_numberOf 1 = .ok (.iload_n 1, 1) := by decide +kernel
theorem dX1_numberOf_2 : decode cX1_numberOf 2 = .ok (.invokestatic 15, 3) := by decide +kernel
theorem dX1_numberOf_5 : decode cX1_numberOf 5 = .ok (.istore_n 2, 1) := by decide +kernel
theorem dX1_numberOf_6 : decode cX1_numberOf 6 = .ok (.iload_n 0, 1) := by decide +kernel
theorem dX1_numberOf_7 : decode cX1_numberOf 7 = .ok (.iload_n 1, 1) := by decide +kernel
theorem dX1_numberOf_8 : decode cX1_numberOf 8 = .ok (.invokestatic 21, 3) := by decide +kernel
theorem dX1_numberOf_11 : decode cX1_numberOf 11 = .ok (.istore_n 3, 1) := by decide +kernel
theorem dX1_numberOf_12 : decode cX1_numberOf 12 = .ok (.iload_n 2, 1) := by decide +kernel
theorem dX1_numberOf_13 : decode cX1_numberOf 13 = .ok (.bipush 15, 2) := by decide +kernel
theorem dX1_numberOf_15 : decode cX1_numberOf 15 = .ok (.iload_n 2, 1) := by decide +kernel
theorem dX1_numberOf_16 : decode cX1_numberOf 16 = .ok (.isub, 1) := by decide +kernel
theorem dX1_numberOf_17 : decode cX1_numberOf 17 = .ok (.imul, 1) := by decide +kernel
theorem dX1_numberOf_18 : decode cX1_numberOf 18 = .ok (.iconst 2, 1) := by decide +kernel
theorem dX1_numberOf_19 : decode cX1_numberOf 19 = .ok (.idiv, 1) := by decide +kernel
theorem dX1_numberOf_20 : decode cX1_numberOf 20 = .ok (.iload_n 3, 1) := by decide +kernel
theorem dX1_numberOf_21 : decode cX1_numberOf 21 = .ok (.iadd, 1) := by decide +kernel
theorem dX1_numberOf_22 : decode cX1_numberOf 22 = .ok (.iload_n 2, 1) := by decide +kernel
theorem dX1_numberOf_23 : decode cX1_numberOf 23 = .ok (.isub, 1) := by decide +kernel
theorem dX1_numberOf_24 : decode cX1_numberOf 24 = .ok (.iconst 1, 1) := by decide +kernel
theorem dX1_numberOf_25 : decode cX1_numberOf 25 = .ok (.isub, 1) := by decide +kernel
theorem dX1_numberOf_26 : decode cX1_numberOf 26 = .ok (.ireturn, 1) := by decide +kernel
theorem dX1_roadBetween_0 : decode cX1_roadBetween 0 = .ok (.iconst 1, 1) := by decide +kernel
theorem dX1_roadBetween_1 : decode cX1_roadBetween 1 = .ok (.iload_n 0, 1) := by decide +kernel
theorem dX1_roadBetween_2 : decode cX1_roadBetween 2 = .ok (.iload_n 1, 1) := by decide +kernel
theorem dX1_roadBetween_3 : decode cX1_roadBetween 3 = .ok (.invokestatic 24, 3) := by decide +kernel
theorem dX1_roadBetween_6 : decode cX1_roadBetween 6 = .ok (.ishl, 1) := by decide +kernel
theorem dX1_roadBetween_7 : decode cX1_roadBetween 7 = .ok (.ireturn, 1) := by decide +kernel
theorem dX1_roadsAt_0 : decode cX1_roadsAt 0 = .ok (.iload_n 0, 1) := by decide +kernel
theorem dX1_roadsAt_1 : decode cX1_roadsAt 1 = .ok (.ifCond .lt 19, 3) := by decide +kernel
theorem dX1_roadsAt_4 : decode cX1_roadsAt 4 = .ok (.iload_n 0, 1) := by decide +kernel
theorem dX1_roadsAt_5 : decode cX1_roadsAt 5 = .ok (.getstatic 27, 3) := by decide +kernel
theorem dX1_roadsAt_8 : decode cX1_roadsAt 8 = .ok (.arraylength, 1) := by decide +kernel
theorem dX1_roadsAt_9 : decode cX1_roadsAt 9 = .ok (.if_icmp .ge 11, 3) := by decide +kernel
theorem dX1_roadsAt_12 : decode cX1_roadsAt 12 = .ok (.getstatic 27, 3) := by decide +kernel
theorem dX1_roadsAt_15 : decode cX1_roadsAt 15 = .ok (.iload_n 0, 1) := by decide +kernel
theorem dX1_roadsAt_16 : decode cX1_roadsAt 16 = .ok (.iaload, 1) := by decide +kernel
theorem dX1_roadsAt_17 : decode cX1_roadsAt 17 = .ok (.goto 4, 3) := by decide +kernel
theorem dX1_roadsAt_20 : decode cX1_roadsAt 20 = .ok (.iconst 0, 1) := by decide +kernel
theorem dX1_roadsAt_21 : decode cX1_roadsAt 21 = .ok (.ireturn, 1) := by decide +kernel
theorem dX1_thirdOf_0 : decode cX1_thirdOf 0 = .ok (.ldc 31, 2) := by decide +kernel
theorem dX1_thirdOf_2 : decode cX1_thirdOf 2 = .ok (.iload_n 0, 1) := by decide +kernel
theorem dX1_thirdOf_3 : decode cX1_thirdOf 3 = .ok (.ishl, 1) := by decide +kernel
theorem dX1_thirdOf_4 : decode cX1_thirdOf 4 = .ok (.ldc 32, 2) := by decide +kernel
theorem dX1_thirdOf_6 : decode cX1_thirdOf 6 = .ok (.iand, 1) := by decide +kernel
theorem dX1_thirdOf_7 : decode cX1_thirdOf 7 = .ok (.ireturn, 1) := by decide +kernel
theorem dX1_placesBeside_0 : decode cX1_placesBeside 0 = .ok (.iload_n 0, 1) := by decide +kernel
theorem dX1_placesBeside_1 : decode cX1_placesBeside 1 = .ok (.iload_n 1, 1) := by decide +kernel
theorem dX1_placesBeside_2 : decode cX1_placesBeside 2 = .ok (.invokestatic 33, 3) := by decide +kernel
theorem dX1_placesBeside_5 : decode cX1_placesBeside 5 = .ok (.iand, 1) := by decide +kernel
theorem dX1_placesBeside_6 : decode cX1_placesBeside 6 = .ok (.istore_n 2, 1) := by decide +kernel
theorem dX1_placesBeside_7 : decode cX1_placesBeside 7 = .ok (.iconst 0, 1) := by decide +kernel
theorem dX1_placesBeside_8 : decode cX1_placesBeside 8 = .ok (.istore_n 3, 1) := by decide +kernel
theorem dX1_placesBeside_9 : decode cX1_placesBeside 9 = .ok (.iconst 0, 1) := by decide +kernel
theorem dX1_placesBeside_10 : decode cX1_placesBeside 10 = .ok (.istore 4, 2) := by decide +kernel
theorem dX1_placesBeside_12 : decode cX1_placesBeside 12 = .ok (.iload 4, 2) := by decide +kernel
theorem dX1_placesBeside_14 : decode cX1_placesBeside 14 = .ok (.bipush 8, 2) := by decide +kernel
theorem dX1_placesBeside_16 : decode cX1_placesBeside 16 = .ok (.if_icmp .ge 32, 3) := by decide +kernel
theorem dX1_placesBeside_19 : decode cX1_placesBeside 19 = .ok (.iload 4, 2) := by decide +kernel
theorem dX1_placesBeside_21 : decode cX1_placesBeside 21 = .ok (.iload_n 1, 1) := by decide +kernel
theorem dX1_placesBeside_22 : decode cX1_placesBeside 22 = .ok (.if_icmp .eq 20, 3) := by decide +kernel
theorem dX1_placesBeside_25 : decode cX1_placesBeside 25 = .ok (.iload_n 2, 1) := by decide +kernel
theorem dX1_placesBeside_26 : decode cX1_placesBeside 26 = .ok (.iload 4, 2) := by decide +kernel
theorem dX1_placesBeside_28 : decode cX1_placesBeside 28 = .ok (.invokestatic 33, 3) := by decide +kernel
theorem dX1_placesBeside_31 : decode cX1_placesBeside 31 = .ok (.iand, 1) := by decide +kernel
theorem dX1_placesBeside_32 : decode cX1_placesBeside 32 = .ok (.ifCond .eq 10, 3) := by decide +kernel
theorem dX1_placesBeside_35 : decode cX1_placesBeside 35 = .ok (.iload_n 3, 1) := by decide +kernel
theorem dX1_placesBeside_36 : decode cX1_placesBeside 36 = .ok (.iconst 1, 1) := by decide +kernel
theorem dX1_placesBeside_37 : decode cX1_placesBeside 37 = .ok (.iload 4, 2) := by decide +kernel
theorem dX1_placesBeside_39 : decode cX1_placesBeside 39 = .ok (.ishl, 1) := by decide +kernel
theorem dX1_placesBeside_40 : decode cX1_placesBeside 40 = .ok (.ior, 1) := by decide +kernel
theorem dX1_placesBeside_41 : decode cX1_placesBeside 41 = .ok (.istore_n 3, 1) := by decide +kernel
theorem dX1_placesBeside_42 : decode cX1_placesBeside 42 = .ok (.iinc 4 1, 3) := by decide +kernel
theorem dX1_placesBeside_45 : decode cX1_placesBeside 45 = .ok (.goto (-33), 3) := by decide +kernel
theorem dX1_placesBeside_48 : decode cX1_placesBeside 48 = .ok (.iload_n 3, 1) := by decide +kernel
theorem dX1_placesBeside_49 : decode cX1_placesBeside 49 = .ok (.ireturn, 1) := by decide +kernel
theorem dX1_distance_0 : decode cX1_distance 0 = .ok (.iconst 1, 1) := by decide +kernel
theorem dX1_distance_1 : decode cX1_distance 1 = .ok (.iload_n 1, 1) := by decide +kernel
theorem dX1_distance_2 : decode cX1_distance 2 = .ok (.ishl, 1) := by decide +kernel
theorem dX1_distance_3 : decode cX1_distance 3 = .ok (.istore_n 3, 1) := by decide +kernel
theorem dX1_distance_4 : decode cX1_distance 4 = .ok (.iload_n 3, 1) := by decide +kernel
theorem dX1_distance_5 : decode cX1_distance 5 = .ok (.istore 4, 2) := by decide +kernel
theorem dX1_distance_7 : decode cX1_distance 7 = .ok (.iconst 0, 1) := by decide +kernel
theorem dX1_distance_8 : decode cX1_distance 8 = .ok (.istore 5, 2) := by decide +kernel
theorem dX1_distance_10 : decode cX1_distance 10 = .ok (.iload 5, 2) := by decide +kernel
theorem dX1_distance_12 : decode cX1_distance 12 = .ok (.bipush 8, 2) := by decide +kernel
theorem dX1_distance_14 : decode cX1_distance 14 = .ok (.if_icmp .ge 43, 3) := by decide +kernel
theorem dX1_distance_17 : decode cX1_distance 17 = .ok (.iload 4, 2) := by decide +kernel
theorem dX1_distance_19 : decode cX1_distance 19 = .ok (.ifCond .eq 38, 3) := by decide +kernel
theorem dX1_distance_22 : decode cX1_distance 22 = .ok (.iload 4, 2) := by decide +kernel
theorem dX1_distance_24 : decode cX1_distance 24 = .ok (.iload_n 2, 1) := by decide +kernel
theorem dX1_distance_25 : decode cX1_distance 25 = .ok (.ishr, 1) := by decide +kernel
theorem dX1_distance_26 : decode cX1_distance 26 = .ok (.iconst 1, 1) := by decide +kernel
theorem dX1_distance_27 : decode cX1_distance 27 = .ok (.iand, 1) := by decide +kernel
theorem dX1_distance_28 : decode cX1_distance 28 = .ok (.ifCond .eq 6, 3) := by decide +kernel
theorem dX1_distance_31 : decode cX1_distance 31 = .ok (.iload 5, 2) := by decide +kernel
theorem dX1_distance_33 : decode cX1_distance 33 = .ok (.ireturn, 1) := by decide +kernel
theorem dX1_distance_34 : decode cX1_distance 34 = .ok (.iload_n 0, 1) := by decide +kernel
theorem dX1_distance_35 : decode cX1_distance 35 = .ok (.iload 4, 2) := by decide +kernel
theorem dX1_distance_37 : decode cX1_distance 37 = .ok (.invokestatic 37, 3) := by decide +kernel
theorem dX1_distance_40 : decode cX1_distance 40 = .ok (.iload_n 3, 1) := by decide +kernel
theorem dX1_distance_41 : decode cX1_distance 41 = .ok (.iconst (-1), 1) := by decide +kernel
theorem dX1_distance_42 : decode cX1_distance 42 = .ok (.ixor, 1) := by decide +kernel
theorem dX1_distance_43 : decode cX1_distance 43 = .ok (.iand, 1) := by decide +kernel
theorem dX1_distance_44 : decode cX1_distance 44 = .ok (.istore 4, 2) := by decide +kernel
theorem dX1_distance_46 : decode cX1_distance 46 = .ok (.iload_n 3, 1) := by decide +kernel
theorem dX1_distance_47 : decode cX1_distance 47 = .ok (.iload 4, 2) := by decide +kernel
theorem dX1_distance_49 : decode cX1_distance 49 = .ok (.ior, 1) := by decide +kernel
theorem dX1_distance_50 : decode cX1_distance 50 = .ok (.istore_n 3, 1) := by decide +kernel
theorem dX1_distance_51 : decode cX1_distance 51 = .ok (.iinc 5 1, 3) := by decide +kernel
theorem dX1_distance_54 : decode cX1_distance 54 = .ok (.goto (-44), 3) := by decide +kernel
theorem dX1_distance_57 : decode cX1_distance 57 = .ok (.bipush 99, 2) := by decide +kernel
theorem dX1_distance_59 : decode cX1_distance 59 = .ok (.ireturn, 1) := by decide +kernel
theorem dX1_besideAny_0 : decode cX1_besideAny 0 = .ok (.iconst 0, 1) := by decide +kernel
theorem dX1_besideAny_1 : decode cX1_besideAny 1 = .ok (.istore_n 2, 1) := by decide +kernel
theorem dX1_besideAny_2 : decode cX1_besideAny 2 = .ok (.iconst 0, 1) := by decide +kernel
theorem dX1_besideAny_3 : decode cX1_besideAny 3 = .ok (.istore_n 3, 1) := by decide +kernel
theorem dX1_besideAny_4 : decode cX1_besideAny 4 = .ok (.iload_n 3, 1) := by decide +kernel
theorem dX1_besideAny_5 : decode cX1_besideAny 5 = .ok (.bipush 8, 2) := by decide +kernel
theorem dX1_besideAny_7 : decode cX1_besideAny 7 = .ok (.if_icmp .ge 25, 3) := by decide +kernel
theorem dX1_besideAny_10 : decode cX1_besideAny 10 = .ok (.iload_n 1, 1) := by decide +kernel
theorem dX1_besideAny_11 : decode cX1_besideAny 11 = .ok (.iload_n 3, 1) := by decide +kernel
theorem dX1_besideAny_12 : decode cX1_besideAny 12 = .ok (.ishr, 1) := by decide +kernel
theorem dX1_besideAny_13 : decode cX1_besideAny 13 = .ok (.iconst 1, 1) := by decide +kernel
theorem dX1_besideAny_14 : decode cX1_besideAny 14 = .ok (.iand, 1) := by decide +kernel
theorem dX1_besideAny_15 : decode cX1_besideAny 15 = .ok (.ifCond .eq 11, 3) := by decide +kernel
theorem dX1_besideAny_18 : decode cX1_besideAny 18 = .ok (.iload_n 2, 1) := by decide +kernel
theorem dX1_besideAny_19 : decode cX1_besideAny 19 = .ok (.iload_n 0, 1) := by decide +kernel
theorem dX1_besideAny_20 : decode cX1_besideAny 20 = .ok (.iload_n 3, 1) := by decide +kernel
theorem dX1_besideAny_21 : decode cX1_besideAny 21 = .ok (.invokestatic 40, 3) := by decide +kernel
theorem dX1_besideAny_24 : decode cX1_besideAny 24 = .ok (.ior, 1) := by decide +kernel
theorem dX1_besideAny_25 : decode cX1_besideAny 25 = .ok (.istore_n 2, 1) := by decide +kernel
theorem dX1_besideAny_26 : decode cX1_besideAny 26 = .ok (.iinc 3 1, 3) := by decide +kernel
theorem dX1_besideAny_29 : decode cX1_besideAny 29 = .ok (.goto (-25), 3) := by decide +kernel
theorem dX1_besideAny_32 : decode cX1_besideAny 32 = .ok (.iload_n 2, 1) := by decide +kernel
theorem dX1_besideAny_33 : decode cX1_besideAny 33 = .ok (.ireturn, 1) := by decide +kernel
theorem dX1_withWhatFollows_0 : decode cX1_withWhatFollows 0 = .ok (.iload_n 1, 1) := by decide +kernel
theorem dX1_withWhatFollows_1 : decode cX1_withWhatFollows 1 = .ok (.istore_n 2, 1) := by decide +kernel
theorem dX1_withWhatFollows_2 : decode cX1_withWhatFollows 2 = .ok (.iconst 0, 1) := by decide +kernel
theorem dX1_withWhatFollows_3 : decode cX1_withWhatFollows 3 = .ok (.istore_n 3, 1) := by decide +kernel
theorem dX1_withWhatFollows_4 : decode cX1_withWhatFollows 4 = .ok (.iload_n 3, 1) := by decide +kernel
theorem dX1_withWhatFollows_5 : decode cX1_withWhatFollows 5 = .ok (.bipush 28, 2) := by decide +kernel
theorem dX1_withWhatFollows_7 : decode cX1_withWhatFollows 7 = .ok (.if_icmp .ge 47, 3) := by decide +kernel
theorem dX1_withWhatFollows_10 : decode cX1_withWhatFollows 10 = .ok (.iload_n 2, 1) := by decide +kernel
theorem dX1_withWhatFollows_11 : decode cX1_withWhatFollows 11 = .ok (.istore 4, 2) := by decide +kernel
theorem dX1_withWhatFollows_13 : decode cX1_withWhatFollows 13 = .ok (.iconst 0, 1) := by decide +kernel
theorem dX1_withWhatFollows_14 : decode cX1_withWhatFollows 14 = .ok (.istore 5, 2) := by decide +kernel
theorem dX1_withWhatFollows_16 : decode cX1_withWhatFollows 16 = .ok (.iload 5, 2) := by decide +kernel
theorem dX1_withWhatFollows_18 : decode cX1_withWhatFollows 18 = .ok (.bipush 8, 2) := by decide +kernel
theorem dX1_withWhatFollows_20 : decode cX1_withWhatFollows 20 = .ok (.if_icmp .ge 19, 3) := by decide +kernel
theorem dX1_withWhatFollows_23 : decode cX1_withWhatFollows 23 = .ok (.iload_n 2, 1) := by decide +kernel
theorem dX1_withWhatFollows_24 : decode cX1_withWhatFollows 24 = .ok (.iload_n 0, 1) := by decide +kernel
theorem dX1_withWhatFollows_25 : decode cX1_withWhatFollows 25 = .ok (.iload_n 2, 1) := by decide +kernel
theorem dX1_withWhatFollows_26 : decode cX1_withWhatFollows 26 = .ok (.iload 5, 2) := by decide +kernel
theorem dX1_withWhatFollows_28 : decode cX1_withWhatFollows 28 = .ok (.invokestatic 43, 3) := by decide +kernel
theorem dX1_withWhatFollows_31 : decode cX1_withWhatFollows 31 = .ok (.ior, 1) := by decide +kernel
theorem dX1_withWhatFollows_32 : decode cX1_withWhatFollows 32 = .ok (.istore_n 2, 1) := by decide +kernel
theorem dX1_withWhatFollows_33 : decode cX1_withWhatFollows 33 = .ok (.iinc 5 1, 3) := by decide +kernel
theorem dX1_withWhatFollows_36 : decode cX1_withWhatFollows 36 = .ok (.goto (-20), 3) := by decide +kernel
theorem dX1_withWhatFollows_39 : decode cX1_withWhatFollows 39 = .ok (.iload_n 2, 1) := by decide +kernel
theorem dX1_withWhatFollows_40 : decode cX1_withWhatFollows 40 = .ok (.iload 4, 2) := by decide +kernel
theorem dX1_withWhatFollows_42 : decode cX1_withWhatFollows 42 = .ok (.if_icmp .ne 6, 3) := by decide +kernel
theorem dX1_withWhatFollows_45 : decode cX1_withWhatFollows 45 = .ok (.goto 9, 3) := by decide +kernel
theorem dX1_withWhatFollows_48 : decode cX1_withWhatFollows 48 = .ok (.iinc 3 1, 3) := by decide +kernel
theorem dX1_withWhatFollows_51 : decode cX1_withWhatFollows 51 = .ok (.goto (-47), 3) := by decide +kernel
theorem dX1_withWhatFollows_54 : decode cX1_withWhatFollows 54 = .ok (.iload_n 2, 1) := by decide +kernel
theorem dX1_withWhatFollows_55 : decode cX1_withWhatFollows 55 = .ok (.ireturn, 1) := by decide +kernel
theorem dX1_followingAt_0 : decode cX1_followingAt 0 = .ok (.iload_n 2, 1) := by decide +kernel
theorem dX1_followingAt_1 : decode cX1_followingAt 1 = .ok (.invokestatic 33, 3) := by decide +kernel
theorem dX1_followingAt_4 : decode cX1_followingAt 4 = .ok (.istore_n 3, 1) := by decide +kernel
theorem dX1_followingAt_5 : decode cX1_followingAt 5 = .ok (.iload_n 3, 1) := by decide +kernel
theorem dX1_followingAt_6 : decode cX1_followingAt 6 = .ok (.iload_n 1, 1) := by decide +kernel
theorem dX1_followingAt_7 : decode cX1_followingAt 7 = .ok (.iconst (-1), 1) := by decide +kernel
theorem dX1_followingAt_8 : decode cX1_followingAt 8 = .ok (.ixor, 1) := by decide +kernel
theorem dX1_followingAt_9 : decode cX1_followingAt 9 = .ok (.iand, 1) := by decide +kernel
theorem dX1_followingAt_10 : decode cX1_followingAt 10 = .ok (.istore 4, 2) := by decide +kernel
theorem dX1_followingAt_12 : decode cX1_followingAt 12 = .ok (.iload_n 3, 1) := by decide +kernel
theorem dX1_followingAt_13 : decode cX1_followingAt 13 = .ok (.iload_n 0, 1) := by decide +kernel
theorem dX1_followingAt_14 : decode cX1_followingAt 14 = .ok (.iand, 1) := by decide +kernel
theorem dX1_followingAt_15 : decode cX1_followingAt 15 = .ok (.invokestatic 47, 3) := by decide +kernel
theorem dX1_followingAt_18 : decode cX1_followingAt 18 = .ok (.istore 5, 2) := by decide +kernel
theorem dX1_followingAt_20 : decode cX1_followingAt 20 = .ok (.iload_n 3, 1) := by decide +kernel
theorem dX1_followingAt_21 : decode cX1_followingAt 21 = .ok (.iload_n 0, 1) := by decide +kernel
theorem dX1_followingAt_22 : decode cX1_followingAt 22 = .ok (.iand, 1) := by decide +kernel
theorem dX1_followingAt_23 : decode cX1_followingAt 23 = .ok (.iload_n 1, 1) := by decide +kernel
theorem dX1_followingAt_24 : decode cX1_followingAt 24 = .ok (.iand, 1) := by decide +kernel
theorem dX1_followingAt_25 : decode cX1_followingAt 25 = .ok (.invokestatic 47, 3) := by decide +kernel
theorem dX1_followingAt_28 : decode cX1_followingAt 28 = .ok (.istore 6, 2) := by decide +kernel
theorem dX1_followingAt_30 : decode cX1_followingAt 30 = .ok (.iload 6, 2) := by decide +kernel
theorem dX1_followingAt_32 : decode cX1_followingAt 32 = .ok (.iload 5, 2) := by decide +kernel
theorem dX1_followingAt_34 : decode cX1_followingAt 34 = .ok (.if_icmp .eq 16, 3) := by decide +kernel
theorem dX1_followingAt_37 : decode cX1_followingAt 37 = .ok (.iload 6, 2) := by decide +kernel
theorem dX1_followingAt_39 : decode cX1_followingAt 39 = .ok (.iload 4, 2) := by decide +kernel
theorem dX1_followingAt_41 : decode cX1_followingAt 41 = .ok (.invokestatic 47, 3) := by decide +kernel
theorem dX1_followingAt_44 : decode cX1_followingAt 44 = .ok (.iadd, 1) := by decide +kernel
theorem dX1_followingAt_45 : decode cX1_followingAt 45 = .ok (.iload 5, 2) := by decide +kernel
theorem dX1_followingAt_47 : decode cX1_followingAt 47 = .ok (.if_icmp .ne 8, 3) := by decide +kernel
theorem dX1_followingAt_50 : decode cX1_followingAt 50 = .ok (.iload 4, 2) := by decide +kernel
theorem dX1_followingAt_52 : decode cX1_followingAt 52 = .ok (.goto 4, 3) := by decide +kernel
theorem dX1_followingAt_55 : decode cX1_followingAt 55 = .ok (.iconst 0, 1) := by decide +kernel
theorem dX1_followingAt_56 : decode cX1_followingAt 56 = .ok (.ireturn, 1) := by decide +kernel
theorem dX2_init_0 : decode cX2_init 0 = .ok (.aload_n 0, 1) := by decide +kernel
theorem dX2_init_1 : decode cX2_init 1 = .ok (.invokespecial 3, 3) := by decide +kernel
theorem dX2_init_4 : decode cX2_init 4 = .ok (.aload_n 0, 1) := by decide +kernel
theorem dX2_init_5 : decode cX2_init 5 = .ok (.bipush 80, 2) := by decide +kernel
theorem dX2_init_7 : decode cX2_init 7 = .ok (.newarray .char, 2) := by decide +kernel
theorem dX2_init_9 : decode cX2_init 9 = .ok (.putfield 11, 3) := by decide +kernel
theorem dX2_init_12 : decode cX2_init 12 = .ok (.return_, 1) := by decide +kernel
theorem dX2_append_0 : decode cX2_append 0 = .ok (.lload_n 1, 1) := by decide +kernel
theorem dX2_append_1 : decode cX2_append 1 = .ok (.invokestatic 15, 3) := by decide +kernel
theorem dX2_append_4 : decode cX2_append 4 = .ok (.istore_n 3, 1) := by decide +kernel
theorem dX2_append_5 : decode cX2_append 5 = .ok (.iload_n 3, 1) := by decide +kernel
theorem dX2_append_6 : decode cX2_append 6 = .ok (.ifCond .ge 5, 3) := by decide +kernel
theorem dX2_append_9 : decode cX2_append 9 = .ok (.iload_n 3, 1) := by decide +kernel
theorem dX2_append_10 : decode cX2_append 10 = .ok (.ireturn, 1) := by decide +kernel
theorem dX2_append_11 : decode cX2_append 11 = .ok (.aload_n 0, 1) := by decide +kernel
theorem dX2_append_12 : decode cX2_append 12 = .ok (.getfield 19, 3) := by decide +kernel
theorem dX2_append_15 : decode cX2_append 15 = .ok (.iload_n 3, 1) := by decide +kernel
theorem dX2_append_16 : decode cX2_append 16 = .ok (.iadd, 1) := by decide +kernel
theorem dX2_append_17 : decode cX2_append 17 = .ok (.bipush 80, 2) := by decide +kernel
theorem dX2_append_19 : decode cX2_append 19 = .ok (.if_icmp .le 6, 3) := by decide +kernel
theorem dX2_append_22 : decode cX2_append 22 = .ok (.bipush (-4), 2) := by decide +kernel
theorem dX2_append_24 : decode cX2_append 24 = .ok (.ireturn, 1) := by decide +kernel
theorem dX2_append_25 : decode cX2_append 25 = .ok (.iload_n 3, 1) := by decide +kernel
theorem dX2_append_26 : decode cX2_append 26 = .ok (.iconst 1, 1) := by decide +kernel
theorem dX2_append_27 : decode cX2_append 27 = .ok (.isub, 1) := by decide +kernel
theorem dX2_append_28 : decode cX2_append 28 = .ok (.istore 4, 2) := by decide +kernel
theorem dX2_append_30 : decode cX2_append 30 = .ok (.iload 4, 2) := by decide +kernel
theorem dX2_append_32 : decode cX2_append 32 = .ok (.ifCond .lt 54, 3) := by decide +kernel
theorem dX2_append_35 : decode cX2_append 35 = .ok (.aload_n 0, 1) := by decide +kernel
theorem dX2_append_36 : decode cX2_append 36 = .ok (.getfield 19, 3) := by decide +kernel
theorem dX2_append_39 : decode cX2_append 39 = .ok (.ifCond .lt 41, 3) := by decide +kernel
theorem dX2_append_42 : decode cX2_append 42 = .ok (.aload_n 0, 1) := by decide +kernel
theorem dX2_append_43 : decode cX2_append 43 = .ok (.getfield 19, 3) := by decide +kernel
theorem dX2_append_46 : decode cX2_append 46 = .ok (.aload_n 0, 1) := by decide +kernel
theorem dX2_append_47 : decode cX2_append 47 = .ok (.getfield 11, 3) := by decide +kernel
theorem dX2_append_50 : decode cX2_append 50 = .ok (.arraylength, 1) := by decide +kernel
theorem dX2_append_51 : decode cX2_append 51 = .ok (.if_icmp .ge 29, 3) := by decide +kernel
theorem dX2_append_54 : decode cX2_append 54 = .ok (.aload_n 0, 1) := by decide +kernel
theorem dX2_append_55 : decode cX2_append 55 = .ok (.getfield 11, 3) := by decide +kernel
theorem dX2_append_58 : decode cX2_append 58 = .ok (.aload_n 0, 1) := by decide +kernel
theorem dX2_append_59 : decode cX2_append 59 = .ok (.getfield 19, 3) := by decide +kernel
theorem dX2_append_62 : decode cX2_append 62 = .ok (.lload_n 1, 1) := by decide +kernel
theorem dX2_append_63 : decode cX2_append 63 = .ok (.iload 4, 2) := by decide +kernel
theorem dX2_append_65 : decode cX2_append 65 = .ok (.invokestatic 23, 3) := by decide +kernel
theorem dX2_append_68 : decode cX2_append 68 = .ok (.i2c, 1) := by decide +kernel
theorem dX2_append_69 : decode cX2_append 69 = .ok (.castore, 1) := by decide +kernel
theorem dX2_append_70 : decode cX2_append 70 = .ok (.aload_n 0, 1) := by decide +kernel
theorem dX2_append_71 : decode cX2_append 71 = .ok (.dup, 1) := by decide +kernel
theorem dX2_append_72 : decode cX2_append 72 = .ok (.getfield 19, 3) := by decide +kernel
theorem dX2_append_75 : decode cX2_append 75 = .ok (.iconst 1, 1) := by decide +kernel
theorem dX2_append_76 : decode cX2_append 76 = .ok (.iadd, 1) := by decide +kernel
theorem dX2_append_77 : decode cX2_append 77 = .ok (.putfield 19, 3) := by decide +kernel
theorem dX2_append_80 : decode cX2_append 80 = .ok (.iinc 4 (-1), 3) := by decide +kernel
theorem dX2_append_83 : decode cX2_append 83 = .ok (.goto (-53), 3) := by decide +kernel
theorem dX2_append_86 : decode cX2_append 86 = .ok (.aload_n 0, 1) := by decide +kernel
theorem dX2_append_87 : decode cX2_append 87 = .ok (.getfield 19, 3) := by decide +kernel
theorem dX2_append_90 : decode cX2_append 90 = .ok (.ireturn, 1) := by decide +kernel
theorem dX2_charactersIn_0 : decode cX2_charactersIn 0 = .ok (.iconst 0, 1) := by decide +kernel
theorem dX2_charactersIn_1 : decode cX2_charactersIn 1 = .ok (.istore_n 2, 1) := by decide +kernel
theorem dX2_charactersIn_2 : decode cX2_charactersIn 2 = .ok (.iload_n 2, 1) := by decide +kernel
theorem dX2_charactersIn_3 : decode cX2_charactersIn 3 = .ok (.bipush 8, 2) := by decide +kernel
theorem dX2_charactersIn_5 : decode cX2_charactersIn 5 = .ok (.if_icmp .ge 38, 3) := by decide +kernel
theorem dX2_charactersIn_8 : decode cX2_charactersIn 8 = .ok (.lload_n 0, 1) := by decide +kernel
theorem dX2_charactersIn_9 : decode cX2_charactersIn 9 = .ok (.iload_n 2, 1) := by decide +kernel
theorem dX2_charactersIn_10 : decode cX2_charactersIn 10 = .ok (.invokestatic 23, 3) := by decide +kernel
theorem dX2_charactersIn_13 : decode cX2_charactersIn 13 = .ok (.ifCond .eq 30, 3) := by decide +kernel
theorem dX2_charactersIn_16 : decode cX2_charactersIn 16 = .ok (.lload_n 0, 1) := by decide +kernel
theorem dX2_charactersIn_17 : decode cX2_charactersIn 17 = .ok (.iload_n 2, 1) := by decide +kernel
theorem dX2_charactersIn_18 : decode cX2_charactersIn 18 = .ok (.invokestatic 23, 3) := by decide +kernel
theorem dX2_charactersIn_21 : decode cX2_charactersIn 21 = .ok (.istore_n 3, 1) := by decide +kernel
theorem dX2_charactersIn_22 : decode cX2_charactersIn 22 = .ok (.iload_n 3, 1) := by decide +kernel
theorem dX2_charactersIn_23 : decode cX2_charactersIn 23 = .ok (.bipush 33, 2) := by decide +kernel
theorem dX2_charactersIn_25 : decode cX2_charactersIn 25 = .ok (.if_icmp .lt 9, 3) := by decide +kernel
theorem dX2_charactersIn_28 : decode cX2_charactersIn 28 = .ok (.iload_n 3, 1) := by decide +kernel
theorem dX2_charactersIn_29 : decode cX2_charactersIn 29 = .ok (.bipush 126, 2) := by decide +kernel
theorem dX2_charactersIn_31 : decode cX2_charactersIn 31 = .ok (.if_icmp .le 6, 3) := by decide +kernel
theorem dX2_charactersIn_34 : decode cX2_charactersIn 34 = .ok (.bipush (-2), 2) := by decide +kernel
theorem dX2_charactersIn_36 : decode cX2_charactersIn 36 = .ok (.ireturn, 1) := by decide +kernel
theorem dX2_charactersIn_37 : decode cX2_charactersIn 37 = .ok (.iinc 2 1, 3) := by decide +kernel
theorem dX2_charactersIn_40 : decode cX2_charactersIn 40 = .ok (.goto (-38), 3) := by decide +kernel
theorem dX2_charactersIn_43 : decode cX2_charactersIn 43 = .ok (.iload_n 2, 1) := by decide +kernel
theorem dX2_charactersIn_44 : decode cX2_charactersIn 44 = .ok (.bipush 8, 2) := by decide +kernel
theorem dX2_charactersIn_46 : decode cX2_charactersIn 46 = .ok (.if_icmp .ge 18, 3) := by decide +kernel
theorem dX2_charactersIn_49 : decode cX2_charactersIn 49 = .ok (.lload_n 0, 1) := by decide +kernel
theorem dX2_charactersIn_50 : decode cX2_charactersIn 50 = .ok (.bipush 8, 2) := by decide +kernel
theorem dX2_charactersIn_52 : decode cX2_charactersIn 52 = .ok (.iload_n 2, 1) := by decide +kernel
theorem dX2_charactersIn_53 : decode cX2_charactersIn 53 = .ok (.imul, 1) := by decide +kernel
theorem dX2_charactersIn_54 : decode cX2_charactersIn 54 = .ok (.lushr, 1) := by decide +kernel
theorem dX2_charactersIn_55 : decode cX2_charactersIn 55 = .ok (.lconst 0, 1) := by decide +kernel
theorem dX2_charactersIn_56 : decode cX2_charactersIn 56 = .ok (.lcmp, 1) := by decide +kernel
theorem dX2_charactersIn_57 : decode cX2_charactersIn 57 = .ok (.ifCond .eq 7, 3) := by decide +kernel
theorem dX2_charactersIn_60 : decode cX2_charactersIn 60 = .ok (.iconst 1, 1) := by decide +kernel
theorem dX2_charactersIn_61 : decode cX2_charactersIn 61 = .ok (.goto 4, 3) := by decide +kernel
theorem dX2_charactersIn_64 : decode cX2_charactersIn 64 = .ok (.iconst 0, 1) := by decide +kernel
theorem dX2_charactersIn_65 : decode cX2_charactersIn 65 = .ok (.istore_n 3, 1) := by decide +kernel
theorem dX2_charactersIn_66 : decode cX2_charactersIn 66 = .ok (.iload_n 2, 1) := by decide +kernel
theorem dX2_charactersIn_67 : decode cX2_charactersIn 67 = .ok (.ifCond .eq 7, 3) := by decide +kernel
theorem dX2_charactersIn_70 : decode cX2_charactersIn 70 = .ok (.iload_n 3, 1) := by decide +kernel
theorem dX2_charactersIn_71 : decode cX2_charactersIn 71 = .ok (.ifCond .eq 8, 3) := by decide +kernel
theorem dX2_charactersIn_74 : decode cX2_charactersIn 74 = .ok (.bipush (-2), 2) := by decide +kernel
theorem dX2_charactersIn_76 : decode cX2_charactersIn 76 = .ok (.goto 4, 3) := by decide +kernel
theorem dX2_charactersIn_79 : decode cX2_charactersIn 79 = .ok (.iload_n 2, 1) := by decide +kernel
theorem dX2_charactersIn_80 : decode cX2_charactersIn 80 = .ok (.ireturn, 1) := by decide +kernel
theorem dX2_codeIn_0 : decode cX2_codeIn 0 = .ok (.lload_n 0, 1) := by decide +kernel
theorem dX2_codeIn_1 : decode cX2_codeIn 1 = .ok (.bipush 8, 2) := by decide +kernel
theorem dX2_codeIn_3 : decode cX2_codeIn 3 = .ok (.iload_n 2, 1) := by decide +kernel
theorem dX2_codeIn_4 : decode cX2_codeIn 4 = .ok (.imul, 1) := by decide +kernel
theorem dX2_codeIn_5 : decode cX2_codeIn 5 = .ok (.lushr, 1) := by decide +kernel
theorem dX2_codeIn_6 : decode cX2_codeIn 6 = .ok (.l2i, 1) := by decide +kernel
theorem dX2_codeIn_7 : decode cX2_codeIn 7 = .ok (.sipush 255, 3) := by decide +kernel
theorem dX2_codeIn_10 : decode cX2_codeIn 10 = .ok (.iand, 1) := by decide +kernel
theorem dX2_codeIn_11 : decode cX2_codeIn 11 = .ok (.ireturn, 1) := by decide +kernel
theorem dX2_empty_0 : decode cX2_empty 0 = .ok (.aload_n 0, 1) := by decide +kernel
theorem dX2_empty_1 : decode cX2_empty 1 = .ok (.getfield 19, 3) := by decide +kernel
theorem dX2_empty_4 : decode cX2_empty 4 = .ok (.istore_n 1, 1) := by decide +kernel
theorem dX2_empty_5 : decode cX2_empty 5 = .ok (.aload_n 0, 1) := by decide +kernel
theorem dX2_empty_6 : decode cX2_empty 6 = .ok (.iconst 0, 1) := by decide +kernel
theorem dX2_empty_7 : decode cX2_empty 7 = .ok (.putfield 19, 3) := by decide +kernel
theorem dX2_empty_10 : decode cX2_empty 10 = .ok (.iload_n 1, 1) := by decide +kernel
theorem dX2_empty_11 : decode cX2_empty 11 = .ok (.ireturn, 1) := by decide +kernel
theorem dX2_sign_0 : decode cX2_sign 0 = .ok (.iload_n 1, 1) := by decide +kernel
theorem dX2_sign_1 : decode cX2_sign 1 = .ok (.ifCond .lt 29, 3) := by decide +kernel
theorem dX2_sign_4 : decode cX2_sign 4 = .ok (.iload_n 1, 1) := by decide +kernel
theorem dX2_sign_5 : decode cX2_sign 5 = .ok (.aload_n 0, 1) := by decide +kernel
theorem dX2_sign_6 : decode cX2_sign 6 = .ok (.getfield 19, 3) := by decide +kernel
theorem dX2_sign_9 : decode cX2_sign 9 = .ok (.if_icmp .ge 21, 3) := by decide +kernel
theorem dX2_sign_12 : decode cX2_sign 12 = .ok (.iload_n 1, 1) := by decide +kernel
theorem dX2_sign_13 : decode cX2_sign 13 = .ok (.aload_n 0, 1) := by decide +kernel
theorem dX2_sign_14 : decode cX2_sign 14 = .ok (.getfield 11, 3) := by decide +kernel
theorem dX2_sign_17 : decode cX2_sign 17 = .ok (.arraylength, 1) := by decide +kernel
theorem dX2_sign_18 : decode cX2_sign 18 = .ok (.if_icmp .ge 12, 3) := by decide +kernel
theorem dX2_sign_21 : decode cX2_sign 21 = .ok (.aload_n 0, 1) := by decide +kernel
theorem dX2_sign_22 : decode cX2_sign 22 = .ok (.getfield 11, 3) := by decide +kernel
theorem dX2_sign_25 : decode cX2_sign 25 = .ok (.iload_n 1, 1) := by decide +kernel
theorem dX2_sign_26 : decode cX2_sign 26 = .ok (.caload, 1) := by decide +kernel
theorem dX2_sign_27 : decode cX2_sign 27 = .ok (.goto 4, 3) := by decide +kernel
theorem dX2_sign_30 : decode cX2_sign 30 = .ok (.iconst 0, 1) := by decide +kernel
theorem dX2_sign_31 : decode cX2_sign 31 = .ok (.ireturn, 1) := by decide +kernel
theorem dX2_placeAt_0 : decode cX2_placeAt 0 = .ok (.aload_n 0, 1) := by decide +kernel
theorem dX2_placeAt_1 : decode cX2_placeAt 1 = .ok (.iload_n 1, 1) := by decide +kernel
theorem dX2_placeAt_2 : decode cX2_placeAt 2 = .ok (.invokevirtual 27, 3) := by decide +kernel
theorem dX2_placeAt_5 : decode cX2_placeAt 5 = .ok (.bipush 97, 2) := by decide +kernel
theorem dX2_placeAt_7 : decode cX2_placeAt 7 = .ok (.isub, 1) := by decide +kernel
theorem dX2_placeAt_8 : decode cX2_placeAt 8 = .ok (.ireturn, 1) := by decide +kernel
theorem dX2_digitAt_0 : decode cX2_digitAt 0 = .ok (.aload_n 0, 1) := by decide +kernel
theorem dX2_digitAt_1 : decode cX2_digitAt 1 = .ok (.iload_n 1, 1) := by decide +kernel
theorem dX2_digitAt_2 : decode cX2_digitAt 2 = .ok (.invokevirtual 27, 3) := by decide +kernel
theorem dX2_digitAt_5 : decode cX2_digitAt 5 = .ok (.bipush 48, 2) := by decide +kernel
theorem dX2_digitAt_7 : decode cX2_digitAt 7 = .ok (.isub, 1) := by decide +kernel
theorem dX2_digitAt_8 : decode cX2_digitAt 8 = .ok (.ireturn, 1) := by decide +kernel
theorem dX2_startsOrder_0 : decode cX2_startsOrder 0 = .ok (.iload_n 1, 1) := by decide +kernel
theorem dX2_startsOrder_1 : decode cX2_startsOrder 1 = .ok (.ifCond .eq 15, 3) := by decide +kernel
theorem dX2_startsOrder_4 : decode cX2_startsOrder 4 = .ok (.aload_n 0, 1) := by decide +kernel
theorem dX2_startsOrder_5 : decode cX2_startsOrder 5 = .ok (.iload_n 1, 1) := by decide +kernel
theorem dX2_startsOrder_6 : decode cX2_startsOrder 6 = .ok (.iconst 1, 1) := by decide +kernel
theorem dX2_startsOrder_7 : decode cX2_startsOrder 7 = .ok (.isub, 1) := by decide +kernel
theorem dX2_startsOrder_8 : decode cX2_startsOrder 8 = .ok (.invokevirtual 27, 3) := by decide +kernel
theorem dX2_startsOrder_11 : decode cX2_startsOrder 11 = .ok (.bipush 59, 2) := by decide +kernel
theorem dX2_startsOrder_13 : decode cX2_startsOrder 13 = .ok (.if_icmp .ne 7, 3) := by decide +kernel
theorem dX2_startsOrder_16 : decode cX2_startsOrder 16 = .ok (.iconst 1, 1) := by decide +kernel
theorem dX2_startsOrder_17 : decode cX2_startsOrder 17 = .ok (.goto 4, 3) := by decide +kernel
theorem dX2_startsOrder_20 : decode cX2_startsOrder 20 = .ok (.iconst 0, 1) := by decide +kernel
theorem dX2_startsOrder_21 : decode cX2_startsOrder 21 = .ok (.ireturn, 1) := by decide +kernel
theorem dX2_firstFault_0 : decode cX2_firstFault 0 = .ok (.iconst 1, 1) := by decide +kernel
theorem dX2_firstFault_1 : decode cX2_firstFault 1 = .ok (.istore_n 1, 1) := by decide +kernel
theorem dX2_firstFault_2 : decode cX2_firstFault 2 = .ok (.iconst 0, 1) := by decide +kernel
theorem dX2_firstFault_3 : decode cX2_firstFault 3 = .ok (.istore_n 2, 1) := by decide +kernel
theorem dX2_firstFault_4 : decode cX2_firstFault 4 = .ok (.iload_n 2, 1) := by decide +kernel
theorem dX2_firstFault_5 : decode cX2_firstFault 5 = .ok (.aload_n 0, 1) := by decide +kernel
theorem dX2_firstFault_6 : decode cX2_firstFault 6 = .ok (.getfield 19, 3) := by decide +kernel
theorem dX2_firstFault_9 : decode cX2_firstFault 9 = .ok (.if_icmp .ge 25, 3) := by decide +kernel
theorem dX2_firstFault_12 : decode cX2_firstFault 12 = .ok (.iload_n 1, 1) := by decide +kernel
theorem dX2_firstFault_13 : decode cX2_firstFault 13 = .ok (.aload_n 0, 1) := by decide +kernel
theorem dX2_firstFault_14 : decode cX2_firstFault 14 = .ok (.iload_n 2, 1) := by decide +kernel
theorem dX2_firstFault_15 : decode cX2_firstFault 15 = .ok (.invokevirtual 27, 3) := by decide +kernel
theorem dX2_firstFault_18 : decode cX2_firstFault 18 = .ok (.invokestatic 31, 3) := by decide +kernel
theorem dX2_firstFault_21 : decode cX2_firstFault 21 = .ok (.istore_n 1, 1) := by decide +kernel
theorem dX2_firstFault_22 : decode cX2_firstFault 22 = .ok (.iload_n 1, 1) := by decide +kernel
theorem dX2_firstFault_23 : decode cX2_firstFault 23 = .ok (.ifCond .ne 5, 3) := by decide +kernel
theorem dX2_firstFault_26 : decode cX2_firstFault 26 = .ok (.iload_n 2, 1) := by decide +kernel
theorem dX2_firstFault_27 : decode cX2_firstFault 27 = .ok (.ireturn, 1) := by decide +kernel
theorem dX2_firstFault_28 : decode cX2_firstFault 28 = .ok (.iinc 2 1, 3) := by decide +kernel
theorem dX2_firstFault_31 : decode cX2_firstFault 31 = .ok (.goto (-27), 3) := by decide +kernel
theorem dX2_firstFault_34 : decode cX2_firstFault 34 = .ok (.iload_n 1, 1) := by decide +kernel
theorem dX2_firstFault_35 : decode cX2_firstFault 35 = .ok (.iconst 5, 1) := by decide +kernel
theorem dX2_firstFault_36 : decode cX2_firstFault 36 = .ok (.if_icmp .ne 8, 3) := by decide +kernel
theorem dX2_firstFault_39 : decode cX2_firstFault 39 = .ok (.bipush (-6), 2) := by decide +kernel
theorem dX2_firstFault_41 : decode cX2_firstFault 41 = .ok (.goto 7, 3) := by decide +kernel
theorem dX2_firstFault_44 : decode cX2_firstFault 44 = .ok (.aload_n 0, 1) := by decide +kernel
theorem dX2_firstFault_45 : decode cX2_firstFault 45 = .ok (.getfield 19, 3) := by decide +kernel
theorem dX2_firstFault_48 : decode cX2_firstFault 48 = .ok (.ireturn, 1) := by decide +kernel
theorem dX2_dueAfter_0 : decode cX2_dueAfter 0 = .ok (.iload_n 0, 1) := by decide +kernel
theorem dX2_dueAfter_1 : decode cX2_dueAfter 1 = .ok (.tableswitch 96 1 5 #[35, 40, 58, 71, 84], 35) := by decide +kernel
theorem dX2_dueAfter_36 : decode cX2_dueAfter 36 = .ok (.iload_n 1, 1) := by decide +kernel
theorem dX2_dueAfter_37 : decode cX2_dueAfter 37 = .ok (.invokestatic 35, 3) := by decide +kernel
theorem dX2_dueAfter_40 : decode cX2_dueAfter 40 = .ok (.ireturn, 1) := by decide +kernel
theorem dX2_dueAfter_41 : decode cX2_dueAfter 41 = .ok (.iload_n 1, 1) := by decide +kernel
theorem dX2_dueAfter_42 : decode cX2_dueAfter 42 = .ok (.bipush 48, 2) := by decide +kernel
theorem dX2_dueAfter_44 : decode cX2_dueAfter 44 = .ok (.if_icmp .lt 13, 3) := by decide +kernel
theorem dX2_dueAfter_47 : decode cX2_dueAfter 47 = .ok (.iload_n 1, 1) := by decide +kernel
theorem dX2_dueAfter_48 : decode cX2_dueAfter 48 = .ok (.bipush 57, 2) := by decide +kernel
theorem dX2_dueAfter_50 : decode cX2_dueAfter 50 = .ok (.if_icmp .gt 7, 3) := by decide +kernel
theorem dX2_dueAfter_53 : decode cX2_dueAfter 53 = .ok (.iconst 3, 1) := by decide +kernel
theorem dX2_dueAfter_54 : decode cX2_dueAfter 54 = .ok (.goto 4, 3) := by decide +kernel
theorem dX2_dueAfter_57 : decode cX2_dueAfter 57 = .ok (.iconst 0, 1) := by decide +kernel
theorem dX2_dueAfter_58 : decode cX2_dueAfter 58 = .ok (.ireturn, 1) := by decide +kernel
theorem dX2_dueAfter_59 : decode cX2_dueAfter 59 = .ok (.iload_n 1, 1) := by decide +kernel
theorem dX2_dueAfter_60 : decode cX2_dueAfter 60 = .ok (.invokestatic 38, 3) := by decide +kernel
theorem dX2_dueAfter_63 : decode cX2_dueAfter 63 = .ok (.ifCond .eq 7, 3) := by decide +kernel
theorem dX2_dueAfter_66 : decode cX2_dueAfter 66 = .ok (.iconst 4, 1) := by decide +kernel
theorem dX2_dueAfter_67 : decode cX2_dueAfter 67 = .ok (.goto 4, 3) := by decide +kernel
theorem dX2_dueAfter_70 : decode cX2_dueAfter 70 = .ok (.iconst 0, 1) := by decide +kernel
theorem dX2_dueAfter_71 : decode cX2_dueAfter 71 = .ok (.ireturn, 1) := by decide +kernel
theorem dX2_dueAfter_72 : decode cX2_dueAfter 72 = .ok (.iload_n 1, 1) := by decide +kernel
theorem dX2_dueAfter_73 : decode cX2_dueAfter 73 = .ok (.invokestatic 38, 3) := by decide +kernel
theorem dX2_dueAfter_76 : decode cX2_dueAfter 76 = .ok (.ifCond .eq 7, 3) := by decide +kernel
theorem dX2_dueAfter_79 : decode cX2_dueAfter 79 = .ok (.iconst 5, 1) := by decide +kernel
theorem dX2_dueAfter_80 : decode cX2_dueAfter 80 = .ok (.goto 4, 3) := by decide +kernel
theorem dX2_dueAfter_83 : decode cX2_dueAfter 83 = .ok (.iconst 0, 1) := by decide +kernel
theorem dX2_dueAfter_84 : decode cX2_dueAfter 84 = .ok (.ireturn, 1) := by decide +kernel
theorem dX2_dueAfter_85 : decode cX2_dueAfter 85 = .ok (.iload_n 1, 1) := by decide +kernel
theorem dX2_dueAfter_86 : decode cX2_dueAfter 86 = .ok (.bipush 59, 2) := by decide +kernel
theorem dX2_dueAfter_88 : decode cX2_dueAfter 88 = .ok (.if_icmp .ne 7, 3) := by decide +kernel
theorem dX2_dueAfter_91 : decode cX2_dueAfter 91 = .ok (.iconst 1, 1) := by decide +kernel
theorem dX2_dueAfter_92 : decode cX2_dueAfter 92 = .ok (.goto 4, 3) := by decide +kernel
theorem dX2_dueAfter_95 : decode cX2_dueAfter 95 = .ok (.iconst 0, 1) := by decide +kernel
theorem dX2_dueAfter_96 : decode cX2_dueAfter 96 = .ok (.ireturn, 1) := by decide +kernel
theorem dX2_dueAfter_97 : decode cX2_dueAfter 97 = .ok (.iconst 0, 1) := by decide +kernel
theorem dX2_dueAfter_98 : decode cX2_dueAfter 98 = .ok (.ireturn, 1) := by decide +kernel
theorem dX2_dueAfterLetter_0 : decode cX2_dueAfterLetter 0 = .ok (.iload_n 0, 1) := by decide +kernel
theorem dX2_dueAfterLetter_1 : decode cX2_dueAfterLetter 1 = .ok (.lookupswitch 83 #[(43, 75), (45, 75), (98, 81), (99, 79), (100, 77), (112, 81), (114, 75), (116, 77)], 75) := by decide +kernel
theorem dX2_dueAfterLetter_76 : decode cX2_dueAfterLetter 76 = .ok (.iconst 3, 1) := by decide +kernel
theorem dX2_dueAfterLetter_77 : decode cX2_dueAfterLetter 77 = .ok (.ireturn, 1) := by decide +kernel
theorem dX2_dueAfterLetter_78 : decode cX2_dueAfterLetter 78 = .ok (.iconst 4, 1) := by decide +kernel
theorem dX2_dueAfterLetter_79 : decode cX2_dueAfterLetter 79 = .ok (.ireturn, 1) := by decide +kernel
theorem dX2_dueAfterLetter_80 : decode cX2_dueAfterLetter 80 = .ok (.iconst 2, 1) := by decide +kernel
theorem dX2_dueAfterLetter_81 : decode cX2_dueAfterLetter 81 = .ok (.ireturn, 1) := by decide +kernel
theorem dX2_dueAfterLetter_82 : decode cX2_dueAfterLetter 82 = .ok (.iconst 5, 1) := by decide +kernel
theorem dX2_dueAfterLetter_83 : decode cX2_dueAfterLetter 83 = .ok (.ireturn, 1) := by decide +kernel
theorem dX2_dueAfterLetter_84 : decode cX2_dueAfterLetter 84 = .ok (.iconst 0, 1) := by decide +kernel
theorem dX2_dueAfterLetter_85 : decode cX2_dueAfterLetter 85 = .ok (.ireturn, 1) := by decide +kernel
theorem dX2_isPlaceSign_0 : decode cX2_isPlaceSign 0 = .ok (.iload_n 0, 1) := by decide +kernel
theorem dX2_isPlaceSign_1 : decode cX2_isPlaceSign 1 = .ok (.bipush 97, 2) := by decide +kernel
theorem dX2_isPlaceSign_3 : decode cX2_isPlaceSign 3 = .ok (.isub, 1) := by decide +kernel
theorem dX2_isPlaceSign_4 : decode cX2_isPlaceSign 4 = .ok (.invokestatic 42, 3) := by decide +kernel
theorem dX2_isPlaceSign_7 : decode cX2_isPlaceSign 7 = .ok (.ireturn, 1) := by decide +kernel
theorem dX3_init_0 : decode cX3_init 0 = .ok (.aload_n 0, 1) := by decide +kernel
theorem dX3_init_1 : decode cX3_init 1 = .ok (.invokespecial 3, 3) := by decide +kernel
theorem dX3_init_4 : decode cX3_init 4 = .ok (.aload_n 0, 1) := by decide +kernel
theorem dX3_init_5 : decode cX3_init 5 = .ok (.bipush 7, 2) := by decide +kernel
theorem dX3_init_7 : decode cX3_init 7 = .ok (.anewarray 9, 3) := by decide +kernel
theorem dX3_init_10 : decode cX3_init 10 = .ok (.putfield 11, 3) := by decide +kernel
theorem dX3_init_13 : decode cX3_init 13 = .ok (.iconst 0, 1) := by decide +kernel
theorem dX3_init_14 : decode cX3_init 14 = .ok (.istore_n 1, 1) := by decide +kernel
theorem dX3_init_15 : decode cX3_init 15 = .ok (.iload_n 1, 1) := by decide +kernel
theorem dX3_init_16 : decode cX3_init 16 = .ok (.aload_n 0, 1) := by decide +kernel
theorem dX3_init_17 : decode cX3_init 17 = .ok (.getfield 11, 3) := by decide +kernel
theorem dX3_init_20 : decode cX3_init 20 = .ok (.arraylength, 1) := by decide +kernel
theorem dX3_init_21 : decode cX3_init 21 = .ok (.if_icmp .ge 22, 3) := by decide +kernel
theorem dX3_init_24 : decode cX3_init 24 = .ok (.aload_n 0, 1) := by decide +kernel
theorem dX3_init_25 : decode cX3_init 25 = .ok (.getfield 11, 3) := by decide +kernel
theorem dX3_init_28 : decode cX3_init 28 = .ok (.iload_n 1, 1) := by decide +kernel
theorem dX3_init_29 : decode cX3_init 29 = .ok (.new 9, 3) := by decide +kernel
theorem dX3_init_32 : decode cX3_init 32 = .ok (.dup, 1) := by decide +kernel
theorem dX3_init_33 : decode cX3_init 33 = .ok (.invokespecial 15, 3) := by decide +kernel
theorem dX3_init_36 : decode cX3_init 36 = .ok (.aastore, 1) := by decide +kernel
theorem dX3_init_37 : decode cX3_init 37 = .ok (.iinc 1 1, 3) := by decide +kernel
theorem dX3_init_40 : decode cX3_init 40 = .ok (.goto (-25), 3) := by decide +kernel
theorem dX3_init_43 : decode cX3_init 43 = .ok (.return_, 1) := by decide +kernel
theorem dX3_hold_0 : decode cX3_hold 0 = .ok (.aload_n 0, 1) := by decide +kernel
theorem dX3_hold_1 : decode cX3_hold 1 = .ok (.aload_n 0, 1) := by decide +kernel
theorem dX3_hold_2 : decode cX3_hold 2 = .ok (.getfield 16, 3) := by decide +kernel
theorem dX3_hold_5 : decode cX3_hold 5 = .ok (.invokevirtual 20, 3) := by decide +kernel
theorem dX3_hold_8 : decode cX3_hold 8 = .ok (.astore_n 2, 1) := by decide +kernel
theorem dX3_hold_9 : decode cX3_hold 9 = .ok (.aload_n 2, 1) := by decide +kernel
theorem dX3_hold_10 : decode cX3_hold 10 = .ok (.ifnull 8, 3) := by decide +kernel
theorem dX3_hold_13 : decode cX3_hold 13 = .ok (.aload_n 2, 1) := by decide +kernel
theorem dX3_hold_14 : decode cX3_hold 14 = .ok (.aload_n 1, 1) := by decide +kernel
theorem dX3_hold_15 : decode cX3_hold 15 = .ok (.invokevirtual 24, 3) := by decide +kernel
theorem dX3_hold_18 : decode cX3_hold 18 = .ok (.return_, 1) := by decide +kernel
theorem dX3_keep_0 : decode cX3_keep 0 = .ok (.aload_n 0, 1) := by decide +kernel
theorem dX3_keep_1 : decode cX3_keep 1 = .ok (.aload_n 0, 1) := by decide +kernel
theorem dX3_keep_2 : decode cX3_keep 2 = .ok (.getfield 16, 3) := by decide +kernel
theorem dX3_keep_5 : decode cX3_keep 5 = .ok (.iconst 1, 1) := by decide +kernel
theorem dX3_keep_6 : decode cX3_keep 6 = .ok (.iadd, 1) := by decide +kernel
theorem dX3_keep_7 : decode cX3_keep 7 = .ok (.bipush 7, 2) := by decide +kernel
theorem dX3_keep_9 : decode cX3_keep 9 = .ok (.irem, 1) := by decide +kernel
theorem dX3_keep_10 : decode cX3_keep 10 = .ok (.putfield 16, 3) := by decide +kernel
theorem dX3_keep_13 : decode cX3_keep 13 = .ok (.aload_n 0, 1) := by decide +kernel
theorem dX3_keep_14 : decode cX3_keep 14 = .ok (.aload_n 0, 1) := by decide +kernel
theorem dX3_keep_15 : decode cX3_keep 15 = .ok (.getfield 28, 3) := by decide +kernel
theorem dX3_keep_18 : decode cX3_keep 18 = .ok (.iconst 1, 1) := by decide +kernel
theorem dX3_keep_19 : decode cX3_keep 19 = .ok (.iadd, 1) := by decide +kernel
theorem dX3_keep_20 : decode cX3_keep 20 = .ok (.bipush 6, 2) := by decide +kernel
theorem dX3_keep_22 : decode cX3_keep 22 = .ok (.invokestatic 31, 3) := by decide +kernel
theorem dX3_keep_25 : decode cX3_keep 25 = .ok (.putfield 28, 3) := by decide +kernel
theorem dX3_keep_28 : decode cX3_keep 28 = .ok (.return_, 1) := by decide +kernel
theorem dX3_goBack_0 : decode cX3_goBack 0 = .ok (.aload_n 0, 1) := by decide +kernel
theorem dX3_goBack_1 : decode cX3_goBack 1 = .ok (.aload_n 0, 1) := by decide +kernel
theorem dX3_goBack_2 : decode cX3_goBack 2 = .ok (.getfield 16, 3) := by decide +kernel
theorem dX3_goBack_5 : decode cX3_goBack 5 = .ok (.bipush 6, 2) := by decide +kernel
theorem dX3_goBack_7 : decode cX3_goBack 7 = .ok (.iadd, 1) := by decide +kernel
theorem dX3_goBack_8 : decode cX3_goBack 8 = .ok (.bipush 7, 2) := by decide +kernel
theorem dX3_goBack_10 : decode cX3_goBack 10 = .ok (.irem, 1) := by decide +kernel
theorem dX3_goBack_11 : decode cX3_goBack 11 = .ok (.invokevirtual 20, 3) := by decide +kernel
theorem dX3_goBack_14 : decode cX3_goBack 14 = .ok (.astore_n 2, 1) := by decide +kernel
theorem dX3_goBack_15 : decode cX3_goBack 15 = .ok (.aload_n 0, 1) := by decide +kernel
theorem dX3_goBack_16 : decode cX3_goBack 16 = .ok (.getfield 28, 3) := by decide +kernel
theorem dX3_goBack_19 : decode cX3_goBack 19 = .ok (.ifCond .eq 7, 3) := by decide +kernel
theorem dX3_goBack_22 : decode cX3_goBack 22 = .ok (.aload_n 2, 1) := by decide +kernel
theorem dX3_goBack_23 : decode cX3_goBack 23 = .ok (.ifnonnull 5, 3) := by decide +kernel
theorem dX3_goBack_26 : decode cX3_goBack 26 = .ok (.iconst 0, 1) := by decide +kernel
theorem dX3_goBack_27 : decode cX3_goBack 27 = .ok (.ireturn, 1) := by decide +kernel
theorem dX3_goBack_28 : decode cX3_goBack 28 = .ok (.aload_n 1, 1) := by decide +kernel
theorem dX3_goBack_29 : decode cX3_goBack 29 = .ok (.aload_n 2, 1) := by decide +kernel
theorem dX3_goBack_30 : decode cX3_goBack 30 = .ok (.invokevirtual 24, 3) := by decide +kernel
theorem dX3_goBack_33 : decode cX3_goBack 33 = .ok (.aload_n 0, 1) := by decide +kernel
theorem dX3_goBack_34 : decode cX3_goBack 34 = .ok (.aload_n 0, 1) := by decide +kernel
theorem dX3_goBack_35 : decode cX3_goBack 35 = .ok (.getfield 16, 3) := by decide +kernel
theorem dX3_goBack_38 : decode cX3_goBack 38 = .ok (.bipush 6, 2) := by decide +kernel
theorem dX3_goBack_40 : decode cX3_goBack 40 = .ok (.iadd, 1) := by decide +kernel
theorem dX3_goBack_41 : decode cX3_goBack 41 = .ok (.bipush 7, 2) := by decide +kernel
theorem dX3_goBack_43 : decode cX3_goBack 43 = .ok (.irem, 1) := by decide +kernel
theorem dX3_goBack_44 : decode cX3_goBack 44 = .ok (.putfield 16, 3) := by decide +kernel
theorem dX3_goBack_47 : decode cX3_goBack 47 = .ok (.aload_n 0, 1) := by decide +kernel
theorem dX3_goBack_48 : decode cX3_goBack 48 = .ok (.dup, 1) := by decide +kernel
theorem dX3_goBack_49 : decode cX3_goBack 49 = .ok (.getfield 28, 3) := by decide +kernel
theorem dX3_goBack_52 : decode cX3_goBack 52 = .ok (.iconst 1, 1) := by decide +kernel
theorem dX3_goBack_53 : decode cX3_goBack 53 = .ok (.isub, 1) := by decide +kernel
theorem dX3_goBack_54 : decode cX3_goBack 54 = .ok (.putfield 28, 3) := by decide +kernel
theorem dX3_goBack_57 : decode cX3_goBack 57 = .ok (.iconst 1, 1) := by decide +kernel
theorem dX3_goBack_58 : decode cX3_goBack 58 = .ok (.ireturn, 1) := by decide +kernel
theorem dX3_cell_0 : decode cX3_cell 0 = .ok (.iload_n 1, 1) := by decide +kernel
theorem dX3_cell_1 : decode cX3_cell 1 = .ok (.ifCond .lt 21, 3) := by decide +kernel
theorem dX3_cell_4 : decode cX3_cell 4 = .ok (.iload_n 1, 1) := by decide +kernel
theorem dX3_cell_5 : decode cX3_cell 5 = .ok (.aload_n 0, 1) := by decide +kernel
theorem dX3_cell_6 : decode cX3_cell 6 = .ok (.getfield 11, 3) := by decide +kernel
theorem dX3_cell_9 : decode cX3_cell 9 = .ok (.arraylength, 1) := by decide +kernel
theorem dX3_cell_10 : decode cX3_cell 10 = .ok (.if_icmp .ge 12, 3) := by decide +kernel
theorem dX3_cell_13 : decode cX3_cell 13 = .ok (.aload_n 0, 1) := by decide +kernel
theorem dX3_cell_14 : decode cX3_cell 14 = .ok (.getfield 11, 3) := by decide +kernel
theorem dX3_cell_17 : decode cX3_cell 17 = .ok (.iload_n 1, 1) := by decide +kernel
theorem dX3_cell_18 : decode cX3_cell 18 = .ok (.aaload, 1) := by decide +kernel
theorem dX3_cell_19 : decode cX3_cell 19 = .ok (.goto 4, 3) := by decide +kernel
theorem dX3_cell_22 : decode cX3_cell 22 = .ok (.aconst_null, 1) := by decide +kernel
theorem dX3_cell_23 : decode cX3_cell 23 = .ok (.areturn, 1) := by decide +kernel
theorem dX4_init_0 : decode cX4_init 0 = .ok (.aload_n 0, 1) := by decide +kernel
theorem dX4_init_1 : decode cX4_init 1 = .ok (.invokespecial 1, 3) := by decide +kernel
theorem dX4_init_4 : decode cX4_init 4 = .ok (.aload_n 0, 1) := by decide +kernel
theorem dX4_init_5 : decode cX4_init 5 = .ok (.bipush 20, 2) := by decide +kernel
theorem dX4_init_7 : decode cX4_init 7 = .ok (.putfield 9, 3) := by decide +kernel
theorem dX4_init_10 : decode cX4_init 10 = .ok (.return_, 1) := by decide +kernel
theorem dX4_become_0 : decode cX4_become 0 = .ok (.aload_n 0, 1) := by decide +kernel
theorem dX4_become_1 : decode cX4_become 1 = .ok (.aload_n 1, 1) := by decide +kernel
theorem dX4_become_2 : decode cX4_become 2 = .ok (.getfield 9, 3) := by decide +kernel
theorem dX4_become_5 : decode cX4_become 5 = .ok (.putfield 9, 3) := by decide +kernel
theorem dX4_become_8 : decode cX4_become 8 = .ok (.aload_n 0, 1) := by decide +kernel
theorem dX4_become_9 : decode cX4_become 9 = .ok (.aload_n 1, 1) := by decide +kernel
theorem dX4_become_10 : decode cX4_become 10 = .ok (.getfield 13, 3) := by decide +kernel
theorem dX4_become_13 : decode cX4_become 13 = .ok (.putfield 13, 3) := by decide +kernel
theorem dX4_become_16 : decode cX4_become 16 = .ok (.aload_n 0, 1) := by decide +kernel
theorem dX4_become_17 : decode cX4_become 17 = .ok (.aload_n 1, 1) := by decide +kernel
theorem dX4_become_18 : decode cX4_become 18 = .ok (.getfield 16, 3) := by decide +kernel
theorem dX4_become_21 : decode cX4_become 21 = .ok (.putfield 16, 3) := by decide +kernel
theorem dX4_become_24 : decode cX4_become 24 = .ok (.aload_n 0, 1) := by decide +kernel
theorem dX4_become_25 : decode cX4_become 25 = .ok (.aload_n 1, 1) := by decide +kernel
theorem dX4_become_26 : decode cX4_become 26 = .ok (.getfield 19, 3) := by decide +kernel
theorem dX4_become_29 : decode cX4_become 29 = .ok (.putfield 19, 3) := by decide +kernel
theorem dX4_become_32 : decode cX4_become 32 = .ok (.aload_n 0, 1) := by decide +kernel
theorem dX4_become_33 : decode cX4_become 33 = .ok (.aload_n 1, 1) := by decide +kernel
theorem dX4_become_34 : decode cX4_become 34 = .ok (.getfield 22, 3) := by decide +kernel
theorem dX4_become_37 : decode cX4_become 37 = .ok (.putfield 22, 3) := by decide +kernel
theorem dX4_become_40 : decode cX4_become 40 = .ok (.aload_n 0, 1) := by decide +kernel
theorem dX4_become_41 : decode cX4_become 41 = .ok (.aload_n 1, 1) := by decide +kernel
theorem dX4_become_42 : decode cX4_become 42 = .ok (.getfield 25, 3) := by decide +kernel
theorem dX4_become_45 : decode cX4_become 45 = .ok (.putfield 25, 3) := by decide +kernel
theorem dX4_become_48 : decode cX4_become 48 = .ok (.aload_n 0, 1) := by decide +kernel
theorem dX4_become_49 : decode cX4_become 49 = .ok (.aload_n 1, 1) := by decide +kernel
theorem dX4_become_50 : decode cX4_become 50 = .ok (.getfield 28, 3) := by decide +kernel
theorem dX4_become_53 : decode cX4_become 53 = .ok (.putfield 28, 3) := by decide +kernel
theorem dX4_become_56 : decode cX4_become 56 = .ok (.return_, 1) := by decide +kernel
theorem dX4_say_0 : decode cX4_say 0 = .ok (.aload_n 0, 1) := by decide +kernel
theorem dX4_say_1 : decode cX4_say 1 = .ok (.iload_n 2, 1) := by decide +kernel
theorem dX4_say_2 : decode cX4_say 2 = .ok (.ifCond .eq 12, 3) := by decide +kernel
theorem dX4_say_5 : decode cX4_say 5 = .ok (.aload_n 0, 1) := by decide +kernel
theorem dX4_say_6 : decode cX4_say 6 = .ok (.getfield 13, 3) := by decide +kernel
theorem dX4_say_9 : decode cX4_say 9 = .ok (.iload_n 1, 1) := by decide +kernel
theorem dX4_say_10 : decode cX4_say 10 = .ok (.ior, 1) := by decide +kernel
theorem dX4_say_11 : decode cX4_say 11 = .ok (.goto 11, 3) := by decide +kernel
theorem dX4_say_14 : decode cX4_say 14 = .ok (.aload_n 0, 1) := by decide +kernel
theorem dX4_say_15 : decode cX4_say 15 = .ok (.getfield 13, 3) := by decide +kernel
theorem dX4_say_18 : decode cX4_say 18 = .ok (.iload_n 1, 1) := by decide +kernel
theorem dX4_say_19 : decode cX4_say 19 = .ok (.iconst (-1), 1) := by decide +kernel
theorem dX4_say_20 : decode cX4_say 20 = .ok (.ixor, 1) := by decide +kernel
theorem dX4_say_21 : decode cX4_say 21 = .ok (.iand, 1) := by decide +kernel
theorem dX4_say_22 : decode cX4_say 22 = .ok (.putfield 13, 3) := by decide +kernel
theorem dX4_say_25 : decode cX4_say 25 = .ok (.aload_n 0, 1) := by decide +kernel
theorem dX4_say_26 : decode cX4_say 26 = .ok (.iload_n 2, 1) := by decide +kernel
theorem dX4_say_27 : decode cX4_say 27 = .ok (.ifCond .eq 14, 3) := by decide +kernel
theorem dX4_say_30 : decode cX4_say 30 = .ok (.aload_n 0, 1) := by decide +kernel
theorem dX4_say_31 : decode cX4_say 31 = .ok (.getfield 16, 3) := by decide +kernel
theorem dX4_say_34 : decode cX4_say 34 = .ok (.iload_n 1, 1) := by decide +kernel
theorem dX4_say_35 : decode cX4_say 35 = .ok (.iconst (-1), 1) := by decide +kernel
theorem dX4_say_36 : decode cX4_say 36 = .ok (.ixor, 1) := by decide +kernel
theorem dX4_say_37 : decode cX4_say 37 = .ok (.iand, 1) := by decide +kernel
theorem dX4_say_38 : decode cX4_say 38 = .ok (.goto 9, 3) := by decide +kernel
theorem dX4_say_41 : decode cX4_say 41 = .ok (.aload_n 0, 1) := by decide +kernel
theorem dX4_say_42 : decode cX4_say 42 = .ok (.getfield 16, 3) := by decide +kernel
theorem dX4_say_45 : decode cX4_say 45 = .ok (.iload_n 1, 1) := by decide +kernel
theorem dX4_say_46 : decode cX4_say 46 = .ok (.ior, 1) := by decide +kernel
theorem dX4_say_47 : decode cX4_say 47 = .ok (.putfield 16, 3) := by decide +kernel
theorem dX4_say_50 : decode cX4_say 50 = .ok (.return_, 1) := by decide +kernel
theorem dX4_saying_0 : decode cX4_saying 0 = .ok (.iload_n 1, 1) := by decide +kernel
theorem dX4_saying_1 : decode cX4_saying 1 = .ok (.ifCond .eq 10, 3) := by decide +kernel
theorem dX4_saying_4 : decode cX4_saying 4 = .ok (.aload_n 0, 1) := by decide +kernel
theorem dX4_saying_5 : decode cX4_saying 5 = .ok (.getfield 13, 3) := by decide +kernel
theorem dX4_saying_8 : decode cX4_saying 8 = .ok (.goto 7, 3) := by decide +kernel
theorem dX4_saying_11 : decode cX4_saying 11 = .ok (.aload_n 0, 1) := by decide +kernel
theorem dX4_saying_12 : decode cX4_saying 12 = .ok (.getfield 16, 3) := by decide +kernel
theorem dX4_saying_15 : decode cX4_saying 15 = .ok (.ireturn, 1) := by decide +kernel
theorem dX4_claims_0 : decode cX4_claims 0 = .ok (.aload_n 0, 1) := by decide +kernel
theorem dX4_claims_1 : decode cX4_claims 1 = .ok (.getfield 13, 3) := by decide +kernel
theorem dX4_claims_4 : decode cX4_claims 4 = .ok (.aload_n 0, 1) := by decide +kernel
theorem dX4_claims_5 : decode cX4_claims 5 = .ok (.getfield 16, 3) := by decide +kernel
theorem dX4_claims_8 : decode cX4_claims 8 = .ok (.ior, 1) := by decide +kernel
theorem dX4_claims_9 : decode cX4_claims 9 = .ok (.invokestatic 31, 3) := by decide +kernel
theorem dX4_claims_12 : decode cX4_claims 12 = .ok (.ireturn, 1) := by decide +kernel
theorem dX4_lies_0 : decode cX4_lies 0 = .ok (.aload_n 0, 1) := by decide +kernel
theorem dX4_lies_1 : decode cX4_lies 1 = .ok (.getfield 13, 3) := by decide +kernel
theorem dX4_lies_4 : decode cX4_lies 4 = .ok (.iload_n 1, 1) := by decide +kernel
theorem dX4_lies_5 : decode cX4_lies 5 = .ok (.iconst (-1), 1) := by decide +kernel
theorem dX4_lies_6 : decode cX4_lies 6 = .ok (.ixor, 1) := by decide +kernel
theorem dX4_lies_7 : decode cX4_lies 7 = .ok (.iand, 1) := by decide +kernel
theorem dX4_lies_8 : decode cX4_lies 8 = .ok (.aload_n 0, 1) := by decide +kernel
theorem dX4_lies_9 : decode cX4_lies 9 = .ok (.getfield 16, 3) := by decide +kernel
theorem dX4_lies_12 : decode cX4_lies 12 = .ok (.iload_n 1, 1) := by decide +kernel
theorem dX4_lies_13 : decode cX4_lies 13 = .ok (.iand, 1) := by decide +kernel
theorem dX4_lies_14 : decode cX4_lies 14 = .ok (.ior, 1) := by decide +kernel
theorem dX4_lies_15 : decode cX4_lies 15 = .ok (.ireturn, 1) := by decide +kernel
theorem dX4_shownLies_0 : decode cX4_shownLies 0 = .ok (.aload_n 0, 1) := by decide +kernel
theorem dX4_shownLies_1 : decode cX4_shownLies 1 = .ok (.iload_n 1, 1) := by decide +kernel
theorem dX4_shownLies_2 : decode cX4_shownLies 2 = .ok (.invokevirtual 37, 3) := by decide +kernel
theorem dX4_shownLies_5 : decode cX4_shownLies 5 = .ok (.iload_n 2, 1) := by decide +kernel
theorem dX4_shownLies_6 : decode cX4_shownLies 6 = .ok (.iand, 1) := by decide +kernel
theorem dX4_shownLies_7 : decode cX4_shownLies 7 = .ok (.invokestatic 31, 3) := by decide +kernel
theorem dX4_shownLies_10 : decode cX4_shownLies 10 = .ok (.ireturn, 1) := by decide +kernel
theorem dX4_pay_0 : decode cX4_pay 0 = .ok (.iload_n 2, 1) := by decide +kernel
theorem dX4_pay_1 : decode cX4_pay 1 = .ok (.aload_n 0, 1) := by decide +kernel
theorem dX4_pay_2 : decode cX4_pay 2 = .ok (.getfield 9, 3) := by decide +kernel
theorem dX4_pay_5 : decode cX4_pay 5 = .ok (.invokestatic 40, 3) := by decide +kernel
theorem dX4_pay_8 : decode cX4_pay 8 = .ok (.istore_n 3, 1) := by decide +kernel
theorem dX4_pay_9 : decode cX4_pay 9 = .ok (.aload_n 0, 1) := by decide +kernel
theorem dX4_pay_10 : decode cX4_pay 10 = .ok (.dup, 1) := by decide +kernel
theorem dX4_pay_11 : decode cX4_pay 11 = .ok (.getfield 9, 3) := by decide +kernel
theorem dX4_pay_14 : decode cX4_pay 14 = .ok (.iload_n 3, 1) := by decide +kernel
theorem dX4_pay_15 : decode cX4_pay 15 = .ok (.isub, 1) := by decide +kernel
theorem dX4_pay_16 : decode cX4_pay 16 = .ok (.putfield 9, 3) := by decide +kernel
theorem dX4_pay_19 : decode cX4_pay 19 = .ok (.aload_n 1, 1) := by decide +kernel
theorem dX4_pay_20 : decode cX4_pay 20 = .ok (.iload_n 3, 1) := by decide +kernel
theorem dX4_pay_21 : decode cX4_pay 21 = .ok (.invokevirtual 46, 3) := by decide +kernel
theorem dX4_pay_24 : decode cX4_pay 24 = .ok (.return_, 1) := by decide +kernel
theorem dX4_take_0 : decode cX4_take 0 = .ok (.aload_n 0, 1) := by decide +kernel
theorem dX4_take_1 : decode cX4_take 1 = .ok (.sipush 9999, 3) := by decide +kernel
theorem dX4_take_4 : decode cX4_take 4 = .ok (.aload_n 0, 1) := by decide +kernel
theorem dX4_take_5 : decode cX4_take 5 = .ok (.getfield 9, 3) := by decide +kernel
theorem dX4_take_8 : decode cX4_take 8 = .ok (.iload_n 1, 1) := by decide +kernel
theorem dX4_take_9 : decode cX4_take 9 = .ok (.iadd, 1) := by decide +kernel
theorem dX4_take_10 : decode cX4_take 10 = .ok (.invokestatic 40, 3) := by decide +kernel
theorem dX4_take_13 : decode cX4_take 13 = .ok (.putfield 9, 3) := by decide +kernel
theorem dX4_take_16 : decode cX4_take 16 = .ok (.return_, 1) := by decide +kernel
theorem dX5_init_0 : decode cX5_init 0 = .ok (.aload_n 0, 1) := by decide +kernel
theorem dX5_init_1 : decode cX5_init 1 = .ok (.invokespecial 1, 3) := by decide +kernel
theorem dX5_init_4 : decode cX5_init 4 = .ok (.aload_n 0, 1) := by decide +kernel
theorem dX5_init_5 : decode cX5_init 5 = .ok (.new 7, 3) := by decide +kernel
theorem dX5_init_8 : decode cX5_init 8 = .ok (.dup, 1) := by decide +kernel
theorem dX5_init_9 : decode cX5_init 9 = .ok (.invokespecial 9, 3) := by decide +kernel
theorem dX5_init_12 : decode cX5_init 12 = .ok (.putfield 10, 3) := by decide +kernel
theorem dX5_init_15 : decode cX5_init 15 = .ok (.return_, 1) := by decide +kernel
theorem dX6_init_0 : decode cX6_init 0 = .ok (.aload_n 0, 1) := by decide +kernel
theorem dX6_init_1 : decode cX6_init 1 = .ok (.invokespecial 1, 3) := by decide +kernel
theorem dX6_init_4 : decode cX6_init 4 = .ok (.aload_n 0, 1) := by decide +kernel
theorem dX6_init_5 : decode cX6_init 5 = .ok (.new 7, 3) := by decide +kernel
theorem dX6_init_8 : decode cX6_init 8 = .ok (.dup, 1) := by decide +kernel
theorem dX6_init_9 : decode cX6_init 9 = .ok (.invokespecial 9, 3) := by decide +kernel
theorem dX6_init_12 : decode cX6_init 12 = .ok (.putfield 10, 3) := by decide +kernel
theorem dX6_init_15 : decode cX6_init 15 = .ok (.aload_n 0, 1) := by decide +kernel
theorem dX6_init_16 : decode cX6_init 16 = .ok (.new 16, 3) := by decide +kernel
theorem dX6_init_19 : decode cX6_init 19 = .ok (.dup, 1) := by decide +kernel
theorem dX6_init_20 : decode cX6_init 20 = .ok (.invokespecial 18, 3) := by decide +kernel
theorem dX6_init_23 : decode cX6_init 23 = .ok (.putfield 19, 3) := by decide +kernel
theorem dX6_init_26 : decode cX6_init 26 = .ok (.aload_n 0, 1) := by decide +kernel
theorem dX6_init_27 : decode cX6_init 27 = .ok (.new 23, 3) := by decide +kernel
theorem dX6_init_30 : decode cX6_init 30 = .ok (.dup, 1) := by decide +kernel
theorem dX6_init_31 : decode cX6_init 31 = .ok (.invokespecial 25, 3) := by decide +kernel
theorem dX6_init_34 : decode cX6_init 34 = .ok (.putfield 26, 3) := by decide +kernel
theorem dX6_init_37 : decode cX6_init 37 = .ok (.aload_n 0, 1) := by decide +kernel
theorem dX6_init_38 : decode cX6_init 38 = .ok (.new 30, 3) := by decide +kernel
theorem dX6_init_41 : decode cX6_init 41 = .ok (.dup, 1) := by decide +kernel
theorem dX6_init_42 : decode cX6_init 42 = .ok (.invokespecial 32, 3) := by decide +kernel
theorem dX6_init_45 : decode cX6_init 45 = .ok (.putfield 33, 3) := by decide +kernel
theorem dX6_init_48 : decode cX6_init 48 = .ok (.aload_n 0, 1) := by decide +kernel
theorem dX6_init_49 : decode cX6_init 49 = .ok (.new 30, 3) := by decide +kernel
theorem dX6_init_52 : decode cX6_init 52 = .ok (.dup, 1) := by decide +kernel
theorem dX6_init_53 : decode cX6_init 53 = .ok (.invokespecial 32, 3) := by decide +kernel
theorem dX6_init_56 : decode cX6_init 56 = .ok (.putfield 37, 3) := by decide +kernel
theorem dX6_init_59 : decode cX6_init 59 = .ok (.return_, 1) := by decide +kernel
theorem dX6_set_0 : decode cX6_set 0 = .ok (.aload_n 0, 1) := by decide +kernel
theorem dX6_set_1 : decode cX6_set 1 = .ok (.getfield 19, 3) := by decide +kernel
theorem dX6_set_4 : decode cX6_set 4 = .ok (.aload_n 0, 1) := by decide +kernel
theorem dX6_set_5 : decode cX6_set 5 = .ok (.getfield 10, 3) := by decide +kernel
theorem dX6_set_8 : decode cX6_set 8 = .ok (.invokevirtual 40, 3) := by decide +kernel
theorem dX6_set_11 : decode cX6_set 11 = .ok (.aload_n 0, 1) := by decide +kernel
theorem dX6_set_12 : decode cX6_set 12 = .ok (.aload_n 0, 1) := by decide +kernel
theorem dX6_set_13 : decode cX6_set 13 = .ok (.getfield 10, 3) := by decide +kernel
theorem dX6_set_16 : decode cX6_set 16 = .ok (.iload_n 1, 1) := by decide +kernel
theorem dX6_set_17 : decode cX6_set 17 = .ok (.iload_n 2, 1) := by decide +kernel
theorem dX6_set_18 : decode cX6_set 18 = .ok (.invokevirtual 44, 3) := by decide +kernel
theorem dX6_set_21 : decode cX6_set 21 = .ok (.invokevirtual 48, 3) := by decide +kernel
theorem dX6_set_24 : decode cX6_set 24 = .ok (.ireturn, 1) := by decide +kernel
theorem dX6_road_0 : decode cX6_road 0 = .ok (.aload_n 0, 1) := by decide +kernel
theorem dX6_road_1 : decode cX6_road 1 = .ok (.getfield 19, 3) := by decide +kernel
theorem dX6_road_4 : decode cX6_road 4 = .ok (.aload_n 0, 1) := by decide +kernel
theorem dX6_road_5 : decode cX6_road 5 = .ok (.getfield 10, 3) := by decide +kernel
theorem dX6_road_8 : decode cX6_road 8 = .ok (.invokevirtual 40, 3) := by decide +kernel
theorem dX6_road_11 : decode cX6_road 11 = .ok (.aload_n 0, 1) := by decide +kernel
theorem dX6_road_12 : decode cX6_road 12 = .ok (.aload_n 0, 1) := by decide +kernel
theorem dX6_road_13 : decode cX6_road 13 = .ok (.getfield 10, 3) := by decide +kernel
theorem dX6_road_16 : decode cX6_road 16 = .ok (.iload_n 1, 1) := by decide +kernel
theorem dX6_road_17 : decode cX6_road 17 = .ok (.iload_n 2, 1) := by decide +kernel
theorem dX6_road_18 : decode cX6_road 18 = .ok (.invokevirtual 52, 3) := by decide +kernel
theorem dX6_road_21 : decode cX6_road 21 = .ok (.invokevirtual 48, 3) := by decide +kernel
theorem dX6_road_24 : decode cX6_road 24 = .ok (.ireturn, 1) := by decide +kernel
theorem dX6_treasure_0 : decode cX6_treasure 0 = .ok (.aload_n 0, 1) := by decide +kernel
theorem dX6_treasure_1 : decode cX6_treasure 1 = .ok (.getfield 19, 3) := by decide +kernel
theorem dX6_treasure_4 : decode cX6_treasure 4 = .ok (.aload_n 0, 1) := by decide +kernel
theorem dX6_treasure_5 : decode cX6_treasure 5 = .ok (.getfield 10, 3) := by decide +kernel
theorem dX6_treasure_8 : decode cX6_treasure 8 = .ok (.invokevirtual 40, 3) := by decide +kernel
theorem dX6_treasure_11 : decode cX6_treasure 11 = .ok (.aload_n 0, 1) := by decide +kernel
theorem dX6_treasure_12 : decode cX6_treasure 12 = .ok (.aload_n 0, 1) := by decide +kernel
theorem dX6_treasure_13 : decode cX6_treasure 13 = .ok (.getfield 10, 3) := by decide +kernel
theorem dX6_treasure_16 : decode cX6_treasure 16 = .ok (.iload_n 1, 1) := by decide +kernel
theorem dX6_treasure_17 : decode cX6_treasure 17 = .ok (.invokevirtual 55, 3) := by decide +kernel
theorem dX6_treasure_20 : decode cX6_treasure 20 = .ok (.invokevirtual 48, 3) := by decide +kernel
theorem dX6_treasure_23 : decode cX6_treasure 23 = .ok (.ireturn, 1) := by decide +kernel
theorem dX6_begin_0 : decode cX6_begin 0 = .ok (.aload_n 0, 1) := by decide +kernel
theorem dX6_begin_1 : decode cX6_begin 1 = .ok (.getfield 19, 3) := by decide +kernel
theorem dX6_begin_4 : decode cX6_begin 4 = .ok (.aload_n 0, 1) := by decide +kernel
theorem dX6_begin_5 : decode cX6_begin 5 = .ok (.getfield 10, 3) := by decide +kernel
theorem dX6_begin_8 : decode cX6_begin 8 = .ok (.invokevirtual 40, 3) := by decide +kernel
theorem dX6_begin_11 : decode cX6_begin 11 = .ok (.aload_n 0, 1) := by decide +kernel
theorem dX6_begin_12 : decode cX6_begin 12 = .ok (.aload_n 0, 1) := by decide +kernel
theorem dX6_begin_13 : decode cX6_begin 13 = .ok (.getfield 10, 3) := by decide +kernel
theorem dX6_begin_16 : decode cX6_begin 16 = .ok (.invokevirtual 58, 3) := by decide +kernel
theorem dX6_begin_19 : decode cX6_begin 19 = .ok (.invokevirtual 48, 3) := by decide +kernel
theorem dX6_begin_22 : decode cX6_begin 22 = .ok (.ireturn, 1) := by decide +kernel
theorem dX6_claim_0 : decode cX6_claim 0 = .ok (.aload_n 0, 1) := by decide +kernel
theorem dX6_claim_1 : decode cX6_claim 1 = .ok (.getfield 19, 3) := by decide +kernel
theorem dX6_claim_4 : decode cX6_claim 4 = .ok (.aload_n 0, 1) := by decide +kernel
theorem dX6_claim_5 : decode cX6_claim 5 = .ok (.getfield 10, 3) := by decide +kernel
theorem dX6_claim_8 : decode cX6_claim 8 = .ok (.invokevirtual 40, 3) := by decide +kernel
theorem dX6_claim_11 : decode cX6_claim 11 = .ok (.aload_n 0, 1) := by decide +kernel
theorem dX6_claim_12 : decode cX6_claim 12 = .ok (.aload_n 0, 1) := by decide +kernel
theorem dX6_claim_13 : decode cX6_claim 13 = .ok (.getfield 10, 3) := by decide +kernel
theorem dX6_claim_16 : decode cX6_claim 16 = .ok (.iload_n 1, 1) := by decide +kernel
theorem dX6_claim_17 : decode cX6_claim 17 = .ok (.iload_n 2, 1) := by decide +kernel
theorem dX6_claim_18 : decode cX6_claim 18 = .ok (.iload_n 3, 1) := by decide +kernel
theorem dX6_claim_19 : decode cX6_claim 19 = .ok (.invokevirtual 62, 3) := by decide +kernel
theorem dX6_claim_22 : decode cX6_claim 22 = .ok (.invokevirtual 48, 3) := by decide +kernel
theorem dX6_claim_25 : decode cX6_claim 25 = .ok (.ireturn, 1) := by decide +kernel
theorem dX6_check_0 : decode cX6_check 0 = .ok (.aload_n 0, 1) := by decide +kernel
theorem dX6_check_1 : decode cX6_check 1 = .ok (.getfield 19, 3) := by decide +kernel
theorem dX6_check_4 : decode cX6_check 4 = .ok (.aload_n 0, 1) := by decide +kernel
theorem dX6_check_5 : decode cX6_check 5 = .ok (.getfield 10, 3) := by decide +kernel
theorem dX6_check_8 : decode cX6_check 8 = .ok (.invokevirtual 40, 3) := by decide +kernel
theorem dX6_check_11 : decode cX6_check 11 = .ok (.aload_n 0, 1) := by decide +kernel
theorem dX6_check_12 : decode cX6_check 12 = .ok (.aload_n 0, 1) := by decide +kernel
theorem dX6_check_13 : decode cX6_check 13 = .ok (.getfield 10, 3) := by decide +kernel
theorem dX6_check_16 : decode cX6_check 16 = .ok (.iload_n 1, 1) := by decide +kernel
theorem dX6_check_17 : decode cX6_check 17 = .ok (.iload_n 2, 1) := by decide +kernel
theorem dX6_check_18 : decode cX6_check 18 = .ok (.iload_n 3, 1) := by decide +kernel
theorem dX6_check_19 : decode cX6_check 19 = .ok (.invokevirtual 66, 3) := by decide +kernel
theorem dX6_check_22 : decode cX6_check 22 = .ok (.invokevirtual 48, 3) := by decide +kernel
theorem dX6_check_25 : decode cX6_check 25 = .ok (.ireturn, 1) := by decide +kernel
theorem dX6_dig_0 : decode cX6_dig 0 = .ok (.aload_n 0, 1) := by decide +kernel
theorem dX6_dig_1 : decode cX6_dig 1 = .ok (.getfield 19, 3) := by decide +kernel
theorem dX6_dig_4 : decode cX6_dig 4 = .ok (.aload_n 0, 1) := by decide +kernel
theorem dX6_dig_5 : decode cX6_dig 5 = .ok (.getfield 10, 3) := by decide +kernel
theorem dX6_dig_8 : decode cX6_dig 8 = .ok (.invokevirtual 40, 3) := by decide +kernel
theorem dX6_dig_11 : decode cX6_dig 11 = .ok (.aload_n 0, 1) := by decide +kernel
theorem dX6_dig_12 : decode cX6_dig 12 = .ok (.aload_n 0, 1) := by decide +kernel
theorem dX6_dig_13 : decode cX6_dig 13 = .ok (.getfield 10, 3) := by decide +kernel
theorem dX6_dig_16 : decode cX6_dig 16 = .ok (.iload_n 1, 1) := by decide +kernel
theorem dX6_dig_17 : decode cX6_dig 17 = .ok (.invokevirtual 69, 3) := by decide +kernel
theorem dX6_dig_20 : decode cX6_dig 20 = .ok (.invokevirtual 48, 3) := by decide +kernel
theorem dX6_dig_23 : decode cX6_dig 23 = .ok (.ireturn, 1) := by decide +kernel
theorem dX6_pass_0 : decode cX6_pass 0 = .ok (.aload_n 0, 1) := by decide +kernel
theorem dX6_pass_1 : decode cX6_pass 1 = .ok (.getfield 19, 3) := by decide +kernel
theorem dX6_pass_4 : decode cX6_pass 4 = .ok (.aload_n 0, 1) := by decide +kernel
theorem dX6_pass_5 : decode cX6_pass 5 = .ok (.getfield 10, 3) := by decide +kernel
theorem dX6_pass_8 : decode cX6_pass 8 = .ok (.invokevirtual 40, 3) := by decide +kernel
theorem dX6_pass_11 : decode cX6_pass 11 = .ok (.aload_n 0, 1) := by decide +kernel
theorem dX6_pass_12 : decode cX6_pass 12 = .ok (.aload_n 0, 1) := by decide +kernel
theorem dX6_pass_13 : decode cX6_pass 13 = .ok (.getfield 10, 3) := by decide +kernel
theorem dX6_pass_16 : decode cX6_pass 16 = .ok (.invokevirtual 72, 3) := by decide +kernel
theorem dX6_pass_19 : decode cX6_pass 19 = .ok (.invokevirtual 48, 3) := by decide +kernel
theorem dX6_pass_22 : decode cX6_pass 22 = .ok (.ireturn, 1) := by decide +kernel
theorem dX6_keptIfDone_0 : decode cX6_keptIfDone 0 = .ok (.iload_n 1, 1) := by decide +kernel
theorem dX6_keptIfDone_1 : decode cX6_keptIfDone 1 = .ok (.ifCond .lt 10, 3) := by decide +kernel
theorem dX6_keptIfDone_4 : decode cX6_keptIfDone 4 = .ok (.aload_n 0, 1) := by decide +kernel
theorem dX6_keptIfDone_5 : decode cX6_keptIfDone 5 = .ok (.getfield 19, 3) := by decide +kernel
theorem dX6_keptIfDone_8 : decode cX6_keptIfDone 8 = .ok (.invokevirtual 75, 3) := by decide +kernel
theorem dX6_keptIfDone_11 : decode cX6_keptIfDone 11 = .ok (.iload_n 1, 1) := by decide +kernel
theorem dX6_keptIfDone_12 : decode cX6_keptIfDone 12 = .ok (.ireturn, 1) := by decide +kernel
theorem dX6_ofRoad_0 : decode cX6_ofRoad 0 = .ok (.iload_n 1, 1) := by decide +kernel
theorem dX6_ofRoad_1 : decode cX6_ofRoad 1 = .ok (.iload_n 2, 1) := by decide +kernel
theorem dX6_ofRoad_2 : decode cX6_ofRoad 2 = .ok (.invokestatic 78, 3) := by decide +kernel
theorem dX6_ofRoad_5 : decode cX6_ofRoad 5 = .ok (.istore 4, 2) := by decide +kernel
theorem dX6_ofRoad_7 : decode cX6_ofRoad 7 = .ok (.iload 4, 2) := by decide +kernel
theorem dX6_ofRoad_9 : decode cX6_ofRoad 9 = .ok (.ifCond .eq 6, 3) := by decide +kernel
theorem dX6_ofRoad_12 : decode cX6_ofRoad 12 = .ok (.iload 4, 2) := by decide +kernel
theorem dX6_ofRoad_14 : decode cX6_ofRoad 14 = .ok (.ireturn, 1) := by decide +kernel
theorem dX6_ofRoad_15 : decode cX6_ofRoad 15 = .ok (.iload_n 1, 1) := by decide +kernel
theorem dX6_ofRoad_16 : decode cX6_ofRoad 16 = .ok (.iload_n 2, 1) := by decide +kernel
theorem dX6_ofRoad_17 : decode cX6_ofRoad 17 = .ok (.invokestatic 83, 3) := by decide +kernel
theorem dX6_ofRoad_20 : decode cX6_ofRoad 20 = .ok (.istore 5, 2) := by decide +kernel
theorem dX6_ofRoad_22 : decode cX6_ofRoad 22 = .ok (.iload_n 1, 1) := by decide +kernel
theorem dX6_ofRoad_23 : decode cX6_ofRoad 23 = .ok (.iload_n 2, 1) := by decide +kernel
theorem dX6_ofRoad_24 : decode cX6_ofRoad 24 = .ok (.invokestatic 86, 3) := by decide +kernel
theorem dX6_ofRoad_27 : decode cX6_ofRoad 27 = .ok (.istore 6, 2) := by decide +kernel
theorem dX6_ofRoad_29 : decode cX6_ofRoad 29 = .ok (.iload_n 3, 1) := by decide +kernel
theorem dX6_ofRoad_30 : decode cX6_ofRoad 30 = .ok (.tableswitch 98 0 5 #[38, 41, 46, 59, 76, 87], 38) := by decide +kernel
theorem dX6_ofRoad_68 : decode cX6_ofRoad 68 = .ok (.iload 5, 2) := by decide +kernel
theorem dX6_ofRoad_70 : decode cX6_ofRoad 70 = .ok (.ireturn, 1) := by decide +kernel
theorem dX6_ofRoad_71 : decode cX6_ofRoad 71 = .ok (.iload 5, 2) := by decide +kernel
theorem dX6_ofRoad_73 : decode cX6_ofRoad 73 = .ok (.iconst 3, 1) := by decide +kernel
theorem dX6_ofRoad_74 : decode cX6_ofRoad 74 = .ok (.irem, 1) := by decide +kernel
theorem dX6_ofRoad_75 : decode cX6_ofRoad 75 = .ok (.ireturn, 1) := by decide +kernel
theorem dX6_ofRoad_76 : decode cX6_ofRoad 76 = .ok (.iload 6, 2) := by decide +kernel
theorem dX6_ofRoad_78 : decode cX6_ofRoad 78 = .ok (.aload_n 0, 1) := by decide +kernel
theorem dX6_ofRoad_79 : decode cX6_ofRoad 79 = .ok (.getfield 10, 3) := by decide +kernel
theorem dX6_ofRoad_82 : decode cX6_ofRoad 82 = .ok (.getfield 89, 3) := by decide +kernel
theorem dX6_ofRoad_85 : decode cX6_ofRoad 85 = .ok (.invokestatic 93, 3) := by decide +kernel
theorem dX6_ofRoad_88 : decode cX6_ofRoad 88 = .ok (.ireturn, 1) := by decide +kernel
theorem dX6_ofRoad_89 : decode cX6_ofRoad 89 = .ok (.aload_n 0, 1) := by decide +kernel
theorem dX6_ofRoad_90 : decode cX6_ofRoad 90 = .ok (.getfield 10, 3) := by decide +kernel
theorem dX6_ofRoad_93 : decode cX6_ofRoad 93 = .ok (.iload 6, 2) := by decide +kernel
theorem dX6_ofRoad_95 : decode cX6_ofRoad 95 = .ok (.aload_n 0, 1) := by decide +kernel
theorem dX6_ofRoad_96 : decode cX6_ofRoad 96 = .ok (.getfield 10, 3) := by decide +kernel
theorem dX6_ofRoad_99 : decode cX6_ofRoad 99 = .ok (.getfield 96, 3) := by decide +kernel
theorem dX6_ofRoad_102 : decode cX6_ofRoad 102 = .ok (.invokevirtual 99, 3) := by decide +kernel
theorem dX6_ofRoad_105 : decode cX6_ofRoad 105 = .ok (.ireturn, 1) := by decide +kernel
theorem dX6_ofRoad_106 : decode cX6_ofRoad 106 = .ok (.aload_n 0, 1) := by decide +kernel
theorem dX6_ofRoad_107 : decode cX6_ofRoad 107 = .ok (.getfield 10, 3) := by decide +kernel
theorem dX6_ofRoad_110 : decode cX6_ofRoad 110 = .ok (.iload 6, 2) := by decide +kernel
theorem dX6_ofRoad_112 : decode cX6_ofRoad 112 = .ok (.iconst 1, 1) := by decide +kernel
theorem dX6_ofRoad_113 : decode cX6_ofRoad 113 = .ok (.invokevirtual 102, 3) := by decide +kernel
theorem dX6_ofRoad_116 : decode cX6_ofRoad 116 = .ok (.ireturn, 1) := by decide +kernel
theorem dX6_ofRoad_117 : decode cX6_ofRoad 117 = .ok (.aload_n 0, 1) := by decide +kernel
theorem dX6_ofRoad_118 : decode cX6_ofRoad 118 = .ok (.getfield 10, 3) := by decide +kernel
theorem dX6_ofRoad_121 : decode cX6_ofRoad 121 = .ok (.iload 6, 2) := by decide +kernel
theorem dX6_ofRoad_123 : decode cX6_ofRoad 123 = .ok (.iconst 0, 1) := by decide +kernel
theorem dX6_ofRoad_124 : decode cX6_ofRoad 124 = .ok (.invokevirtual 102, 3) := by decide +kernel
theorem dX6_ofRoad_127 : decode cX6_ofRoad 127 = .ok (.ireturn, 1) := by decide +kernel
theorem dX6_ofRoad_128 : decode cX6_ofRoad 128 = .ok (.bipush (-2), 2) := by decide +kernel
theorem dX6_ofRoad_130 : decode cX6_ofRoad 130 = .ok (.ireturn, 1) := by decide +kernel
theorem dX6_knows_0 : decode cX6_knows 0 = .ok (.iload_n 1, 1) := by decide +kernel
theorem dX6_knows_1 : decode cX6_knows 1 = .ok (.invokestatic 106, 3) := by decide +kernel
theorem dX6_knows_4 : decode cX6_knows 4 = .ok (.ifCond .ne 5, 3) := by decide +kernel
theorem dX6_knows_7 : decode cX6_knows 7 = .ok (.iconst (-1), 1) := by decide +kernel
theorem dX6_knows_8 : decode cX6_knows 8 = .ok (.ireturn, 1) := by decide +kernel
theorem dX6_knows_9 : decode cX6_knows 9 = .ok (.iload_n 2, 1) := by decide +kernel
theorem dX6_knows_10 : decode cX6_knows 10 = .ok (.iload_n 3, 1) := by decide +kernel
theorem dX6_knows_11 : decode cX6_knows 11 = .ok (.invokestatic 78, 3) := by decide +kernel
theorem dX6_knows_14 : decode cX6_knows 14 = .ok (.istore 4, 2) := by decide +kernel
theorem dX6_knows_16 : decode cX6_knows 16 = .ok (.iload 4, 2) := by decide +kernel
theorem dX6_knows_18 : decode cX6_knows 18 = .ok (.ifCond .eq 6, 3) := by decide +kernel
theorem dX6_knows_21 : decode cX6_knows 21 = .ok (.iload 4, 2) := by decide +kernel
theorem dX6_knows_23 : decode cX6_knows 23 = .ok (.ireturn, 1) := by decide +kernel
theorem dX6_knows_24 : decode cX6_knows 24 = .ok (.aload_n 0, 1) := by decide +kernel
theorem dX6_knows_25 : decode cX6_knows 25 = .ok (.getfield 10, 3) := by decide +kernel
theorem dX6_knows_28 : decode cX6_knows 28 = .ok (.iload_n 2, 1) := by decide +kernel
theorem dX6_knows_29 : decode cX6_knows 29 = .ok (.iload_n 3, 1) := by decide +kernel
theorem dX6_knows_30 : decode cX6_knows 30 = .ok (.invokestatic 86, 3) := by decide +kernel
theorem dX6_knows_33 : decode cX6_knows 33 = .ok (.aload_n 0, 1) := by decide +kernel
theorem dX6_knows_34 : decode cX6_knows 34 = .ok (.getfield 10, 3) := by decide +kernel
theorem dX6_knows_37 : decode cX6_knows 37 = .ok (.iload_n 1, 1) := by decide +kernel
theorem dX6_knows_38 : decode cX6_knows 38 = .ok (.invokevirtual 110, 3) := by decide +kernel
theorem dX6_knows_41 : decode cX6_knows 41 = .ok (.invokevirtual 99, 3) := by decide +kernel
theorem dX6_knows_44 : decode cX6_knows 44 = .ok (.ireturn, 1) := by decide +kernel
theorem dX6_player_0 : decode cX6_player 0 = .ok (.iload_n 1, 1) := by decide +kernel
theorem dX6_player_1 : decode cX6_player 1 = .ok (.invokestatic 106, 3) := by decide +kernel
theorem dX6_player_4 : decode cX6_player 4 = .ok (.ifCond .ne 5, 3) := by decide +kernel
theorem dX6_player_7 : decode cX6_player 7 = .ok (.iconst (-1), 1) := by decide +kernel
theorem dX6_player_8 : decode cX6_player 8 = .ok (.ireturn, 1) := by decide +kernel
theorem dX6_player_9 : decode cX6_player 9 = .ok (.aload_n 0, 1) := by decide +kernel
theorem dX6_player_10 : decode cX6_player 10 = .ok (.getfield 10, 3) := by decide +kernel
theorem dX6_player_13 : decode cX6_player 13 = .ok (.iload_n 1, 1) := by decide +kernel
theorem dX6_player_14 : decode cX6_player 14 = .ok (.invokevirtual 113, 3) := by decide +kernel
theorem dX6_player_17 : decode cX6_player 17 = .ok (.astore_n 3, 1) := by decide +kernel
theorem dX6_player_18 : decode cX6_player 18 = .ok (.iload_n 2, 1) := by decide +kernel
theorem dX6_player_19 : decode cX6_player 19 = .ok (.tableswitch 106 0 7 #[45, 50, 55, 74, 79, 84, 89, 94], 45) := by decide +kernel
theorem dX6_player_64 : decode cX6_player 64 = .ok (.aload_n 3, 1) := by decide +kernel
theorem dX6_player_65 : decode cX6_player 65 = .ok (.getfield 117, 3) := by decide +kernel
theorem dX6_player_68 : decode cX6_player 68 = .ok (.ireturn, 1) := by decide +kernel
theorem dX6_player_69 : decode cX6_player 69 = .ok (.aload_n 3, 1) := by decide +kernel
theorem dX6_player_70 : decode cX6_player 70 = .ok (.invokevirtual 122, 3) := by decide +kernel
theorem dX6_player_73 : decode cX6_player 73 = .ok (.ireturn, 1) := by decide +kernel
theorem dX6_player_74 : decode cX6_player 74 = .ok (.aload_n 3, 1) := by decide +kernel
theorem dX6_player_75 : decode cX6_player 75 = .ok (.aload_n 0, 1) := by decide +kernel
theorem dX6_player_76 : decode cX6_player 76 = .ok (.getfield 10, 3) := by decide +kernel
theorem dX6_player_79 : decode cX6_player 79 = .ok (.getfield 125, 3) := by decide +kernel
theorem dX6_player_82 : decode cX6_player 82 = .ok (.aload_n 0, 1) := by decide +kernel
theorem dX6_player_83 : decode cX6_player 83 = .ok (.getfield 10, 3) := by decide +kernel
theorem dX6_player_86 : decode cX6_player 86 = .ok (.getfield 96, 3) := by decide +kernel
theorem dX6_player_89 : decode cX6_player 89 = .ok (.invokevirtual 128, 3) := by decide +kernel
theorem dX6_player_92 : decode cX6_player 92 = .ok (.ireturn, 1) := by decide +kernel
theorem dX6_player_93 : decode cX6_player 93 = .ok (.aload_n 3, 1) := by decide +kernel
theorem dX6_player_94 : decode cX6_player 94 = .ok (.getfield 131, 3) := by decide +kernel
theorem dX6_player_97 : decode cX6_player 97 = .ok (.ireturn, 1) := by decide +kernel
theorem dX6_player_98 : decode cX6_player 98 = .ok (.aload_n 3, 1) := by decide +kernel
theorem dX6_player_99 : decode cX6_player 99 = .ok (.getfield 134, 3) := by decide +kernel
theorem dX6_player_102 : decode cX6_player 102 = .ok (.ireturn, 1) := by decide +kernel
theorem dX6_player_103 : decode cX6_player 103 = .ok (.aload_n 3, 1) := by decide +kernel
theorem dX6_player_104 : decode cX6_player 104 = .ok (.getfield 137, 3) := by decide +kernel
theorem dX6_player_107 : decode cX6_player 107 = .ok (.ireturn, 1) := by decide +kernel
theorem dX6_player_108 : decode cX6_player 108 = .ok (.aload_n 3, 1) := by decide +kernel
theorem dX6_player_109 : decode cX6_player 109 = .ok (.getfield 140, 3) := by decide +kernel
theorem dX6_player_112 : decode cX6_player 112 = .ok (.ireturn, 1) := by decide +kernel
theorem dX6_player_113 : decode cX6_player 113 = .ok (.aload_n 0, 1) := by decide +kernel
theorem dX6_player_114 : decode cX6_player 114 = .ok (.getfield 10, 3) := by decide +kernel
theorem dX6_player_117 : decode cX6_player 117 = .ok (.iload_n 1, 1) := by decide +kernel
theorem dX6_player_118 : decode cX6_player 118 = .ok (.invokevirtual 110, 3) := by decide +kernel
theorem dX6_player_121 : decode cX6_player 121 = .ok (.invokestatic 143, 3) := by decide +kernel
theorem dX6_player_124 : decode cX6_player 124 = .ok (.ireturn, 1) := by decide +kernel
theorem dX6_player_125 : decode cX6_player 125 = .ok (.bipush (-2), 2) := by decide +kernel
theorem dX6_player_127 : decode cX6_player 127 = .ok (.ireturn, 1) := by decide +kernel
theorem dX6_place_0 : decode cX6_place 0 = .ok (.iload_n 1, 1) := by decide +kernel
theorem dX6_place_1 : decode cX6_place 1 = .ok (.invokestatic 148, 3) := by decide +kernel
theorem dX6_place_4 : decode cX6_place 4 = .ok (.ifCond .ne 5, 3) := by decide +kernel
theorem dX6_place_7 : decode cX6_place 7 = .ok (.iconst (-1), 1) := by decide +kernel
theorem dX6_place_8 : decode cX6_place 8 = .ok (.ireturn, 1) := by decide +kernel
theorem dX6_place_9 : decode cX6_place 9 = .ok (.iload_n 1, 1) := by decide +kernel
theorem dX6_place_10 : decode cX6_place 10 = .ok (.invokestatic 151, 3) := by decide +kernel
theorem dX6_place_13 : decode cX6_place 13 = .ok (.istore_n 3, 1) := by decide +kernel
theorem dX6_place_14 : decode cX6_place 14 = .ok (.iload_n 2, 1) := by decide +kernel
theorem dX6_place_15 : decode cX6_place 15 = .ok (.tableswitch 126 0 4 #[33, 61, 82, 97, 106], 33) := by decide +kernel
theorem dX6_place_48 : decode cX6_place 48 = .ok (.aload_n 0, 1) := by decide +kernel
theorem dX6_place_49 : decode cX6_place 49 = .ok (.getfield 10, 3) := by decide +kernel
theorem dX6_place_52 : decode cX6_place 52 = .ok (.getfield 154, 3) := by decide +kernel
theorem dX6_place_55 : decode cX6_place 55 = .ok (.ifCond .eq 18, 3) := by decide +kernel
theorem dX6_place_58 : decode cX6_place 58 = .ok (.iload_n 3, 1) := by decide +kernel
theorem dX6_place_59 : decode cX6_place 59 = .ok (.aload_n 0, 1) := by decide +kernel
theorem dX6_place_60 : decode cX6_place 60 = .ok (.getfield 10, 3) := by decide +kernel
theorem dX6_place_63 : decode cX6_place 63 = .ok (.getfield 125, 3) := by decide +kernel
theorem dX6_place_66 : decode cX6_place 66 = .ok (.iand, 1) := by decide +kernel
theorem dX6_place_67 : decode cX6_place 67 = .ok (.invokestatic 143, 3) := by decide +kernel
theorem dX6_place_70 : decode cX6_place 70 = .ok (.goto 5, 3) := by decide +kernel
theorem dX6_place_73 : decode cX6_place 73 = .ok (.bipush (-6), 2) := by decide +kernel
theorem dX6_place_75 : decode cX6_place 75 = .ok (.ireturn, 1) := by decide +kernel
theorem dX6_place_76 : decode cX6_place 76 = .ok (.iload_n 3, 1) := by decide +kernel
theorem dX6_place_77 : decode cX6_place 77 = .ok (.aload_n 0, 1) := by decide +kernel
theorem dX6_place_78 : decode cX6_place 78 = .ok (.getfield 10, 3) := by decide +kernel
theorem dX6_place_81 : decode cX6_place 81 = .ok (.getfield 125, 3) := by decide +kernel
theorem dX6_place_84 : decode cX6_place 84 = .ok (.iand, 1) := by decide +kernel
theorem dX6_place_85 : decode cX6_place 85 = .ok (.aload_n 0, 1) := by decide +kernel
theorem dX6_place_86 : decode cX6_place 86 = .ok (.getfield 10, 3) := by decide +kernel
theorem dX6_place_89 : decode cX6_place 89 = .ok (.getfield 96, 3) := by decide +kernel
theorem dX6_place_92 : decode cX6_place 92 = .ok (.iand, 1) := by decide +kernel
theorem dX6_place_93 : decode cX6_place 93 = .ok (.invokestatic 143, 3) := by decide +kernel
theorem dX6_place_96 : decode cX6_place 96 = .ok (.ireturn, 1) := by decide +kernel
theorem dX6_place_97 : decode cX6_place 97 = .ok (.iload_n 3, 1) := by decide +kernel
theorem dX6_place_98 : decode cX6_place 98 = .ok (.aload_n 0, 1) := by decide +kernel
theorem dX6_place_99 : decode cX6_place 99 = .ok (.getfield 10, 3) := by decide +kernel
theorem dX6_place_102 : decode cX6_place 102 = .ok (.getfield 96, 3) := by decide +kernel
theorem dX6_place_105 : decode cX6_place 105 = .ok (.iconst (-1), 1) := by decide +kernel
theorem dX6_place_106 : decode cX6_place 106 = .ok (.ixor, 1) := by decide +kernel
theorem dX6_place_107 : decode cX6_place 107 = .ok (.iand, 1) := by decide +kernel
theorem dX6_place_108 : decode cX6_place 108 = .ok (.invokestatic 143, 3) := by decide +kernel
theorem dX6_place_111 : decode cX6_place 111 = .ok (.ireturn, 1) := by decide +kernel
theorem dX6_place_112 : decode cX6_place 112 = .ok (.aload_n 0, 1) := by decide +kernel
theorem dX6_place_113 : decode cX6_place 113 = .ok (.getfield 10, 3) := by decide +kernel
theorem dX6_place_116 : decode cX6_place 116 = .ok (.iload_n 1, 1) := by decide +kernel
theorem dX6_place_117 : decode cX6_place 117 = .ok (.invokevirtual 158, 3) := by decide +kernel
theorem dX6_place_120 : decode cX6_place 120 = .ok (.ireturn, 1) := by decide +kernel
theorem dX6_place_121 : decode cX6_place 121 = .ok (.aload_n 0, 1) := by decide +kernel
theorem dX6_place_122 : decode cX6_place 122 = .ok (.getfield 10, 3) := by decide +kernel
theorem dX6_place_125 : decode cX6_place 125 = .ok (.getfield 125, 3) := by decide +kernel
theorem dX6_place_128 : decode cX6_place 128 = .ok (.aload_n 0, 1) := by decide +kernel
theorem dX6_place_129 : decode cX6_place 129 = .ok (.getfield 10, 3) := by decide +kernel
theorem dX6_place_132 : decode cX6_place 132 = .ok (.getfield 96, 3) := by decide +kernel
theorem dX6_place_135 : decode cX6_place 135 = .ok (.iand, 1) := by decide +kernel
theorem dX6_place_136 : decode cX6_place 136 = .ok (.iload_n 1, 1) := by decide +kernel
theorem dX6_place_137 : decode cX6_place 137 = .ok (.invokestatic 161, 3) := by decide +kernel
theorem dX6_place_140 : decode cX6_place 140 = .ok (.ireturn, 1) := by decide +kernel
theorem dX6_place_141 : decode cX6_place 141 = .ok (.bipush (-2), 2) := by decide +kernel
theorem dX6_place_143 : decode cX6_place 143 = .ok (.ireturn, 1) := by decide +kernel
theorem dX6_dug_0 : decode cX6_dug 0 = .ok (.aload_n 0, 1) := by decide +kernel
theorem dX6_dug_1 : decode cX6_dug 1 = .ok (.getfield 10, 3) := by decide +kernel
theorem dX6_dug_4 : decode cX6_dug 4 = .ok (.iload_n 1, 1) := by decide +kernel
theorem dX6_dug_5 : decode cX6_dug 5 = .ok (.invokevirtual 164, 3) := by decide +kernel
theorem dX6_dug_8 : decode cX6_dug 8 = .ok (.ireturn, 1) := by decide +kernel
theorem dX6_count_0 : decode cX6_count 0 = .ok (.iload_n 1, 1) := by decide +kernel
theorem dX6_count_1 : decode cX6_count 1 = .ok (.tableswitch 180 0 13 #[71, 79, 87, 95, 103, 114, 133, 141, 152, 152, 152, 152, 164, 172], 71) := by decide +kernel
theorem dX6_count_72 : decode cX6_count 72 = .ok (.aload_n 0, 1) := by decide +kernel
theorem dX6_count_73 : decode cX6_count 73 = .ok (.getfield 10, 3) := by decide +kernel
theorem dX6_count_76 : decode cX6_count 76 = .ok (.getfield 167, 3) := by decide +kernel
theorem dX6_count_79 : decode cX6_count 79 = .ok (.ireturn, 1) := by decide +kernel
theorem dX6_count_80 : decode cX6_count 80 = .ok (.aload_n 0, 1) := by decide +kernel
theorem dX6_count_81 : decode cX6_count 81 = .ok (.getfield 10, 3) := by decide +kernel
theorem dX6_count_84 : decode cX6_count 84 = .ok (.invokevirtual 170, 3) := by decide +kernel
theorem dX6_count_87 : decode cX6_count 87 = .ok (.ireturn, 1) := by decide +kernel
theorem dX6_count_88 : decode cX6_count 88 = .ok (.aload_n 0, 1) := by decide +kernel
theorem dX6_count_89 : decode cX6_count 89 = .ok (.getfield 10, 3) := by decide +kernel
theorem dX6_count_92 : decode cX6_count 92 = .ok (.invokevirtual 173, 3) := by decide +kernel
theorem dX6_count_95 : decode cX6_count 95 = .ok (.ireturn, 1) := by decide +kernel
theorem dX6_count_96 : decode cX6_count 96 = .ok (.aload_n 0, 1) := by decide +kernel
theorem dX6_count_97 : decode cX6_count 97 = .ok (.getfield 10, 3) := by decide +kernel
theorem dX6_count_100 : decode cX6_count 100 = .ok (.getfield 176, 3) := by decide +kernel
theorem dX6_count_103 : decode cX6_count 103 = .ok (.ireturn, 1) := by decide +kernel
theorem dX6_count_104 : decode cX6_count 104 = .ok (.aload_n 0, 1) := by decide +kernel
theorem dX6_count_105 : decode cX6_count 105 = .ok (.getfield 10, 3) := by decide +kernel
theorem dX6_count_108 : decode cX6_count 108 = .ok (.getfield 96, 3) := by decide +kernel
theorem dX6_count_111 : decode cX6_count 111 = .ok (.invokestatic 143, 3) := by decide +kernel
theorem dX6_count_114 : decode cX6_count 114 = .ok (.ireturn, 1) := by decide +kernel
theorem dX6_count_115 : decode cX6_count 115 = .ok (.aload_n 0, 1) := by decide +kernel
theorem dX6_count_116 : decode cX6_count 116 = .ok (.getfield 10, 3) := by decide +kernel
theorem dX6_count_119 : decode cX6_count 119 = .ok (.getfield 96, 3) := by decide +kernel
theorem dX6_count_122 : decode cX6_count 122 = .ok (.aload_n 0, 1) := by decide +kernel
theorem dX6_count_123 : decode cX6_count 123 = .ok (.getfield 10, 3) := by decide +kernel
theorem dX6_count_126 : decode cX6_count 126 = .ok (.getfield 125, 3) := by decide +kernel
theorem dX6_count_129 : decode cX6_count 129 = .ok (.iand, 1) := by decide +kernel
theorem dX6_count_130 : decode cX6_count 130 = .ok (.invokestatic 143, 3) := by decide +kernel
theorem dX6_count_133 : decode cX6_count 133 = .ok (.ireturn, 1) := by decide +kernel
theorem dX6_count_134 : decode cX6_count 134 = .ok (.aload_n 0, 1) := by decide +kernel
theorem dX6_count_135 : decode cX6_count 135 = .ok (.getfield 10, 3) := by decide +kernel
theorem dX6_count_138 : decode cX6_count 138 = .ok (.invokevirtual 179, 3) := by decide +kernel
theorem dX6_count_141 : decode cX6_count 141 = .ok (.ireturn, 1) := by decide +kernel
theorem dX6_count_142 : decode cX6_count 142 = .ok (.aload_n 0, 1) := by decide +kernel
theorem dX6_count_143 : decode cX6_count 143 = .ok (.getfield 10, 3) := by decide +kernel
theorem dX6_count_146 : decode cX6_count 146 = .ok (.getfield 89, 3) := by decide +kernel
theorem dX6_count_149 : decode cX6_count 149 = .ok (.invokestatic 143, 3) := by decide +kernel
theorem dX6_count_152 : decode cX6_count 152 = .ok (.ireturn, 1) := by decide +kernel
theorem dX6_count_153 : decode cX6_count 153 = .ok (.aload_n 0, 1) := by decide +kernel
theorem dX6_count_154 : decode cX6_count 154 = .ok (.getfield 10, 3) := by decide +kernel
theorem dX6_count_157 : decode cX6_count 157 = .ok (.iload_n 1, 1) := by decide +kernel
theorem dX6_count_158 : decode cX6_count 158 = .ok (.bipush 8, 2) := by decide +kernel
theorem dX6_count_160 : decode cX6_count 160 = .ok (.isub, 1) := by decide +kernel
theorem dX6_count_161 : decode cX6_count 161 = .ok (.invokevirtual 181, 3) := by decide +kernel
theorem dX6_count_164 : decode cX6_count 164 = .ok (.ireturn, 1) := by decide +kernel
theorem dX6_count_165 : decode cX6_count 165 = .ok (.aload_n 0, 1) := by decide +kernel
theorem dX6_count_166 : decode cX6_count 166 = .ok (.getfield 26, 3) := by decide +kernel
theorem dX6_count_169 : decode cX6_count 169 = .ok (.getfield 184, 3) := by decide +kernel
theorem dX6_count_172 : decode cX6_count 172 = .ok (.ireturn, 1) := by decide +kernel
theorem dX6_count_173 : decode cX6_count 173 = .ok (.aload_n 0, 1) := by decide +kernel
theorem dX6_count_174 : decode cX6_count 174 = .ok (.getfield 19, 3) := by decide +kernel
theorem dX6_count_177 : decode cX6_count 177 = .ok (.getfield 187, 3) := by decide +kernel
theorem dX6_count_180 : decode cX6_count 180 = .ok (.ireturn, 1) := by decide +kernel
theorem dX6_count_181 : decode cX6_count 181 = .ok (.bipush (-2), 2) := by decide +kernel
theorem dX6_count_183 : decode cX6_count 183 = .ok (.ireturn, 1) := by decide +kernel
theorem dX6_canBe_0 : decode cX6_canBe 0 = .ok (.iconst 0, 1) := by decide +kernel
theorem dX6_canBe_1 : decode cX6_canBe 1 = .ok (.istore_n 1, 1) := by decide +kernel
theorem dX6_canBe_2 : decode cX6_canBe 2 = .ok (.aload_n 0, 1) := by decide +kernel
theorem dX6_canBe_3 : decode cX6_canBe 3 = .ok (.getfield 10, 3) := by decide +kernel
theorem dX6_canBe_6 : decode cX6_canBe 6 = .ok (.getfield 154, 3) := by decide +kernel
theorem dX6_canBe_9 : decode cX6_canBe 9 = .ok (.ifCond .eq 34, 3) := by decide +kernel
theorem dX6_canBe_12 : decode cX6_canBe 12 = .ok (.iconst 0, 1) := by decide +kernel
theorem dX6_canBe_13 : decode cX6_canBe 13 = .ok (.istore_n 2, 1) := by decide +kernel
theorem dX6_canBe_14 : decode cX6_canBe 14 = .ok (.iload_n 2, 1) := by decide +kernel
theorem dX6_canBe_15 : decode cX6_canBe 15 = .ok (.bipush 8, 2) := by decide +kernel
theorem dX6_canBe_17 : decode cX6_canBe 17 = .ok (.if_icmp .ge 26, 3) := by decide +kernel
theorem dX6_canBe_20 : decode cX6_canBe 20 = .ok (.aload_n 0, 1) := by decide +kernel
theorem dX6_canBe_21 : decode cX6_canBe 21 = .ok (.getfield 10, 3) := by decide +kernel
theorem dX6_canBe_24 : decode cX6_canBe 24 = .ok (.iload_n 2, 1) := by decide +kernel
theorem dX6_canBe_25 : decode cX6_canBe 25 = .ok (.invokevirtual 190, 3) := by decide +kernel
theorem dX6_canBe_28 : decode cX6_canBe 28 = .ok (.ifCond .eq 9, 3) := by decide +kernel
theorem dX6_canBe_31 : decode cX6_canBe 31 = .ok (.iload_n 1, 1) := by decide +kernel
theorem dX6_canBe_32 : decode cX6_canBe 32 = .ok (.iconst 1, 1) := by decide +kernel
theorem dX6_canBe_33 : decode cX6_canBe 33 = .ok (.iload_n 2, 1) := by decide +kernel
theorem dX6_canBe_34 : decode cX6_canBe 34 = .ok (.ishl, 1) := by decide +kernel
theorem dX6_canBe_35 : decode cX6_canBe 35 = .ok (.ior, 1) := by decide +kernel
theorem dX6_canBe_36 : decode cX6_canBe 36 = .ok (.istore_n 1, 1) := by decide +kernel
theorem dX6_canBe_37 : decode cX6_canBe 37 = .ok (.iinc 2 1, 3) := by decide +kernel
theorem dX6_canBe_40 : decode cX6_canBe 40 = .ok (.goto (-26), 3) := by decide +kernel
theorem dX6_canBe_43 : decode cX6_canBe 43 = .ok (.iload_n 1, 1) := by decide +kernel
theorem dX6_canBe_44 : decode cX6_canBe 44 = .ok (.ireturn, 1) := by decide +kernel
theorem dX6_shows_0 : decode cX6_shows 0 = .ok (.iload_n 1, 1) := by decide +kernel
theorem dX6_shows_1 : decode cX6_shows 1 = .ok (.iload_n 2, 1) := by decide +kernel
theorem dX6_shows_2 : decode cX6_shows 2 = .ok (.invokestatic 78, 3) := by decide +kernel
theorem dX6_shows_5 : decode cX6_shows 5 = .ok (.istore_n 3, 1) := by decide +kernel
theorem dX6_shows_6 : decode cX6_shows 6 = .ok (.iload_n 3, 1) := by decide +kernel
theorem dX6_shows_7 : decode cX6_shows 7 = .ok (.ifCond .eq 5, 3) := by decide +kernel
theorem dX6_shows_10 : decode cX6_shows 10 = .ok (.iload_n 3, 1) := by decide +kernel
theorem dX6_shows_11 : decode cX6_shows 11 = .ok (.ireturn, 1) := by decide +kernel
theorem dX6_shows_12 : decode cX6_shows 12 = .ok (.aload_n 0, 1) := by decide +kernel
theorem dX6_shows_13 : decode cX6_shows 13 = .ok (.getfield 10, 3) := by decide +kernel
theorem dX6_shows_16 : decode cX6_shows 16 = .ok (.getfield 154, 3) := by decide +kernel
theorem dX6_shows_19 : decode cX6_shows 19 = .ok (.ifCond .eq 18, 3) := by decide +kernel
theorem dX6_shows_22 : decode cX6_shows 22 = .ok (.aload_n 0, 1) := by decide +kernel
theorem dX6_shows_23 : decode cX6_shows 23 = .ok (.getfield 10, 3) := by decide +kernel
theorem dX6_shows_26 : decode cX6_shows 26 = .ok (.iload_n 1, 1) := by decide +kernel
theorem dX6_shows_27 : decode cX6_shows 27 = .ok (.iload_n 2, 1) := by decide +kernel
theorem dX6_shows_28 : decode cX6_shows 28 = .ok (.invokestatic 86, 3) := by decide +kernel
theorem dX6_shows_31 : decode cX6_shows 31 = .ok (.invokevirtual 193, 3) := by decide +kernel
theorem dX6_shows_34 : decode cX6_shows 34 = .ok (.goto 5, 3) := by decide +kernel
theorem dX6_shows_37 : decode cX6_shows 37 = .ok (.bipush (-5), 2) := by decide +kernel
theorem dX6_shows_39 : decode cX6_shows 39 = .ok (.ireturn, 1) := by decide +kernel
theorem dX6_bestShow_0 : decode cX6_bestShow 0 = .ok (.iload_n 1, 1) := by decide +kernel
theorem dX6_bestShow_1 : decode cX6_bestShow 1 = .ok (.ifCond .eq 11, 3) := by decide +kernel
theorem dX6_bestShow_4 : decode cX6_bestShow 4 = .ok (.iload_n 1, 1) := by decide +kernel
theorem dX6_bestShow_5 : decode cX6_bestShow 5 = .ok (.iconst 1, 1) := by decide +kernel
theorem dX6_bestShow_6 : decode cX6_bestShow 6 = .ok (.if_icmp .eq 6, 3) := by decide +kernel
theorem dX6_bestShow_9 : decode cX6_bestShow 9 = .ok (.bipush (-2), 2) := by decide +kernel
theorem dX6_bestShow_11 : decode cX6_bestShow 11 = .ok (.ireturn, 1) := by decide +kernel
theorem dX6_bestShow_12 : decode cX6_bestShow 12 = .ok (.aload_n 0, 1) := by decide +kernel
theorem dX6_bestShow_13 : decode cX6_bestShow 13 = .ok (.getfield 10, 3) := by decide +kernel
theorem dX6_bestShow_16 : decode cX6_bestShow 16 = .ok (.getfield 154, 3) := by decide +kernel
theorem dX6_bestShow_19 : decode cX6_bestShow 19 = .ok (.ifCond .ne 6, 3) := by decide +kernel
theorem dX6_bestShow_22 : decode cX6_bestShow 22 = .ok (.bipush (-5), 2) := by decide +kernel
theorem dX6_bestShow_24 : decode cX6_bestShow 24 = .ok (.ireturn, 1) := by decide +kernel
theorem dX6_bestShow_25 : decode cX6_bestShow 25 = .ok (.bipush (-6), 2) := by decide +kernel
theorem dX6_bestShow_27 : decode cX6_bestShow 27 = .ok (.istore_n 2, 1) := by decide +kernel
theorem dX6_bestShow_28 : decode cX6_bestShow 28 = .ok (.iconst 0, 1) := by decide +kernel
theorem dX6_bestShow_29 : decode cX6_bestShow 29 = .ok (.istore_n 3, 1) := by decide +kernel
theorem dX6_bestShow_30 : decode cX6_bestShow 30 = .ok (.iconst 0, 1) := by decide +kernel
theorem dX6_bestShow_31 : decode cX6_bestShow 31 = .ok (.istore 4, 2) := by decide +kernel
theorem dX6_bestShow_33 : decode cX6_bestShow 33 = .ok (.iload 4, 2) := by decide +kernel
theorem dX6_bestShow_35 : decode cX6_bestShow 35 = .ok (.bipush 28, 2) := by decide +kernel
theorem dX6_bestShow_37 : decode cX6_bestShow 37 = .ok (.if_icmp .ge 34, 3) := by decide +kernel
theorem dX6_bestShow_40 : decode cX6_bestShow 40 = .ok (.aload_n 0, 1) := by decide +kernel
theorem dX6_bestShow_41 : decode cX6_bestShow 41 = .ok (.getfield 10, 3) := by decide +kernel
theorem dX6_bestShow_44 : decode cX6_bestShow 44 = .ok (.iconst 1, 1) := by decide +kernel
theorem dX6_bestShow_45 : decode cX6_bestShow 45 = .ok (.iload 4, 2) := by decide +kernel
theorem dX6_bestShow_47 : decode cX6_bestShow 47 = .ok (.ishl, 1) := by decide +kernel
theorem dX6_bestShow_48 : decode cX6_bestShow 48 = .ok (.invokevirtual 193, 3) := by decide +kernel
theorem dX6_bestShow_51 : decode cX6_bestShow 51 = .ok (.istore 5, 2) := by decide +kernel
theorem dX6_bestShow_53 : decode cX6_bestShow 53 = .ok (.iload 5, 2) := by decide +kernel
theorem dX6_bestShow_55 : decode cX6_bestShow 55 = .ok (.iload_n 3, 1) := by decide +kernel
theorem dX6_bestShow_56 : decode cX6_bestShow 56 = .ok (.if_icmp .le 9, 3) := by decide +kernel
theorem dX6_bestShow_59 : decode cX6_bestShow 59 = .ok (.iload 5, 2) := by decide +kernel
theorem dX6_bestShow_61 : decode cX6_bestShow 61 = .ok (.istore_n 3, 1) := by decide +kernel
theorem dX6_bestShow_62 : decode cX6_bestShow 62 = .ok (.iload 4, 2) := by decide +kernel
theorem dX6_bestShow_64 : decode cX6_bestShow 64 = .ok (.istore_n 2, 1) := by decide +kernel
theorem dX6_bestShow_65 : decode cX6_bestShow 65 = .ok (.iinc 4 1, 3) := by decide +kernel
theorem dX6_bestShow_68 : decode cX6_bestShow 68 = .ok (.goto (-35), 3) := by decide +kernel
theorem dX6_bestShow_71 : decode cX6_bestShow 71 = .ok (.iload_n 2, 1) := by decide +kernel
theorem dX6_bestShow_72 : decode cX6_bestShow 72 = .ok (.bipush (-6), 2) := by decide +kernel
theorem dX6_bestShow_74 : decode cX6_bestShow 74 = .ok (.if_icmp .eq 7, 3) := by decide +kernel
theorem dX6_bestShow_77 : decode cX6_bestShow 77 = .ok (.iload_n 1, 1) := by decide +kernel
theorem dX6_bestShow_78 : decode cX6_bestShow 78 = .ok (.ifCond .ne 7, 3) := by decide +kernel
theorem dX6_bestShow_81 : decode cX6_bestShow 81 = .ok (.iload_n 2, 1) := by decide +kernel
theorem dX6_bestShow_82 : decode cX6_bestShow 82 = .ok (.goto 4, 3) := by decide +kernel
theorem dX6_bestShow_85 : decode cX6_bestShow 85 = .ok (.iload_n 3, 1) := by decide +kernel
theorem dX6_bestShow_86 : decode cX6_bestShow 86 = .ok (.ireturn, 1) := by decide +kernel
theorem dX6_knownWay_0 : decode cX6_knownWay 0 = .ok (.iload_n 1, 1) := by decide +kernel
theorem dX6_knownWay_1 : decode cX6_knownWay 1 = .ok (.invokestatic 148, 3) := by decide +kernel
theorem dX6_knownWay_4 : decode cX6_knownWay 4 = .ok (.ifCond .eq 10, 3) := by decide +kernel
theorem dX6_knownWay_7 : decode cX6_knownWay 7 = .ok (.iload_n 2, 1) := by decide +kernel
theorem dX6_knownWay_8 : decode cX6_knownWay 8 = .ok (.invokestatic 148, 3) := by decide +kernel
theorem dX6_knownWay_11 : decode cX6_knownWay 11 = .ok (.ifCond .ne 5, 3) := by decide +kernel
theorem dX6_knownWay_14 : decode cX6_knownWay 14 = .ok (.iconst (-1), 1) := by decide +kernel
theorem dX6_knownWay_15 : decode cX6_knownWay 15 = .ok (.ireturn, 1) := by decide +kernel
theorem dX6_knownWay_16 : decode cX6_knownWay 16 = .ok (.aload_n 0, 1) := by decide +kernel
theorem dX6_knownWay_17 : decode cX6_knownWay 17 = .ok (.getfield 10, 3) := by decide +kernel
theorem dX6_knownWay_20 : decode cX6_knownWay 20 = .ok (.getfield 125, 3) := by decide +kernel
theorem dX6_knownWay_23 : decode cX6_knownWay 23 = .ok (.aload_n 0, 1) := by decide +kernel
theorem dX6_knownWay_24 : decode cX6_knownWay 24 = .ok (.getfield 10, 3) := by decide +kernel
theorem dX6_knownWay_27 : decode cX6_knownWay 27 = .ok (.getfield 96, 3) := by decide +kernel
theorem dX6_knownWay_30 : decode cX6_knownWay 30 = .ok (.iand, 1) := by decide +kernel
theorem dX6_knownWay_31 : decode cX6_knownWay 31 = .ok (.iload_n 1, 1) := by decide +kernel
theorem dX6_knownWay_32 : decode cX6_knownWay 32 = .ok (.iload_n 2, 1) := by decide +kernel
theorem dX6_knownWay_33 : decode cX6_knownWay 33 = .ok (.invokestatic 196, 3) := by decide +kernel
theorem dX6_knownWay_36 : decode cX6_knownWay 36 = .ok (.istore_n 3, 1) := by decide +kernel
theorem dX6_knownWay_37 : decode cX6_knownWay 37 = .ok (.iload_n 3, 1) := by decide +kernel
theorem dX6_knownWay_38 : decode cX6_knownWay 38 = .ok (.bipush 99, 2) := by decide +kernel
theorem dX6_knownWay_40 : decode cX6_knownWay 40 = .ok (.if_icmp .ne 8, 3) := by decide +kernel
theorem dX6_knownWay_43 : decode cX6_knownWay 43 = .ok (.bipush (-6), 2) := by decide +kernel
theorem dX6_knownWay_45 : decode cX6_knownWay 45 = .ok (.goto 4, 3) := by decide +kernel
theorem dX6_knownWay_48 : decode cX6_knownWay 48 = .ok (.iload_n 3, 1) := by decide +kernel
theorem dX6_knownWay_49 : decode cX6_knownWay 49 = .ok (.ireturn, 1) := by decide +kernel
theorem dX6_put_0 : decode cX6_put 0 = .ok (.aload_n 0, 1) := by decide +kernel
theorem dX6_put_1 : decode cX6_put 1 = .ok (.getfield 26, 3) := by decide +kernel
theorem dX6_put_4 : decode cX6_put 4 = .ok (.lload_n 1, 1) := by decide +kernel
theorem dX6_put_5 : decode cX6_put 5 = .ok (.invokevirtual 199, 3) := by decide +kernel
theorem dX6_put_8 : decode cX6_put 8 = .ok (.ireturn, 1) := by decide +kernel
theorem dX6_wipe_0 : decode cX6_wipe 0 = .ok (.aload_n 0, 1) := by decide +kernel
theorem dX6_wipe_1 : decode cX6_wipe 1 = .ok (.getfield 26, 3) := by decide +kernel
theorem dX6_wipe_4 : decode cX6_wipe 4 = .ok (.invokevirtual 203, 3) := by decide +kernel
theorem dX6_wipe_7 : decode cX6_wipe 7 = .ok (.ireturn, 1) := by decide +kernel
theorem dX6_fault_0 : decode cX6_fault 0 = .ok (.aload_n 0, 1) := by decide +kernel
theorem dX6_fault_1 : decode cX6_fault 1 = .ok (.getfield 26, 3) := by decide +kernel
theorem dX6_fault_4 : decode cX6_fault 4 = .ok (.invokevirtual 206, 3) := by decide +kernel
theorem dX6_fault_7 : decode cX6_fault 7 = .ok (.ireturn, 1) := by decide +kernel
theorem dX6_carryOut_0 : decode cX6_carryOut 0 = .ok (.aload_n 0, 1) := by decide +kernel
theorem dX6_carryOut_1 : decode cX6_carryOut 1 = .ok (.getfield 26, 3) := by decide +kernel
theorem dX6_carryOut_4 : decode cX6_carryOut 4 = .ok (.invokevirtual 206, 3) := by decide +kernel
theorem dX6_carryOut_7 : decode cX6_carryOut 7 = .ok (.bipush (-6), 2) := by decide +kernel
theorem dX6_carryOut_9 : decode cX6_carryOut 9 = .ok (.if_icmp .eq 6, 3) := by decide +kernel
theorem dX6_carryOut_12 : decode cX6_carryOut 12 = .ok (.bipush (-3), 2) := by decide +kernel
theorem dX6_carryOut_14 : decode cX6_carryOut 14 = .ok (.ireturn, 1) := by decide +kernel
theorem dX6_carryOut_15 : decode cX6_carryOut 15 = .ok (.aload_n 0, 1) := by decide +kernel
theorem dX6_carryOut_16 : decode cX6_carryOut 16 = .ok (.getfield 19, 3) := by decide +kernel
theorem dX6_carryOut_19 : decode cX6_carryOut 19 = .ok (.aload_n 0, 1) := by decide +kernel
theorem dX6_carryOut_20 : decode cX6_carryOut 20 = .ok (.getfield 10, 3) := by decide +kernel
theorem dX6_carryOut_23 : decode cX6_carryOut 23 = .ok (.invokevirtual 40, 3) := by decide +kernel
theorem dX6_carryOut_26 : decode cX6_carryOut 26 = .ok (.aload_n 0, 1) := by decide +kernel
theorem dX6_carryOut_27 : decode cX6_carryOut 27 = .ok (.getfield 19, 3) := by decide +kernel
theorem dX6_carryOut_30 : decode cX6_carryOut 30 = .ok (.invokevirtual 75, 3) := by decide +kernel
theorem dX6_carryOut_33 : decode cX6_carryOut 33 = .ok (.iconst 0, 1) := by decide +kernel
theorem dX6_carryOut_34 : decode cX6_carryOut 34 = .ok (.istore_n 1, 1) := by decide +kernel
theorem dX6_carryOut_35 : decode cX6_carryOut 35 = .ok (.iconst 0, 1) := by decide +kernel
theorem dX6_carryOut_36 : decode cX6_carryOut 36 = .ok (.istore_n 2, 1) := by decide +kernel
theorem dX6_carryOut_37 : decode cX6_carryOut 37 = .ok (.iload_n 2, 1) := by decide +kernel
theorem dX6_carryOut_38 : decode cX6_carryOut 38 = .ok (.aload_n 0, 1) := by decide +kernel
theorem dX6_carryOut_39 : decode cX6_carryOut 39 = .ok (.getfield 26, 3) := by decide +kernel
theorem dX6_carryOut_42 : decode cX6_carryOut 42 = .ok (.getfield 184, 3) := by decide +kernel
theorem dX6_carryOut_45 : decode cX6_carryOut 45 = .ok (.if_icmp .ge 34, 3) := by decide +kernel
theorem dX6_carryOut_48 : decode cX6_carryOut 48 = .ok (.aload_n 0, 1) := by decide +kernel
theorem dX6_carryOut_49 : decode cX6_carryOut 49 = .ok (.getfield 26, 3) := by decide +kernel
theorem dX6_carryOut_52 : decode cX6_carryOut 52 = .ok (.iload_n 2, 1) := by decide +kernel
theorem dX6_carryOut_53 : decode cX6_carryOut 53 = .ok (.invokevirtual 209, 3) := by decide +kernel
theorem dX6_carryOut_56 : decode cX6_carryOut 56 = .ok (.ifCond .eq 17, 3) := by decide +kernel
theorem dX6_carryOut_59 : decode cX6_carryOut 59 = .ok (.aload_n 0, 1) := by decide +kernel
theorem dX6_carryOut_60 : decode cX6_carryOut 60 = .ok (.iload_n 2, 1) := by decide +kernel
theorem dX6_carryOut_61 : decode cX6_carryOut 61 = .ok (.invokevirtual 212, 3) := by decide +kernel
theorem dX6_carryOut_64 : decode cX6_carryOut 64 = .ok (.ifCond .ge 6, 3) := by decide +kernel
theorem dX6_carryOut_67 : decode cX6_carryOut 67 = .ok (.goto 12, 3) := by decide +kernel
theorem dX6_carryOut_70 : decode cX6_carryOut 70 = .ok (.iinc 1 1, 3) := by decide +kernel
theorem dX6_carryOut_73 : decode cX6_carryOut 73 = .ok (.iinc 2 1, 3) := by decide +kernel
theorem dX6_carryOut_76 : decode cX6_carryOut 76 = .ok (.goto (-39), 3) := by decide +kernel
theorem dX6_carryOut_79 : decode cX6_carryOut 79 = .ok (.aload_n 0, 1) := by decide +kernel
theorem dX6_carryOut_80 : decode cX6_carryOut 80 = .ok (.getfield 26, 3) := by decide +kernel
theorem dX6_carryOut_83 : decode cX6_carryOut 83 = .ok (.invokevirtual 203, 3) := by decide +kernel
theorem dX6_carryOut_86 : decode cX6_carryOut 86 = .ok (.pop, 1) := by decide +kernel
theorem dX6_carryOut_87 : decode cX6_carryOut 87 = .ok (.iload_n 1, 1) := by decide +kernel
theorem dX6_carryOut_88 : decode cX6_carryOut 88 = .ok (.ireturn, 1) := by decide +kernel
theorem dX6_carryOutOrder_0 : decode cX6_carryOutOrder 0 = .ok (.aload_n 0, 1) := by decide +kernel
theorem dX6_carryOutOrder_1 : decode cX6_carryOutOrder 1 = .ok (.getfield 26, 3) := by decide +kernel
theorem dX6_carryOutOrder_4 : decode cX6_carryOutOrder 4 = .ok (.iload_n 1, 1) := by decide +kernel
theorem dX6_carryOutOrder_5 : decode cX6_carryOutOrder 5 = .ok (.invokevirtual 215, 3) := by decide +kernel
theorem dX6_carryOutOrder_8 : decode cX6_carryOutOrder 8 = .ok (.lookupswitch 252 #[(43, 130), (45, 159), (98, 122), (99, 188), (100, 226), (112, 244), (114, 76), (116, 104)], 76) := by decide +kernel
theorem dX6_carryOutOrder_84 : decode cX6_carryOutOrder 84 = .ok (.aload_n 0, 1) := by decide +kernel
theorem dX6_carryOutOrder_85 : decode cX6_carryOutOrder 85 = .ok (.getfield 10, 3) := by decide +kernel
theorem dX6_carryOutOrder_88 : decode cX6_carryOutOrder 88 = .ok (.aload_n 0, 1) := by decide +kernel
theorem dX6_carryOutOrder_89 : decode cX6_carryOutOrder 89 = .ok (.getfield 26, 3) := by decide +kernel
theorem dX6_carryOutOrder_92 : decode cX6_carryOutOrder 92 = .ok (.iload_n 1, 1) := by decide +kernel
theorem dX6_carryOutOrder_93 : decode cX6_carryOutOrder 93 = .ok (.iconst 1, 1) := by decide +kernel
theorem dX6_carryOutOrder_94 : decode cX6_carryOutOrder 94 = .ok (.iadd, 1) := by decide +kernel
theorem dX6_carryOutOrder_95 : decode cX6_carryOutOrder 95 = .ok (.invokevirtual 218, 3) := by decide +kernel
theorem dX6_carryOutOrder_98 : decode cX6_carryOutOrder 98 = .ok (.aload_n 0, 1) := by decide +kernel
theorem dX6_carryOutOrder_99 : decode cX6_carryOutOrder 99 = .ok (.getfield 26, 3) := by decide +kernel
theorem dX6_carryOutOrder_102 : decode cX6_carryOutOrder 102 = .ok (.iload_n 1, 1) := by decide +kernel
theorem dX6_carryOutOrder_103 : decode cX6_carryOutOrder 103 = .ok (.iconst 2, 1) := by decide +kernel
theorem dX6_carryOutOrder_104 : decode cX6_carryOutOrder 104 = .ok (.iadd, 1) := by decide +kernel
theorem dX6_carryOutOrder_105 : decode cX6_carryOutOrder 105 = .ok (.invokevirtual 218, 3) := by decide +kernel
theorem dX6_carryOutOrder_108 : decode cX6_carryOutOrder 108 = .ok (.invokevirtual 52, 3) := by decide +kernel
theorem dX6_carryOutOrder_111 : decode cX6_carryOutOrder 111 = .ok (.ireturn, 1) := by decide +kernel
theorem dX6_carryOutOrder_112 : decode cX6_carryOutOrder 112 = .ok (.aload_n 0, 1) := by decide +kernel
theorem dX6_carryOutOrder_113 : decode cX6_carryOutOrder 113 = .ok (.getfield 10, 3) := by decide +kernel
theorem dX6_carryOutOrder_116 : decode cX6_carryOutOrder 116 = .ok (.aload_n 0, 1) := by decide +kernel
theorem dX6_carryOutOrder_117 : decode cX6_carryOutOrder 117 = .ok (.getfield 26, 3) := by decide +kernel
theorem dX6_carryOutOrder_120 : decode cX6_carryOutOrder 120 = .ok (.iload_n 1, 1) := by decide +kernel
theorem dX6_carryOutOrder_121 : decode cX6_carryOutOrder 121 = .ok (.iconst 1, 1) := by decide +kernel
theorem dX6_carryOutOrder_122 : decode cX6_carryOutOrder 122 = .ok (.iadd, 1) := by decide +kernel
theorem dX6_carryOutOrder_123 : decode cX6_carryOutOrder 123 = .ok (.invokevirtual 218, 3) := by decide +kernel
theorem dX6_carryOutOrder_126 : decode cX6_carryOutOrder 126 = .ok (.invokevirtual 55, 3) := by decide +kernel
theorem dX6_carryOutOrder_129 : decode cX6_carryOutOrder 129 = .ok (.ireturn, 1) := by decide +kernel
theorem dX6_carryOutOrder_130 : decode cX6_carryOutOrder 130 = .ok (.aload_n 0, 1) := by decide +kernel
theorem dX6_carryOutOrder_131 : decode cX6_carryOutOrder 131 = .ok (.getfield 10, 3) := by decide +kernel
theorem dX6_carryOutOrder_134 : decode cX6_carryOutOrder 134 = .ok (.invokevirtual 58, 3) := by decide +kernel
theorem dX6_carryOutOrder_137 : decode cX6_carryOutOrder 137 = .ok (.ireturn, 1) := by decide +kernel
theorem dX6_carryOutOrder_138 : decode cX6_carryOutOrder 138 = .ok (.aload_n 0, 1) := by decide +kernel
theorem dX6_carryOutOrder_139 : decode cX6_carryOutOrder 139 = .ok (.getfield 10, 3) := by decide +kernel
theorem dX6_carryOutOrder_142 : decode cX6_carryOutOrder 142 = .ok (.aload_n 0, 1) := by decide +kernel
theorem dX6_carryOutOrder_143 : decode cX6_carryOutOrder 143 = .ok (.getfield 26, 3) := by decide +kernel
theorem dX6_carryOutOrder_146 : decode cX6_carryOutOrder 146 = .ok (.iload_n 1, 1) := by decide +kernel
theorem dX6_carryOutOrder_147 : decode cX6_carryOutOrder 147 = .ok (.iconst 1, 1) := by decide +kernel
theorem dX6_carryOutOrder_148 : decode cX6_carryOutOrder 148 = .ok (.iadd, 1) := by decide +kernel
theorem dX6_carryOutOrder_149 : decode cX6_carryOutOrder 149 = .ok (.invokevirtual 218, 3) := by decide +kernel
theorem dX6_carryOutOrder_152 : decode cX6_carryOutOrder 152 = .ok (.aload_n 0, 1) := by decide +kernel
theorem dX6_carryOutOrder_153 : decode cX6_carryOutOrder 153 = .ok (.getfield 26, 3) := by decide +kernel
theorem dX6_carryOutOrder_156 : decode cX6_carryOutOrder 156 = .ok (.iload_n 1, 1) := by decide +kernel
theorem dX6_carryOutOrder_157 : decode cX6_carryOutOrder 157 = .ok (.iconst 2, 1) := by decide +kernel
theorem dX6_carryOutOrder_158 : decode cX6_carryOutOrder 158 = .ok (.iadd, 1) := by decide +kernel
theorem dX6_carryOutOrder_159 : decode cX6_carryOutOrder 159 = .ok (.invokevirtual 218, 3) := by decide +kernel
theorem dX6_carryOutOrder_162 : decode cX6_carryOutOrder 162 = .ok (.iconst 1, 1) := by decide +kernel
theorem dX6_carryOutOrder_163 : decode cX6_carryOutOrder 163 = .ok (.invokevirtual 62, 3) := by decide +kernel
theorem dX6_carryOutOrder_166 : decode cX6_carryOutOrder 166 = .ok (.ireturn, 1) := by decide +kernel
theorem dX6_carryOutOrder_167 : decode cX6_carryOutOrder 167 = .ok (.aload_n 0, 1) := by decide +kernel
theorem dX6_carryOutOrder_168 : decode cX6_carryOutOrder 168 = .ok (.getfield 10, 3) := by decide +kernel
theorem dX6_carryOutOrder_171 : decode cX6_carryOutOrder 171 = .ok (.aload_n 0, 1) := by decide +kernel
theorem dX6_carryOutOrder_172 : decode cX6_carryOutOrder 172 = .ok (.getfield 26, 3) := by decide +kernel
theorem dX6_carryOutOrder_175 : decode cX6_carryOutOrder 175 = .ok (.iload_n 1, 1) := by decide +kernel
theorem dX6_carryOutOrder_176 : decode cX6_carryOutOrder 176 = .ok (.iconst 1, 1) := by decide +kernel
theorem dX6_carryOutOrder_177 : decode cX6_carryOutOrder 177 = .ok (.iadd, 1) := by decide +kernel
theorem dX6_carryOutOrder_178 : decode cX6_carryOutOrder 178 = .ok (.invokevirtual 218, 3) := by decide +kernel
theorem dX6_carryOutOrder_181 : decode cX6_carryOutOrder 181 = .ok (.aload_n 0, 1) := by decide +kernel
theorem dX6_carryOutOrder_182 : decode cX6_carryOutOrder 182 = .ok (.getfield 26, 3) := by decide +kernel
theorem dX6_carryOutOrder_185 : decode cX6_carryOutOrder 185 = .ok (.iload_n 1, 1) := by decide +kernel
theorem dX6_carryOutOrder_186 : decode cX6_carryOutOrder 186 = .ok (.iconst 2, 1) := by decide +kernel
theorem dX6_carryOutOrder_187 : decode cX6_carryOutOrder 187 = .ok (.iadd, 1) := by decide +kernel
theorem dX6_carryOutOrder_188 : decode cX6_carryOutOrder 188 = .ok (.invokevirtual 218, 3) := by decide +kernel
theorem dX6_carryOutOrder_191 : decode cX6_carryOutOrder 191 = .ok (.iconst 0, 1) := by decide +kernel
theorem dX6_carryOutOrder_192 : decode cX6_carryOutOrder 192 = .ok (.invokevirtual 62, 3) := by decide +kernel
theorem dX6_carryOutOrder_195 : decode cX6_carryOutOrder 195 = .ok (.ireturn, 1) := by decide +kernel
theorem dX6_carryOutOrder_196 : decode cX6_carryOutOrder 196 = .ok (.aload_n 0, 1) := by decide +kernel
theorem dX6_carryOutOrder_197 : decode cX6_carryOutOrder 197 = .ok (.getfield 10, 3) := by decide +kernel
theorem dX6_carryOutOrder_200 : decode cX6_carryOutOrder 200 = .ok (.aload_n 0, 1) := by decide +kernel
theorem dX6_carryOutOrder_201 : decode cX6_carryOutOrder 201 = .ok (.getfield 26, 3) := by decide +kernel
theorem dX6_carryOutOrder_204 : decode cX6_carryOutOrder 204 = .ok (.iload_n 1, 1) := by decide +kernel
theorem dX6_carryOutOrder_205 : decode cX6_carryOutOrder 205 = .ok (.iconst 1, 1) := by decide +kernel
theorem dX6_carryOutOrder_206 : decode cX6_carryOutOrder 206 = .ok (.iadd, 1) := by decide +kernel
theorem dX6_carryOutOrder_207 : decode cX6_carryOutOrder 207 = .ok (.invokevirtual 221, 3) := by decide +kernel
theorem dX6_carryOutOrder_210 : decode cX6_carryOutOrder 210 = .ok (.aload_n 0, 1) := by decide +kernel
theorem dX6_carryOutOrder_211 : decode cX6_carryOutOrder 211 = .ok (.getfield 26, 3) := by decide +kernel
theorem dX6_carryOutOrder_214 : decode cX6_carryOutOrder 214 = .ok (.iload_n 1, 1) := by decide +kernel
theorem dX6_carryOutOrder_215 : decode cX6_carryOutOrder 215 = .ok (.iconst 2, 1) := by decide +kernel
theorem dX6_carryOutOrder_216 : decode cX6_carryOutOrder 216 = .ok (.iadd, 1) := by decide +kernel
theorem dX6_carryOutOrder_217 : decode cX6_carryOutOrder 217 = .ok (.invokevirtual 218, 3) := by decide +kernel
theorem dX6_carryOutOrder_220 : decode cX6_carryOutOrder 220 = .ok (.aload_n 0, 1) := by decide +kernel
theorem dX6_carryOutOrder_221 : decode cX6_carryOutOrder 221 = .ok (.getfield 26, 3) := by decide +kernel
theorem dX6_carryOutOrder_224 : decode cX6_carryOutOrder 224 = .ok (.iload_n 1, 1) := by decide +kernel
theorem dX6_carryOutOrder_225 : decode cX6_carryOutOrder 225 = .ok (.iconst 3, 1) := by decide +kernel
theorem dX6_carryOutOrder_226 : decode cX6_carryOutOrder 226 = .ok (.iadd, 1) := by decide +kernel
theorem dX6_carryOutOrder_227 : decode cX6_carryOutOrder 227 = .ok (.invokevirtual 218, 3) := by decide +kernel
theorem dX6_carryOutOrder_230 : decode cX6_carryOutOrder 230 = .ok (.invokevirtual 66, 3) := by decide +kernel
theorem dX6_carryOutOrder_233 : decode cX6_carryOutOrder 233 = .ok (.ireturn, 1) := by decide +kernel
theorem dX6_carryOutOrder_234 : decode cX6_carryOutOrder 234 = .ok (.aload_n 0, 1) := by decide +kernel
theorem dX6_carryOutOrder_235 : decode cX6_carryOutOrder 235 = .ok (.getfield 10, 3) := by decide +kernel
theorem dX6_carryOutOrder_238 : decode cX6_carryOutOrder 238 = .ok (.aload_n 0, 1) := by decide +kernel
theorem dX6_carryOutOrder_239 : decode cX6_carryOutOrder 239 = .ok (.getfield 26, 3) := by decide +kernel
theorem dX6_carryOutOrder_242 : decode cX6_carryOutOrder 242 = .ok (.iload_n 1, 1) := by decide +kernel
theorem dX6_carryOutOrder_243 : decode cX6_carryOutOrder 243 = .ok (.iconst 1, 1) := by decide +kernel
theorem dX6_carryOutOrder_244 : decode cX6_carryOutOrder 244 = .ok (.iadd, 1) := by decide +kernel
theorem dX6_carryOutOrder_245 : decode cX6_carryOutOrder 245 = .ok (.invokevirtual 218, 3) := by decide +kernel
theorem dX6_carryOutOrder_248 : decode cX6_carryOutOrder 248 = .ok (.invokevirtual 69, 3) := by decide +kernel
theorem dX6_carryOutOrder_251 : decode cX6_carryOutOrder 251 = .ok (.ireturn, 1) := by decide +kernel
theorem dX6_carryOutOrder_252 : decode cX6_carryOutOrder 252 = .ok (.aload_n 0, 1) := by decide +kernel
theorem dX6_carryOutOrder_253 : decode cX6_carryOutOrder 253 = .ok (.getfield 10, 3) := by decide +kernel
theorem dX6_carryOutOrder_256 : decode cX6_carryOutOrder 256 = .ok (.invokevirtual 72, 3) := by decide +kernel
theorem dX6_carryOutOrder_259 : decode cX6_carryOutOrder 259 = .ok (.ireturn, 1) := by decide +kernel
theorem dX6_carryOutOrder_260 : decode cX6_carryOutOrder 260 = .ok (.bipush (-3), 2) := by decide +kernel
theorem dX6_carryOutOrder_262 : decode cX6_carryOutOrder 262 = .ok (.ireturn, 1) := by decide +kernel
theorem dX6_undo_0 : decode cX6_undo 0 = .ok (.aload_n 0, 1) := by decide +kernel
theorem dX6_undo_1 : decode cX6_undo 1 = .ok (.getfield 19, 3) := by decide +kernel
theorem dX6_undo_4 : decode cX6_undo 4 = .ok (.aload_n 0, 1) := by decide +kernel
theorem dX6_undo_5 : decode cX6_undo 5 = .ok (.getfield 10, 3) := by decide +kernel
theorem dX6_undo_8 : decode cX6_undo 8 = .ok (.invokevirtual 224, 3) := by decide +kernel
theorem dX6_undo_11 : decode cX6_undo 11 = .ok (.ifCond .eq 13, 3) := by decide +kernel
theorem dX6_undo_14 : decode cX6_undo 14 = .ok (.aload_n 0, 1) := by decide +kernel
theorem dX6_undo_15 : decode cX6_undo 15 = .ok (.getfield 19, 3) := by decide +kernel
theorem dX6_undo_18 : decode cX6_undo 18 = .ok (.getfield 187, 3) := by decide +kernel
theorem dX6_undo_21 : decode cX6_undo 21 = .ok (.goto 5, 3) := by decide +kernel
theorem dX6_undo_24 : decode cX6_undo 24 = .ok (.bipush (-5), 2) := by decide +kernel
theorem dX6_undo_26 : decode cX6_undo 26 = .ok (.ireturn, 1) := by decide +kernel
theorem dX6_save_0 : decode cX6_save 0 = .ok (.iload_n 1, 1) := by decide +kernel
theorem dX6_save_1 : decode cX6_save 1 = .ok (.invokestatic 228, 3) := by decide +kernel
theorem dX6_save_4 : decode cX6_save 4 = .ok (.ifCond .ne 6, 3) := by decide +kernel
theorem dX6_save_7 : decode cX6_save 7 = .ok (.bipush (-2), 2) := by decide +kernel
theorem dX6_save_9 : decode cX6_save 9 = .ok (.ireturn, 1) := by decide +kernel
theorem dX6_save_10 : decode cX6_save 10 = .ok (.aload_n 0, 1) := by decide +kernel
theorem dX6_save_11 : decode cX6_save 11 = .ok (.iload_n 1, 1) := by decide +kernel
theorem dX6_save_12 : decode cX6_save 12 = .ok (.invokevirtual 231, 3) := by decide +kernel
theorem dX6_save_15 : decode cX6_save 15 = .ok (.astore_n 2, 1) := by decide +kernel
theorem dX6_save_16 : decode cX6_save 16 = .ok (.aload_n 2, 1) := by decide +kernel
theorem dX6_save_17 : decode cX6_save 17 = .ok (.getfield 235, 3) := by decide +kernel
theorem dX6_save_20 : decode cX6_save 20 = .ok (.aload_n 0, 1) := by decide +kernel
theorem dX6_save_21 : decode cX6_save 21 = .ok (.getfield 10, 3) := by decide +kernel
theorem dX6_save_24 : decode cX6_save 24 = .ok (.invokevirtual 238, 3) := by decide +kernel
theorem dX6_save_27 : decode cX6_save 27 = .ok (.aload_n 2, 1) := by decide +kernel
theorem dX6_save_28 : decode cX6_save 28 = .ok (.iconst 1, 1) := by decide +kernel
theorem dX6_save_29 : decode cX6_save 29 = .ok (.putfield 241, 3) := by decide +kernel
theorem dX6_save_32 : decode cX6_save 32 = .ok (.aload_n 0, 1) := by decide +kernel
theorem dX6_save_33 : decode cX6_save 33 = .ok (.getfield 10, 3) := by decide +kernel
theorem dX6_save_36 : decode cX6_save 36 = .ok (.getfield 125, 3) := by decide +kernel
theorem dX6_save_39 : decode cX6_save 39 = .ok (.invokestatic 143, 3) := by decide +kernel
theorem dX6_save_42 : decode cX6_save 42 = .ok (.ireturn, 1) := by decide +kernel
theorem dX6_restore_0 : decode cX6_restore 0 = .ok (.iload_n 1, 1) := by decide +kernel
theorem dX6_restore_1 : decode cX6_restore 1 = .ok (.invokestatic 228, 3) := by decide +kernel
theorem dX6_restore_4 : decode cX6_restore 4 = .ok (.ifCond .ne 6, 3) := by decide +kernel
theorem dX6_restore_7 : decode cX6_restore 7 = .ok (.bipush (-2), 2) := by decide +kernel
theorem dX6_restore_9 : decode cX6_restore 9 = .ok (.ireturn, 1) := by decide +kernel
theorem dX6_restore_10 : decode cX6_restore 10 = .ok (.aload_n 0, 1) := by decide +kernel
theorem dX6_restore_11 : decode cX6_restore 11 = .ok (.iload_n 1, 1) := by decide +kernel
theorem dX6_restore_12 : decode cX6_restore 12 = .ok (.invokevirtual 231, 3) := by decide +kernel
theorem dX6_restore_15 : decode cX6_restore 15 = .ok (.astore_n 2, 1) := by decide +kernel
theorem dX6_restore_16 : decode cX6_restore 16 = .ok (.aload_n 2, 1) := by decide +kernel
theorem dX6_restore_17 : decode cX6_restore 17 = .ok (.getfield 241, 3) := by decide +kernel
theorem dX6_restore_20 : decode cX6_restore 20 = .ok (.ifCond .ne 6, 3) := by decide +kernel
theorem dX6_restore_23 : decode cX6_restore 23 = .ok (.bipush (-5), 2) := by decide +kernel
theorem dX6_restore_25 : decode cX6_restore 25 = .ok (.ireturn, 1) := by decide +kernel
theorem dX6_restore_26 : decode cX6_restore 26 = .ok (.aload_n 0, 1) := by decide +kernel
theorem dX6_restore_27 : decode cX6_restore 27 = .ok (.getfield 19, 3) := by decide +kernel
theorem dX6_restore_30 : decode cX6_restore 30 = .ok (.aload_n 0, 1) := by decide +kernel
theorem dX6_restore_31 : decode cX6_restore 31 = .ok (.getfield 10, 3) := by decide +kernel
theorem dX6_restore_34 : decode cX6_restore 34 = .ok (.invokevirtual 40, 3) := by decide +kernel
theorem dX6_restore_37 : decode cX6_restore 37 = .ok (.aload_n 0, 1) := by decide +kernel
theorem dX6_restore_38 : decode cX6_restore 38 = .ok (.getfield 19, 3) := by decide +kernel
theorem dX6_restore_41 : decode cX6_restore 41 = .ok (.invokevirtual 75, 3) := by decide +kernel
theorem dX6_restore_44 : decode cX6_restore 44 = .ok (.aload_n 0, 1) := by decide +kernel
theorem dX6_restore_45 : decode cX6_restore 45 = .ok (.getfield 10, 3) := by decide +kernel
theorem dX6_restore_48 : decode cX6_restore 48 = .ok (.aload_n 2, 1) := by decide +kernel
theorem dX6_restore_49 : decode cX6_restore 49 = .ok (.getfield 235, 3) := by decide +kernel
theorem dX6_restore_52 : decode cX6_restore 52 = .ok (.invokevirtual 238, 3) := by decide +kernel
theorem dX6_restore_55 : decode cX6_restore 55 = .ok (.aload_n 0, 1) := by decide +kernel
theorem dX6_restore_56 : decode cX6_restore 56 = .ok (.getfield 10, 3) := by decide +kernel
theorem dX6_restore_59 : decode cX6_restore 59 = .ok (.getfield 125, 3) := by decide +kernel
theorem dX6_restore_62 : decode cX6_restore 62 = .ok (.invokestatic 143, 3) := by decide +kernel
theorem dX6_restore_65 : decode cX6_restore 65 = .ok (.ireturn, 1) := by decide +kernel
theorem dX6_slotOf_0 : decode cX6_slotOf 0 = .ok (.iload_n 1, 1) := by decide +kernel
theorem dX6_slotOf_1 : decode cX6_slotOf 1 = .ok (.ifCond .ne 10, 3) := by decide +kernel
theorem dX6_slotOf_4 : decode cX6_slotOf 4 = .ok (.aload_n 0, 1) := by decide +kernel
theorem dX6_slotOf_5 : decode cX6_slotOf 5 = .ok (.getfield 33, 3) := by decide +kernel
theorem dX6_slotOf_8 : decode cX6_slotOf 8 = .ok (.goto 7, 3) := by decide +kernel
theorem dX6_slotOf_11 : decode cX6_slotOf 11 = .ok (.aload_n 0, 1) := by decide +kernel
theorem dX6_slotOf_12 : decode cX6_slotOf 12 = .ok (.getfield 37, 3) := by decide +kernel
theorem dX6_slotOf_15 : decode cX6_slotOf 15 = .ok (.areturn, 1) := by decide +kernel
theorem dX6_isSlot_0 : decode cX6_isSlot 0 = .ok (.iload_n 0, 1) := by decide +kernel
theorem dX6_isSlot_1 : decode cX6_isSlot 1 = .ok (.ifCond .eq 8, 3) := by decide +kernel
theorem dX6_isSlot_4 : decode cX6_isSlot 4 = .ok (.iload_n 0, 1) := by decide +kernel
theorem dX6_isSlot_5 : decode cX6_isSlot 5 = .ok (.iconst 1, 1) := by decide +kernel
theorem dX6_isSlot_6 : decode cX6_isSlot 6 = .ok (.if_icmp .ne 7, 3) := by decide +kernel
theorem dX6_isSlot_9 : decode cX6_isSlot 9 = .ok (.iconst 1, 1) := by decide +kernel
theorem dX6_isSlot_10 : decode cX6_isSlot 10 = .ok (.goto 4, 3) := by decide +kernel
theorem dX6_isSlot_13 : decode cX6_isSlot 13 = .ok (.iconst 0, 1) := by decide +kernel
theorem dX6_isSlot_14 : decode cX6_isSlot 14 = .ok (.ireturn, 1) := by decide +kernel
theorem dX6_isPlayer_0 : decode cX6_isPlayer 0 = .ok (.iload_n 0, 1) := by decide +kernel
theorem dX6_isPlayer_1 : decode cX6_isPlayer 1 = .ok (.ifCond .lt 12, 3) := by decide +kernel
theorem dX6_isPlayer_4 : decode cX6_isPlayer 4 = .ok (.iload_n 0, 1) := by decide +kernel
theorem dX6_isPlayer_5 : decode cX6_isPlayer 5 = .ok (.iconst 3, 1) := by decide +kernel
theorem dX6_isPlayer_6 : decode cX6_isPlayer 6 = .ok (.if_icmp .ge 7, 3) := by decide +kernel
theorem dX6_isPlayer_9 : decode cX6_isPlayer 9 = .ok (.iconst 1, 1) := by decide +kernel
theorem dX6_isPlayer_10 : decode cX6_isPlayer 10 = .ok (.goto 4, 3) := by decide +kernel
theorem dX6_isPlayer_13 : decode cX6_isPlayer 13 = .ok (.iconst 0, 1) := by decide +kernel
theorem dX6_isPlayer_14 : decode cX6_isPlayer 14 = .ok (.ireturn, 1) := by decide +kernel
theorem dX6_isIn_0 : decode cX6_isIn 0 = .ok (.iload_n 0, 1) := by decide +kernel
theorem dX6_isIn_1 : decode cX6_isIn 1 = .ok (.iload_n 1, 1) := by decide +kernel
theorem dX6_isIn_2 : decode cX6_isIn 2 = .ok (.iand, 1) := by decide +kernel
theorem dX6_isIn_3 : decode cX6_isIn 3 = .ok (.ifCond .eq 7, 3) := by decide +kernel
theorem dX6_isIn_6 : decode cX6_isIn 6 = .ok (.iconst 1, 1) := by decide +kernel
theorem dX6_isIn_7 : decode cX6_isIn 7 = .ok (.goto 4, 3) := by decide +kernel
theorem dX6_isIn_10 : decode cX6_isIn 10 = .ok (.iconst 0, 1) := by decide +kernel
theorem dX6_isIn_11 : decode cX6_isIn 11 = .ok (.ireturn, 1) := by decide +kernel
theorem dX6_copyRow_0 : decode cX6_copyRow 0 = .ok (.aload_n 0, 1) := by decide +kernel
theorem dX6_copyRow_1 : decode cX6_copyRow 1 = .ok (.iconst 0, 1) := by decide +kernel
theorem dX6_copyRow_2 : decode cX6_copyRow 2 = .ok (.aload_n 1, 1) := by decide +kernel
theorem dX6_copyRow_3 : decode cX6_copyRow 3 = .ok (.iconst 0, 1) := by decide +kernel
theorem dX6_copyRow_4 : decode cX6_copyRow 4 = .ok (.aload_n 0, 1) := by decide +kernel
theorem dX6_copyRow_5 : decode cX6_copyRow 5 = .ok (.arraylength, 1) := by decide +kernel
theorem dX6_copyRow_6 : decode cX6_copyRow 6 = .ok (.aload_n 1, 1) := by decide +kernel
theorem dX6_copyRow_7 : decode cX6_copyRow 7 = .ok (.arraylength, 1) := by decide +kernel
theorem dX6_copyRow_8 : decode cX6_copyRow 8 = .ok (.invokestatic 244, 3) := by decide +kernel
theorem dX6_copyRow_11 : decode cX6_copyRow 11 = .ok (.invokestatic 249, 3) := by decide +kernel
theorem dX6_copyRow_14 : decode cX6_copyRow 14 = .ok (.return_, 1) := by decide +kernel
theorem dJ6_bitCount_0f7a4_0 : decode cJ6_bitCount_0f7a4 0 = .ok (.iload_n 0, 1) := by decide +kernel
theorem dJ6_bitCount_0f7a4_1 : decode cJ6_bitCount_0f7a4 1 = .ok (.iload_n 0, 1) := by decide +kernel
theorem dJ6_bitCount_0f7a4_2 : decode cJ6_bitCount_0f7a4 2 = .ok (.iconst 1, 1) := by decide +kernel
theorem dJ6_bitCount_0f7a4_3 : decode cJ6_bitCount_0f7a4 3 = .ok (.iushr, 1) := by decide +kernel
theorem dJ6_bitCount_0f7a4_4 : decode cJ6_bitCount_0f7a4 4 = .ok (.ldc_w 265, 3) := by decide +kernel
theorem dJ6_bitCount_0f7a4_7 : decode cJ6_bitCount_0f7a4 7 = .ok (.iand, 1) := by decide +kernel
theorem dJ6_bitCount_0f7a4_8 : decode cJ6_bitCount_0f7a4 8 = .ok (.isub, 1) := by decide +kernel
theorem dJ6_bitCount_0f7a4_9 : decode cJ6_bitCount_0f7a4 9 = .ok (.istore_n 0, 1) := by decide +kernel
theorem dJ6_bitCount_0f7a4_10 : decode cJ6_bitCount_0f7a4 10 = .ok (.iload_n 0, 1) := by decide +kernel
theorem dJ6_bitCount_0f7a4_11 : decode cJ6_bitCount_0f7a4 11 = .ok (.ldc_w 266, 3) := by decide +kernel
theorem dJ6_bitCount_0f7a4_14 : decode cJ6_bitCount_0f7a4 14 = .ok (.iand, 1) := by decide +kernel
theorem dJ6_bitCount_0f7a4_15 : decode cJ6_bitCount_0f7a4 15 = .ok (.iload_n 0, 1) := by decide +kernel
theorem dJ6_bitCount_0f7a4_16 : decode cJ6_bitCount_0f7a4 16 = .ok (.iconst 2, 1) := by decide +kernel
theorem dJ6_bitCount_0f7a4_17 : decode cJ6_bitCount_0f7a4 17 = .ok (.iushr, 1) := by decide +kernel
theorem dJ6_bitCount_0f7a4_18 : decode cJ6_bitCount_0f7a4 18 = .ok (.ldc_w 266, 3) := by decide +kernel
theorem dJ6_bitCount_0f7a4_21 : decode cJ6_bitCount_0f7a4 21 = .ok (.iand, 1) := by decide +kernel
theorem dJ6_bitCount_0f7a4_22 : decode cJ6_bitCount_0f7a4 22 = .ok (.iadd, 1) := by decide +kernel
theorem dJ6_bitCount_0f7a4_23 : decode cJ6_bitCount_0f7a4 23 = .ok (.istore_n 0, 1) := by decide +kernel
theorem dJ6_bitCount_0f7a4_24 : decode cJ6_bitCount_0f7a4 24 = .ok (.iload_n 0, 1) := by decide +kernel
theorem dJ6_bitCount_0f7a4_25 : decode cJ6_bitCount_0f7a4 25 = .ok (.iload_n 0, 1) := by decide +kernel
theorem dJ6_bitCount_0f7a4_26 : decode cJ6_bitCount_0f7a4 26 = .ok (.iconst 4, 1) := by decide +kernel
theorem dJ6_bitCount_0f7a4_27 : decode cJ6_bitCount_0f7a4 27 = .ok (.iushr, 1) := by decide +kernel
theorem dJ6_bitCount_0f7a4_28 : decode cJ6_bitCount_0f7a4 28 = .ok (.iadd, 1) := by decide +kernel
theorem dJ6_bitCount_0f7a4_29 : decode cJ6_bitCount_0f7a4 29 = .ok (.ldc_w 267, 3) := by decide +kernel
theorem dJ6_bitCount_0f7a4_32 : decode cJ6_bitCount_0f7a4 32 = .ok (.iand, 1) := by decide +kernel
theorem dJ6_bitCount_0f7a4_33 : decode cJ6_bitCount_0f7a4 33 = .ok (.istore_n 0, 1) := by decide +kernel
theorem dJ6_bitCount_0f7a4_34 : decode cJ6_bitCount_0f7a4 34 = .ok (.iload_n 0, 1) := by decide +kernel
theorem dJ6_bitCount_0f7a4_35 : decode cJ6_bitCount_0f7a4 35 = .ok (.iload_n 0, 1) := by decide +kernel
theorem dJ6_bitCount_0f7a4_36 : decode cJ6_bitCount_0f7a4 36 = .ok (.bipush 8, 2) := by decide +kernel
theorem dJ6_bitCount_0f7a4_38 : decode cJ6_bitCount_0f7a4 38 = .ok (.iushr, 1) := by decide +kernel
theorem dJ6_bitCount_0f7a4_39 : decode cJ6_bitCount_0f7a4 39 = .ok (.iadd, 1) := by decide +kernel
theorem dJ6_bitCount_0f7a4_40 : decode cJ6_bitCount_0f7a4 40 = .ok (.istore_n 0, 1) := by decide +kernel
theorem dJ6_bitCount_0f7a4_41 : decode cJ6_bitCount_0f7a4 41 = .ok (.iload_n 0, 1) := by decide +kernel
theorem dJ6_bitCount_0f7a4_42 : decode cJ6_bitCount_0f7a4 42 = .ok (.iload_n 0, 1) := by decide +kernel
theorem dJ6_bitCount_0f7a4_43 : decode cJ6_bitCount_0f7a4 43 = .ok (.bipush 16, 2) := by decide +kernel
theorem dJ6_bitCount_0f7a4_45 : decode cJ6_bitCount_0f7a4 45 = .ok (.iushr, 1) := by decide +kernel
theorem dJ6_bitCount_0f7a4_46 : decode cJ6_bitCount_0f7a4 46 = .ok (.iadd, 1) := by decide +kernel
theorem dJ6_bitCount_0f7a4_47 : decode cJ6_bitCount_0f7a4 47 = .ok (.istore_n 0, 1) := by decide +kernel
theorem dJ6_bitCount_0f7a4_48 : decode cJ6_bitCount_0f7a4 48 = .ok (.iload_n 0, 1) := by decide +kernel
theorem dJ6_bitCount_0f7a4_49 : decode cJ6_bitCount_0f7a4 49 = .ok (.bipush 63, 2) := by decide +kernel
theorem dJ6_bitCount_0f7a4_51 : decode cJ6_bitCount_0f7a4 51 = .ok (.iand, 1) := by decide +kernel
theorem dJ6_bitCount_0f7a4_52 : decode cJ6_bitCount_0f7a4 52 = .ok (.ireturn, 1) := by decide +kernel
theorem dJ9_max_7cf53_0 : decode cJ9_max_7cf53 0 = .ok (.iload_n 0, 1) := by decide +kernel
theorem dJ9_max_7cf53_1 : decode cJ9_max_7cf53 1 = .ok (.iload_n 1, 1) := by decide +kernel
theorem dJ9_max_7cf53_2 : decode cJ9_max_7cf53 2 = .ok (.if_icmp .lt 7, 3) := by decide +kernel
theorem dJ9_max_7cf53_5 : decode cJ9_max_7cf53 5 = .ok (.iload_n 0, 1) := by decide +kernel
theorem dJ9_max_7cf53_6 : decode cJ9_max_7cf53 6 = .ok (.goto 4, 3) := by decide +kernel
theorem dJ9_max_7cf53_9 : decode cJ9_max_7cf53 9 = .ok (.iload_n 1, 1) := by decide +kernel
theorem dJ9_max_7cf53_10 : decode cJ9_max_7cf53 10 = .ok (.ireturn, 1) := by decide +kernel
theorem dJ9_min_7cf53_0 : decode cJ9_min_7cf53 0 = .ok (.iload_n 0, 1) := by decide +kernel
theorem dJ9_min_7cf53_1 : decode cJ9_min_7cf53 1 = .ok (.iload_n 1, 1) := by decide +kernel
theorem dJ9_min_7cf53_2 : decode cJ9_min_7cf53 2 = .ok (.if_icmp .gt 7, 3) := by decide +kernel
theorem dJ9_min_7cf53_5 : decode cJ9_min_7cf53 5 = .ok (.iload_n 0, 1) := by decide +kernel
theorem dJ9_min_7cf53_6 : decode cJ9_min_7cf53 6 = .ok (.goto 4, 3) := by decide +kernel
theorem dJ9_min_7cf53_9 : decode cJ9_min_7cf53 9 = .ok (.iload_n 1, 1) := by decide +kernel
theorem dJ9_min_7cf53_10 : decode cJ9_min_7cf53 10 = .ok (.ireturn, 1) := by decide +kernel
theorem dL_cell_0 : decode cL_cell 0 = .ok (.iload_n 1, 1) := by decide +kernel
theorem dL_cell_1 : decode cL_cell 1 = .ok (.aload_n 0, 1) := by decide +kernel
theorem dL_cell_2 : decode cL_cell 2 = .ok (.arraylength, 1) := by decide +kernel
theorem dL_cell_3 : decode cL_cell 3 = .ok (.if_icmp .ge 9, 3) := by decide +kernel
theorem dL_cell_6 : decode cL_cell 6 = .ok (.aload_n 0, 1) := by decide +kernel
theorem dL_cell_7 : decode cL_cell 7 = .ok (.iload_n 1, 1) := by decide +kernel
theorem dL_cell_8 : decode cL_cell 8 = .ok (.iaload, 1) := by decide +kernel
theorem dL_cell_9 : decode cL_cell 9 = .ok (.goto 13, 3) := by decide +kernel
theorem dL_cell_12 : decode cL_cell 12 = .ok (.ldc 7, 2) := by decide +kernel
theorem dL_cell_14 : decode cL_cell 14 = .ok (.iload_n 1, 1) := by decide +kernel
theorem dL_cell_15 : decode cL_cell 15 = .ok (.bipush 61, 2) := by decide +kernel
theorem dL_cell_17 : decode cL_cell 17 = .ok (.iadd, 1) := by decide +kernel
theorem dL_cell_18 : decode cL_cell 18 = .ok (.imul, 1) := by decide +kernel
theorem dL_cell_19 : decode cL_cell 19 = .ok (.bipush 101, 2) := by decide +kernel
theorem dL_cell_21 : decode cL_cell 21 = .ok (.iadd, 1) := by decide +kernel
theorem dL_cell_22 : decode cL_cell 22 = .ok (.ldc 8, 2) := by decide +kernel
theorem dL_cell_24 : decode cL_cell 24 = .ok (.iand, 1) := by decide +kernel
theorem dL_cell_25 : decode cL_cell 25 = .ok (.ireturn, 1) := by decide +kernel
theorem dL_acts_0 : decode cL_acts 0 = .ok (.iload_n 1, 1) := by decide +kernel
theorem dL_acts_1 : decode cL_acts 1 = .ok (.bipush 32, 2) := by decide +kernel
theorem dL_acts_3 : decode cL_acts 3 = .ok (.idiv, 1) := by decide +kernel
theorem dL_acts_4 : decode cL_acts 4 = .ok (.istore_n 2, 1) := by decide +kernel
theorem dL_acts_5 : decode cL_acts 5 = .ok (.iload_n 2, 1) := by decide +kernel
theorem dL_acts_6 : decode cL_acts 6 = .ok (.bipush 8, 2) := by decide +kernel
theorem dL_acts_8 : decode cL_acts 8 = .ok (.irem, 1) := by decide +kernel
theorem dL_acts_9 : decode cL_acts 9 = .ok (.istore_n 3, 1) := by decide +kernel
theorem dL_acts_10 : decode cL_acts 10 = .ok (.iload_n 3, 1) := by decide +kernel
theorem dL_acts_11 : decode cL_acts 11 = .ok (.iconst 1, 1) := by decide +kernel
theorem dL_acts_12 : decode cL_acts 12 = .ok (.iadd, 1) := by decide +kernel
theorem dL_acts_13 : decode cL_acts 13 = .ok (.iload_n 2, 1) := by decide +kernel
theorem dL_acts_14 : decode cL_acts 14 = .ok (.bipush 8, 2) := by decide +kernel
theorem dL_acts_16 : decode cL_acts 16 = .ok (.idiv, 1) := by decide +kernel
theorem dL_acts_17 : decode cL_acts 17 = .ok (.bipush 7, 2) := by decide +kernel
theorem dL_acts_19 : decode cL_acts 19 = .ok (.irem, 1) := by decide +kernel
theorem dL_acts_20 : decode cL_acts 20 = .ok (.iadd, 1) := by decide +kernel
theorem dL_acts_21 : decode cL_acts 21 = .ok (.bipush 8, 2) := by decide +kernel
theorem dL_acts_23 : decode cL_acts 23 = .ok (.irem, 1) := by decide +kernel
theorem dL_acts_24 : decode cL_acts 24 = .ok (.istore 4, 2) := by decide +kernel
theorem dL_acts_26 : decode cL_acts 26 = .ok (.iload_n 1, 1) := by decide +kernel
theorem dL_acts_27 : decode cL_acts 27 = .ok (.bipush 32, 2) := by decide +kernel
theorem dL_acts_29 : decode cL_acts 29 = .ok (.irem, 1) := by decide +kernel
theorem dL_acts_30 : decode cL_acts 30 = .ok (.tableswitch 451 0 18 #[90, 106, 112, 117, 117, 117, 141, 146, 146, 146, 146, 146, 178, 178, 183, 191, 199, 199, 199], 90) := by decide +kernel
theorem dL_acts_120 : decode cL_acts 120 = .ok (.aload_n 0, 1) := by decide +kernel
theorem dL_acts_121 : decode cL_acts 121 = .ok (.iload_n 2, 1) := by decide +kernel
theorem dL_acts_122 : decode cL_acts 122 = .ok (.iconst 4, 1) := by decide +kernel
theorem dL_acts_123 : decode cL_acts 123 = .ok (.irem, 1) := by decide +kernel
theorem dL_acts_124 : decode cL_acts 124 = .ok (.iconst 1, 1) := by decide +kernel
theorem dL_acts_125 : decode cL_acts 125 = .ok (.iload_n 2, 1) := by decide +kernel
theorem dL_acts_126 : decode cL_acts 126 = .ok (.iconst 4, 1) := by decide +kernel
theorem dL_acts_127 : decode cL_acts 127 = .ok (.idiv, 1) := by decide +kernel
theorem dL_acts_128 : decode cL_acts 128 = .ok (.bipush 20, 2) := by decide +kernel
theorem dL_acts_130 : decode cL_acts 130 = .ok (.irem, 1) := by decide +kernel
theorem dL_acts_131 : decode cL_acts 131 = .ok (.iadd, 1) := by decide +kernel
theorem dL_acts_132 : decode cL_acts 132 = .ok (.invokevirtual 9, 3) := by decide +kernel
theorem dL_acts_135 : decode cL_acts 135 = .ok (.ireturn, 1) := by decide +kernel
theorem dL_acts_136 : decode cL_acts 136 = .ok (.aload_n 0, 1) := by decide +kernel
theorem dL_acts_137 : decode cL_acts 137 = .ok (.iload_n 3, 1) := by decide +kernel
theorem dL_acts_138 : decode cL_acts 138 = .ok (.invokevirtual 15, 3) := by decide +kernel
theorem dL_acts_141 : decode cL_acts 141 = .ok (.ireturn, 1) := by decide +kernel
theorem dL_acts_142 : decode cL_acts 142 = .ok (.aload_n 0, 1) := by decide +kernel
theorem dL_acts_143 : decode cL_acts 143 = .ok (.invokevirtual 19, 3) := by decide +kernel
theorem dL_acts_146 : decode cL_acts 146 = .ok (.ireturn, 1) := by decide +kernel
theorem dL_acts_147 : decode cL_acts 147 = .ok (.aload_n 0, 1) := by decide +kernel
theorem dL_acts_148 : decode cL_acts 148 = .ok (.iconst 2, 1) := by decide +kernel
theorem dL_acts_149 : decode cL_acts 149 = .ok (.invokevirtual 23, 3) := by decide +kernel
theorem dL_acts_152 : decode cL_acts 152 = .ok (.ifCond .ne 13, 3) := by decide +kernel
theorem dL_acts_155 : decode cL_acts 155 = .ok (.aload_n 0, 1) := by decide +kernel
theorem dL_acts_156 : decode cL_acts 156 = .ok (.iload_n 3, 1) := by decide +kernel
theorem dL_acts_157 : decode cL_acts 157 = .ok (.iload 4, 2) := by decide +kernel
theorem dL_acts_159 : decode cL_acts 159 = .ok (.invokevirtual 26, 3) := by decide +kernel
theorem dL_acts_162 : decode cL_acts 162 = .ok (.goto 8, 3) := by decide +kernel
theorem dL_acts_165 : decode cL_acts 165 = .ok (.aload_n 0, 1) := by decide +kernel
theorem dL_acts_166 : decode cL_acts 166 = .ok (.iload_n 3, 1) := by decide +kernel
theorem dL_acts_167 : decode cL_acts 167 = .ok (.invokevirtual 29, 3) := by decide +kernel
theorem dL_acts_170 : decode cL_acts 170 = .ok (.ireturn, 1) := by decide +kernel
theorem dL_acts_171 : decode cL_acts 171 = .ok (.aload_n 0, 1) := by decide +kernel
theorem dL_acts_172 : decode cL_acts 172 = .ok (.invokevirtual 32, 3) := by decide +kernel
theorem dL_acts_175 : decode cL_acts 175 = .ok (.ireturn, 1) := by decide +kernel
theorem dL_acts_176 : decode cL_acts 176 = .ok (.aload_n 0, 1) := by decide +kernel
theorem dL_acts_177 : decode cL_acts 177 = .ok (.iconst 2, 1) := by decide +kernel
theorem dL_acts_178 : decode cL_acts 178 = .ok (.invokevirtual 23, 3) := by decide +kernel
theorem dL_acts_181 : decode cL_acts 181 = .ok (.ifCond .ne 13, 3) := by decide +kernel
theorem dL_acts_184 : decode cL_acts 184 = .ok (.aload_n 0, 1) := by decide +kernel
theorem dL_acts_185 : decode cL_acts 185 = .ok (.iload_n 3, 1) := by decide +kernel
theorem dL_acts_186 : decode cL_acts 186 = .ok (.iload 4, 2) := by decide +kernel
theorem dL_acts_188 : decode cL_acts 188 = .ok (.invokevirtual 26, 3) := by decide +kernel
theorem dL_acts_191 : decode cL_acts 191 = .ok (.goto 16, 3) := by decide +kernel
theorem dL_acts_194 : decode cL_acts 194 = .ok (.aload_n 0, 1) := by decide +kernel
theorem dL_acts_195 : decode cL_acts 195 = .ok (.iload_n 2, 1) := by decide +kernel
theorem dL_acts_196 : decode cL_acts 196 = .ok (.bipush 64, 2) := by decide +kernel
theorem dL_acts_198 : decode cL_acts 198 = .ok (.idiv, 1) := by decide +kernel
theorem dL_acts_199 : decode cL_acts 199 = .ok (.iconst 3, 1) := by decide +kernel
theorem dL_acts_200 : decode cL_acts 200 = .ok (.irem, 1) := by decide +kernel
theorem dL_acts_201 : decode cL_acts 201 = .ok (.iload_n 3, 1) := by decide +kernel
theorem dL_acts_202 : decode cL_acts 202 = .ok (.iload 4, 2) := by decide +kernel
theorem dL_acts_204 : decode cL_acts 204 = .ok (.invokevirtual 35, 3) := by decide +kernel
theorem dL_acts_207 : decode cL_acts 207 = .ok (.ireturn, 1) := by decide +kernel
theorem dL_acts_208 : decode cL_acts 208 = .ok (.aload_n 0, 1) := by decide +kernel
theorem dL_acts_209 : decode cL_acts 209 = .ok (.invokevirtual 39, 3) := by decide +kernel
theorem dL_acts_212 : decode cL_acts 212 = .ok (.ireturn, 1) := by decide +kernel
theorem dL_acts_213 : decode cL_acts 213 = .ok (.aload_n 0, 1) := by decide +kernel
theorem dL_acts_214 : decode cL_acts 214 = .ok (.iload_n 2, 1) := by decide +kernel
theorem dL_acts_215 : decode cL_acts 215 = .ok (.iconst 2, 1) := by decide +kernel
theorem dL_acts_216 : decode cL_acts 216 = .ok (.irem, 1) := by decide +kernel
theorem dL_acts_217 : decode cL_acts 217 = .ok (.invokevirtual 42, 3) := by decide +kernel
theorem dL_acts_220 : decode cL_acts 220 = .ok (.ireturn, 1) := by decide +kernel
theorem dL_acts_221 : decode cL_acts 221 = .ok (.aload_n 0, 1) := by decide +kernel
theorem dL_acts_222 : decode cL_acts 222 = .ok (.iload_n 2, 1) := by decide +kernel
theorem dL_acts_223 : decode cL_acts 223 = .ok (.iconst 2, 1) := by decide +kernel
theorem dL_acts_224 : decode cL_acts 224 = .ok (.irem, 1) := by decide +kernel
theorem dL_acts_225 : decode cL_acts 225 = .ok (.invokevirtual 45, 3) := by decide +kernel
theorem dL_acts_228 : decode cL_acts 228 = .ok (.ireturn, 1) := by decide +kernel
theorem dL_acts_229 : decode cL_acts 229 = .ok (.aload_n 0, 1) := by decide +kernel
theorem dL_acts_230 : decode cL_acts 230 = .ok (.invokevirtual 48, 3) := by decide +kernel
theorem dL_acts_233 : decode cL_acts 233 = .ok (.istore 5, 2) := by decide +kernel
theorem dL_acts_235 : decode cL_acts 235 = .ok (.iconst 0, 1) := by decide +kernel
theorem dL_acts_236 : decode cL_acts 236 = .ok (.istore 6, 2) := by decide +kernel
theorem dL_acts_238 : decode cL_acts 238 = .ok (.iload 6, 2) := by decide +kernel
theorem dL_acts_240 : decode cL_acts 240 = .ok (.iconst 1, 1) := by decide +kernel
theorem dL_acts_241 : decode cL_acts 241 = .ok (.iload_n 2, 1) := by decide +kernel
theorem dL_acts_242 : decode cL_acts 242 = .ok (.iconst 4, 1) := by decide +kernel
theorem dL_acts_243 : decode cL_acts 243 = .ok (.irem, 1) := by decide +kernel
theorem dL_acts_244 : decode cL_acts 244 = .ok (.iadd, 1) := by decide +kernel
theorem dL_acts_245 : decode cL_acts 245 = .ok (.if_icmp .ge 211, 3) := by decide +kernel
theorem dL_acts_248 : decode cL_acts 248 = .ok (.iload_n 2, 1) := by decide +kernel
theorem dL_acts_249 : decode cL_acts 249 = .ok (.iconst 4, 1) := by decide +kernel
theorem dL_acts_250 : decode cL_acts 250 = .ok (.idiv, 1) := by decide +kernel
theorem dL_acts_251 : decode cL_acts 251 = .ok (.iconst 5, 1) := by decide +kernel
theorem dL_acts_252 : decode cL_acts 252 = .ok (.iload 6, 2) := by decide +kernel
theorem dL_acts_254 : decode cL_acts 254 = .ok (.imul, 1) := by decide +kernel
theorem dL_acts_255 : decode cL_acts 255 = .ok (.ishr, 1) := by decide +kernel
theorem dL_acts_256 : decode cL_acts 256 = .ok (.istore 7, 2) := by decide +kernel
theorem dL_acts_258 : decode cL_acts 258 = .ok (.iload 7, 2) := by decide +kernel
theorem dL_acts_260 : decode cL_acts 260 = .ok (.bipush 8, 2) := by decide +kernel
theorem dL_acts_262 : decode cL_acts 262 = .ok (.irem, 1) := by decide +kernel
theorem dL_acts_263 : decode cL_acts 263 = .ok (.istore 8, 2) := by decide +kernel
theorem dL_acts_265 : decode cL_acts 265 = .ok (.iload 6, 2) := by decide +kernel
theorem dL_acts_267 : decode cL_acts 267 = .ok (.ifCond .le 13, 3) := by decide +kernel
theorem dL_acts_270 : decode cL_acts 270 = .ok (.aload_n 0, 1) := by decide +kernel
theorem dL_acts_271 : decode cL_acts 271 = .ok (.ldc2_w 51, 3) := by decide +kernel
theorem dL_acts_274 : decode cL_acts 274 = .ok (.invokevirtual 53, 3) := by decide +kernel
theorem dL_acts_277 : decode cL_acts 277 = .ok (.goto 4, 3) := by decide +kernel
theorem dL_acts_280 : decode cL_acts 280 = .ok (.iconst 0, 1) := by decide +kernel
theorem dL_acts_281 : decode cL_acts 281 = .ok (.istore 5, 2) := by decide +kernel
theorem dL_acts_283 : decode cL_acts 283 = .ok (.aload_n 0, 1) := by decide +kernel
theorem dL_acts_284 : decode cL_acts 284 = .ok (.iload 8, 2) := by decide +kernel
theorem dL_acts_286 : decode cL_acts 286 = .ok (.iconst 3, 1) := by decide +kernel
theorem dL_acts_287 : decode cL_acts 287 = .ok (.if_icmp .ge 9, 3) := by decide +kernel
theorem dL_acts_290 : decode cL_acts 290 = .ok (.ldc2_w 57, 3) := by decide +kernel
theorem dL_acts_293 : decode cL_acts 293 = .ok (.goto 43, 3) := by decide +kernel
theorem dL_acts_296 : decode cL_acts 296 = .ok (.iload 8, 2) := by decide +kernel
theorem dL_acts_298 : decode cL_acts 298 = .ok (.iconst 5, 1) := by decide +kernel
theorem dL_acts_299 : decode cL_acts 299 = .ok (.if_icmp .ge 9, 3) := by decide +kernel
theorem dL_acts_302 : decode cL_acts 302 = .ok (.ldc2_w 59, 3) := by decide +kernel
theorem dL_acts_305 : decode cL_acts 305 = .ok (.goto 31, 3) := by decide +kernel
theorem dL_acts_308 : decode cL_acts 308 = .ok (.iload 8, 2) := by decide +kernel
theorem dL_acts_310 : decode cL_acts 310 = .ok (.iconst 5, 1) := by decide +kernel
theorem dL_acts_311 : decode cL_acts 311 = .ok (.if_icmp .ne 9, 3) := by decide +kernel
theorem dL_acts_314 : decode cL_acts 314 = .ok (.ldc2_w 61, 3) := by decide +kernel
theorem dL_acts_317 : decode cL_acts 317 = .ok (.goto 19, 3) := by decide +kernel
theorem dL_acts_320 : decode cL_acts 320 = .ok (.iload 8, 2) := by decide +kernel
theorem dL_acts_322 : decode cL_acts 322 = .ok (.bipush 6, 2) := by decide +kernel
theorem dL_acts_324 : decode cL_acts 324 = .ok (.if_icmp .ne 9, 3) := by decide +kernel
theorem dL_acts_327 : decode cL_acts 327 = .ok (.ldc2_w 63, 3) := by decide +kernel
theorem dL_acts_330 : decode cL_acts 330 = .ok (.goto 6, 3) := by decide +kernel
theorem dL_acts_333 : decode cL_acts 333 = .ok (.ldc2_w 65, 3) := by decide +kernel
theorem dL_acts_336 : decode cL_acts 336 = .ok (.invokevirtual 53, 3) := by decide +kernel
theorem dL_acts_339 : decode cL_acts 339 = .ok (.istore 5, 2) := by decide +kernel
theorem dL_acts_341 : decode cL_acts 341 = .ok (.iload 8, 2) := by decide +kernel
theorem dL_acts_343 : decode cL_acts 343 = .ok (.bipush 7, 2) := by decide +kernel
theorem dL_acts_345 : decode cL_acts 345 = .ok (.if_icmp .ne 22, 3) := by decide +kernel
theorem dL_acts_348 : decode cL_acts 348 = .ok (.aload_n 0, 1) := by decide +kernel
theorem dL_acts_349 : decode cL_acts 349 = .ok (.ldc2_w 67, 3) := by decide +kernel
theorem dL_acts_352 : decode cL_acts 352 = .ok (.iload 7, 2) := by decide +kernel
theorem dL_acts_354 : decode cL_acts 354 = .ok (.bipush 8, 2) := by decide +kernel
theorem dL_acts_356 : decode cL_acts 356 = .ok (.idiv, 1) := by decide +kernel
theorem dL_acts_357 : decode cL_acts 357 = .ok (.iconst 3, 1) := by decide +kernel
theorem dL_acts_358 : decode cL_acts 358 = .ok (.irem, 1) := by decide +kernel
theorem dL_acts_359 : decode cL_acts 359 = .ok (.i2l, 1) := by decide +kernel
theorem dL_acts_360 : decode cL_acts 360 = .ok (.ladd, 1) := by decide +kernel
theorem dL_acts_361 : decode cL_acts 361 = .ok (.invokevirtual 53, 3) := by decide +kernel
theorem dL_acts_364 : decode cL_acts 364 = .ok (.goto 5, 3) := by decide +kernel
theorem dL_acts_367 : decode cL_acts 367 = .ok (.iload 5, 2) := by decide +kernel
theorem dL_acts_369 : decode cL_acts 369 = .ok (.istore 5, 2) := by decide +kernel
theorem dL_acts_371 : decode cL_acts 371 = .ok (.iload 8, 2) := by decide +kernel
theorem dL_acts_373 : decode cL_acts 373 = .ok (.bipush 6, 2) := by decide +kernel
theorem dL_acts_375 : decode cL_acts 375 = .ok (.if_icmp .ne 8, 3) := by decide +kernel
theorem dL_acts_378 : decode cL_acts 378 = .ok (.iload 5, 2) := by decide +kernel
theorem dL_acts_380 : decode cL_acts 380 = .ok (.goto 20, 3) := by decide +kernel
theorem dL_acts_383 : decode cL_acts 383 = .ok (.aload_n 0, 1) := by decide +kernel
theorem dL_acts_384 : decode cL_acts 384 = .ok (.ldc2_w 69, 3) := by decide +kernel
theorem dL_acts_387 : decode cL_acts 387 = .ok (.iload 7, 2) := by decide +kernel
theorem dL_acts_389 : decode cL_acts 389 = .ok (.bipush 8, 2) := by decide +kernel
theorem dL_acts_391 : decode cL_acts 391 = .ok (.idiv, 1) := by decide +kernel
theorem dL_acts_392 : decode cL_acts 392 = .ok (.bipush 8, 2) := by decide +kernel
theorem dL_acts_394 : decode cL_acts 394 = .ok (.irem, 1) := by decide +kernel
theorem dL_acts_395 : decode cL_acts 395 = .ok (.i2l, 1) := by decide +kernel
theorem dL_acts_396 : decode cL_acts 396 = .ok (.ladd, 1) := by decide +kernel
theorem dL_acts_397 : decode cL_acts 397 = .ok (.invokevirtual 53, 3) := by decide +kernel
theorem dL_acts_400 : decode cL_acts 400 = .ok (.istore 5, 2) := by decide +kernel
theorem dL_acts_402 : decode cL_acts 402 = .ok (.iload 8, 2) := by decide +kernel
theorem dL_acts_404 : decode cL_acts 404 = .ok (.iconst 5, 1) := by decide +kernel
theorem dL_acts_405 : decode cL_acts 405 = .ok (.if_icmp .eq 10, 3) := by decide +kernel
theorem dL_acts_408 : decode cL_acts 408 = .ok (.iload 8, 2) := by decide +kernel
theorem dL_acts_410 : decode cL_acts 410 = .ok (.bipush 6, 2) := by decide +kernel
theorem dL_acts_412 : decode cL_acts 412 = .ok (.if_icmp .ne 8, 3) := by decide +kernel
theorem dL_acts_415 : decode cL_acts 415 = .ok (.iload 5, 2) := by decide +kernel
theorem dL_acts_417 : decode cL_acts 417 = .ok (.goto 31, 3) := by decide +kernel
theorem dL_acts_420 : decode cL_acts 420 = .ok (.aload_n 0, 1) := by decide +kernel
theorem dL_acts_421 : decode cL_acts 421 = .ok (.ldc2_w 69, 3) := by decide +kernel
theorem dL_acts_424 : decode cL_acts 424 = .ok (.iload 7, 2) := by decide +kernel
theorem dL_acts_426 : decode cL_acts 426 = .ok (.bipush 8, 2) := by decide +kernel
theorem dL_acts_428 : decode cL_acts 428 = .ok (.idiv, 1) := by decide +kernel
theorem dL_acts_429 : decode cL_acts 429 = .ok (.iconst 1, 1) := by decide +kernel
theorem dL_acts_430 : decode cL_acts 430 = .ok (.iadd, 1) := by decide +kernel
theorem dL_acts_431 : decode cL_acts 431 = .ok (.iload 7, 2) := by decide +kernel
theorem dL_acts_433 : decode cL_acts 433 = .ok (.bipush 64, 2) := by decide +kernel
theorem dL_acts_435 : decode cL_acts 435 = .ok (.idiv, 1) := by decide +kernel
theorem dL_acts_436 : decode cL_acts 436 = .ok (.bipush 7, 2) := by decide +kernel
theorem dL_acts_438 : decode cL_acts 438 = .ok (.irem, 1) := by decide +kernel
theorem dL_acts_439 : decode cL_acts 439 = .ok (.iadd, 1) := by decide +kernel
theorem dL_acts_440 : decode cL_acts 440 = .ok (.bipush 8, 2) := by decide +kernel
theorem dL_acts_442 : decode cL_acts 442 = .ok (.irem, 1) := by decide +kernel
theorem dL_acts_443 : decode cL_acts 443 = .ok (.i2l, 1) := by decide +kernel
theorem dL_acts_444 : decode cL_acts 444 = .ok (.ladd, 1) := by decide +kernel
theorem dL_acts_445 : decode cL_acts 445 = .ok (.invokevirtual 53, 3) := by decide +kernel
theorem dL_acts_448 : decode cL_acts 448 = .ok (.istore 5, 2) := by decide +kernel
theorem dL_acts_450 : decode cL_acts 450 = .ok (.iinc 6 1, 3) := by decide +kernel
theorem dL_acts_453 : decode cL_acts 453 = .ok (.goto (-215), 3) := by decide +kernel
theorem dL_acts_456 : decode cL_acts 456 = .ok (.iload 5, 2) := by decide +kernel
theorem dL_acts_458 : decode cL_acts 458 = .ok (.iconst 1, 1) := by decide +kernel
theorem dL_acts_459 : decode cL_acts 459 = .ok (.if_icmp .lt 12, 3) := by decide +kernel
theorem dL_acts_462 : decode cL_acts 462 = .ok (.aload_n 0, 1) := by decide +kernel
theorem dL_acts_463 : decode cL_acts 463 = .ok (.invokevirtual 71, 3) := by decide +kernel
theorem dL_acts_466 : decode cL_acts 466 = .ok (.bipush (-6), 2) := by decide +kernel
theorem dL_acts_468 : decode cL_acts 468 = .ok (.if_icmp .eq 8, 3) := by decide +kernel
theorem dL_acts_471 : decode cL_acts 471 = .ok (.bipush (-9), 2) := by decide +kernel
theorem dL_acts_473 : decode cL_acts 473 = .ok (.goto 7, 3) := by decide +kernel
theorem dL_acts_476 : decode cL_acts 476 = .ok (.aload_n 0, 1) := by decide +kernel
theorem dL_acts_477 : decode cL_acts 477 = .ok (.invokevirtual 74, 3) := by decide +kernel
theorem dL_acts_480 : decode cL_acts 480 = .ok (.ireturn, 1) := by decide +kernel
theorem dL_acts_481 : decode cL_acts 481 = .ok (.aload_n 0, 1) := by decide +kernel
theorem dL_acts_482 : decode cL_acts 482 = .ok (.iconst 2, 1) := by decide +kernel
theorem dL_acts_483 : decode cL_acts 483 = .ok (.invokevirtual 23, 3) := by decide +kernel
theorem dL_acts_486 : decode cL_acts 486 = .ok (.ifCond .ne 19, 3) := by decide +kernel
theorem dL_acts_489 : decode cL_acts 489 = .ok (.iload_n 2, 1) := by decide +kernel
theorem dL_acts_490 : decode cL_acts 490 = .ok (.iconst 3, 1) := by decide +kernel
theorem dL_acts_491 : decode cL_acts 491 = .ok (.irem, 1) := by decide +kernel
theorem dL_acts_492 : decode cL_acts 492 = .ok (.ifCond .le 13, 3) := by decide +kernel
theorem dL_acts_495 : decode cL_acts 495 = .ok (.aload_n 0, 1) := by decide +kernel
theorem dL_acts_496 : decode cL_acts 496 = .ok (.iload_n 3, 1) := by decide +kernel
theorem dL_acts_497 : decode cL_acts 497 = .ok (.iload 4, 2) := by decide +kernel
theorem dL_acts_499 : decode cL_acts 499 = .ok (.invokevirtual 26, 3) := by decide +kernel
theorem dL_acts_502 : decode cL_acts 502 = .ok (.goto 16, 3) := by decide +kernel
theorem dL_acts_505 : decode cL_acts 505 = .ok (.aload_n 0, 1) := by decide +kernel
theorem dL_acts_506 : decode cL_acts 506 = .ok (.iload_n 3, 1) := by decide +kernel
theorem dL_acts_507 : decode cL_acts 507 = .ok (.iload 4, 2) := by decide +kernel
theorem dL_acts_509 : decode cL_acts 509 = .ok (.iload_n 2, 1) := by decide +kernel
theorem dL_acts_510 : decode cL_acts 510 = .ok (.bipush 64, 2) := by decide +kernel
theorem dL_acts_512 : decode cL_acts 512 = .ok (.idiv, 1) := by decide +kernel
theorem dL_acts_513 : decode cL_acts 513 = .ok (.iconst 2, 1) := by decide +kernel
theorem dL_acts_514 : decode cL_acts 514 = .ok (.irem, 1) := by decide +kernel
theorem dL_acts_515 : decode cL_acts 515 = .ok (.invokevirtual 77, 3) := by decide +kernel
theorem dL_acts_518 : decode cL_acts 518 = .ok (.ireturn, 1) := by decide +kernel
theorem dL_hangs_0 : decode cL_hangs 0 = .ok (.aload_n 0, 1) := by decide +kernel
theorem dL_hangs_1 : decode cL_hangs 1 = .ok (.iconst 2, 1) := by decide +kernel
theorem dL_hangs_2 : decode cL_hangs 2 = .ok (.invokevirtual 23, 3) := by decide +kernel
theorem dL_hangs_5 : decode cL_hangs 5 = .ok (.istore_n 1, 1) := by decide +kernel
theorem dL_hangs_6 : decode cL_hangs 6 = .ok (.aload_n 0, 1) := by decide +kernel
theorem dL_hangs_7 : decode cL_hangs 7 = .ok (.iconst 0, 1) := by decide +kernel
theorem dL_hangs_8 : decode cL_hangs 8 = .ok (.invokevirtual 23, 3) := by decide +kernel
theorem dL_hangs_11 : decode cL_hangs 11 = .ok (.istore_n 2, 1) := by decide +kernel
theorem dL_hangs_12 : decode cL_hangs 12 = .ok (.iload_n 1, 1) := by decide +kernel
theorem dL_hangs_13 : decode cL_hangs 13 = .ok (.ifCond .lt 46, 3) := by decide +kernel
theorem dL_hangs_16 : decode cL_hangs 16 = .ok (.iload_n 1, 1) := by decide +kernel
theorem dL_hangs_17 : decode cL_hangs 17 = .ok (.iconst 3, 1) := by decide +kernel
theorem dL_hangs_18 : decode cL_hangs 18 = .ok (.if_icmp .ge 41, 3) := by decide +kernel
theorem dL_hangs_21 : decode cL_hangs 21 = .ok (.iload_n 2, 1) := by decide +kernel
theorem dL_hangs_22 : decode cL_hangs 22 = .ok (.ifCond .lt 37, 3) := by decide +kernel
theorem dL_hangs_25 : decode cL_hangs 25 = .ok (.iload_n 2, 1) := by decide +kernel
theorem dL_hangs_26 : decode cL_hangs 26 = .ok (.sipush 150, 3) := by decide +kernel
theorem dL_hangs_29 : decode cL_hangs 29 = .ok (.if_icmp .gt 30, 3) := by decide +kernel
theorem dL_hangs_32 : decode cL_hangs 32 = .ok (.aload_n 0, 1) := by decide +kernel
theorem dL_hangs_33 : decode cL_hangs 33 = .ok (.iconst 1, 1) := by decide +kernel
theorem dL_hangs_34 : decode cL_hangs 34 = .ok (.invokevirtual 23, 3) := by decide +kernel
theorem dL_hangs_37 : decode cL_hangs 37 = .ok (.iload_n 2, 1) := by decide +kernel
theorem dL_hangs_38 : decode cL_hangs 38 = .ok (.iconst 3, 1) := by decide +kernel
theorem dL_hangs_39 : decode cL_hangs 39 = .ok (.irem, 1) := by decide +kernel
theorem dL_hangs_40 : decode cL_hangs 40 = .ok (.if_icmp .ne 19, 3) := by decide +kernel
theorem dL_hangs_43 : decode cL_hangs 43 = .ok (.iload_n 2, 1) := by decide +kernel
theorem dL_hangs_44 : decode cL_hangs 44 = .ok (.sipush 150, 3) := by decide +kernel
theorem dL_hangs_47 : decode cL_hangs 47 = .ok (.if_icmp .lt 8, 3) := by decide +kernel
theorem dL_hangs_50 : decode cL_hangs 50 = .ok (.iload_n 1, 1) := by decide +kernel
theorem dL_hangs_51 : decode cL_hangs 51 = .ok (.iconst 2, 1) := by decide +kernel
theorem dL_hangs_52 : decode cL_hangs 52 = .ok (.if_icmp .ne 7, 3) := by decide +kernel
theorem dL_hangs_55 : decode cL_hangs 55 = .ok (.iconst 1, 1) := by decide +kernel
theorem dL_hangs_56 : decode cL_hangs 56 = .ok (.goto 4, 3) := by decide +kernel
theorem dL_hangs_59 : decode cL_hangs 59 = .ok (.iconst 0, 1) := by decide +kernel
theorem dL_hangs_60 : decode cL_hangs 60 = .ok (.istore_n 3, 1) := by decide +kernel
theorem dL_hangs_61 : decode cL_hangs 61 = .ok (.iconst 0, 1) := by decide +kernel
theorem dL_hangs_62 : decode cL_hangs 62 = .ok (.istore 4, 2) := by decide +kernel
theorem dL_hangs_64 : decode cL_hangs 64 = .ok (.iconst 0, 1) := by decide +kernel
theorem dL_hangs_65 : decode cL_hangs 65 = .ok (.istore 5, 2) := by decide +kernel
theorem dL_hangs_67 : decode cL_hangs 67 = .ok (.iconst 0, 1) := by decide +kernel
theorem dL_hangs_68 : decode cL_hangs 68 = .ok (.istore 6, 2) := by decide +kernel
theorem dL_hangs_70 : decode cL_hangs 70 = .ok (.iconst 0, 1) := by decide +kernel
theorem dL_hangs_71 : decode cL_hangs 71 = .ok (.istore 7, 2) := by decide +kernel
theorem dL_hangs_73 : decode cL_hangs 73 = .ok (.iconst 0, 1) := by decide +kernel
theorem dL_hangs_74 : decode cL_hangs 74 = .ok (.istore 8, 2) := by decide +kernel
theorem dL_hangs_76 : decode cL_hangs 76 = .ok (.iconst 0, 1) := by decide +kernel
theorem dL_hangs_77 : decode cL_hangs 77 = .ok (.istore 9, 2) := by decide +kernel
theorem dL_hangs_79 : decode cL_hangs 79 = .ok (.iconst 0, 1) := by decide +kernel
theorem dL_hangs_80 : decode cL_hangs 80 = .ok (.istore 10, 2) := by decide +kernel
theorem dL_hangs_82 : decode cL_hangs 82 = .ok (.iconst 0, 1) := by decide +kernel
theorem dL_hangs_83 : decode cL_hangs 83 = .ok (.istore 11, 2) := by decide +kernel
theorem dL_hangs_85 : decode cL_hangs 85 = .ok (.iload 11, 2) := by decide +kernel
theorem dL_hangs_87 : decode cL_hangs 87 = .ok (.bipush 8, 2) := by decide +kernel
theorem dL_hangs_89 : decode cL_hangs 89 = .ok (.if_icmp .ge 694, 3) := by decide +kernel
theorem dL_hangs_92 : decode cL_hangs 92 = .ok (.iload_n 3, 1) := by decide +kernel
theorem dL_hangs_93 : decode cL_hangs 93 = .ok (.ifCond .eq 690, 3) := by decide +kernel
theorem dL_hangs_96 : decode cL_hangs 96 = .ok (.iconst 0, 1) := by decide +kernel
theorem dL_hangs_97 : decode cL_hangs 97 = .ok (.istore 12, 2) := by decide +kernel
theorem dL_hangs_99 : decode cL_hangs 99 = .ok (.iconst 0, 1) := by decide +kernel
theorem dL_hangs_100 : decode cL_hangs 100 = .ok (.istore 13, 2) := by decide +kernel
theorem dL_hangs_102 : decode cL_hangs 102 = .ok (.iconst 0, 1) := by decide +kernel
theorem dL_hangs_103 : decode cL_hangs 103 = .ok (.istore 14, 2) := by decide +kernel
theorem dL_hangs_105 : decode cL_hangs 105 = .ok (.iconst 0, 1) := by decide +kernel
theorem dL_hangs_106 : decode cL_hangs 106 = .ok (.istore 15, 2) := by decide +kernel
theorem dL_hangs_108 : decode cL_hangs 108 = .ok (.iload 15, 2) := by decide +kernel
theorem dL_hangs_110 : decode cL_hangs 110 = .ok (.bipush 8, 2) := by decide +kernel
theorem dL_hangs_112 : decode cL_hangs 112 = .ok (.if_icmp .ge 487, 3) := by decide +kernel
theorem dL_hangs_115 : decode cL_hangs 115 = .ok (.iload_n 3, 1) := by decide +kernel
theorem dL_hangs_116 : decode cL_hangs 116 = .ok (.ifCond .eq 483, 3) := by decide +kernel
theorem dL_hangs_119 : decode cL_hangs 119 = .ok (.iload 11, 2) := by decide +kernel
theorem dL_hangs_121 : decode cL_hangs 121 = .ok (.iload 15, 2) := by decide +kernel
theorem dL_hangs_123 : decode cL_hangs 123 = .ok (.if_icmp .eq 470, 3) := by decide +kernel
theorem dL_hangs_126 : decode cL_hangs 126 = .ok (.aload_n 0, 1) := by decide +kernel
theorem dL_hangs_127 : decode cL_hangs 127 = .ok (.iload 11, 2) := by decide +kernel
theorem dL_hangs_129 : decode cL_hangs 129 = .ok (.iload 15, 2) := by decide +kernel
theorem dL_hangs_131 : decode cL_hangs 131 = .ok (.iconst 0, 1) := by decide +kernel
theorem dL_hangs_132 : decode cL_hangs 132 = .ok (.invokevirtual 80, 3) := by decide +kernel
theorem dL_hangs_135 : decode cL_hangs 135 = .ok (.istore 16, 2) := by decide +kernel
theorem dL_hangs_137 : decode cL_hangs 137 = .ok (.aload_n 0, 1) := by decide +kernel
theorem dL_hangs_138 : decode cL_hangs 138 = .ok (.iload 11, 2) := by decide +kernel
theorem dL_hangs_140 : decode cL_hangs 140 = .ok (.iload 15, 2) := by decide +kernel
theorem dL_hangs_142 : decode cL_hangs 142 = .ok (.iconst 3, 1) := by decide +kernel
theorem dL_hangs_143 : decode cL_hangs 143 = .ok (.invokevirtual 80, 3) := by decide +kernel
theorem dL_hangs_146 : decode cL_hangs 146 = .ok (.istore 17, 2) := by decide +kernel
theorem dL_hangs_148 : decode cL_hangs 148 = .ok (.aload_n 0, 1) := by decide +kernel
theorem dL_hangs_149 : decode cL_hangs 149 = .ok (.iload 11, 2) := by decide +kernel
theorem dL_hangs_151 : decode cL_hangs 151 = .ok (.iload 15, 2) := by decide +kernel
theorem dL_hangs_153 : decode cL_hangs 153 = .ok (.iconst 4, 1) := by decide +kernel
theorem dL_hangs_154 : decode cL_hangs 154 = .ok (.invokevirtual 80, 3) := by decide +kernel
theorem dL_hangs_157 : decode cL_hangs 157 = .ok (.istore 18, 2) := by decide +kernel
theorem dL_hangs_159 : decode cL_hangs 159 = .ok (.aload_n 0, 1) := by decide +kernel
theorem dL_hangs_160 : decode cL_hangs 160 = .ok (.iload 11, 2) := by decide +kernel
theorem dL_hangs_162 : decode cL_hangs 162 = .ok (.iload 15, 2) := by decide +kernel
theorem dL_hangs_164 : decode cL_hangs 164 = .ok (.iconst 5, 1) := by decide +kernel
theorem dL_hangs_165 : decode cL_hangs 165 = .ok (.invokevirtual 80, 3) := by decide +kernel
theorem dL_hangs_168 : decode cL_hangs 168 = .ok (.istore 19, 2) := by decide +kernel
theorem dL_hangs_170 : decode cL_hangs 170 = .ok (.aload_n 0, 1) := by decide +kernel
theorem dL_hangs_171 : decode cL_hangs 171 = .ok (.iload 16, 2) := by decide +kernel
theorem dL_hangs_173 : decode cL_hangs 173 = .ok (.iconst 3, 1) := by decide +kernel
theorem dL_hangs_174 : decode cL_hangs 174 = .ok (.irem, 1) := by decide +kernel
theorem dL_hangs_175 : decode cL_hangs 175 = .ok (.iload 11, 2) := by decide +kernel
theorem dL_hangs_177 : decode cL_hangs 177 = .ok (.iload 15, 2) := by decide +kernel
theorem dL_hangs_179 : decode cL_hangs 179 = .ok (.invokevirtual 83, 3) := by decide +kernel
theorem dL_hangs_182 : decode cL_hangs 182 = .ok (.istore 20, 2) := by decide +kernel
theorem dL_hangs_184 : decode cL_hangs 184 = .ok (.iload 16, 2) := by decide +kernel
theorem dL_hangs_186 : decode cL_hangs 186 = .ok (.ifCond .lt 170, 3) := by decide +kernel
theorem dL_hangs_189 : decode cL_hangs 189 = .ok (.iload 16, 2) := by decide +kernel
theorem dL_hangs_191 : decode cL_hangs 191 = .ok (.bipush 28, 2) := by decide +kernel
theorem dL_hangs_193 : decode cL_hangs 193 = .ok (.if_icmp .ge 163, 3) := by decide +kernel
theorem dL_hangs_196 : decode cL_hangs 196 = .ok (.aload_n 0, 1) := by decide +kernel
theorem dL_hangs_197 : decode cL_hangs 197 = .ok (.iload 15, 2) := by decide +kernel
theorem dL_hangs_199 : decode cL_hangs 199 = .ok (.iload 11, 2) := by decide +kernel
theorem dL_hangs_201 : decode cL_hangs 201 = .ok (.iconst 0, 1) := by decide +kernel
theorem dL_hangs_202 : decode cL_hangs 202 = .ok (.invokevirtual 80, 3) := by decide +kernel
theorem dL_hangs_205 : decode cL_hangs 205 = .ok (.iload 16, 2) := by decide +kernel
theorem dL_hangs_207 : decode cL_hangs 207 = .ok (.if_icmp .ne 149, 3) := by decide +kernel
theorem dL_hangs_210 : decode cL_hangs 210 = .ok (.aload_n 0, 1) := by decide +kernel
theorem dL_hangs_211 : decode cL_hangs 211 = .ok (.iload 11, 2) := by decide +kernel
theorem dL_hangs_213 : decode cL_hangs 213 = .ok (.iload 15, 2) := by decide +kernel
theorem dL_hangs_215 : decode cL_hangs 215 = .ok (.iconst 1, 1) := by decide +kernel
theorem dL_hangs_216 : decode cL_hangs 216 = .ok (.invokevirtual 80, 3) := by decide +kernel
theorem dL_hangs_219 : decode cL_hangs 219 = .ok (.iload 16, 2) := by decide +kernel
theorem dL_hangs_221 : decode cL_hangs 221 = .ok (.iconst 3, 1) := by decide +kernel
theorem dL_hangs_222 : decode cL_hangs 222 = .ok (.irem, 1) := by decide +kernel
theorem dL_hangs_223 : decode cL_hangs 223 = .ok (.if_icmp .ne 133, 3) := by decide +kernel
theorem dL_hangs_226 : decode cL_hangs 226 = .ok (.iload 18, 2) := by decide +kernel
theorem dL_hangs_228 : decode cL_hangs 228 = .ok (.iload 19, 2) := by decide +kernel
theorem dL_hangs_230 : decode cL_hangs 230 = .ok (.iand, 1) := by decide +kernel
theorem dL_hangs_231 : decode cL_hangs 231 = .ok (.ifCond .ne 125, 3) := by decide +kernel
theorem dL_hangs_234 : decode cL_hangs 234 = .ok (.iload 18, 2) := by decide +kernel
theorem dL_hangs_236 : decode cL_hangs 236 = .ok (.ifCond .lt 120, 3) := by decide +kernel
theorem dL_hangs_239 : decode cL_hangs 239 = .ok (.iload 18, 2) := by decide +kernel
theorem dL_hangs_241 : decode cL_hangs 241 = .ok (.bipush 8, 2) := by decide +kernel
theorem dL_hangs_243 : decode cL_hangs 243 = .ok (.if_icmp .ge 113, 3) := by decide +kernel
theorem dL_hangs_246 : decode cL_hangs 246 = .ok (.iload 19, 2) := by decide +kernel
theorem dL_hangs_248 : decode cL_hangs 248 = .ok (.ifCond .lt 108, 3) := by decide +kernel
theorem dL_hangs_251 : decode cL_hangs 251 = .ok (.iload 19, 2) := by decide +kernel
theorem dL_hangs_253 : decode cL_hangs 253 = .ok (.bipush 8, 2) := by decide +kernel
theorem dL_hangs_255 : decode cL_hangs 255 = .ok (.if_icmp .ge 101, 3) := by decide +kernel
theorem dL_hangs_258 : decode cL_hangs 258 = .ok (.iload 20, 2) := by decide +kernel
theorem dL_hangs_260 : decode cL_hangs 260 = .ok (.ifCond .eq 9, 3) := by decide +kernel
theorem dL_hangs_263 : decode cL_hangs 263 = .ok (.iload 20, 2) := by decide +kernel
theorem dL_hangs_265 : decode cL_hangs 265 = .ok (.iconst 1, 1) := by decide +kernel
theorem dL_hangs_266 : decode cL_hangs 266 = .ok (.if_icmp .ne 90, 3) := by decide +kernel
theorem dL_hangs_269 : decode cL_hangs 269 = .ok (.iload 17, 2) := by decide +kernel
theorem dL_hangs_271 : decode cL_hangs 271 = .ok (.bipush (-6), 2) := by decide +kernel
theorem dL_hangs_273 : decode cL_hangs 273 = .ok (.if_icmp .eq 10, 3) := by decide +kernel
theorem dL_hangs_276 : decode cL_hangs 276 = .ok (.iload 17, 2) := by decide +kernel
theorem dL_hangs_278 : decode cL_hangs 278 = .ok (.iload 20, 2) := by decide +kernel
theorem dL_hangs_280 : decode cL_hangs 280 = .ok (.if_icmp .ne 76, 3) := by decide +kernel
theorem dL_hangs_283 : decode cL_hangs 283 = .ok (.aload_n 0, 1) := by decide +kernel
theorem dL_hangs_284 : decode cL_hangs 284 = .ok (.iload 11, 2) := by decide +kernel
theorem dL_hangs_286 : decode cL_hangs 286 = .ok (.iload 15, 2) := by decide +kernel
theorem dL_hangs_288 : decode cL_hangs 288 = .ok (.iconst 2, 1) := by decide +kernel
theorem dL_hangs_289 : decode cL_hangs 289 = .ok (.invokevirtual 80, 3) := by decide +kernel
theorem dL_hangs_292 : decode cL_hangs 292 = .ok (.ifCond .eq 8, 3) := by decide +kernel
theorem dL_hangs_295 : decode cL_hangs 295 = .ok (.iload 17, 2) := by decide +kernel
theorem dL_hangs_297 : decode cL_hangs 297 = .ok (.ifCond .lt 59, 3) := by decide +kernel
theorem dL_hangs_300 : decode cL_hangs 300 = .ok (.aload_n 0, 1) := by decide +kernel
theorem dL_hangs_301 : decode cL_hangs 301 = .ok (.iload 16, 2) := by decide +kernel
theorem dL_hangs_303 : decode cL_hangs 303 = .ok (.iconst 1, 1) := by decide +kernel
theorem dL_hangs_304 : decode cL_hangs 304 = .ok (.iadd, 1) := by decide +kernel
theorem dL_hangs_305 : decode cL_hangs 305 = .ok (.iconst 3, 1) := by decide +kernel
theorem dL_hangs_306 : decode cL_hangs 306 = .ok (.irem, 1) := by decide +kernel
theorem dL_hangs_307 : decode cL_hangs 307 = .ok (.iload 11, 2) := by decide +kernel
theorem dL_hangs_309 : decode cL_hangs 309 = .ok (.iload 15, 2) := by decide +kernel
theorem dL_hangs_311 : decode cL_hangs 311 = .ok (.invokevirtual 83, 3) := by decide +kernel
theorem dL_hangs_314 : decode cL_hangs 314 = .ok (.iload 17, 2) := by decide +kernel
theorem dL_hangs_316 : decode cL_hangs 316 = .ok (.if_icmp .ne 40, 3) := by decide +kernel
theorem dL_hangs_319 : decode cL_hangs 319 = .ok (.iload_n 1, 1) := by decide +kernel
theorem dL_hangs_320 : decode cL_hangs 320 = .ok (.ifCond .eq 32, 3) := by decide +kernel
theorem dL_hangs_323 : decode cL_hangs 323 = .ok (.aload_n 0, 1) := by decide +kernel
theorem dL_hangs_324 : decode cL_hangs 324 = .ok (.iload 11, 2) := by decide +kernel
theorem dL_hangs_326 : decode cL_hangs 326 = .ok (.iload 15, 2) := by decide +kernel
theorem dL_hangs_328 : decode cL_hangs 328 = .ok (.invokevirtual 86, 3) := by decide +kernel
theorem dL_hangs_331 : decode cL_hangs 331 = .ok (.ifCond .ne 7, 3) := by decide +kernel
theorem dL_hangs_334 : decode cL_hangs 334 = .ok (.iconst 1, 1) := by decide +kernel
theorem dL_hangs_335 : decode cL_hangs 335 = .ok (.goto 4, 3) := by decide +kernel
theorem dL_hangs_338 : decode cL_hangs 338 = .ok (.iconst 0, 1) := by decide +kernel
theorem dL_hangs_339 : decode cL_hangs 339 = .ok (.iload 17, 2) := by decide +kernel
theorem dL_hangs_341 : decode cL_hangs 341 = .ok (.ifCond .lt 7, 3) := by decide +kernel
theorem dL_hangs_344 : decode cL_hangs 344 = .ok (.iconst 1, 1) := by decide +kernel
theorem dL_hangs_345 : decode cL_hangs 345 = .ok (.goto 4, 3) := by decide +kernel
theorem dL_hangs_348 : decode cL_hangs 348 = .ok (.iconst 0, 1) := by decide +kernel
theorem dL_hangs_349 : decode cL_hangs 349 = .ok (.if_icmp .ne 7, 3) := by decide +kernel
theorem dL_hangs_352 : decode cL_hangs 352 = .ok (.iconst 1, 1) := by decide +kernel
theorem dL_hangs_353 : decode cL_hangs 353 = .ok (.goto 4, 3) := by decide +kernel
theorem dL_hangs_356 : decode cL_hangs 356 = .ok (.iconst 0, 1) := by decide +kernel
theorem dL_hangs_357 : decode cL_hangs 357 = .ok (.istore_n 3, 1) := by decide +kernel
theorem dL_hangs_358 : decode cL_hangs 358 = .ok (.iload 12, 2) := by decide +kernel
theorem dL_hangs_360 : decode cL_hangs 360 = .ok (.iload 17, 2) := by decide +kernel
theorem dL_hangs_362 : decode cL_hangs 362 = .ok (.iconst 1, 1) := by decide +kernel
theorem dL_hangs_363 : decode cL_hangs 363 = .ok (.if_icmp .ne 7, 3) := by decide +kernel
theorem dL_hangs_366 : decode cL_hangs 366 = .ok (.iconst 1, 1) := by decide +kernel
theorem dL_hangs_367 : decode cL_hangs 367 = .ok (.goto 4, 3) := by decide +kernel
theorem dL_hangs_370 : decode cL_hangs 370 = .ok (.iconst 0, 1) := by decide +kernel
theorem dL_hangs_371 : decode cL_hangs 371 = .ok (.iadd, 1) := by decide +kernel
theorem dL_hangs_372 : decode cL_hangs 372 = .ok (.istore 12, 2) := by decide +kernel
theorem dL_hangs_374 : decode cL_hangs 374 = .ok (.iload 13, 2) := by decide +kernel
theorem dL_hangs_376 : decode cL_hangs 376 = .ok (.iload 17, 2) := by decide +kernel
theorem dL_hangs_378 : decode cL_hangs 378 = .ok (.bipush (-6), 2) := by decide +kernel
theorem dL_hangs_380 : decode cL_hangs 380 = .ok (.if_icmp .ne 7, 3) := by decide +kernel
theorem dL_hangs_383 : decode cL_hangs 383 = .ok (.iconst 1, 1) := by decide +kernel
theorem dL_hangs_384 : decode cL_hangs 384 = .ok (.goto 4, 3) := by decide +kernel
theorem dL_hangs_387 : decode cL_hangs 387 = .ok (.iconst 0, 1) := by decide +kernel
theorem dL_hangs_388 : decode cL_hangs 388 = .ok (.iadd, 1) := by decide +kernel
theorem dL_hangs_389 : decode cL_hangs 389 = .ok (.istore 13, 2) := by decide +kernel
theorem dL_hangs_391 : decode cL_hangs 391 = .ok (.iload 14, 2) := by decide +kernel
theorem dL_hangs_393 : decode cL_hangs 393 = .ok (.iload 17, 2) := by decide +kernel
theorem dL_hangs_395 : decode cL_hangs 395 = .ok (.iconst 1, 1) := by decide +kernel
theorem dL_hangs_396 : decode cL_hangs 396 = .ok (.if_icmp .ne 10, 3) := by decide +kernel
theorem dL_hangs_399 : decode cL_hangs 399 = .ok (.iconst 1, 1) := by decide +kernel
theorem dL_hangs_400 : decode cL_hangs 400 = .ok (.iload 15, 2) := by decide +kernel
theorem dL_hangs_402 : decode cL_hangs 402 = .ok (.ishl, 1) := by decide +kernel
theorem dL_hangs_403 : decode cL_hangs 403 = .ok (.goto 4, 3) := by decide +kernel
theorem dL_hangs_406 : decode cL_hangs 406 = .ok (.iconst 0, 1) := by decide +kernel
theorem dL_hangs_407 : decode cL_hangs 407 = .ok (.ior, 1) := by decide +kernel
theorem dL_hangs_408 : decode cL_hangs 408 = .ok (.istore 14, 2) := by decide +kernel
theorem dL_hangs_410 : decode cL_hangs 410 = .ok (.iload 10, 2) := by decide +kernel
theorem dL_hangs_412 : decode cL_hangs 412 = .ok (.iload 20, 2) := by decide +kernel
theorem dL_hangs_414 : decode cL_hangs 414 = .ok (.iadd, 1) := by decide +kernel
theorem dL_hangs_415 : decode cL_hangs 415 = .ok (.istore 10, 2) := by decide +kernel
theorem dL_hangs_417 : decode cL_hangs 417 = .ok (.iload 4, 2) := by decide +kernel
theorem dL_hangs_419 : decode cL_hangs 419 = .ok (.iload 11, 2) := by decide +kernel
theorem dL_hangs_421 : decode cL_hangs 421 = .ok (.iload 15, 2) := by decide +kernel
theorem dL_hangs_423 : decode cL_hangs 423 = .ok (.if_icmp .ge 12, 3) := by decide +kernel
theorem dL_hangs_426 : decode cL_hangs 426 = .ok (.iload 17, 2) := by decide +kernel
theorem dL_hangs_428 : decode cL_hangs 428 = .ok (.ifCond .lt 7, 3) := by decide +kernel
theorem dL_hangs_431 : decode cL_hangs 431 = .ok (.iconst 1, 1) := by decide +kernel
theorem dL_hangs_432 : decode cL_hangs 432 = .ok (.goto 4, 3) := by decide +kernel
theorem dL_hangs_435 : decode cL_hangs 435 = .ok (.iconst 0, 1) := by decide +kernel
theorem dL_hangs_436 : decode cL_hangs 436 = .ok (.iadd, 1) := by decide +kernel
theorem dL_hangs_437 : decode cL_hangs 437 = .ok (.istore 4, 2) := by decide +kernel
theorem dL_hangs_439 : decode cL_hangs 439 = .ok (.iload 5, 2) := by decide +kernel
theorem dL_hangs_441 : decode cL_hangs 441 = .ok (.iload 11, 2) := by decide +kernel
theorem dL_hangs_443 : decode cL_hangs 443 = .ok (.iload 15, 2) := by decide +kernel
theorem dL_hangs_445 : decode cL_hangs 445 = .ok (.if_icmp .ge 13, 3) := by decide +kernel
theorem dL_hangs_448 : decode cL_hangs 448 = .ok (.iload 17, 2) := by decide +kernel
theorem dL_hangs_450 : decode cL_hangs 450 = .ok (.iconst 1, 1) := by decide +kernel
theorem dL_hangs_451 : decode cL_hangs 451 = .ok (.if_icmp .ne 7, 3) := by decide +kernel
theorem dL_hangs_454 : decode cL_hangs 454 = .ok (.iconst 1, 1) := by decide +kernel
theorem dL_hangs_455 : decode cL_hangs 455 = .ok (.goto 4, 3) := by decide +kernel
theorem dL_hangs_458 : decode cL_hangs 458 = .ok (.iconst 0, 1) := by decide +kernel
theorem dL_hangs_459 : decode cL_hangs 459 = .ok (.iadd, 1) := by decide +kernel
theorem dL_hangs_460 : decode cL_hangs 460 = .ok (.istore 5, 2) := by decide +kernel
theorem dL_hangs_462 : decode cL_hangs 462 = .ok (.iload 6, 2) := by decide +kernel
theorem dL_hangs_464 : decode cL_hangs 464 = .ok (.iload 11, 2) := by decide +kernel
theorem dL_hangs_466 : decode cL_hangs 466 = .ok (.iload 15, 2) := by decide +kernel
theorem dL_hangs_468 : decode cL_hangs 468 = .ok (.if_icmp .ge 15, 3) := by decide +kernel
theorem dL_hangs_471 : decode cL_hangs 471 = .ok (.aload_n 0, 1) := by decide +kernel
theorem dL_hangs_472 : decode cL_hangs 472 = .ok (.iload 11, 2) := by decide +kernel
theorem dL_hangs_474 : decode cL_hangs 474 = .ok (.iload 15, 2) := by decide +kernel
theorem dL_hangs_476 : decode cL_hangs 476 = .ok (.iconst 2, 1) := by decide +kernel
theorem dL_hangs_477 : decode cL_hangs 477 = .ok (.invokevirtual 80, 3) := by decide +kernel
theorem dL_hangs_480 : decode cL_hangs 480 = .ok (.goto 4, 3) := by decide +kernel
theorem dL_hangs_483 : decode cL_hangs 483 = .ok (.iconst 0, 1) := by decide +kernel
theorem dL_hangs_484 : decode cL_hangs 484 = .ok (.iadd, 1) := by decide +kernel
theorem dL_hangs_485 : decode cL_hangs 485 = .ok (.istore 6, 2) := by decide +kernel
theorem dL_hangs_487 : decode cL_hangs 487 = .ok (.iconst 0, 1) := by decide +kernel
theorem dL_hangs_488 : decode cL_hangs 488 = .ok (.istore 21, 2) := by decide +kernel
theorem dL_hangs_490 : decode cL_hangs 490 = .ok (.iload 21, 2) := by decide +kernel
theorem dL_hangs_492 : decode cL_hangs 492 = .ok (.iconst 3, 1) := by decide +kernel
theorem dL_hangs_493 : decode cL_hangs 493 = .ok (.if_icmp .ge 40, 3) := by decide +kernel
theorem dL_hangs_496 : decode cL_hangs 496 = .ok (.iload 7, 2) := by decide +kernel
theorem dL_hangs_498 : decode cL_hangs 498 = .ok (.iload 11, 2) := by decide +kernel
theorem dL_hangs_500 : decode cL_hangs 500 = .ok (.iload 15, 2) := by decide +kernel
theorem dL_hangs_502 : decode cL_hangs 502 = .ok (.if_icmp .ge 21, 3) := by decide +kernel
theorem dL_hangs_505 : decode cL_hangs 505 = .ok (.iload 18, 2) := by decide +kernel
theorem dL_hangs_507 : decode cL_hangs 507 = .ok (.iload 19, 2) := by decide +kernel
theorem dL_hangs_509 : decode cL_hangs 509 = .ok (.ior, 1) := by decide +kernel
theorem dL_hangs_510 : decode cL_hangs 510 = .ok (.iload 21, 2) := by decide +kernel
theorem dL_hangs_512 : decode cL_hangs 512 = .ok (.ishr, 1) := by decide +kernel
theorem dL_hangs_513 : decode cL_hangs 513 = .ok (.iconst 1, 1) := by decide +kernel
theorem dL_hangs_514 : decode cL_hangs 514 = .ok (.iand, 1) := by decide +kernel
theorem dL_hangs_515 : decode cL_hangs 515 = .ok (.iconst 1, 1) := by decide +kernel
theorem dL_hangs_516 : decode cL_hangs 516 = .ok (.if_icmp .ne 7, 3) := by decide +kernel
theorem dL_hangs_519 : decode cL_hangs 519 = .ok (.iconst 1, 1) := by decide +kernel
theorem dL_hangs_520 : decode cL_hangs 520 = .ok (.goto 4, 3) := by decide +kernel
theorem dL_hangs_523 : decode cL_hangs 523 = .ok (.iconst 0, 1) := by decide +kernel
theorem dL_hangs_524 : decode cL_hangs 524 = .ok (.iadd, 1) := by decide +kernel
theorem dL_hangs_525 : decode cL_hangs 525 = .ok (.istore 7, 2) := by decide +kernel
theorem dL_hangs_527 : decode cL_hangs 527 = .ok (.iinc 21 1, 3) := by decide +kernel
theorem dL_hangs_530 : decode cL_hangs 530 = .ok (.goto (-40), 3) := by decide +kernel
theorem dL_hangs_533 : decode cL_hangs 533 = .ok (.iload_n 3, 1) := by decide +kernel
theorem dL_hangs_534 : decode cL_hangs 534 = .ok (.ifCond .eq 57, 3) := by decide +kernel
theorem dL_hangs_537 : decode cL_hangs 537 = .ok (.aload_n 0, 1) := by decide +kernel
theorem dL_hangs_538 : decode cL_hangs 538 = .ok (.iload 11, 2) := by decide +kernel
theorem dL_hangs_540 : decode cL_hangs 540 = .ok (.iload 15, 2) := by decide +kernel
theorem dL_hangs_542 : decode cL_hangs 542 = .ok (.invokevirtual 89, 3) := by decide +kernel
theorem dL_hangs_545 : decode cL_hangs 545 = .ok (.iconst 1, 1) := by decide +kernel
theorem dL_hangs_546 : decode cL_hangs 546 = .ok (.if_icmp .ne 7, 3) := by decide +kernel
theorem dL_hangs_549 : decode cL_hangs 549 = .ok (.iconst 1, 1) := by decide +kernel
theorem dL_hangs_550 : decode cL_hangs 550 = .ok (.goto 4, 3) := by decide +kernel
theorem dL_hangs_553 : decode cL_hangs 553 = .ok (.iconst 0, 1) := by decide +kernel
theorem dL_hangs_554 : decode cL_hangs 554 = .ok (.iload 17, 2) := by decide +kernel
theorem dL_hangs_556 : decode cL_hangs 556 = .ok (.iconst 1, 1) := by decide +kernel
theorem dL_hangs_557 : decode cL_hangs 557 = .ok (.if_icmp .ne 7, 3) := by decide +kernel
theorem dL_hangs_560 : decode cL_hangs 560 = .ok (.iconst 1, 1) := by decide +kernel
theorem dL_hangs_561 : decode cL_hangs 561 = .ok (.goto 4, 3) := by decide +kernel
theorem dL_hangs_564 : decode cL_hangs 564 = .ok (.iconst 0, 1) := by decide +kernel
theorem dL_hangs_565 : decode cL_hangs 565 = .ok (.if_icmp .ne 26, 3) := by decide +kernel
theorem dL_hangs_568 : decode cL_hangs 568 = .ok (.aload_n 0, 1) := by decide +kernel
theorem dL_hangs_569 : decode cL_hangs 569 = .ok (.iload 11, 2) := by decide +kernel
theorem dL_hangs_571 : decode cL_hangs 571 = .ok (.iload 15, 2) := by decide +kernel
theorem dL_hangs_573 : decode cL_hangs 573 = .ok (.invokevirtual 89, 3) := by decide +kernel
theorem dL_hangs_576 : decode cL_hangs 576 = .ok (.aload_n 0, 1) := by decide +kernel
theorem dL_hangs_577 : decode cL_hangs 577 = .ok (.iload 15, 2) := by decide +kernel
theorem dL_hangs_579 : decode cL_hangs 579 = .ok (.iload 11, 2) := by decide +kernel
theorem dL_hangs_581 : decode cL_hangs 581 = .ok (.invokevirtual 89, 3) := by decide +kernel
theorem dL_hangs_584 : decode cL_hangs 584 = .ok (.if_icmp .ne 7, 3) := by decide +kernel
theorem dL_hangs_587 : decode cL_hangs 587 = .ok (.iconst 1, 1) := by decide +kernel
theorem dL_hangs_588 : decode cL_hangs 588 = .ok (.goto 4, 3) := by decide +kernel
theorem dL_hangs_591 : decode cL_hangs 591 = .ok (.iconst 0, 1) := by decide +kernel
theorem dL_hangs_592 : decode cL_hangs 592 = .ok (.istore_n 3, 1) := by decide +kernel
theorem dL_hangs_593 : decode cL_hangs 593 = .ok (.iinc 15 1, 3) := by decide +kernel
theorem dL_hangs_596 : decode cL_hangs 596 = .ok (.goto (-488), 3) := by decide +kernel
theorem dL_hangs_599 : decode cL_hangs 599 = .ok (.aload_n 0, 1) := by decide +kernel
theorem dL_hangs_600 : decode cL_hangs 600 = .ok (.iload 11, 2) := by decide +kernel
theorem dL_hangs_602 : decode cL_hangs 602 = .ok (.iconst 0, 1) := by decide +kernel
theorem dL_hangs_603 : decode cL_hangs 603 = .ok (.invokevirtual 92, 3) := by decide +kernel
theorem dL_hangs_606 : decode cL_hangs 606 = .ok (.istore 15, 2) := by decide +kernel
theorem dL_hangs_608 : decode cL_hangs 608 = .ok (.aload_n 0, 1) := by decide +kernel
theorem dL_hangs_609 : decode cL_hangs 609 = .ok (.iload 11, 2) := by decide +kernel
theorem dL_hangs_611 : decode cL_hangs 611 = .ok (.iconst 3, 1) := by decide +kernel
theorem dL_hangs_612 : decode cL_hangs 612 = .ok (.invokevirtual 92, 3) := by decide +kernel
theorem dL_hangs_615 : decode cL_hangs 615 = .ok (.istore 16, 2) := by decide +kernel
theorem dL_hangs_617 : decode cL_hangs 617 = .ok (.iload_n 3, 1) := by decide +kernel
theorem dL_hangs_618 : decode cL_hangs 618 = .ok (.ifCond .eq 135, 3) := by decide +kernel
theorem dL_hangs_621 : decode cL_hangs 621 = .ok (.iload_n 1, 1) := by decide +kernel
theorem dL_hangs_622 : decode cL_hangs 622 = .ok (.ifCond .ne 25, 3) := by decide +kernel
theorem dL_hangs_625 : decode cL_hangs 625 = .ok (.iload 15, 2) := by decide +kernel
theorem dL_hangs_627 : decode cL_hangs 627 = .ok (.bipush (-6), 2) := by decide +kernel
theorem dL_hangs_629 : decode cL_hangs 629 = .ok (.if_icmp .ne 124, 3) := by decide +kernel
theorem dL_hangs_632 : decode cL_hangs 632 = .ok (.iload 4, 2) := by decide +kernel
theorem dL_hangs_634 : decode cL_hangs 634 = .ok (.ifCond .ne 119, 3) := by decide +kernel
theorem dL_hangs_637 : decode cL_hangs 637 = .ok (.iload 16, 2) := by decide +kernel
theorem dL_hangs_639 : decode cL_hangs 639 = .ok (.bipush (-6), 2) := by decide +kernel
theorem dL_hangs_641 : decode cL_hangs 641 = .ok (.if_icmp .ne 112, 3) := by decide +kernel
theorem dL_hangs_644 : decode cL_hangs 644 = .ok (.goto 46, 3) := by decide +kernel
theorem dL_hangs_647 : decode cL_hangs 647 = .ok (.iload 15, 2) := by decide +kernel
theorem dL_hangs_649 : decode cL_hangs 649 = .ok (.iload 12, 2) := by decide +kernel
theorem dL_hangs_651 : decode cL_hangs 651 = .ok (.if_icmp .lt 102, 3) := by decide +kernel
theorem dL_hangs_654 : decode cL_hangs 654 = .ok (.iload 15, 2) := by decide +kernel
theorem dL_hangs_656 : decode cL_hangs 656 = .ok (.iload 12, 2) := by decide +kernel
theorem dL_hangs_658 : decode cL_hangs 658 = .ok (.iload 13, 2) := by decide +kernel
theorem dL_hangs_660 : decode cL_hangs 660 = .ok (.iadd, 1) := by decide +kernel
theorem dL_hangs_661 : decode cL_hangs 661 = .ok (.if_icmp .gt 92, 3) := by decide +kernel
theorem dL_hangs_664 : decode cL_hangs 664 = .ok (.iload 16, 2) := by decide +kernel
theorem dL_hangs_666 : decode cL_hangs 666 = .ok (.bipush (-6), 2) := by decide +kernel
theorem dL_hangs_668 : decode cL_hangs 668 = .ok (.if_icmp .eq 22, 3) := by decide +kernel
theorem dL_hangs_671 : decode cL_hangs 671 = .ok (.iload 16, 2) := by decide +kernel
theorem dL_hangs_673 : decode cL_hangs 673 = .ok (.ifCond .lt 10, 3) := by decide +kernel
theorem dL_hangs_676 : decode cL_hangs 676 = .ok (.iload 16, 2) := by decide +kernel
theorem dL_hangs_678 : decode cL_hangs 678 = .ok (.bipush 8, 2) := by decide +kernel
theorem dL_hangs_680 : decode cL_hangs 680 = .ok (.if_icmp .lt 10, 3) := by decide +kernel
theorem dL_hangs_683 : decode cL_hangs 683 = .ok (.iload 16, 2) := by decide +kernel
theorem dL_hangs_685 : decode cL_hangs 685 = .ok (.bipush 99, 2) := by decide +kernel
theorem dL_hangs_687 : decode cL_hangs 687 = .ok (.if_icmp .ne 66, 3) := by decide +kernel
theorem dL_hangs_690 : decode cL_hangs 690 = .ok (.iload 12, 2) := by decide +kernel
theorem dL_hangs_692 : decode cL_hangs 692 = .ok (.aload_n 0, 1) := by decide +kernel
theorem dL_hangs_693 : decode cL_hangs 693 = .ok (.iload 11, 2) := by decide +kernel
theorem dL_hangs_695 : decode cL_hangs 695 = .ok (.iconst 1, 1) := by decide +kernel
theorem dL_hangs_696 : decode cL_hangs 696 = .ok (.invokevirtual 92, 3) := by decide +kernel
theorem dL_hangs_699 : decode cL_hangs 699 = .ok (.if_icmp .ne 54, 3) := by decide +kernel
theorem dL_hangs_702 : decode cL_hangs 702 = .ok (.iload 13, 2) := by decide +kernel
theorem dL_hangs_704 : decode cL_hangs 704 = .ok (.aload_n 0, 1) := by decide +kernel
theorem dL_hangs_705 : decode cL_hangs 705 = .ok (.iload 11, 2) := by decide +kernel
theorem dL_hangs_707 : decode cL_hangs 707 = .ok (.iconst 2, 1) := by decide +kernel
theorem dL_hangs_708 : decode cL_hangs 708 = .ok (.invokevirtual 92, 3) := by decide +kernel
theorem dL_hangs_711 : decode cL_hangs 711 = .ok (.if_icmp .ne 42, 3) := by decide +kernel
theorem dL_hangs_714 : decode cL_hangs 714 = .ok (.iload 14, 2) := by decide +kernel
theorem dL_hangs_716 : decode cL_hangs 716 = .ok (.aload_n 0, 1) := by decide +kernel
theorem dL_hangs_717 : decode cL_hangs 717 = .ok (.iload 11, 2) := by decide +kernel
theorem dL_hangs_719 : decode cL_hangs 719 = .ok (.iconst 4, 1) := by decide +kernel
theorem dL_hangs_720 : decode cL_hangs 720 = .ok (.invokevirtual 92, 3) := by decide +kernel
theorem dL_hangs_723 : decode cL_hangs 723 = .ok (.if_icmp .ne 30, 3) := by decide +kernel
theorem dL_hangs_726 : decode cL_hangs 726 = .ok (.iload 16, 2) := by decide +kernel
theorem dL_hangs_728 : decode cL_hangs 728 = .ok (.bipush (-6), 2) := by decide +kernel
theorem dL_hangs_730 : decode cL_hangs 730 = .ok (.if_icmp .ne 19, 3) := by decide +kernel
theorem dL_hangs_733 : decode cL_hangs 733 = .ok (.iload_n 1, 1) := by decide +kernel
theorem dL_hangs_734 : decode cL_hangs 734 = .ok (.ifCond .eq 15, 3) := by decide +kernel
theorem dL_hangs_737 : decode cL_hangs 737 = .ok (.iload 16, 2) := by decide +kernel
theorem dL_hangs_739 : decode cL_hangs 739 = .ok (.aload_n 0, 1) := by decide +kernel
theorem dL_hangs_740 : decode cL_hangs 740 = .ok (.iload 11, 2) := by decide +kernel
theorem dL_hangs_742 : decode cL_hangs 742 = .ok (.iconst 3, 1) := by decide +kernel
theorem dL_hangs_743 : decode cL_hangs 743 = .ok (.invokevirtual 92, 3) := by decide +kernel
theorem dL_hangs_746 : decode cL_hangs 746 = .ok (.if_icmp .ne 7, 3) := by decide +kernel
theorem dL_hangs_749 : decode cL_hangs 749 = .ok (.iconst 1, 1) := by decide +kernel
theorem dL_hangs_750 : decode cL_hangs 750 = .ok (.goto 4, 3) := by decide +kernel
theorem dL_hangs_753 : decode cL_hangs 753 = .ok (.iconst 0, 1) := by decide +kernel
theorem dL_hangs_754 : decode cL_hangs 754 = .ok (.istore_n 3, 1) := by decide +kernel
theorem dL_hangs_755 : decode cL_hangs 755 = .ok (.iload 9, 2) := by decide +kernel
theorem dL_hangs_757 : decode cL_hangs 757 = .ok (.iload_n 1, 1) := by decide +kernel
theorem dL_hangs_758 : decode cL_hangs 758 = .ok (.ifCond .ne 7, 3) := by decide +kernel
theorem dL_hangs_761 : decode cL_hangs 761 = .ok (.iconst 0, 1) := by decide +kernel
theorem dL_hangs_762 : decode cL_hangs 762 = .ok (.goto 5, 3) := by decide +kernel
theorem dL_hangs_765 : decode cL_hangs 765 = .ok (.iload 15, 2) := by decide +kernel
theorem dL_hangs_767 : decode cL_hangs 767 = .ok (.iadd, 1) := by decide +kernel
theorem dL_hangs_768 : decode cL_hangs 768 = .ok (.istore 9, 2) := by decide +kernel
theorem dL_hangs_770 : decode cL_hangs 770 = .ok (.iload 8, 2) := by decide +kernel
theorem dL_hangs_772 : decode cL_hangs 772 = .ok (.iload 13, 2) := by decide +kernel
theorem dL_hangs_774 : decode cL_hangs 774 = .ok (.iadd, 1) := by decide +kernel
theorem dL_hangs_775 : decode cL_hangs 775 = .ok (.istore 8, 2) := by decide +kernel
theorem dL_hangs_777 : decode cL_hangs 777 = .ok (.iinc 11 1, 3) := by decide +kernel
theorem dL_hangs_780 : decode cL_hangs 780 = .ok (.goto (-695), 3) := by decide +kernel
theorem dL_hangs_783 : decode cL_hangs 783 = .ok (.iconst 0, 1) := by decide +kernel
theorem dL_hangs_784 : decode cL_hangs 784 = .ok (.istore 11, 2) := by decide +kernel
theorem dL_hangs_786 : decode cL_hangs 786 = .ok (.iconst 0, 1) := by decide +kernel
theorem dL_hangs_787 : decode cL_hangs 787 = .ok (.istore 12, 2) := by decide +kernel
theorem dL_hangs_789 : decode cL_hangs 789 = .ok (.iconst 0, 1) := by decide +kernel
theorem dL_hangs_790 : decode cL_hangs 790 = .ok (.istore 13, 2) := by decide +kernel
theorem dL_hangs_792 : decode cL_hangs 792 = .ok (.iconst 0, 1) := by decide +kernel
theorem dL_hangs_793 : decode cL_hangs 793 = .ok (.istore 14, 2) := by decide +kernel
theorem dL_hangs_795 : decode cL_hangs 795 = .ok (.iconst 0, 1) := by decide +kernel
theorem dL_hangs_796 : decode cL_hangs 796 = .ok (.istore 15, 2) := by decide +kernel
theorem dL_hangs_798 : decode cL_hangs 798 = .ok (.iconst 0, 1) := by decide +kernel
theorem dL_hangs_799 : decode cL_hangs 799 = .ok (.istore 16, 2) := by decide +kernel
theorem dL_hangs_801 : decode cL_hangs 801 = .ok (.iconst 0, 1) := by decide +kernel
theorem dL_hangs_802 : decode cL_hangs 802 = .ok (.istore 17, 2) := by decide +kernel
theorem dL_hangs_804 : decode cL_hangs 804 = .ok (.iconst 0, 1) := by decide +kernel
theorem dL_hangs_805 : decode cL_hangs 805 = .ok (.istore 18, 2) := by decide +kernel
theorem dL_hangs_807 : decode cL_hangs 807 = .ok (.iload 18, 2) := by decide +kernel
theorem dL_hangs_809 : decode cL_hangs 809 = .ok (.iconst 3, 1) := by decide +kernel
theorem dL_hangs_810 : decode cL_hangs 810 = .ok (.if_icmp .ge 187, 3) := by decide +kernel
theorem dL_hangs_813 : decode cL_hangs 813 = .ok (.iload_n 3, 1) := by decide +kernel
theorem dL_hangs_814 : decode cL_hangs 814 = .ok (.ifCond .eq 183, 3) := by decide +kernel
theorem dL_hangs_817 : decode cL_hangs 817 = .ok (.aload_n 0, 1) := by decide +kernel
theorem dL_hangs_818 : decode cL_hangs 818 = .ok (.iload 18, 2) := by decide +kernel
theorem dL_hangs_820 : decode cL_hangs 820 = .ok (.iconst 0, 1) := by decide +kernel
theorem dL_hangs_821 : decode cL_hangs 821 = .ok (.invokevirtual 95, 3) := by decide +kernel
theorem dL_hangs_824 : decode cL_hangs 824 = .ok (.ifCond .lt 80, 3) := by decide +kernel
theorem dL_hangs_827 : decode cL_hangs 827 = .ok (.aload_n 0, 1) := by decide +kernel
theorem dL_hangs_828 : decode cL_hangs 828 = .ok (.iload 18, 2) := by decide +kernel
theorem dL_hangs_830 : decode cL_hangs 830 = .ok (.iconst 0, 1) := by decide +kernel
theorem dL_hangs_831 : decode cL_hangs 831 = .ok (.invokevirtual 95, 3) := by decide +kernel
theorem dL_hangs_834 : decode cL_hangs 834 = .ok (.sipush 9999, 3) := by decide +kernel
theorem dL_hangs_837 : decode cL_hangs 837 = .ok (.if_icmp .gt 67, 3) := by decide +kernel
theorem dL_hangs_840 : decode cL_hangs 840 = .ok (.aload_n 0, 1) := by decide +kernel
theorem dL_hangs_841 : decode cL_hangs 841 = .ok (.iload 18, 2) := by decide +kernel
theorem dL_hangs_843 : decode cL_hangs 843 = .ok (.iconst 2, 1) := by decide +kernel
theorem dL_hangs_844 : decode cL_hangs 844 = .ok (.invokevirtual 95, 3) := by decide +kernel
theorem dL_hangs_847 : decode cL_hangs 847 = .ok (.aload_n 0, 1) := by decide +kernel
theorem dL_hangs_848 : decode cL_hangs 848 = .ok (.iload 18, 2) := by decide +kernel
theorem dL_hangs_850 : decode cL_hangs 850 = .ok (.iconst 1, 1) := by decide +kernel
theorem dL_hangs_851 : decode cL_hangs 851 = .ok (.invokevirtual 95, 3) := by decide +kernel
theorem dL_hangs_854 : decode cL_hangs 854 = .ok (.if_icmp .gt 50, 3) := by decide +kernel
theorem dL_hangs_857 : decode cL_hangs 857 = .ok (.aload_n 0, 1) := by decide +kernel
theorem dL_hangs_858 : decode cL_hangs 858 = .ok (.iload 18, 2) := by decide +kernel
theorem dL_hangs_860 : decode cL_hangs 860 = .ok (.iconst 5, 1) := by decide +kernel
theorem dL_hangs_861 : decode cL_hangs 861 = .ok (.invokevirtual 95, 3) := by decide +kernel
theorem dL_hangs_864 : decode cL_hangs 864 = .ok (.aload_n 0, 1) := by decide +kernel
theorem dL_hangs_865 : decode cL_hangs 865 = .ok (.iload 18, 2) := by decide +kernel
theorem dL_hangs_867 : decode cL_hangs 867 = .ok (.iconst 4, 1) := by decide +kernel
theorem dL_hangs_868 : decode cL_hangs 868 = .ok (.invokevirtual 95, 3) := by decide +kernel
theorem dL_hangs_871 : decode cL_hangs 871 = .ok (.if_icmp .gt 33, 3) := by decide +kernel
theorem dL_hangs_874 : decode cL_hangs 874 = .ok (.aload_n 0, 1) := by decide +kernel
theorem dL_hangs_875 : decode cL_hangs 875 = .ok (.iload 18, 2) := by decide +kernel
theorem dL_hangs_877 : decode cL_hangs 877 = .ok (.bipush 7, 2) := by decide +kernel
theorem dL_hangs_879 : decode cL_hangs 879 = .ok (.invokevirtual 95, 3) := by decide +kernel
theorem dL_hangs_882 : decode cL_hangs 882 = .ok (.iload 4, 2) := by decide +kernel
theorem dL_hangs_884 : decode cL_hangs 884 = .ok (.if_icmp .lt 20, 3) := by decide +kernel
theorem dL_hangs_887 : decode cL_hangs 887 = .ok (.aload_n 0, 1) := by decide +kernel
theorem dL_hangs_888 : decode cL_hangs 888 = .ok (.iload 18, 2) := by decide +kernel
theorem dL_hangs_890 : decode cL_hangs 890 = .ok (.bipush 7, 2) := by decide +kernel
theorem dL_hangs_892 : decode cL_hangs 892 = .ok (.invokevirtual 95, 3) := by decide +kernel
theorem dL_hangs_895 : decode cL_hangs 895 = .ok (.bipush 9, 2) := by decide +kernel
theorem dL_hangs_897 : decode cL_hangs 897 = .ok (.if_icmp .lt 7, 3) := by decide +kernel
theorem dL_hangs_900 : decode cL_hangs 900 = .ok (.iconst 1, 1) := by decide +kernel
theorem dL_hangs_901 : decode cL_hangs 901 = .ok (.goto 4, 3) := by decide +kernel
theorem dL_hangs_904 : decode cL_hangs 904 = .ok (.iconst 0, 1) := by decide +kernel
theorem dL_hangs_905 : decode cL_hangs 905 = .ok (.istore_n 3, 1) := by decide +kernel
theorem dL_hangs_906 : decode cL_hangs 906 = .ok (.iload 11, 2) := by decide +kernel
theorem dL_hangs_908 : decode cL_hangs 908 = .ok (.aload_n 0, 1) := by decide +kernel
theorem dL_hangs_909 : decode cL_hangs 909 = .ok (.iload 18, 2) := by decide +kernel
theorem dL_hangs_911 : decode cL_hangs 911 = .ok (.iconst 0, 1) := by decide +kernel
theorem dL_hangs_912 : decode cL_hangs 912 = .ok (.invokevirtual 95, 3) := by decide +kernel
theorem dL_hangs_915 : decode cL_hangs 915 = .ok (.iadd, 1) := by decide +kernel
theorem dL_hangs_916 : decode cL_hangs 916 = .ok (.istore 11, 2) := by decide +kernel
theorem dL_hangs_918 : decode cL_hangs 918 = .ok (.iload 12, 2) := by decide +kernel
theorem dL_hangs_920 : decode cL_hangs 920 = .ok (.aload_n 0, 1) := by decide +kernel
theorem dL_hangs_921 : decode cL_hangs 921 = .ok (.iload 18, 2) := by decide +kernel
theorem dL_hangs_923 : decode cL_hangs 923 = .ok (.iconst 1, 1) := by decide +kernel
theorem dL_hangs_924 : decode cL_hangs 924 = .ok (.invokevirtual 95, 3) := by decide +kernel
theorem dL_hangs_927 : decode cL_hangs 927 = .ok (.iadd, 1) := by decide +kernel
theorem dL_hangs_928 : decode cL_hangs 928 = .ok (.istore 12, 2) := by decide +kernel
theorem dL_hangs_930 : decode cL_hangs 930 = .ok (.iload 13, 2) := by decide +kernel
theorem dL_hangs_932 : decode cL_hangs 932 = .ok (.aload_n 0, 1) := by decide +kernel
theorem dL_hangs_933 : decode cL_hangs 933 = .ok (.iload 18, 2) := by decide +kernel
theorem dL_hangs_935 : decode cL_hangs 935 = .ok (.iconst 2, 1) := by decide +kernel
theorem dL_hangs_936 : decode cL_hangs 936 = .ok (.invokevirtual 95, 3) := by decide +kernel
theorem dL_hangs_939 : decode cL_hangs 939 = .ok (.iadd, 1) := by decide +kernel
theorem dL_hangs_940 : decode cL_hangs 940 = .ok (.istore 13, 2) := by decide +kernel
theorem dL_hangs_942 : decode cL_hangs 942 = .ok (.iload 15, 2) := by decide +kernel
theorem dL_hangs_944 : decode cL_hangs 944 = .ok (.aload_n 0, 1) := by decide +kernel
theorem dL_hangs_945 : decode cL_hangs 945 = .ok (.iload 18, 2) := by decide +kernel
theorem dL_hangs_947 : decode cL_hangs 947 = .ok (.iconst 3, 1) := by decide +kernel
theorem dL_hangs_948 : decode cL_hangs 948 = .ok (.invokevirtual 95, 3) := by decide +kernel
theorem dL_hangs_951 : decode cL_hangs 951 = .ok (.iadd, 1) := by decide +kernel
theorem dL_hangs_952 : decode cL_hangs 952 = .ok (.istore 15, 2) := by decide +kernel
theorem dL_hangs_954 : decode cL_hangs 954 = .ok (.iload 14, 2) := by decide +kernel
theorem dL_hangs_956 : decode cL_hangs 956 = .ok (.aload_n 0, 1) := by decide +kernel
theorem dL_hangs_957 : decode cL_hangs 957 = .ok (.iload 18, 2) := by decide +kernel
theorem dL_hangs_959 : decode cL_hangs 959 = .ok (.iconst 4, 1) := by decide +kernel
theorem dL_hangs_960 : decode cL_hangs 960 = .ok (.invokevirtual 95, 3) := by decide +kernel
theorem dL_hangs_963 : decode cL_hangs 963 = .ok (.iadd, 1) := by decide +kernel
theorem dL_hangs_964 : decode cL_hangs 964 = .ok (.istore 14, 2) := by decide +kernel
theorem dL_hangs_966 : decode cL_hangs 966 = .ok (.iload 16, 2) := by decide +kernel
theorem dL_hangs_968 : decode cL_hangs 968 = .ok (.aload_n 0, 1) := by decide +kernel
theorem dL_hangs_969 : decode cL_hangs 969 = .ok (.iload 18, 2) := by decide +kernel
theorem dL_hangs_971 : decode cL_hangs 971 = .ok (.iconst 5, 1) := by decide +kernel
theorem dL_hangs_972 : decode cL_hangs 972 = .ok (.invokevirtual 95, 3) := by decide +kernel
theorem dL_hangs_975 : decode cL_hangs 975 = .ok (.iadd, 1) := by decide +kernel
theorem dL_hangs_976 : decode cL_hangs 976 = .ok (.istore 16, 2) := by decide +kernel
theorem dL_hangs_978 : decode cL_hangs 978 = .ok (.iload 17, 2) := by decide +kernel
theorem dL_hangs_980 : decode cL_hangs 980 = .ok (.aload_n 0, 1) := by decide +kernel
theorem dL_hangs_981 : decode cL_hangs 981 = .ok (.iload 18, 2) := by decide +kernel
theorem dL_hangs_983 : decode cL_hangs 983 = .ok (.bipush 6, 2) := by decide +kernel
theorem dL_hangs_985 : decode cL_hangs 985 = .ok (.invokevirtual 95, 3) := by decide +kernel
theorem dL_hangs_988 : decode cL_hangs 988 = .ok (.iadd, 1) := by decide +kernel
theorem dL_hangs_989 : decode cL_hangs 989 = .ok (.istore 17, 2) := by decide +kernel
theorem dL_hangs_991 : decode cL_hangs 991 = .ok (.iinc 18 1, 3) := by decide +kernel
theorem dL_hangs_994 : decode cL_hangs 994 = .ok (.goto (-187), 3) := by decide +kernel
theorem dL_hangs_997 : decode cL_hangs 997 = .ok (.aload_n 0, 1) := by decide +kernel
theorem dL_hangs_998 : decode cL_hangs 998 = .ok (.invokevirtual 98, 3) := by decide +kernel
theorem dL_hangs_1001 : decode cL_hangs 1001 = .ok (.istore 18, 2) := by decide +kernel
theorem dL_hangs_1003 : decode cL_hangs 1003 = .ok (.iload 17, 2) := by decide +kernel
theorem dL_hangs_1005 : decode cL_hangs 1005 = .ok (.ifCond .eq 14, 3) := by decide +kernel
theorem dL_hangs_1008 : decode cL_hangs 1008 = .ok (.aload_n 0, 1) := by decide +kernel
theorem dL_hangs_1009 : decode cL_hangs 1009 = .ok (.iload 17, 2) := by decide +kernel
theorem dL_hangs_1011 : decode cL_hangs 1011 = .ok (.iconst 1, 1) := by decide +kernel
theorem dL_hangs_1012 : decode cL_hangs 1012 = .ok (.isub, 1) := by decide +kernel
theorem dL_hangs_1013 : decode cL_hangs 1013 = .ok (.invokevirtual 101, 3) := by decide +kernel
theorem dL_hangs_1016 : decode cL_hangs 1016 = .ok (.ifCond .lt 7, 3) := by decide +kernel
theorem dL_hangs_1019 : decode cL_hangs 1019 = .ok (.iconst 1, 1) := by decide +kernel
theorem dL_hangs_1020 : decode cL_hangs 1020 = .ok (.goto 4, 3) := by decide +kernel
theorem dL_hangs_1023 : decode cL_hangs 1023 = .ok (.iconst 0, 1) := by decide +kernel
theorem dL_hangs_1024 : decode cL_hangs 1024 = .ok (.istore 19, 2) := by decide +kernel
theorem dL_hangs_1026 : decode cL_hangs 1026 = .ok (.iload_n 3, 1) := by decide +kernel
theorem dL_hangs_1027 : decode cL_hangs 1027 = .ok (.ifCond .eq 266, 3) := by decide +kernel
theorem dL_hangs_1030 : decode cL_hangs 1030 = .ok (.iload 4, 2) := by decide +kernel
theorem dL_hangs_1032 : decode cL_hangs 1032 = .ok (.aload_n 0, 1) := by decide +kernel
theorem dL_hangs_1033 : decode cL_hangs 1033 = .ok (.iconst 4, 1) := by decide +kernel
theorem dL_hangs_1034 : decode cL_hangs 1034 = .ok (.invokevirtual 23, 3) := by decide +kernel
theorem dL_hangs_1037 : decode cL_hangs 1037 = .ok (.if_icmp .ne 256, 3) := by decide +kernel
theorem dL_hangs_1040 : decode cL_hangs 1040 = .ok (.iload 5, 2) := by decide +kernel
theorem dL_hangs_1042 : decode cL_hangs 1042 = .ok (.aload_n 0, 1) := by decide +kernel
theorem dL_hangs_1043 : decode cL_hangs 1043 = .ok (.iconst 5, 1) := by decide +kernel
theorem dL_hangs_1044 : decode cL_hangs 1044 = .ok (.invokevirtual 23, 3) := by decide +kernel
theorem dL_hangs_1047 : decode cL_hangs 1047 = .ok (.if_icmp .ne 246, 3) := by decide +kernel
theorem dL_hangs_1050 : decode cL_hangs 1050 = .ok (.iload 6, 2) := by decide +kernel
theorem dL_hangs_1052 : decode cL_hangs 1052 = .ok (.aload_n 0, 1) := by decide +kernel
theorem dL_hangs_1053 : decode cL_hangs 1053 = .ok (.bipush 7, 2) := by decide +kernel
theorem dL_hangs_1055 : decode cL_hangs 1055 = .ok (.invokevirtual 23, 3) := by decide +kernel
theorem dL_hangs_1058 : decode cL_hangs 1058 = .ok (.if_icmp .ne 235, 3) := by decide +kernel
theorem dL_hangs_1061 : decode cL_hangs 1061 = .ok (.iload 7, 2) := by decide +kernel
theorem dL_hangs_1063 : decode cL_hangs 1063 = .ok (.iload 12, 2) := by decide +kernel
theorem dL_hangs_1065 : decode cL_hangs 1065 = .ok (.if_icmp .ne 228, 3) := by decide +kernel
theorem dL_hangs_1068 : decode cL_hangs 1068 = .ok (.iload 13, 2) := by decide +kernel
theorem dL_hangs_1070 : decode cL_hangs 1070 = .ok (.aload_n 0, 1) := by decide +kernel
theorem dL_hangs_1071 : decode cL_hangs 1071 = .ok (.bipush 6, 2) := by decide +kernel
theorem dL_hangs_1073 : decode cL_hangs 1073 = .ok (.invokevirtual 23, 3) := by decide +kernel
theorem dL_hangs_1076 : decode cL_hangs 1076 = .ok (.if_icmp .ne 217, 3) := by decide +kernel
theorem dL_hangs_1079 : decode cL_hangs 1079 = .ok (.iload 15, 2) := by decide +kernel
theorem dL_hangs_1081 : decode cL_hangs 1081 = .ok (.iload 16, 2) := by decide +kernel
theorem dL_hangs_1083 : decode cL_hangs 1083 = .ok (.if_icmp .ne 210, 3) := by decide +kernel
theorem dL_hangs_1086 : decode cL_hangs 1086 = .ok (.iload 14, 2) := by decide +kernel
theorem dL_hangs_1088 : decode cL_hangs 1088 = .ok (.iload 6, 2) := by decide +kernel
theorem dL_hangs_1090 : decode cL_hangs 1090 = .ok (.if_icmp .ne 203, 3) := by decide +kernel
theorem dL_hangs_1093 : decode cL_hangs 1093 = .ok (.iload 19, 2) := by decide +kernel
theorem dL_hangs_1095 : decode cL_hangs 1095 = .ok (.ifCond .eq 198, 3) := by decide +kernel
theorem dL_hangs_1098 : decode cL_hangs 1098 = .ok (.aload_n 0, 1) := by decide +kernel
theorem dL_hangs_1099 : decode cL_hangs 1099 = .ok (.iload 17, 2) := by decide +kernel
theorem dL_hangs_1101 : decode cL_hangs 1101 = .ok (.invokevirtual 101, 3) := by decide +kernel
theorem dL_hangs_1104 : decode cL_hangs 1104 = .ok (.iconst (-1), 1) := by decide +kernel
theorem dL_hangs_1105 : decode cL_hangs 1105 = .ok (.if_icmp .ne 188, 3) := by decide +kernel
theorem dL_hangs_1108 : decode cL_hangs 1108 = .ok (.iload 14, 2) := by decide +kernel
theorem dL_hangs_1110 : decode cL_hangs 1110 = .ok (.iload 17, 2) := by decide +kernel
theorem dL_hangs_1112 : decode cL_hangs 1112 = .ok (.iadd, 1) := by decide +kernel
theorem dL_hangs_1113 : decode cL_hangs 1113 = .ok (.iload_n 2, 1) := by decide +kernel
theorem dL_hangs_1114 : decode cL_hangs 1114 = .ok (.if_icmp .gt 179, 3) := by decide +kernel
theorem dL_hangs_1117 : decode cL_hangs 1117 = .ok (.bipush 28, 2) := by decide +kernel
theorem dL_hangs_1119 : decode cL_hangs 1119 = .ok (.iload 4, 2) := by decide +kernel
theorem dL_hangs_1121 : decode cL_hangs 1121 = .ok (.isub, 1) := by decide +kernel
theorem dL_hangs_1122 : decode cL_hangs 1122 = .ok (.iload 8, 2) := by decide +kernel
theorem dL_hangs_1124 : decode cL_hangs 1124 = .ok (.iconst 2, 1) := by decide +kernel
theorem dL_hangs_1125 : decode cL_hangs 1125 = .ok (.idiv, 1) := by decide +kernel
theorem dL_hangs_1126 : decode cL_hangs 1126 = .ok (.if_icmp .ne 167, 3) := by decide +kernel
theorem dL_hangs_1129 : decode cL_hangs 1129 = .ok (.iload_n 1, 1) := by decide +kernel
theorem dL_hangs_1130 : decode cL_hangs 1130 = .ok (.ifCond .eq 10, 3) := by decide +kernel
theorem dL_hangs_1133 : decode cL_hangs 1133 = .ok (.iload 9, 2) := by decide +kernel
theorem dL_hangs_1135 : decode cL_hangs 1135 = .ok (.iload 10, 2) := by decide +kernel
theorem dL_hangs_1137 : decode cL_hangs 1137 = .ok (.if_icmp .ne 156, 3) := by decide +kernel
theorem dL_hangs_1140 : decode cL_hangs 1140 = .ok (.iload_n 1, 1) := by decide +kernel
theorem dL_hangs_1141 : decode cL_hangs 1141 = .ok (.ifCond .ne 11, 3) := by decide +kernel
theorem dL_hangs_1144 : decode cL_hangs 1144 = .ok (.iload 18, 2) := by decide +kernel
theorem dL_hangs_1146 : decode cL_hangs 1146 = .ok (.ifCond .ne 147, 3) := by decide +kernel
theorem dL_hangs_1149 : decode cL_hangs 1149 = .ok (.goto 16, 3) := by decide +kernel
theorem dL_hangs_1152 : decode cL_hangs 1152 = .ok (.iload 18, 2) := by decide +kernel
theorem dL_hangs_1154 : decode cL_hangs 1154 = .ok (.ifCond .le 139, 3) := by decide +kernel
theorem dL_hangs_1157 : decode cL_hangs 1157 = .ok (.iload 18, 2) := by decide +kernel
theorem dL_hangs_1159 : decode cL_hangs 1159 = .ok (.sipush 256, 3) := by decide +kernel
theorem dL_hangs_1162 : decode cL_hangs 1162 = .ok (.if_icmp .ge 131, 3) := by decide +kernel
theorem dL_hangs_1165 : decode cL_hangs 1165 = .ok (.aload_n 0, 1) := by decide +kernel
theorem dL_hangs_1166 : decode cL_hangs 1166 = .ok (.iconst 3, 1) := by decide +kernel
theorem dL_hangs_1167 : decode cL_hangs 1167 = .ok (.invokevirtual 23, 3) := by decide +kernel
theorem dL_hangs_1170 : decode cL_hangs 1170 = .ok (.bipush (-6), 2) := by decide +kernel
theorem dL_hangs_1172 : decode cL_hangs 1172 = .ok (.if_icmp .eq 22, 3) := by decide +kernel
theorem dL_hangs_1175 : decode cL_hangs 1175 = .ok (.iload_n 1, 1) := by decide +kernel
theorem dL_hangs_1176 : decode cL_hangs 1176 = .ok (.iconst 2, 1) := by decide +kernel
theorem dL_hangs_1177 : decode cL_hangs 1177 = .ok (.if_icmp .ne 116, 3) := by decide +kernel
theorem dL_hangs_1180 : decode cL_hangs 1180 = .ok (.aload_n 0, 1) := by decide +kernel
theorem dL_hangs_1181 : decode cL_hangs 1181 = .ok (.aload_n 0, 1) := by decide +kernel
theorem dL_hangs_1182 : decode cL_hangs 1182 = .ok (.iconst 3, 1) := by decide +kernel
theorem dL_hangs_1183 : decode cL_hangs 1183 = .ok (.invokevirtual 23, 3) := by decide +kernel
theorem dL_hangs_1186 : decode cL_hangs 1186 = .ok (.bipush 6, 2) := by decide +kernel
theorem dL_hangs_1188 : decode cL_hangs 1188 = .ok (.invokevirtual 95, 3) := by decide +kernel
theorem dL_hangs_1191 : decode cL_hangs 1191 = .ok (.ifCond .le 102, 3) := by decide +kernel
theorem dL_hangs_1194 : decode cL_hangs 1194 = .ok (.aload_n 0, 1) := by decide +kernel
theorem dL_hangs_1195 : decode cL_hangs 1195 = .ok (.iconst 3, 1) := by decide +kernel
theorem dL_hangs_1196 : decode cL_hangs 1196 = .ok (.invokevirtual 23, 3) := by decide +kernel
theorem dL_hangs_1199 : decode cL_hangs 1199 = .ok (.bipush (-6), 2) := by decide +kernel
theorem dL_hangs_1201 : decode cL_hangs 1201 = .ok (.if_icmp .ne 13, 3) := by decide +kernel
theorem dL_hangs_1204 : decode cL_hangs 1204 = .ok (.iload 11, 2) := by decide +kernel
theorem dL_hangs_1206 : decode cL_hangs 1206 = .ok (.bipush 60, 2) := by decide +kernel
theorem dL_hangs_1208 : decode cL_hangs 1208 = .ok (.if_icmp .gt 85, 3) := by decide +kernel
theorem dL_hangs_1211 : decode cL_hangs 1211 = .ok (.goto 11, 3) := by decide +kernel
theorem dL_hangs_1214 : decode cL_hangs 1214 = .ok (.iload 11, 2) := by decide +kernel
theorem dL_hangs_1216 : decode cL_hangs 1216 = .ok (.sipush 260, 3) := by decide +kernel
theorem dL_hangs_1219 : decode cL_hangs 1219 = .ok (.if_icmp .gt 74, 3) := by decide +kernel
theorem dL_hangs_1222 : decode cL_hangs 1222 = .ok (.iload_n 1, 1) := by decide +kernel
theorem dL_hangs_1223 : decode cL_hangs 1223 = .ok (.ifCond .ne 16, 3) := by decide +kernel
theorem dL_hangs_1226 : decode cL_hangs 1226 = .ok (.aload_n 0, 1) := by decide +kernel
theorem dL_hangs_1227 : decode cL_hangs 1227 = .ok (.iconst 0, 1) := by decide +kernel
theorem dL_hangs_1228 : decode cL_hangs 1228 = .ok (.invokevirtual 104, 3) := by decide +kernel
theorem dL_hangs_1231 : decode cL_hangs 1231 = .ok (.bipush (-5), 2) := by decide +kernel
theorem dL_hangs_1233 : decode cL_hangs 1233 = .ok (.if_icmp .ne 60, 3) := by decide +kernel
theorem dL_hangs_1236 : decode cL_hangs 1236 = .ok (.goto 33, 3) := by decide +kernel
theorem dL_hangs_1239 : decode cL_hangs 1239 = .ok (.aload_n 0, 1) := by decide +kernel
theorem dL_hangs_1240 : decode cL_hangs 1240 = .ok (.iconst 0, 1) := by decide +kernel
theorem dL_hangs_1241 : decode cL_hangs 1241 = .ok (.invokevirtual 104, 3) := by decide +kernel
theorem dL_hangs_1244 : decode cL_hangs 1244 = .ok (.bipush (-6), 2) := by decide +kernel
theorem dL_hangs_1246 : decode cL_hangs 1246 = .ok (.if_icmp .ne 7, 3) := by decide +kernel
theorem dL_hangs_1249 : decode cL_hangs 1249 = .ok (.iconst 1, 1) := by decide +kernel
theorem dL_hangs_1250 : decode cL_hangs 1250 = .ok (.goto 4, 3) := by decide +kernel
theorem dL_hangs_1253 : decode cL_hangs 1253 = .ok (.iconst 0, 1) := by decide +kernel
theorem dL_hangs_1254 : decode cL_hangs 1254 = .ok (.iload 4, 2) := by decide +kernel
theorem dL_hangs_1256 : decode cL_hangs 1256 = .ok (.bipush 28, 2) := by decide +kernel
theorem dL_hangs_1258 : decode cL_hangs 1258 = .ok (.if_icmp .ne 7, 3) := by decide +kernel
theorem dL_hangs_1261 : decode cL_hangs 1261 = .ok (.iconst 1, 1) := by decide +kernel
theorem dL_hangs_1262 : decode cL_hangs 1262 = .ok (.goto 4, 3) := by decide +kernel
theorem dL_hangs_1265 : decode cL_hangs 1265 = .ok (.iconst 0, 1) := by decide +kernel
theorem dL_hangs_1266 : decode cL_hangs 1266 = .ok (.if_icmp .ne 27, 3) := by decide +kernel
theorem dL_hangs_1269 : decode cL_hangs 1269 = .ok (.aload_n 0, 1) := by decide +kernel
theorem dL_hangs_1270 : decode cL_hangs 1270 = .ok (.bipush 13, 2) := by decide +kernel
theorem dL_hangs_1272 : decode cL_hangs 1272 = .ok (.invokevirtual 23, 3) := by decide +kernel
theorem dL_hangs_1275 : decode cL_hangs 1275 = .ok (.ifCond .lt 18, 3) := by decide +kernel
theorem dL_hangs_1278 : decode cL_hangs 1278 = .ok (.aload_n 0, 1) := by decide +kernel
theorem dL_hangs_1279 : decode cL_hangs 1279 = .ok (.bipush 13, 2) := by decide +kernel
theorem dL_hangs_1281 : decode cL_hangs 1281 = .ok (.invokevirtual 23, 3) := by decide +kernel
theorem dL_hangs_1284 : decode cL_hangs 1284 = .ok (.bipush 7, 2) := by decide +kernel
theorem dL_hangs_1286 : decode cL_hangs 1286 = .ok (.if_icmp .ge 7, 3) := by decide +kernel
theorem dL_hangs_1289 : decode cL_hangs 1289 = .ok (.iconst 1, 1) := by decide +kernel
theorem dL_hangs_1290 : decode cL_hangs 1290 = .ok (.goto 4, 3) := by decide +kernel
theorem dL_hangs_1293 : decode cL_hangs 1293 = .ok (.iconst 0, 1) := by decide +kernel
theorem dL_hangs_1294 : decode cL_hangs 1294 = .ok (.ireturn, 1) := by decide +kernel
theorem dL_same_0 : decode cL_same 0 = .ok (.iconst 1, 1) := by decide +kernel
theorem dL_same_1 : decode cL_same 1 = .ok (.istore_n 2, 1) := by decide +kernel
theorem dL_same_2 : decode cL_same 2 = .ok (.iconst 0, 1) := by decide +kernel
theorem dL_same_3 : decode cL_same 3 = .ok (.istore_n 3, 1) := by decide +kernel
theorem dL_same_4 : decode cL_same 4 = .ok (.iload_n 3, 1) := by decide +kernel
theorem dL_same_5 : decode cL_same 5 = .ok (.bipush 14, 2) := by decide +kernel
theorem dL_same_7 : decode cL_same 7 = .ok (.if_icmp .ge 38, 3) := by decide +kernel
theorem dL_same_10 : decode cL_same 10 = .ok (.iload_n 2, 1) := by decide +kernel
theorem dL_same_11 : decode cL_same 11 = .ok (.ifCond .eq 34, 3) := by decide +kernel
theorem dL_same_14 : decode cL_same 14 = .ok (.iload_n 3, 1) := by decide +kernel
theorem dL_same_15 : decode cL_same 15 = .ok (.bipush 12, 2) := by decide +kernel
theorem dL_same_17 : decode cL_same 17 = .ok (.if_icmp .eq 16, 3) := by decide +kernel
theorem dL_same_20 : decode cL_same 20 = .ok (.aload_n 0, 1) := by decide +kernel
theorem dL_same_21 : decode cL_same 21 = .ok (.iload_n 3, 1) := by decide +kernel
theorem dL_same_22 : decode cL_same 22 = .ok (.invokevirtual 23, 3) := by decide +kernel
theorem dL_same_25 : decode cL_same 25 = .ok (.aload_n 1, 1) := by decide +kernel
theorem dL_same_26 : decode cL_same 26 = .ok (.iload_n 3, 1) := by decide +kernel
theorem dL_same_27 : decode cL_same 27 = .ok (.invokevirtual 23, 3) := by decide +kernel
theorem dL_same_30 : decode cL_same 30 = .ok (.if_icmp .ne 7, 3) := by decide +kernel
theorem dL_same_33 : decode cL_same 33 = .ok (.iconst 1, 1) := by decide +kernel
theorem dL_same_34 : decode cL_same 34 = .ok (.goto 4, 3) := by decide +kernel
theorem dL_same_37 : decode cL_same 37 = .ok (.iconst 0, 1) := by decide +kernel
theorem dL_same_38 : decode cL_same 38 = .ok (.istore_n 2, 1) := by decide +kernel
theorem dL_same_39 : decode cL_same 39 = .ok (.iinc 3 1, 3) := by decide +kernel
theorem dL_same_42 : decode cL_same 42 = .ok (.goto (-38), 3) := by decide +kernel
theorem dL_same_45 : decode cL_same 45 = .ok (.iconst 0, 1) := by decide +kernel
theorem dL_same_46 : decode cL_same 46 = .ok (.istore_n 3, 1) := by decide +kernel
theorem dL_same_47 : decode cL_same 47 = .ok (.iload_n 3, 1) := by decide +kernel
theorem dL_same_48 : decode cL_same 48 = .ok (.iconst 3, 1) := by decide +kernel
theorem dL_same_49 : decode cL_same 49 = .ok (.if_icmp .ge 56, 3) := by decide +kernel
theorem dL_same_52 : decode cL_same 52 = .ok (.iload_n 2, 1) := by decide +kernel
theorem dL_same_53 : decode cL_same 53 = .ok (.ifCond .eq 52, 3) := by decide +kernel
theorem dL_same_56 : decode cL_same 56 = .ok (.iconst 0, 1) := by decide +kernel
theorem dL_same_57 : decode cL_same 57 = .ok (.istore 4, 2) := by decide +kernel
theorem dL_same_59 : decode cL_same 59 = .ok (.iload 4, 2) := by decide +kernel
theorem dL_same_61 : decode cL_same 61 = .ok (.bipush 8, 2) := by decide +kernel
theorem dL_same_63 : decode cL_same 63 = .ok (.if_icmp .ge 36, 3) := by decide +kernel
theorem dL_same_66 : decode cL_same 66 = .ok (.iload_n 2, 1) := by decide +kernel
theorem dL_same_67 : decode cL_same 67 = .ok (.ifCond .eq 32, 3) := by decide +kernel
theorem dL_same_70 : decode cL_same 70 = .ok (.aload_n 0, 1) := by decide +kernel
theorem dL_same_71 : decode cL_same 71 = .ok (.iload_n 3, 1) := by decide +kernel
theorem dL_same_72 : decode cL_same 72 = .ok (.iload 4, 2) := by decide +kernel
theorem dL_same_74 : decode cL_same 74 = .ok (.invokevirtual 95, 3) := by decide +kernel
theorem dL_same_77 : decode cL_same 77 = .ok (.aload_n 1, 1) := by decide +kernel
theorem dL_same_78 : decode cL_same 78 = .ok (.iload_n 3, 1) := by decide +kernel
theorem dL_same_79 : decode cL_same 79 = .ok (.iload 4, 2) := by decide +kernel
theorem dL_same_81 : decode cL_same 81 = .ok (.invokevirtual 95, 3) := by decide +kernel
theorem dL_same_84 : decode cL_same 84 = .ok (.if_icmp .ne 7, 3) := by decide +kernel
theorem dL_same_87 : decode cL_same 87 = .ok (.iconst 1, 1) := by decide +kernel
theorem dL_same_88 : decode cL_same 88 = .ok (.goto 4, 3) := by decide +kernel
theorem dL_same_91 : decode cL_same 91 = .ok (.iconst 0, 1) := by decide +kernel
theorem dL_same_92 : decode cL_same 92 = .ok (.istore_n 2, 1) := by decide +kernel
theorem dL_same_93 : decode cL_same 93 = .ok (.iinc 4 1, 3) := by decide +kernel
theorem dL_same_96 : decode cL_same 96 = .ok (.goto (-37), 3) := by decide +kernel
theorem dL_same_99 : decode cL_same 99 = .ok (.iinc 3 1, 3) := by decide +kernel
theorem dL_same_102 : decode cL_same 102 = .ok (.goto (-55), 3) := by decide +kernel
theorem dL_same_105 : decode cL_same 105 = .ok (.iconst 0, 1) := by decide +kernel
theorem dL_same_106 : decode cL_same 106 = .ok (.istore_n 3, 1) := by decide +kernel
theorem dL_same_107 : decode cL_same 107 = .ok (.iload_n 3, 1) := by decide +kernel
theorem dL_same_108 : decode cL_same 108 = .ok (.bipush 8, 2) := by decide +kernel
theorem dL_same_110 : decode cL_same 110 = .ok (.if_icmp .ge 164, 3) := by decide +kernel
theorem dL_same_113 : decode cL_same 113 = .ok (.iload_n 2, 1) := by decide +kernel
theorem dL_same_114 : decode cL_same 114 = .ok (.ifCond .eq 160, 3) := by decide +kernel
theorem dL_same_117 : decode cL_same 117 = .ok (.aload_n 0, 1) := by decide +kernel
theorem dL_same_118 : decode cL_same 118 = .ok (.iload_n 3, 1) := by decide +kernel
theorem dL_same_119 : decode cL_same 119 = .ok (.iconst 0, 1) := by decide +kernel
theorem dL_same_120 : decode cL_same 120 = .ok (.invokevirtual 92, 3) := by decide +kernel
theorem dL_same_123 : decode cL_same 123 = .ok (.aload_n 1, 1) := by decide +kernel
theorem dL_same_124 : decode cL_same 124 = .ok (.iload_n 3, 1) := by decide +kernel
theorem dL_same_125 : decode cL_same 125 = .ok (.iconst 0, 1) := by decide +kernel
theorem dL_same_126 : decode cL_same 126 = .ok (.invokevirtual 92, 3) := by decide +kernel
theorem dL_same_129 : decode cL_same 129 = .ok (.if_icmp .ne 22, 3) := by decide +kernel
theorem dL_same_132 : decode cL_same 132 = .ok (.aload_n 0, 1) := by decide +kernel
theorem dL_same_133 : decode cL_same 133 = .ok (.iload_n 3, 1) := by decide +kernel
theorem dL_same_134 : decode cL_same 134 = .ok (.iconst 3, 1) := by decide +kernel
theorem dL_same_135 : decode cL_same 135 = .ok (.invokevirtual 92, 3) := by decide +kernel
theorem dL_same_138 : decode cL_same 138 = .ok (.aload_n 1, 1) := by decide +kernel
theorem dL_same_139 : decode cL_same 139 = .ok (.iload_n 3, 1) := by decide +kernel
theorem dL_same_140 : decode cL_same 140 = .ok (.iconst 3, 1) := by decide +kernel
theorem dL_same_141 : decode cL_same 141 = .ok (.invokevirtual 92, 3) := by decide +kernel
theorem dL_same_144 : decode cL_same 144 = .ok (.if_icmp .ne 7, 3) := by decide +kernel
theorem dL_same_147 : decode cL_same 147 = .ok (.iconst 1, 1) := by decide +kernel
theorem dL_same_148 : decode cL_same 148 = .ok (.goto 4, 3) := by decide +kernel
theorem dL_same_151 : decode cL_same 151 = .ok (.iconst 0, 1) := by decide +kernel
theorem dL_same_152 : decode cL_same 152 = .ok (.istore_n 2, 1) := by decide +kernel
theorem dL_same_153 : decode cL_same 153 = .ok (.iconst 0, 1) := by decide +kernel
theorem dL_same_154 : decode cL_same 154 = .ok (.istore 4, 2) := by decide +kernel
theorem dL_same_156 : decode cL_same 156 = .ok (.iload 4, 2) := by decide +kernel
theorem dL_same_158 : decode cL_same 158 = .ok (.iload_n 3, 1) := by decide +kernel
theorem dL_same_159 : decode cL_same 159 = .ok (.if_icmp .ge 109, 3) := by decide +kernel
theorem dL_same_162 : decode cL_same 162 = .ok (.iload_n 2, 1) := by decide +kernel
theorem dL_same_163 : decode cL_same 163 = .ok (.ifCond .eq 105, 3) := by decide +kernel
theorem dL_same_166 : decode cL_same 166 = .ok (.aload_n 0, 1) := by decide +kernel
theorem dL_same_167 : decode cL_same 167 = .ok (.iload_n 3, 1) := by decide +kernel
theorem dL_same_168 : decode cL_same 168 = .ok (.iload 4, 2) := by decide +kernel
theorem dL_same_170 : decode cL_same 170 = .ok (.iconst 2, 1) := by decide +kernel
theorem dL_same_171 : decode cL_same 171 = .ok (.invokevirtual 80, 3) := by decide +kernel
theorem dL_same_174 : decode cL_same 174 = .ok (.aload_n 1, 1) := by decide +kernel
theorem dL_same_175 : decode cL_same 175 = .ok (.iload_n 3, 1) := by decide +kernel
theorem dL_same_176 : decode cL_same 176 = .ok (.iload 4, 2) := by decide +kernel
theorem dL_same_178 : decode cL_same 178 = .ok (.iconst 2, 1) := by decide +kernel
theorem dL_same_179 : decode cL_same 179 = .ok (.invokevirtual 80, 3) := by decide +kernel
theorem dL_same_182 : decode cL_same 182 = .ok (.if_icmp .ne 78, 3) := by decide +kernel
theorem dL_same_185 : decode cL_same 185 = .ok (.aload_n 0, 1) := by decide +kernel
theorem dL_same_186 : decode cL_same 186 = .ok (.iload_n 3, 1) := by decide +kernel
theorem dL_same_187 : decode cL_same 187 = .ok (.iload 4, 2) := by decide +kernel
theorem dL_same_189 : decode cL_same 189 = .ok (.iconst 4, 1) := by decide +kernel
theorem dL_same_190 : decode cL_same 190 = .ok (.invokevirtual 80, 3) := by decide +kernel
theorem dL_same_193 : decode cL_same 193 = .ok (.aload_n 1, 1) := by decide +kernel
theorem dL_same_194 : decode cL_same 194 = .ok (.iload_n 3, 1) := by decide +kernel
theorem dL_same_195 : decode cL_same 195 = .ok (.iload 4, 2) := by decide +kernel
theorem dL_same_197 : decode cL_same 197 = .ok (.iconst 4, 1) := by decide +kernel
theorem dL_same_198 : decode cL_same 198 = .ok (.invokevirtual 80, 3) := by decide +kernel
theorem dL_same_201 : decode cL_same 201 = .ok (.if_icmp .ne 59, 3) := by decide +kernel
theorem dL_same_204 : decode cL_same 204 = .ok (.aload_n 0, 1) := by decide +kernel
theorem dL_same_205 : decode cL_same 205 = .ok (.iload_n 3, 1) := by decide +kernel
theorem dL_same_206 : decode cL_same 206 = .ok (.iload 4, 2) := by decide +kernel
theorem dL_same_208 : decode cL_same 208 = .ok (.iconst 5, 1) := by decide +kernel
theorem dL_same_209 : decode cL_same 209 = .ok (.invokevirtual 80, 3) := by decide +kernel
theorem dL_same_212 : decode cL_same 212 = .ok (.aload_n 1, 1) := by decide +kernel
theorem dL_same_213 : decode cL_same 213 = .ok (.iload_n 3, 1) := by decide +kernel
theorem dL_same_214 : decode cL_same 214 = .ok (.iload 4, 2) := by decide +kernel
theorem dL_same_216 : decode cL_same 216 = .ok (.iconst 5, 1) := by decide +kernel
theorem dL_same_217 : decode cL_same 217 = .ok (.invokevirtual 80, 3) := by decide +kernel
theorem dL_same_220 : decode cL_same 220 = .ok (.if_icmp .ne 40, 3) := by decide +kernel
theorem dL_same_223 : decode cL_same 223 = .ok (.aload_n 0, 1) := by decide +kernel
theorem dL_same_224 : decode cL_same 224 = .ok (.aload_n 0, 1) := by decide +kernel
theorem dL_same_225 : decode cL_same 225 = .ok (.iload_n 3, 1) := by decide +kernel
theorem dL_same_226 : decode cL_same 226 = .ok (.iload 4, 2) := by decide +kernel
theorem dL_same_228 : decode cL_same 228 = .ok (.iconst 1, 1) := by decide +kernel
theorem dL_same_229 : decode cL_same 229 = .ok (.invokevirtual 80, 3) := by decide +kernel
theorem dL_same_232 : decode cL_same 232 = .ok (.iload_n 3, 1) := by decide +kernel
theorem dL_same_233 : decode cL_same 233 = .ok (.iload 4, 2) := by decide +kernel
theorem dL_same_235 : decode cL_same 235 = .ok (.invokevirtual 83, 3) := by decide +kernel
theorem dL_same_238 : decode cL_same 238 = .ok (.aload_n 1, 1) := by decide +kernel
theorem dL_same_239 : decode cL_same 239 = .ok (.aload_n 0, 1) := by decide +kernel
theorem dL_same_240 : decode cL_same 240 = .ok (.iload_n 3, 1) := by decide +kernel
theorem dL_same_241 : decode cL_same 241 = .ok (.iload 4, 2) := by decide +kernel
theorem dL_same_243 : decode cL_same 243 = .ok (.iconst 1, 1) := by decide +kernel
theorem dL_same_244 : decode cL_same 244 = .ok (.invokevirtual 80, 3) := by decide +kernel
theorem dL_same_247 : decode cL_same 247 = .ok (.iload_n 3, 1) := by decide +kernel
theorem dL_same_248 : decode cL_same 248 = .ok (.iload 4, 2) := by decide +kernel
theorem dL_same_250 : decode cL_same 250 = .ok (.invokevirtual 83, 3) := by decide +kernel
theorem dL_same_253 : decode cL_same 253 = .ok (.if_icmp .ne 7, 3) := by decide +kernel
theorem dL_same_256 : decode cL_same 256 = .ok (.iconst 1, 1) := by decide +kernel
theorem dL_same_257 : decode cL_same 257 = .ok (.goto 4, 3) := by decide +kernel
theorem dL_same_260 : decode cL_same 260 = .ok (.iconst 0, 1) := by decide +kernel
theorem dL_same_261 : decode cL_same 261 = .ok (.istore_n 2, 1) := by decide +kernel
theorem dL_same_262 : decode cL_same 262 = .ok (.iinc 4 1, 3) := by decide +kernel
theorem dL_same_265 : decode cL_same 265 = .ok (.goto (-109), 3) := by decide +kernel
theorem dL_same_268 : decode cL_same 268 = .ok (.iinc 3 1, 3) := by decide +kernel
theorem dL_same_271 : decode cL_same 271 = .ok (.goto (-164), 3) := by decide +kernel
theorem dL_same_274 : decode cL_same 274 = .ok (.iload_n 2, 1) := by decide +kernel
theorem dL_same_275 : decode cL_same 275 = .ok (.ifCond .eq 18, 3) := by decide +kernel
theorem dL_same_278 : decode cL_same 278 = .ok (.aload_n 0, 1) := by decide +kernel
theorem dL_same_279 : decode cL_same 279 = .ok (.invokevirtual 98, 3) := by decide +kernel
theorem dL_same_282 : decode cL_same 282 = .ok (.aload_n 1, 1) := by decide +kernel
theorem dL_same_283 : decode cL_same 283 = .ok (.invokevirtual 98, 3) := by decide +kernel
theorem dL_same_286 : decode cL_same 286 = .ok (.if_icmp .ne 7, 3) := by decide +kernel
theorem dL_same_289 : decode cL_same 289 = .ok (.iconst 1, 1) := by decide +kernel
theorem dL_same_290 : decode cL_same 290 = .ok (.goto 4, 3) := by decide +kernel
theorem dL_same_293 : decode cL_same 293 = .ok (.iconst 0, 1) := by decide +kernel
theorem dL_same_294 : decode cL_same 294 = .ok (.ireturn, 1) := by decide +kernel
theorem dL_refuses_0 : decode cL_refuses 0 = .ok (.iload_n 1, 1) := by decide +kernel
theorem dL_refuses_1 : decode cL_refuses 1 = .ok (.iconst 2, 1) := by decide +kernel
theorem dL_refuses_2 : decode cL_refuses 2 = .ok (.irem, 1) := by decide +kernel
theorem dL_refuses_3 : decode cL_refuses 3 = .ok (.ifCond .ne 10, 3) := by decide +kernel
theorem dL_refuses_6 : decode cL_refuses 6 = .ok (.bipush 8, 2) := by decide +kernel
theorem dL_refuses_8 : decode cL_refuses 8 = .ok (.iload_n 1, 1) := by decide +kernel
theorem dL_refuses_9 : decode cL_refuses 9 = .ok (.iadd, 1) := by decide +kernel
theorem dL_refuses_10 : decode cL_refuses 10 = .ok (.goto 6, 3) := by decide +kernel
theorem dL_refuses_13 : decode cL_refuses 13 = .ok (.iconst (-1), 1) := by decide +kernel
theorem dL_refuses_14 : decode cL_refuses 14 = .ok (.iload_n 1, 1) := by decide +kernel
theorem dL_refuses_15 : decode cL_refuses 15 = .ok (.isub, 1) := by decide +kernel
theorem dL_refuses_16 : decode cL_refuses 16 = .ok (.istore_n 2, 1) := by decide +kernel
theorem dL_refuses_17 : decode cL_refuses 17 = .ok (.iload_n 1, 1) := by decide +kernel
theorem dL_refuses_18 : decode cL_refuses 18 = .ok (.iconst 2, 1) := by decide +kernel
theorem dL_refuses_19 : decode cL_refuses 19 = .ok (.irem, 1) := by decide +kernel
theorem dL_refuses_20 : decode cL_refuses 20 = .ok (.ifCond .ne 9, 3) := by decide +kernel
theorem dL_refuses_23 : decode cL_refuses 23 = .ok (.iconst 3, 1) := by decide +kernel
theorem dL_refuses_24 : decode cL_refuses 24 = .ok (.iload_n 1, 1) := by decide +kernel
theorem dL_refuses_25 : decode cL_refuses 25 = .ok (.iadd, 1) := by decide +kernel
theorem dL_refuses_26 : decode cL_refuses 26 = .ok (.goto 6, 3) := by decide +kernel
theorem dL_refuses_29 : decode cL_refuses 29 = .ok (.iconst (-1), 1) := by decide +kernel
theorem dL_refuses_30 : decode cL_refuses 30 = .ok (.iload_n 1, 1) := by decide +kernel
theorem dL_refuses_31 : decode cL_refuses 31 = .ok (.isub, 1) := by decide +kernel
theorem dL_refuses_32 : decode cL_refuses 32 = .ok (.istore_n 3, 1) := by decide +kernel
theorem dL_refuses_33 : decode cL_refuses 33 = .ok (.aload_n 0, 1) := by decide +kernel
theorem dL_refuses_34 : decode cL_refuses 34 = .ok (.iconst 1, 1) := by decide +kernel
theorem dL_refuses_35 : decode cL_refuses 35 = .ok (.invokevirtual 23, 3) := by decide +kernel
theorem dL_refuses_38 : decode cL_refuses 38 = .ok (.istore 4, 2) := by decide +kernel
theorem dL_refuses_40 : decode cL_refuses 40 = .ok (.aload_n 0, 1) := by decide +kernel
theorem dL_refuses_41 : decode cL_refuses 41 = .ok (.iconst 2, 1) := by decide +kernel
theorem dL_refuses_42 : decode cL_refuses 42 = .ok (.invokevirtual 23, 3) := by decide +kernel
theorem dL_refuses_45 : decode cL_refuses 45 = .ok (.ifCond .le 7, 3) := by decide +kernel
theorem dL_refuses_48 : decode cL_refuses 48 = .ok (.iconst 1, 1) := by decide +kernel
theorem dL_refuses_49 : decode cL_refuses 49 = .ok (.goto 4, 3) := by decide +kernel
theorem dL_refuses_52 : decode cL_refuses 52 = .ok (.iconst 0, 1) := by decide +kernel
theorem dL_refuses_53 : decode cL_refuses 53 = .ok (.istore 5, 2) := by decide +kernel
theorem dL_refuses_55 : decode cL_refuses 55 = .ok (.aload_n 0, 1) := by decide +kernel
theorem dL_refuses_56 : decode cL_refuses 56 = .ok (.iconst 2, 1) := by decide +kernel
theorem dL_refuses_57 : decode cL_refuses 57 = .ok (.invokevirtual 23, 3) := by decide +kernel
theorem dL_refuses_60 : decode cL_refuses 60 = .ok (.iconst 1, 1) := by decide +kernel
theorem dL_refuses_61 : decode cL_refuses 61 = .ok (.if_icmp .ne 7, 3) := by decide +kernel
theorem dL_refuses_64 : decode cL_refuses 64 = .ok (.iconst 1, 1) := by decide +kernel
theorem dL_refuses_65 : decode cL_refuses 65 = .ok (.goto 4, 3) := by decide +kernel
theorem dL_refuses_68 : decode cL_refuses 68 = .ok (.iconst 0, 1) := by decide +kernel
theorem dL_refuses_69 : decode cL_refuses 69 = .ok (.istore 6, 2) := by decide +kernel
theorem dL_refuses_71 : decode cL_refuses 71 = .ok (.aload_n 0, 1) := by decide +kernel
theorem dL_refuses_72 : decode cL_refuses 72 = .ok (.iconst 4, 1) := by decide +kernel
theorem dL_refuses_73 : decode cL_refuses 73 = .ok (.iload_n 1, 1) := by decide +kernel
theorem dL_refuses_74 : decode cL_refuses 74 = .ok (.iadd, 1) := by decide +kernel
theorem dL_refuses_75 : decode cL_refuses 75 = .ok (.iconst 1, 1) := by decide +kernel
theorem dL_refuses_76 : decode cL_refuses 76 = .ok (.invokevirtual 9, 3) := by decide +kernel
theorem dL_refuses_79 : decode cL_refuses 79 = .ok (.bipush (-2), 2) := by decide +kernel
theorem dL_refuses_81 : decode cL_refuses 81 = .ok (.if_icmp .ne 394, 3) := by decide +kernel
theorem dL_refuses_84 : decode cL_refuses 84 = .ok (.aload_n 0, 1) := by decide +kernel
theorem dL_refuses_85 : decode cL_refuses 85 = .ok (.iconst 0, 1) := by decide +kernel
theorem dL_refuses_86 : decode cL_refuses 86 = .ok (.bipush 21, 2) := by decide +kernel
theorem dL_refuses_88 : decode cL_refuses 88 = .ok (.iload_n 1, 1) := by decide +kernel
theorem dL_refuses_89 : decode cL_refuses 89 = .ok (.iadd, 1) := by decide +kernel
theorem dL_refuses_90 : decode cL_refuses 90 = .ok (.invokevirtual 9, 3) := by decide +kernel
theorem dL_refuses_93 : decode cL_refuses 93 = .ok (.bipush (-2), 2) := by decide +kernel
theorem dL_refuses_95 : decode cL_refuses 95 = .ok (.if_icmp .ne 380, 3) := by decide +kernel
theorem dL_refuses_98 : decode cL_refuses 98 = .ok (.aload_n 0, 1) := by decide +kernel
theorem dL_refuses_99 : decode cL_refuses 99 = .ok (.iconst 1, 1) := by decide +kernel
theorem dL_refuses_100 : decode cL_refuses 100 = .ok (.iconst 0, 1) := by decide +kernel
theorem dL_refuses_101 : decode cL_refuses 101 = .ok (.invokevirtual 9, 3) := by decide +kernel
theorem dL_refuses_104 : decode cL_refuses 104 = .ok (.bipush (-2), 2) := by decide +kernel
theorem dL_refuses_106 : decode cL_refuses 106 = .ok (.if_icmp .ne 369, 3) := by decide +kernel
theorem dL_refuses_109 : decode cL_refuses 109 = .ok (.aload_n 0, 1) := by decide +kernel
theorem dL_refuses_110 : decode cL_refuses 110 = .ok (.iconst 2, 1) := by decide +kernel
theorem dL_refuses_111 : decode cL_refuses 111 = .ok (.iconst (-1), 1) := by decide +kernel
theorem dL_refuses_112 : decode cL_refuses 112 = .ok (.iload_n 1, 1) := by decide +kernel
theorem dL_refuses_113 : decode cL_refuses 113 = .ok (.isub, 1) := by decide +kernel
theorem dL_refuses_114 : decode cL_refuses 114 = .ok (.invokevirtual 9, 3) := by decide +kernel
theorem dL_refuses_117 : decode cL_refuses 117 = .ok (.bipush (-2), 2) := by decide +kernel
theorem dL_refuses_119 : decode cL_refuses 119 = .ok (.if_icmp .ne 356, 3) := by decide +kernel
theorem dL_refuses_122 : decode cL_refuses 122 = .ok (.aload_n 0, 1) := by decide +kernel
theorem dL_refuses_123 : decode cL_refuses 123 = .ok (.iconst 3, 1) := by decide +kernel
theorem dL_refuses_124 : decode cL_refuses 124 = .ok (.sipush 201, 3) := by decide +kernel
theorem dL_refuses_127 : decode cL_refuses 127 = .ok (.iload_n 1, 1) := by decide +kernel
theorem dL_refuses_128 : decode cL_refuses 128 = .ok (.iadd, 1) := by decide +kernel
theorem dL_refuses_129 : decode cL_refuses 129 = .ok (.invokevirtual 9, 3) := by decide +kernel
theorem dL_refuses_132 : decode cL_refuses 132 = .ok (.bipush (-2), 2) := by decide +kernel
theorem dL_refuses_134 : decode cL_refuses 134 = .ok (.if_icmp .ne 341, 3) := by decide +kernel
theorem dL_refuses_137 : decode cL_refuses 137 = .ok (.aload_n 0, 1) := by decide +kernel
theorem dL_refuses_138 : decode cL_refuses 138 = .ok (.iload_n 2, 1) := by decide +kernel
theorem dL_refuses_139 : decode cL_refuses 139 = .ok (.iload_n 2, 1) := by decide +kernel
theorem dL_refuses_140 : decode cL_refuses 140 = .ok (.invokevirtual 26, 3) := by decide +kernel
theorem dL_refuses_143 : decode cL_refuses 143 = .ok (.iconst (-1), 1) := by decide +kernel
theorem dL_refuses_144 : decode cL_refuses 144 = .ok (.if_icmp .ne 331, 3) := by decide +kernel
theorem dL_refuses_147 : decode cL_refuses 147 = .ok (.aload_n 0, 1) := by decide +kernel
theorem dL_refuses_148 : decode cL_refuses 148 = .ok (.iconst 3, 1) := by decide +kernel
theorem dL_refuses_149 : decode cL_refuses 149 = .ok (.iconst 3, 1) := by decide +kernel
theorem dL_refuses_150 : decode cL_refuses 150 = .ok (.invokevirtual 26, 3) := by decide +kernel
theorem dL_refuses_153 : decode cL_refuses 153 = .ok (.bipush (-2), 2) := by decide +kernel
theorem dL_refuses_155 : decode cL_refuses 155 = .ok (.if_icmp .ne 320, 3) := by decide +kernel
theorem dL_refuses_158 : decode cL_refuses 158 = .ok (.aload_n 0, 1) := by decide +kernel
theorem dL_refuses_159 : decode cL_refuses 159 = .ok (.iload_n 2, 1) := by decide +kernel
theorem dL_refuses_160 : decode cL_refuses 160 = .ok (.invokevirtual 15, 3) := by decide +kernel
theorem dL_refuses_163 : decode cL_refuses 163 = .ok (.iconst (-1), 1) := by decide +kernel
theorem dL_refuses_164 : decode cL_refuses 164 = .ok (.if_icmp .ne 311, 3) := by decide +kernel
theorem dL_refuses_167 : decode cL_refuses 167 = .ok (.aload_n 0, 1) := by decide +kernel
theorem dL_refuses_168 : decode cL_refuses 168 = .ok (.iload_n 2, 1) := by decide +kernel
theorem dL_refuses_169 : decode cL_refuses 169 = .ok (.iconst 0, 1) := by decide +kernel
theorem dL_refuses_170 : decode cL_refuses 170 = .ok (.iconst 5, 1) := by decide +kernel
theorem dL_refuses_171 : decode cL_refuses 171 = .ok (.invokevirtual 77, 3) := by decide +kernel
theorem dL_refuses_174 : decode cL_refuses 174 = .ok (.iconst (-1), 1) := by decide +kernel
theorem dL_refuses_175 : decode cL_refuses 175 = .ok (.if_icmp .ne 300, 3) := by decide +kernel
theorem dL_refuses_178 : decode cL_refuses 178 = .ok (.aload_n 0, 1) := by decide +kernel
theorem dL_refuses_179 : decode cL_refuses 179 = .ok (.iconst 0, 1) := by decide +kernel
theorem dL_refuses_180 : decode cL_refuses 180 = .ok (.iconst 1, 1) := by decide +kernel
theorem dL_refuses_181 : decode cL_refuses 181 = .ok (.iconst 2, 1) := by decide +kernel
theorem dL_refuses_182 : decode cL_refuses 182 = .ok (.iload_n 1, 1) := by decide +kernel
theorem dL_refuses_183 : decode cL_refuses 183 = .ok (.iadd, 1) := by decide +kernel
theorem dL_refuses_184 : decode cL_refuses 184 = .ok (.invokevirtual 77, 3) := by decide +kernel
theorem dL_refuses_187 : decode cL_refuses 187 = .ok (.bipush (-2), 2) := by decide +kernel
theorem dL_refuses_189 : decode cL_refuses 189 = .ok (.if_icmp .ne 286, 3) := by decide +kernel
theorem dL_refuses_192 : decode cL_refuses 192 = .ok (.aload_n 0, 1) := by decide +kernel
theorem dL_refuses_193 : decode cL_refuses 193 = .ok (.iconst 4, 1) := by decide +kernel
theorem dL_refuses_194 : decode cL_refuses 194 = .ok (.iconst 4, 1) := by decide +kernel
theorem dL_refuses_195 : decode cL_refuses 195 = .ok (.iconst 1, 1) := by decide +kernel
theorem dL_refuses_196 : decode cL_refuses 196 = .ok (.invokevirtual 77, 3) := by decide +kernel
theorem dL_refuses_199 : decode cL_refuses 199 = .ok (.bipush (-2), 2) := by decide +kernel
theorem dL_refuses_201 : decode cL_refuses 201 = .ok (.if_icmp .ne 274, 3) := by decide +kernel
theorem dL_refuses_204 : decode cL_refuses 204 = .ok (.aload_n 0, 1) := by decide +kernel
theorem dL_refuses_205 : decode cL_refuses 205 = .ok (.iload_n 3, 1) := by decide +kernel
theorem dL_refuses_206 : decode cL_refuses 206 = .ok (.iconst 0, 1) := by decide +kernel
theorem dL_refuses_207 : decode cL_refuses 207 = .ok (.iconst 1, 1) := by decide +kernel
theorem dL_refuses_208 : decode cL_refuses 208 = .ok (.invokevirtual 35, 3) := by decide +kernel
theorem dL_refuses_211 : decode cL_refuses 211 = .ok (.iconst (-1), 1) := by decide +kernel
theorem dL_refuses_212 : decode cL_refuses 212 = .ok (.if_icmp .ne 263, 3) := by decide +kernel
theorem dL_refuses_215 : decode cL_refuses 215 = .ok (.aload_n 0, 1) := by decide +kernel
theorem dL_refuses_216 : decode cL_refuses 216 = .ok (.iconst 0, 1) := by decide +kernel
theorem dL_refuses_217 : decode cL_refuses 217 = .ok (.iload_n 2, 1) := by decide +kernel
theorem dL_refuses_218 : decode cL_refuses 218 = .ok (.iconst 1, 1) := by decide +kernel
theorem dL_refuses_219 : decode cL_refuses 219 = .ok (.invokevirtual 35, 3) := by decide +kernel
theorem dL_refuses_222 : decode cL_refuses 222 = .ok (.iconst (-1), 1) := by decide +kernel
theorem dL_refuses_223 : decode cL_refuses 223 = .ok (.if_icmp .ne 252, 3) := by decide +kernel
theorem dL_refuses_226 : decode cL_refuses 226 = .ok (.aload_n 0, 1) := by decide +kernel
theorem dL_refuses_227 : decode cL_refuses 227 = .ok (.iload 4, 2) := by decide +kernel
theorem dL_refuses_229 : decode cL_refuses 229 = .ok (.iconst 0, 1) := by decide +kernel
theorem dL_refuses_230 : decode cL_refuses 230 = .ok (.iconst 1, 1) := by decide +kernel
theorem dL_refuses_231 : decode cL_refuses 231 = .ok (.invokevirtual 35, 3) := by decide +kernel
theorem dL_refuses_234 : decode cL_refuses 234 = .ok (.bipush (-2), 2) := by decide +kernel
theorem dL_refuses_236 : decode cL_refuses 236 = .ok (.if_icmp .ne 239, 3) := by decide +kernel
theorem dL_refuses_239 : decode cL_refuses 239 = .ok (.aload_n 0, 1) := by decide +kernel
theorem dL_refuses_240 : decode cL_refuses 240 = .ok (.iload_n 2, 1) := by decide +kernel
theorem dL_refuses_241 : decode cL_refuses 241 = .ok (.invokevirtual 29, 3) := by decide +kernel
theorem dL_refuses_244 : decode cL_refuses 244 = .ok (.iconst (-1), 1) := by decide +kernel
theorem dL_refuses_245 : decode cL_refuses 245 = .ok (.if_icmp .ne 230, 3) := by decide +kernel
theorem dL_refuses_248 : decode cL_refuses 248 = .ok (.aload_n 0, 1) := by decide +kernel
theorem dL_refuses_249 : decode cL_refuses 249 = .ok (.iload_n 2, 1) := by decide +kernel
theorem dL_refuses_250 : decode cL_refuses 250 = .ok (.iconst 0, 1) := by decide +kernel
theorem dL_refuses_251 : decode cL_refuses 251 = .ok (.iconst 0, 1) := by decide +kernel
theorem dL_refuses_252 : decode cL_refuses 252 = .ok (.invokevirtual 80, 3) := by decide +kernel
theorem dL_refuses_255 : decode cL_refuses 255 = .ok (.iconst (-1), 1) := by decide +kernel
theorem dL_refuses_256 : decode cL_refuses 256 = .ok (.if_icmp .ne 219, 3) := by decide +kernel
theorem dL_refuses_259 : decode cL_refuses 259 = .ok (.aload_n 0, 1) := by decide +kernel
theorem dL_refuses_260 : decode cL_refuses 260 = .ok (.iconst 2, 1) := by decide +kernel
theorem dL_refuses_261 : decode cL_refuses 261 = .ok (.iconst 2, 1) := by decide +kernel
theorem dL_refuses_262 : decode cL_refuses 262 = .ok (.iconst 0, 1) := by decide +kernel
theorem dL_refuses_263 : decode cL_refuses 263 = .ok (.invokevirtual 80, 3) := by decide +kernel
theorem dL_refuses_266 : decode cL_refuses 266 = .ok (.bipush (-2), 2) := by decide +kernel
theorem dL_refuses_268 : decode cL_refuses 268 = .ok (.if_icmp .ne 207, 3) := by decide +kernel
theorem dL_refuses_271 : decode cL_refuses 271 = .ok (.aload_n 0, 1) := by decide +kernel
theorem dL_refuses_272 : decode cL_refuses 272 = .ok (.iconst 0, 1) := by decide +kernel
theorem dL_refuses_273 : decode cL_refuses 273 = .ok (.iconst 1, 1) := by decide +kernel
theorem dL_refuses_274 : decode cL_refuses 274 = .ok (.bipush 6, 2) := by decide +kernel
theorem dL_refuses_276 : decode cL_refuses 276 = .ok (.iload_n 1, 1) := by decide +kernel
theorem dL_refuses_277 : decode cL_refuses 277 = .ok (.iadd, 1) := by decide +kernel
theorem dL_refuses_278 : decode cL_refuses 278 = .ok (.invokevirtual 80, 3) := by decide +kernel
theorem dL_refuses_281 : decode cL_refuses 281 = .ok (.bipush (-2), 2) := by decide +kernel
theorem dL_refuses_283 : decode cL_refuses 283 = .ok (.if_icmp .ne 192, 3) := by decide +kernel
theorem dL_refuses_286 : decode cL_refuses 286 = .ok (.aload_n 0, 1) := by decide +kernel
theorem dL_refuses_287 : decode cL_refuses 287 = .ok (.iload_n 3, 1) := by decide +kernel
theorem dL_refuses_288 : decode cL_refuses 288 = .ok (.iconst 0, 1) := by decide +kernel
theorem dL_refuses_289 : decode cL_refuses 289 = .ok (.iconst 1, 1) := by decide +kernel
theorem dL_refuses_290 : decode cL_refuses 290 = .ok (.invokevirtual 83, 3) := by decide +kernel
theorem dL_refuses_293 : decode cL_refuses 293 = .ok (.iconst (-1), 1) := by decide +kernel
theorem dL_refuses_294 : decode cL_refuses 294 = .ok (.if_icmp .ne 181, 3) := by decide +kernel
theorem dL_refuses_297 : decode cL_refuses 297 = .ok (.aload_n 0, 1) := by decide +kernel
theorem dL_refuses_298 : decode cL_refuses 298 = .ok (.iconst 1, 1) := by decide +kernel
theorem dL_refuses_299 : decode cL_refuses 299 = .ok (.iconst 5, 1) := by decide +kernel
theorem dL_refuses_300 : decode cL_refuses 300 = .ok (.iconst 5, 1) := by decide +kernel
theorem dL_refuses_301 : decode cL_refuses 301 = .ok (.invokevirtual 83, 3) := by decide +kernel
theorem dL_refuses_304 : decode cL_refuses 304 = .ok (.bipush (-2), 2) := by decide +kernel
theorem dL_refuses_306 : decode cL_refuses 306 = .ok (.if_icmp .ne 169, 3) := by decide +kernel
theorem dL_refuses_309 : decode cL_refuses 309 = .ok (.aload_n 0, 1) := by decide +kernel
theorem dL_refuses_310 : decode cL_refuses 310 = .ok (.iload_n 3, 1) := by decide +kernel
theorem dL_refuses_311 : decode cL_refuses 311 = .ok (.iconst 0, 1) := by decide +kernel
theorem dL_refuses_312 : decode cL_refuses 312 = .ok (.invokevirtual 95, 3) := by decide +kernel
theorem dL_refuses_315 : decode cL_refuses 315 = .ok (.iconst (-1), 1) := by decide +kernel
theorem dL_refuses_316 : decode cL_refuses 316 = .ok (.if_icmp .ne 159, 3) := by decide +kernel
theorem dL_refuses_319 : decode cL_refuses 319 = .ok (.aload_n 0, 1) := by decide +kernel
theorem dL_refuses_320 : decode cL_refuses 320 = .ok (.iconst 1, 1) := by decide +kernel
theorem dL_refuses_321 : decode cL_refuses 321 = .ok (.bipush 8, 2) := by decide +kernel
theorem dL_refuses_323 : decode cL_refuses 323 = .ok (.iload_n 1, 1) := by decide +kernel
theorem dL_refuses_324 : decode cL_refuses 324 = .ok (.iadd, 1) := by decide +kernel
theorem dL_refuses_325 : decode cL_refuses 325 = .ok (.invokevirtual 95, 3) := by decide +kernel
theorem dL_refuses_328 : decode cL_refuses 328 = .ok (.bipush (-2), 2) := by decide +kernel
theorem dL_refuses_330 : decode cL_refuses 330 = .ok (.if_icmp .ne 145, 3) := by decide +kernel
theorem dL_refuses_333 : decode cL_refuses 333 = .ok (.aload_n 0, 1) := by decide +kernel
theorem dL_refuses_334 : decode cL_refuses 334 = .ok (.iload_n 2, 1) := by decide +kernel
theorem dL_refuses_335 : decode cL_refuses 335 = .ok (.iconst 0, 1) := by decide +kernel
theorem dL_refuses_336 : decode cL_refuses 336 = .ok (.invokevirtual 92, 3) := by decide +kernel
theorem dL_refuses_339 : decode cL_refuses 339 = .ok (.iconst (-1), 1) := by decide +kernel
theorem dL_refuses_340 : decode cL_refuses 340 = .ok (.if_icmp .ne 135, 3) := by decide +kernel
theorem dL_refuses_343 : decode cL_refuses 343 = .ok (.aload_n 0, 1) := by decide +kernel
theorem dL_refuses_344 : decode cL_refuses 344 = .ok (.iconst 1, 1) := by decide +kernel
theorem dL_refuses_345 : decode cL_refuses 345 = .ok (.iconst 5, 1) := by decide +kernel
theorem dL_refuses_346 : decode cL_refuses 346 = .ok (.iload_n 1, 1) := by decide +kernel
theorem dL_refuses_347 : decode cL_refuses 347 = .ok (.iadd, 1) := by decide +kernel
theorem dL_refuses_348 : decode cL_refuses 348 = .ok (.invokevirtual 92, 3) := by decide +kernel
theorem dL_refuses_351 : decode cL_refuses 351 = .ok (.bipush (-2), 2) := by decide +kernel
theorem dL_refuses_353 : decode cL_refuses 353 = .ok (.if_icmp .ne 122, 3) := by decide +kernel
theorem dL_refuses_356 : decode cL_refuses 356 = .ok (.aload_n 0, 1) := by decide +kernel
theorem dL_refuses_357 : decode cL_refuses 357 = .ok (.iconst (-1), 1) := by decide +kernel
theorem dL_refuses_358 : decode cL_refuses 358 = .ok (.iload_n 1, 1) := by decide +kernel
theorem dL_refuses_359 : decode cL_refuses 359 = .ok (.isub, 1) := by decide +kernel
theorem dL_refuses_360 : decode cL_refuses 360 = .ok (.invokevirtual 101, 3) := by decide +kernel
theorem dL_refuses_363 : decode cL_refuses 363 = .ok (.iconst (-1), 1) := by decide +kernel
theorem dL_refuses_364 : decode cL_refuses 364 = .ok (.if_icmp .ne 111, 3) := by decide +kernel
theorem dL_refuses_367 : decode cL_refuses 367 = .ok (.aload_n 0, 1) := by decide +kernel
theorem dL_refuses_368 : decode cL_refuses 368 = .ok (.bipush 14, 2) := by decide +kernel
theorem dL_refuses_370 : decode cL_refuses 370 = .ok (.iload_n 1, 1) := by decide +kernel
theorem dL_refuses_371 : decode cL_refuses 371 = .ok (.iadd, 1) := by decide +kernel
theorem dL_refuses_372 : decode cL_refuses 372 = .ok (.invokevirtual 23, 3) := by decide +kernel
theorem dL_refuses_375 : decode cL_refuses 375 = .ok (.bipush (-2), 2) := by decide +kernel
theorem dL_refuses_377 : decode cL_refuses 377 = .ok (.if_icmp .ne 98, 3) := by decide +kernel
theorem dL_refuses_380 : decode cL_refuses 380 = .ok (.aload_n 0, 1) := by decide +kernel
theorem dL_refuses_381 : decode cL_refuses 381 = .ok (.iload_n 2, 1) := by decide +kernel
theorem dL_refuses_382 : decode cL_refuses 382 = .ok (.iconst 0, 1) := by decide +kernel
theorem dL_refuses_383 : decode cL_refuses 383 = .ok (.invokevirtual 86, 3) := by decide +kernel
theorem dL_refuses_386 : decode cL_refuses 386 = .ok (.iconst (-1), 1) := by decide +kernel
theorem dL_refuses_387 : decode cL_refuses 387 = .ok (.if_icmp .ne 88, 3) := by decide +kernel
theorem dL_refuses_390 : decode cL_refuses 390 = .ok (.aload_n 0, 1) := by decide +kernel
theorem dL_refuses_391 : decode cL_refuses 391 = .ok (.bipush 6, 2) := by decide +kernel
theorem dL_refuses_393 : decode cL_refuses 393 = .ok (.bipush 6, 2) := by decide +kernel
theorem dL_refuses_395 : decode cL_refuses 395 = .ok (.invokevirtual 86, 3) := by decide +kernel
theorem dL_refuses_398 : decode cL_refuses 398 = .ok (.bipush (-2), 2) := by decide +kernel
theorem dL_refuses_400 : decode cL_refuses 400 = .ok (.if_icmp .ne 75, 3) := by decide +kernel
theorem dL_refuses_403 : decode cL_refuses 403 = .ok (.aload_n 0, 1) := by decide +kernel
theorem dL_refuses_404 : decode cL_refuses 404 = .ok (.iconst 2, 1) := by decide +kernel
theorem dL_refuses_405 : decode cL_refuses 405 = .ok (.iload_n 1, 1) := by decide +kernel
theorem dL_refuses_406 : decode cL_refuses 406 = .ok (.iadd, 1) := by decide +kernel
theorem dL_refuses_407 : decode cL_refuses 407 = .ok (.invokevirtual 104, 3) := by decide +kernel
theorem dL_refuses_410 : decode cL_refuses 410 = .ok (.bipush (-2), 2) := by decide +kernel
theorem dL_refuses_412 : decode cL_refuses 412 = .ok (.if_icmp .ne 63, 3) := by decide +kernel
theorem dL_refuses_415 : decode cL_refuses 415 = .ok (.aload_n 0, 1) := by decide +kernel
theorem dL_refuses_416 : decode cL_refuses 416 = .ok (.iload_n 2, 1) := by decide +kernel
theorem dL_refuses_417 : decode cL_refuses 417 = .ok (.iconst 0, 1) := by decide +kernel
theorem dL_refuses_418 : decode cL_refuses 418 = .ok (.invokevirtual 89, 3) := by decide +kernel
theorem dL_refuses_421 : decode cL_refuses 421 = .ok (.iconst (-1), 1) := by decide +kernel
theorem dL_refuses_422 : decode cL_refuses 422 = .ok (.if_icmp .ne 53, 3) := by decide +kernel
theorem dL_refuses_425 : decode cL_refuses 425 = .ok (.aload_n 0, 1) := by decide +kernel
theorem dL_refuses_426 : decode cL_refuses 426 = .ok (.lconst 0, 1) := by decide +kernel
theorem dL_refuses_427 : decode cL_refuses 427 = .ok (.invokevirtual 53, 3) := by decide +kernel
theorem dL_refuses_430 : decode cL_refuses 430 = .ok (.bipush (-2), 2) := by decide +kernel
theorem dL_refuses_432 : decode cL_refuses 432 = .ok (.if_icmp .ne 43, 3) := by decide +kernel
theorem dL_refuses_435 : decode cL_refuses 435 = .ok (.aload_n 0, 1) := by decide +kernel
theorem dL_refuses_436 : decode cL_refuses 436 = .ok (.ldc2_w 107, 3) := by decide +kernel
theorem dL_refuses_439 : decode cL_refuses 439 = .ok (.invokevirtual 53, 3) := by decide +kernel
theorem dL_refuses_442 : decode cL_refuses 442 = .ok (.bipush (-2), 2) := by decide +kernel
theorem dL_refuses_444 : decode cL_refuses 444 = .ok (.if_icmp .ne 31, 3) := by decide +kernel
theorem dL_refuses_447 : decode cL_refuses 447 = .ok (.aload_n 0, 1) := by decide +kernel
theorem dL_refuses_448 : decode cL_refuses 448 = .ok (.iconst 2, 1) := by decide +kernel
theorem dL_refuses_449 : decode cL_refuses 449 = .ok (.iload_n 1, 1) := by decide +kernel
theorem dL_refuses_450 : decode cL_refuses 450 = .ok (.iadd, 1) := by decide +kernel
theorem dL_refuses_451 : decode cL_refuses 451 = .ok (.invokevirtual 42, 3) := by decide +kernel
theorem dL_refuses_454 : decode cL_refuses 454 = .ok (.bipush (-2), 2) := by decide +kernel
theorem dL_refuses_456 : decode cL_refuses 456 = .ok (.if_icmp .ne 19, 3) := by decide +kernel
theorem dL_refuses_459 : decode cL_refuses 459 = .ok (.aload_n 0, 1) := by decide +kernel
theorem dL_refuses_460 : decode cL_refuses 460 = .ok (.iconst (-1), 1) := by decide +kernel
theorem dL_refuses_461 : decode cL_refuses 461 = .ok (.iload_n 1, 1) := by decide +kernel
theorem dL_refuses_462 : decode cL_refuses 462 = .ok (.isub, 1) := by decide +kernel
theorem dL_refuses_463 : decode cL_refuses 463 = .ok (.invokevirtual 45, 3) := by decide +kernel
theorem dL_refuses_466 : decode cL_refuses 466 = .ok (.bipush (-2), 2) := by decide +kernel
theorem dL_refuses_468 : decode cL_refuses 468 = .ok (.if_icmp .ne 7, 3) := by decide +kernel
theorem dL_refuses_471 : decode cL_refuses 471 = .ok (.iconst 1, 1) := by decide +kernel
theorem dL_refuses_472 : decode cL_refuses 472 = .ok (.goto 4, 3) := by decide +kernel
theorem dL_refuses_475 : decode cL_refuses 475 = .ok (.iconst 0, 1) := by decide +kernel
theorem dL_refuses_476 : decode cL_refuses 476 = .ok (.istore 7, 2) := by decide +kernel
theorem dL_refuses_478 : decode cL_refuses 478 = .ok (.aload_n 0, 1) := by decide +kernel
theorem dL_refuses_479 : decode cL_refuses 479 = .ok (.invokevirtual 48, 3) := by decide +kernel
theorem dL_refuses_482 : decode cL_refuses 482 = .ok (.istore 8, 2) := by decide +kernel
theorem dL_refuses_484 : decode cL_refuses 484 = .ok (.iload 7, 2) := by decide +kernel
theorem dL_refuses_486 : decode cL_refuses 486 = .ok (.ifCond .eq 54, 3) := by decide +kernel
theorem dL_refuses_489 : decode cL_refuses 489 = .ok (.iload 8, 2) := by decide +kernel
theorem dL_refuses_491 : decode cL_refuses 491 = .ok (.ifCond .lt 49, 3) := by decide +kernel
theorem dL_refuses_494 : decode cL_refuses 494 = .ok (.aload_n 0, 1) := by decide +kernel
theorem dL_refuses_495 : decode cL_refuses 495 = .ok (.invokevirtual 71, 3) := by decide +kernel
theorem dL_refuses_498 : decode cL_refuses 498 = .ok (.ifCond .ne 42, 3) := by decide +kernel
theorem dL_refuses_501 : decode cL_refuses 501 = .ok (.aload_n 0, 1) := by decide +kernel
theorem dL_refuses_502 : decode cL_refuses 502 = .ok (.invokevirtual 74, 3) := by decide +kernel
theorem dL_refuses_505 : decode cL_refuses 505 = .ok (.bipush (-3), 2) := by decide +kernel
theorem dL_refuses_507 : decode cL_refuses 507 = .ok (.if_icmp .ne 33, 3) := by decide +kernel
theorem dL_refuses_510 : decode cL_refuses 510 = .ok (.aload_n 0, 1) := by decide +kernel
theorem dL_refuses_511 : decode cL_refuses 511 = .ok (.ldc2_w 51, 3) := by decide +kernel
theorem dL_refuses_514 : decode cL_refuses 514 = .ok (.invokevirtual 53, 3) := by decide +kernel
theorem dL_refuses_517 : decode cL_refuses 517 = .ok (.iconst 1, 1) := by decide +kernel
theorem dL_refuses_518 : decode cL_refuses 518 = .ok (.if_icmp .ne 22, 3) := by decide +kernel
theorem dL_refuses_521 : decode cL_refuses 521 = .ok (.aload_n 0, 1) := by decide +kernel
theorem dL_refuses_522 : decode cL_refuses 522 = .ok (.invokevirtual 71, 3) := by decide +kernel
theorem dL_refuses_525 : decode cL_refuses 525 = .ok (.ifCond .ne 15, 3) := by decide +kernel
theorem dL_refuses_528 : decode cL_refuses 528 = .ok (.aload_n 0, 1) := by decide +kernel
theorem dL_refuses_529 : decode cL_refuses 529 = .ok (.invokevirtual 48, 3) := by decide +kernel
theorem dL_refuses_532 : decode cL_refuses 532 = .ok (.iconst 1, 1) := by decide +kernel
theorem dL_refuses_533 : decode cL_refuses 533 = .ok (.if_icmp .ne 7, 3) := by decide +kernel
theorem dL_refuses_536 : decode cL_refuses 536 = .ok (.iconst 1, 1) := by decide +kernel
theorem dL_refuses_537 : decode cL_refuses 537 = .ok (.goto 4, 3) := by decide +kernel
theorem dL_refuses_540 : decode cL_refuses 540 = .ok (.iconst 0, 1) := by decide +kernel
theorem dL_refuses_541 : decode cL_refuses 541 = .ok (.istore 7, 2) := by decide +kernel
theorem dL_refuses_543 : decode cL_refuses 543 = .ok (.iload 7, 2) := by decide +kernel
theorem dL_refuses_545 : decode cL_refuses 545 = .ok (.ifCond .eq 102, 3) := by decide +kernel
theorem dL_refuses_548 : decode cL_refuses 548 = .ok (.iload 5, 2) := by decide +kernel
theorem dL_refuses_550 : decode cL_refuses 550 = .ok (.ifCond .eq 36, 3) := by decide +kernel
theorem dL_refuses_553 : decode cL_refuses 553 = .ok (.aload_n 0, 1) := by decide +kernel
theorem dL_refuses_554 : decode cL_refuses 554 = .ok (.iconst 0, 1) := by decide +kernel
theorem dL_refuses_555 : decode cL_refuses 555 = .ok (.iconst 1, 1) := by decide +kernel
theorem dL_refuses_556 : decode cL_refuses 556 = .ok (.invokevirtual 26, 3) := by decide +kernel
theorem dL_refuses_559 : decode cL_refuses 559 = .ok (.bipush (-5), 2) := by decide +kernel
theorem dL_refuses_561 : decode cL_refuses 561 = .ok (.if_icmp .ne 86, 3) := by decide +kernel
theorem dL_refuses_564 : decode cL_refuses 564 = .ok (.aload_n 0, 1) := by decide +kernel
theorem dL_refuses_565 : decode cL_refuses 565 = .ok (.iconst 0, 1) := by decide +kernel
theorem dL_refuses_566 : decode cL_refuses 566 = .ok (.invokevirtual 15, 3) := by decide +kernel
theorem dL_refuses_569 : decode cL_refuses 569 = .ok (.bipush (-5), 2) := by decide +kernel
theorem dL_refuses_571 : decode cL_refuses 571 = .ok (.if_icmp .ne 76, 3) := by decide +kernel
theorem dL_refuses_574 : decode cL_refuses 574 = .ok (.aload_n 0, 1) := by decide +kernel
theorem dL_refuses_575 : decode cL_refuses 575 = .ok (.invokevirtual 19, 3) := by decide +kernel
theorem dL_refuses_578 : decode cL_refuses 578 = .ok (.bipush (-5), 2) := by decide +kernel
theorem dL_refuses_580 : decode cL_refuses 580 = .ok (.if_icmp .ne 67, 3) := by decide +kernel
theorem dL_refuses_583 : decode cL_refuses 583 = .ok (.goto 24, 3) := by decide +kernel
theorem dL_refuses_586 : decode cL_refuses 586 = .ok (.aload_n 0, 1) := by decide +kernel
theorem dL_refuses_587 : decode cL_refuses 587 = .ok (.iconst 0, 1) := by decide +kernel
theorem dL_refuses_588 : decode cL_refuses 588 = .ok (.iconst 1, 1) := by decide +kernel
theorem dL_refuses_589 : decode cL_refuses 589 = .ok (.invokevirtual 86, 3) := by decide +kernel
theorem dL_refuses_592 : decode cL_refuses 592 = .ok (.bipush (-5), 2) := by decide +kernel
theorem dL_refuses_594 : decode cL_refuses 594 = .ok (.if_icmp .ne 53, 3) := by decide +kernel
theorem dL_refuses_597 : decode cL_refuses 597 = .ok (.aload_n 0, 1) := by decide +kernel
theorem dL_refuses_598 : decode cL_refuses 598 = .ok (.iconst 0, 1) := by decide +kernel
theorem dL_refuses_599 : decode cL_refuses 599 = .ok (.invokevirtual 104, 3) := by decide +kernel
theorem dL_refuses_602 : decode cL_refuses 602 = .ok (.bipush (-5), 2) := by decide +kernel
theorem dL_refuses_604 : decode cL_refuses 604 = .ok (.if_icmp .ne 43, 3) := by decide +kernel
theorem dL_refuses_607 : decode cL_refuses 607 = .ok (.iload 6, 2) := by decide +kernel
theorem dL_refuses_609 : decode cL_refuses 609 = .ok (.ifCond .ne 34, 3) := by decide +kernel
theorem dL_refuses_612 : decode cL_refuses 612 = .ok (.aload_n 0, 1) := by decide +kernel
theorem dL_refuses_613 : decode cL_refuses 613 = .ok (.iconst 0, 1) := by decide +kernel
theorem dL_refuses_614 : decode cL_refuses 614 = .ok (.iconst 1, 1) := by decide +kernel
theorem dL_refuses_615 : decode cL_refuses 615 = .ok (.iconst 1, 1) := by decide +kernel
theorem dL_refuses_616 : decode cL_refuses 616 = .ok (.invokevirtual 77, 3) := by decide +kernel
theorem dL_refuses_619 : decode cL_refuses 619 = .ok (.bipush (-5), 2) := by decide +kernel
theorem dL_refuses_621 : decode cL_refuses 621 = .ok (.if_icmp .ne 26, 3) := by decide +kernel
theorem dL_refuses_624 : decode cL_refuses 624 = .ok (.aload_n 0, 1) := by decide +kernel
theorem dL_refuses_625 : decode cL_refuses 625 = .ok (.iconst 0, 1) := by decide +kernel
theorem dL_refuses_626 : decode cL_refuses 626 = .ok (.invokevirtual 29, 3) := by decide +kernel
theorem dL_refuses_629 : decode cL_refuses 629 = .ok (.bipush (-5), 2) := by decide +kernel
theorem dL_refuses_631 : decode cL_refuses 631 = .ok (.if_icmp .ne 16, 3) := by decide +kernel
theorem dL_refuses_634 : decode cL_refuses 634 = .ok (.aload_n 0, 1) := by decide +kernel
theorem dL_refuses_635 : decode cL_refuses 635 = .ok (.invokevirtual 32, 3) := by decide +kernel
theorem dL_refuses_638 : decode cL_refuses 638 = .ok (.bipush (-5), 2) := by decide +kernel
theorem dL_refuses_640 : decode cL_refuses 640 = .ok (.if_icmp .ne 7, 3) := by decide +kernel
theorem dL_refuses_643 : decode cL_refuses 643 = .ok (.iconst 1, 1) := by decide +kernel
theorem dL_refuses_644 : decode cL_refuses 644 = .ok (.goto 4, 3) := by decide +kernel
theorem dL_refuses_647 : decode cL_refuses 647 = .ok (.iconst 0, 1) := by decide +kernel
theorem dL_refuses_648 : decode cL_refuses 648 = .ok (.ireturn, 1) := by decide +kernel
theorem dL_law_0 : decode cL_law 0 = .ok (.new 10, 3) := by decide +kernel
theorem dL_law_3 : decode cL_law 3 = .ok (.dup, 1) := by decide +kernel
theorem dL_law_4 : decode cL_law 4 = .ok (.invokespecial 109, 3) := by decide +kernel
theorem dL_law_7 : decode cL_law 7 = .ok (.astore_n 1, 1) := by decide +kernel
theorem dL_law_8 : decode cL_law 8 = .ok (.new 10, 3) := by decide +kernel
theorem dL_law_11 : decode cL_law 11 = .ok (.dup, 1) := by decide +kernel
theorem dL_law_12 : decode cL_law 12 = .ok (.invokespecial 109, 3) := by decide +kernel
theorem dL_law_15 : decode cL_law 15 = .ok (.astore_n 2, 1) := by decide +kernel
theorem dL_law_16 : decode cL_law 16 = .ok (.aload_n 1, 1) := by decide +kernel
theorem dL_law_17 : decode cL_law 17 = .ok (.invokevirtual 39, 3) := by decide +kernel
theorem dL_law_20 : decode cL_law 20 = .ok (.bipush (-5), 2) := by decide +kernel
theorem dL_law_22 : decode cL_law 22 = .ok (.if_icmp .ne 40, 3) := by decide +kernel
theorem dL_law_25 : decode cL_law 25 = .ok (.aload_n 1, 1) := by decide +kernel
theorem dL_law_26 : decode cL_law 26 = .ok (.iconst 0, 1) := by decide +kernel
theorem dL_law_27 : decode cL_law 27 = .ok (.invokevirtual 45, 3) := by decide +kernel
theorem dL_law_30 : decode cL_law 30 = .ok (.bipush (-5), 2) := by decide +kernel
theorem dL_law_32 : decode cL_law 32 = .ok (.if_icmp .ne 30, 3) := by decide +kernel
theorem dL_law_35 : decode cL_law 35 = .ok (.aload_n 1, 1) := by decide +kernel
theorem dL_law_36 : decode cL_law 36 = .ok (.invokevirtual 71, 3) := by decide +kernel
theorem dL_law_39 : decode cL_law 39 = .ok (.ifCond .ne 23, 3) := by decide +kernel
theorem dL_law_42 : decode cL_law 42 = .ok (.aload_n 1, 1) := by decide +kernel
theorem dL_law_43 : decode cL_law 43 = .ok (.invokevirtual 74, 3) := by decide +kernel
theorem dL_law_46 : decode cL_law 46 = .ok (.bipush (-3), 2) := by decide +kernel
theorem dL_law_48 : decode cL_law 48 = .ok (.if_icmp .ne 14, 3) := by decide +kernel
theorem dL_law_51 : decode cL_law 51 = .ok (.aload_n 1, 1) := by decide +kernel
theorem dL_law_52 : decode cL_law 52 = .ok (.invokestatic 110, 3) := by decide +kernel
theorem dL_law_55 : decode cL_law 55 = .ok (.ifCond .eq 7, 3) := by decide +kernel
theorem dL_law_58 : decode cL_law 58 = .ok (.iconst 1, 1) := by decide +kernel
theorem dL_law_59 : decode cL_law 59 = .ok (.goto 4, 3) := by decide +kernel
theorem dL_law_62 : decode cL_law 62 = .ok (.iconst 0, 1) := by decide +kernel
theorem dL_law_63 : decode cL_law 63 = .ok (.istore_n 3, 1) := by decide +kernel
theorem dL_law_64 : decode cL_law 64 = .ok (.iconst 0, 1) := by decide +kernel
theorem dL_law_65 : decode cL_law 65 = .ok (.istore 4, 2) := by decide +kernel
theorem dL_law_67 : decode cL_law 67 = .ok (.iload 4, 2) := by decide +kernel
theorem dL_law_69 : decode cL_law 69 = .ok (.bipush 44, 2) := by decide +kernel
theorem dL_law_71 : decode cL_law 71 = .ok (.if_icmp .ge 109, 3) := by decide +kernel
theorem dL_law_74 : decode cL_law 74 = .ok (.iload_n 3, 1) := by decide +kernel
theorem dL_law_75 : decode cL_law 75 = .ok (.ifCond .eq 105, 3) := by decide +kernel
theorem dL_law_78 : decode cL_law 78 = .ok (.iload 4, 2) := by decide +kernel
theorem dL_law_80 : decode cL_law 80 = .ok (.bipush 14, 2) := by decide +kernel
theorem dL_law_82 : decode cL_law 82 = .ok (.if_icmp .ne 7, 3) := by decide +kernel
theorem dL_law_85 : decode cL_law 85 = .ok (.iconst 2, 1) := by decide +kernel
theorem dL_law_86 : decode cL_law 86 = .ok (.goto 9, 3) := by decide +kernel
theorem dL_law_89 : decode cL_law 89 = .ok (.aload_n 0, 1) := by decide +kernel
theorem dL_law_90 : decode cL_law 90 = .ok (.iload 4, 2) := by decide +kernel
theorem dL_law_92 : decode cL_law 92 = .ok (.invokestatic 116, 3) := by decide +kernel
theorem dL_law_95 : decode cL_law 95 = .ok (.istore 5, 2) := by decide +kernel
theorem dL_law_97 : decode cL_law 97 = .ok (.aload_n 1, 1) := by decide +kernel
theorem dL_law_98 : decode cL_law 98 = .ok (.iload 5, 2) := by decide +kernel
theorem dL_law_100 : decode cL_law 100 = .ok (.invokestatic 120, 3) := by decide +kernel
theorem dL_law_103 : decode cL_law 103 = .ok (.istore 6, 2) := by decide +kernel
theorem dL_law_105 : decode cL_law 105 = .ok (.iload 4, 2) := by decide +kernel
theorem dL_law_107 : decode cL_law 107 = .ok (.iconst 3, 1) := by decide +kernel
theorem dL_law_108 : decode cL_law 108 = .ok (.irem, 1) := by decide +kernel
theorem dL_law_109 : decode cL_law 109 = .ok (.ifCond .gt 15, 3) := by decide +kernel
theorem dL_law_112 : decode cL_law 112 = .ok (.aload_n 2, 1) := by decide +kernel
theorem dL_law_113 : decode cL_law 113 = .ok (.iload 5, 2) := by decide +kernel
theorem dL_law_115 : decode cL_law 115 = .ok (.ldc 124, 2) := by decide +kernel
theorem dL_law_117 : decode cL_law 117 = .ok (.irem, 1) := by decide +kernel
theorem dL_law_118 : decode cL_law 118 = .ok (.invokestatic 125, 3) := by decide +kernel
theorem dL_law_121 : decode cL_law 121 = .ok (.ifCond .eq 51, 3) := by decide +kernel
theorem dL_law_124 : decode cL_law 124 = .ok (.aload_n 2, 1) := by decide +kernel
theorem dL_law_125 : decode cL_law 125 = .ok (.iload 5, 2) := by decide +kernel
theorem dL_law_127 : decode cL_law 127 = .ok (.invokestatic 120, 3) := by decide +kernel
theorem dL_law_130 : decode cL_law 130 = .ok (.iload 6, 2) := by decide +kernel
theorem dL_law_132 : decode cL_law 132 = .ok (.if_icmp .ne 40, 3) := by decide +kernel
theorem dL_law_135 : decode cL_law 135 = .ok (.aload_n 1, 1) := by decide +kernel
theorem dL_law_136 : decode cL_law 136 = .ok (.aload_n 2, 1) := by decide +kernel
theorem dL_law_137 : decode cL_law 137 = .ok (.invokestatic 129, 3) := by decide +kernel
theorem dL_law_140 : decode cL_law 140 = .ok (.ifCond .eq 32, 3) := by decide +kernel
theorem dL_law_143 : decode cL_law 143 = .ok (.iload 4, 2) := by decide +kernel
theorem dL_law_145 : decode cL_law 145 = .ok (.iconst 5, 1) := by decide +kernel
theorem dL_law_146 : decode cL_law 146 = .ok (.irem, 1) := by decide +kernel
theorem dL_law_147 : decode cL_law 147 = .ok (.ifCond .gt 21, 3) := by decide +kernel
theorem dL_law_150 : decode cL_law 150 = .ok (.iload 4, 2) := by decide +kernel
theorem dL_law_152 : decode cL_law 152 = .ok (.iconst 2, 1) := by decide +kernel
theorem dL_law_153 : decode cL_law 153 = .ok (.irem, 1) := by decide +kernel
theorem dL_law_154 : decode cL_law 154 = .ok (.ifCond .ne 7, 3) := by decide +kernel
theorem dL_law_157 : decode cL_law 157 = .ok (.aload_n 1, 1) := by decide +kernel
theorem dL_law_158 : decode cL_law 158 = .ok (.goto 4, 3) := by decide +kernel
theorem dL_law_161 : decode cL_law 161 = .ok (.aload_n 2, 1) := by decide +kernel
theorem dL_law_162 : decode cL_law 162 = .ok (.invokestatic 110, 3) := by decide +kernel
theorem dL_law_165 : decode cL_law 165 = .ok (.ifCond .eq 7, 3) := by decide +kernel
theorem dL_law_168 : decode cL_law 168 = .ok (.iconst 1, 1) := by decide +kernel
theorem dL_law_169 : decode cL_law 169 = .ok (.goto 4, 3) := by decide +kernel
theorem dL_law_172 : decode cL_law 172 = .ok (.iconst 0, 1) := by decide +kernel
theorem dL_law_173 : decode cL_law 173 = .ok (.istore_n 3, 1) := by decide +kernel
theorem dL_law_174 : decode cL_law 174 = .ok (.iinc 4 1, 3) := by decide +kernel
theorem dL_law_177 : decode cL_law 177 = .ok (.goto (-110), 3) := by decide +kernel
theorem dL_law_180 : decode cL_law 180 = .ok (.aload_n 1, 1) := by decide +kernel
theorem dL_law_181 : decode cL_law 181 = .ok (.iconst 0, 1) := by decide +kernel
theorem dL_law_182 : decode cL_law 182 = .ok (.invokevirtual 42, 3) := by decide +kernel
theorem dL_law_185 : decode cL_law 185 = .ok (.istore 4, 2) := by decide +kernel
theorem dL_law_187 : decode cL_law 187 = .ok (.aload_n 2, 1) := by decide +kernel
theorem dL_law_188 : decode cL_law 188 = .ok (.iconst 0, 1) := by decide +kernel
theorem dL_law_189 : decode cL_law 189 = .ok (.invokevirtual 42, 3) := by decide +kernel
theorem dL_law_192 : decode cL_law 192 = .ok (.istore 5, 2) := by decide +kernel
theorem dL_law_194 : decode cL_law 194 = .ok (.iconst 0, 1) := by decide +kernel
theorem dL_law_195 : decode cL_law 195 = .ok (.istore 6, 2) := by decide +kernel
theorem dL_law_197 : decode cL_law 197 = .ok (.iload 6, 2) := by decide +kernel
theorem dL_law_199 : decode cL_law 199 = .ok (.iconst 5, 1) := by decide +kernel
theorem dL_law_200 : decode cL_law 200 = .ok (.if_icmp .ge 50, 3) := by decide +kernel
theorem dL_law_203 : decode cL_law 203 = .ok (.iload_n 3, 1) := by decide +kernel
theorem dL_law_204 : decode cL_law 204 = .ok (.ifCond .eq 46, 3) := by decide +kernel
theorem dL_law_207 : decode cL_law 207 = .ok (.aload_n 1, 1) := by decide +kernel
theorem dL_law_208 : decode cL_law 208 = .ok (.aload_n 0, 1) := by decide +kernel
theorem dL_law_209 : decode cL_law 209 = .ok (.bipush 44, 2) := by decide +kernel
theorem dL_law_211 : decode cL_law 211 = .ok (.iload 6, 2) := by decide +kernel
theorem dL_law_213 : decode cL_law 213 = .ok (.iadd, 1) := by decide +kernel
theorem dL_law_214 : decode cL_law 214 = .ok (.invokestatic 116, 3) := by decide +kernel
theorem dL_law_217 : decode cL_law 217 = .ok (.bipush 32, 2) := by decide +kernel
theorem dL_law_219 : decode cL_law 219 = .ok (.idiv, 1) := by decide +kernel
theorem dL_law_220 : decode cL_law 220 = .ok (.bipush 32, 2) := by decide +kernel
theorem dL_law_222 : decode cL_law 222 = .ok (.imul, 1) := by decide +kernel
theorem dL_law_223 : decode cL_law 223 = .ok (.bipush 20, 2) := by decide +kernel
theorem dL_law_225 : decode cL_law 225 = .ok (.iadd, 1) := by decide +kernel
theorem dL_law_226 : decode cL_law 226 = .ok (.invokestatic 120, 3) := by decide +kernel
theorem dL_law_229 : decode cL_law 229 = .ok (.istore 7, 2) := by decide +kernel
theorem dL_law_231 : decode cL_law 231 = .ok (.iload 7, 2) := by decide +kernel
theorem dL_law_233 : decode cL_law 233 = .ok (.bipush (-6), 2) := by decide +kernel
theorem dL_law_235 : decode cL_law 235 = .ok (.if_icmp .lt 7, 3) := by decide +kernel
theorem dL_law_238 : decode cL_law 238 = .ok (.iconst 1, 1) := by decide +kernel
theorem dL_law_239 : decode cL_law 239 = .ok (.goto 4, 3) := by decide +kernel
theorem dL_law_242 : decode cL_law 242 = .ok (.iconst 0, 1) := by decide +kernel
theorem dL_law_243 : decode cL_law 243 = .ok (.istore_n 3, 1) := by decide +kernel
theorem dL_law_244 : decode cL_law 244 = .ok (.iinc 6 1, 3) := by decide +kernel
theorem dL_law_247 : decode cL_law 247 = .ok (.goto (-50), 3) := by decide +kernel
theorem dL_law_250 : decode cL_law 250 = .ok (.iload_n 3, 1) := by decide +kernel
theorem dL_law_251 : decode cL_law 251 = .ok (.ifCond .eq 97, 3) := by decide +kernel
theorem dL_law_254 : decode cL_law 254 = .ok (.iload 4, 2) := by decide +kernel
theorem dL_law_256 : decode cL_law 256 = .ok (.iload 5, 2) := by decide +kernel
theorem dL_law_258 : decode cL_law 258 = .ok (.if_icmp .ne 90, 3) := by decide +kernel
theorem dL_law_261 : decode cL_law 261 = .ok (.aload_n 1, 1) := by decide +kernel
theorem dL_law_262 : decode cL_law 262 = .ok (.iconst 0, 1) := by decide +kernel
theorem dL_law_263 : decode cL_law 263 = .ok (.invokevirtual 45, 3) := by decide +kernel
theorem dL_law_266 : decode cL_law 266 = .ok (.iload 4, 2) := by decide +kernel
theorem dL_law_268 : decode cL_law 268 = .ok (.if_icmp .ne 80, 3) := by decide +kernel
theorem dL_law_271 : decode cL_law 271 = .ok (.aload_n 2, 1) := by decide +kernel
theorem dL_law_272 : decode cL_law 272 = .ok (.iconst 0, 1) := by decide +kernel
theorem dL_law_273 : decode cL_law 273 = .ok (.invokevirtual 45, 3) := by decide +kernel
theorem dL_law_276 : decode cL_law 276 = .ok (.iload 4, 2) := by decide +kernel
theorem dL_law_278 : decode cL_law 278 = .ok (.if_icmp .ne 70, 3) := by decide +kernel
theorem dL_law_281 : decode cL_law 281 = .ok (.aload_n 1, 1) := by decide +kernel
theorem dL_law_282 : decode cL_law 282 = .ok (.iconst 0, 1) := by decide +kernel
theorem dL_law_283 : decode cL_law 283 = .ok (.invokevirtual 23, 3) := by decide +kernel
theorem dL_law_286 : decode cL_law 286 = .ok (.aload_n 2, 1) := by decide +kernel
theorem dL_law_287 : decode cL_law 287 = .ok (.iconst 0, 1) := by decide +kernel
theorem dL_law_288 : decode cL_law 288 = .ok (.invokevirtual 23, 3) := by decide +kernel
theorem dL_law_291 : decode cL_law 291 = .ok (.if_icmp .ne 57, 3) := by decide +kernel
theorem dL_law_294 : decode cL_law 294 = .ok (.aload_n 1, 1) := by decide +kernel
theorem dL_law_295 : decode cL_law 295 = .ok (.iconst 4, 1) := by decide +kernel
theorem dL_law_296 : decode cL_law 296 = .ok (.invokevirtual 23, 3) := by decide +kernel
theorem dL_law_299 : decode cL_law 299 = .ok (.aload_n 2, 1) := by decide +kernel
theorem dL_law_300 : decode cL_law 300 = .ok (.iconst 4, 1) := by decide +kernel
theorem dL_law_301 : decode cL_law 301 = .ok (.invokevirtual 23, 3) := by decide +kernel
theorem dL_law_304 : decode cL_law 304 = .ok (.if_icmp .ne 44, 3) := by decide +kernel
theorem dL_law_307 : decode cL_law 307 = .ok (.aload_n 1, 1) := by decide +kernel
theorem dL_law_308 : decode cL_law 308 = .ok (.iconst 0, 1) := by decide +kernel
theorem dL_law_309 : decode cL_law 309 = .ok (.iconst 0, 1) := by decide +kernel
theorem dL_law_310 : decode cL_law 310 = .ok (.invokevirtual 95, 3) := by decide +kernel
theorem dL_law_313 : decode cL_law 313 = .ok (.aload_n 2, 1) := by decide +kernel
theorem dL_law_314 : decode cL_law 314 = .ok (.iconst 0, 1) := by decide +kernel
theorem dL_law_315 : decode cL_law 315 = .ok (.iconst 0, 1) := by decide +kernel
theorem dL_law_316 : decode cL_law 316 = .ok (.invokevirtual 95, 3) := by decide +kernel
theorem dL_law_319 : decode cL_law 319 = .ok (.if_icmp .ne 29, 3) := by decide +kernel
theorem dL_law_322 : decode cL_law 322 = .ok (.aload_n 1, 1) := by decide +kernel
theorem dL_law_323 : decode cL_law 323 = .ok (.iconst 1, 1) := by decide +kernel
theorem dL_law_324 : decode cL_law 324 = .ok (.iconst 1, 1) := by decide +kernel
theorem dL_law_325 : decode cL_law 325 = .ok (.invokevirtual 95, 3) := by decide +kernel
theorem dL_law_328 : decode cL_law 328 = .ok (.aload_n 2, 1) := by decide +kernel
theorem dL_law_329 : decode cL_law 329 = .ok (.iconst 1, 1) := by decide +kernel
theorem dL_law_330 : decode cL_law 330 = .ok (.iconst 1, 1) := by decide +kernel
theorem dL_law_331 : decode cL_law 331 = .ok (.invokevirtual 95, 3) := by decide +kernel
theorem dL_law_334 : decode cL_law 334 = .ok (.if_icmp .ne 14, 3) := by decide +kernel
theorem dL_law_337 : decode cL_law 337 = .ok (.aload_n 1, 1) := by decide +kernel
theorem dL_law_338 : decode cL_law 338 = .ok (.invokestatic 110, 3) := by decide +kernel
theorem dL_law_341 : decode cL_law 341 = .ok (.ifCond .eq 7, 3) := by decide +kernel
theorem dL_law_344 : decode cL_law 344 = .ok (.iconst 1, 1) := by decide +kernel
theorem dL_law_345 : decode cL_law 345 = .ok (.goto 4, 3) := by decide +kernel
theorem dL_law_348 : decode cL_law 348 = .ok (.iconst 0, 1) := by decide +kernel
theorem dL_law_349 : decode cL_law 349 = .ok (.ireturn, 1) := by decide +kernel
abbrev vwCl : List vw_C := [(RX0, TX0, 14), (RX2, TX2, 2), (RX3, TX3, 3), (RX4, TX4, 7), (RX5, TX5, 2), (RX6, TX6, 5)]
