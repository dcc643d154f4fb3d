/-! ===== BEGIN printed: names, fields, word lists, decode rows ===== -/
def RX0 : String := "SmellMoorings$Field"
def TX0 : u_T := fun k => match k with
  | 0 => ("SmellMoorings$Field", "shipX", "I", false)
  | 1 => ("SmellMoorings$Field", "shipY", "I", false)
  | 2 => ("SmellMoorings$Field", "heavy", "I", false)
  | 3 => ("SmellMoorings$Field", "windTo", "I", false)
  | 4 => ("SmellMoorings$Field", "windForce", "I", false)
  | 5 => ("SmellMoorings$Field", "hour", "I", false)
  | 6 => ("SmellMoorings$Field", "posts", "I", false)
  | 7 => ("SmellMoorings$Field", "sailors", "I", false)
  | 8 => ("SmellMoorings$Field", "pullRight", "I", false)
  | 9 => ("SmellMoorings$Field", "pullDown", "I", false)
  | 10 => ("SmellMoorings$Field", "postX", "[I", true)
  | 11 => ("SmellMoorings$Field", "postY", "[I", true)
  | 12 => ("SmellMoorings$Field", "postSmell", "[I", true)
  | 13 => ("SmellMoorings$Field", "postGone", "[I", true)
  | 14 => ("SmellMoorings$Field", "sailorKind", "[I", true)
  | 15 => ("SmellMoorings$Field", "sailorSmell", "[I", true)
  | _ => ("SmellMoorings$Field", "sailorNose", "[I", true)
def tyX0 : Nat → FieldType := fun k => match k with
  | 0 => .int
  | 1 => .int
  | 2 => .int
  | 3 => .int
  | 4 => .int
  | 5 => .int
  | 6 => .int
  | 7 => .int
  | 8 => .int
  | 9 => .int
  | 10 => .array .int
  | 11 => .array .int
  | 12 => .array .int
  | 13 => .array .int
  | 14 => .array .int
  | 15 => .array .int
  | _ => .array .int
abbrev wsX00 : List Cond := u_ws RX0 TX0 17
theorem nmX0 : ∀ a, a < 17 → ∀ b, b < 17 → a ≠ b → (TX0 a).2.1 ≠ (TX0 b).2.1 := by decide +kernel
theorem tyX0_ok : ∀ k, k < 17 → parseFieldDescriptor (TX0 k).2.2.1 = some (tyX0 k) := by decide +kernel
abbrev cX0_init : ByteArray := prog_2_method_1_code
def yX0_init : MethodName := ⟨RX0, "<init>", "()V"⟩
abbrev cX0_clear : ByteArray := prog_2_method_2_code
def yX0_clear : MethodName := ⟨RX0, "clear", "()V"⟩
abbrev cX0_copyFrom : ByteArray := prog_2_method_3_code
def yX0_copyFrom : MethodName := ⟨RX0, "copyFrom", "(LSmellMoorings$Field;)V"⟩
abbrev cX0_hasPost : ByteArray := prog_2_method_4_code
def yX0_hasPost : MethodName := ⟨RX0, "hasPost", "(I)Z"⟩
abbrev cX0_hasSailor : ByteArray := prog_2_method_5_code
def yX0_hasSailor : MethodName := ⟨RX0, "hasSailor", "(I)Z"⟩
abbrev cX0_isShipAt : ByteArray := prog_2_method_6_code
def yX0_isShipAt : MethodName := ⟨RX0, "isShipAt", "(II)Z"⟩
abbrev cX0_moveShip : ByteArray := prog_2_method_7_code
def yX0_moveShip : MethodName := ⟨RX0, "moveShip", "(II)V"⟩
abbrev cX0_addPost : ByteArray := prog_2_method_8_code
def yX0_addPost : MethodName := ⟨RX0, "addPost", "(III)V"⟩
abbrev cX0_changePost : ByteArray := prog_2_method_9_code
def yX0_changePost : MethodName := ⟨RX0, "changePost", "(IIII)V"⟩
abbrev cX0_addSailor : ByteArray := prog_2_method_10_code
def yX0_addSailor : MethodName := ⟨RX0, "addSailor", "(III)V"⟩
abbrev cX0_standingPosts : ByteArray := prog_2_method_11_code
def yX0_standingPosts : MethodName := ⟨RX0, "standingPosts", "()I"⟩
abbrev cX0_apart : ByteArray := prog_2_method_12_code
def yX0_apart : MethodName := ⟨RX0, "apart", "(I)I"⟩
abbrev cX0_nearestPost : ByteArray := prog_2_method_13_code
def yX0_nearestPost : MethodName := ⟨RX0, "nearestPost", "(I)I"⟩
abbrev cX0_strengthTo : ByteArray := prog_2_method_14_code
def yX0_strengthTo : MethodName := ⟨RX0, "strengthTo", "(II)I"⟩
abbrev cX0_headingTo : ByteArray := prog_2_method_15_code
def yX0_headingTo : MethodName := ⟨RX0, "headingTo", "(II)I"⟩
abbrev cX0_addPull : ByteArray := prog_2_method_16_code
def yX0_addPull : MethodName := ⟨RX0, "addPull", "(II)V"⟩
abbrev cX0_goesTo : ByteArray := prog_2_method_17_code
def yX0_goesTo : MethodName := ⟨RX0, "goesTo", "()I"⟩
abbrev cX0_goHours : ByteArray := prog_2_method_18_code
def yX0_goHours : MethodName := ⟨RX0, "goHours", "(I)I"⟩
abbrev cX0_hoursTo : ByteArray := prog_2_method_19_code
def yX0_hoursTo : MethodName := ⟨RX0, "hoursTo", "(III)I"⟩
def RX1 : String := "SmellMoorings$Pile"
def TX1 : u_T := fun k => match k with
  | 0 => ("SmellMoorings$Pile", "fields", "[LSmellMoorings$Field;", true)
  | 1 => ("SmellMoorings$Pile", "many", "I", false)
  | _ => ("SmellMoorings$Pile", "top", "I", false)
def tyX1 : Nat → FieldType := fun k => match k with
  | 0 => .array (.object "SmellMoorings$Field")
  | 1 => .int
  | _ => .int
abbrev wsX10 : List Cond := u_ws RX1 TX1 3
theorem nmX1 : ∀ a, a < 3 → ∀ b, b < 3 → a ≠ b → (TX1 a).2.1 ≠ (TX1 b).2.1 := by decide +kernel
theorem tyX1_ok : ∀ k, k < 3 → parseFieldDescriptor (TX1 k).2.2.1 = some (tyX1 k) := by decide +kernel
abbrev cX1_init : ByteArray := prog_3_method_1_code
def yX1_init : MethodName := ⟨RX1, "<init>", "(I)V"⟩
abbrev cX1_topField : ByteArray := prog_3_method_2_code
def yX1_topField : MethodName := ⟨RX1, "topField", "()LSmellMoorings$Field;"⟩
abbrev cX1_push : ByteArray := prog_3_method_3_code
def yX1_push : MethodName := ⟨RX1, "push", "(LSmellMoorings$Field;)V"⟩
abbrev cX1_popInto : ByteArray := prog_3_method_4_code
def yX1_popInto : MethodName := ⟨RX1, "popInto", "(LSmellMoorings$Field;)Z"⟩
def RX2 : String := "SmellMoorings$Rows"
def TX2 : u_T := fun k => match k with
  | _ => ("", "", "", false)
def tyX2 : Nat → FieldType := fun k => match k with
  | _ => .int
abbrev wsX20 : List Cond := u_ws RX2 TX2 0
theorem nmX2 : ∀ a, a < 0 → ∀ b, b < 0 → a ≠ b → (TX2 a).2.1 ≠ (TX2 b).2.1 := by decide +kernel
theorem tyX2_ok : ∀ k, k < 0 → parseFieldDescriptor (TX2 k).2.2.1 = some (tyX2 k) := by decide +kernel
abbrev cX2_at : ByteArray := prog_4_method_2_code
def yX2_at : MethodName := ⟨RX2, "at", "([II)I"⟩
abbrev cX2_set : ByteArray := prog_4_method_3_code
def yX2_set : MethodName := ⟨RX2, "set", "([III)V"⟩
abbrev cX2_copy : ByteArray := prog_4_method_4_code
def yX2_copy : MethodName := ⟨RX2, "copy", "([I[I)V"⟩
def RX3 : String := "SmellMoorings$Sightings"
def TX3 : u_T := fun k => match k with
  | 0 => ("SmellMoorings$Sightings", "cellX", "[I", true)
  | 1 => ("SmellMoorings$Sightings", "cellY", "[I", true)
  | 2 => ("SmellMoorings$Sightings", "heading", "[I", true)
  | _ => ("SmellMoorings$Sightings", "many", "I", false)
def tyX3 : Nat → FieldType := fun k => match k with
  | 0 => .array .int
  | 1 => .array .int
  | 2 => .array .int
  | _ => .int
abbrev wsX30 : List Cond := u_ws RX3 TX3 4
theorem nmX3 : ∀ a, a < 4 → ∀ b, b < 4 → a ≠ b → (TX3 a).2.1 ≠ (TX3 b).2.1 := by decide +kernel
theorem tyX3_ok : ∀ k, k < 4 → parseFieldDescriptor (TX3 k).2.2.1 = some (tyX3 k) := by decide +kernel
abbrev cX3_init : ByteArray := prog_5_method_1_code
def yX3_init : MethodName := ⟨RX3, "<init>", "()V"⟩
abbrev cX3_addSighting : ByteArray := prog_5_method_2_code
def yX3_addSighting : MethodName := ⟨RX3, "addSighting", "(III)Z"⟩
abbrev cX3_areSoIn : ByteArray := prog_5_method_3_code
def yX3_areSoIn : MethodName := ⟨RX3, "areSoIn", "(LSmellMoorings$Field;)Z"⟩
def RX4 : String := "SmellMoorings$Text"
def TX4 : u_T := fun k => match k with
  | 0 => ("SmellMoorings$Text", "letters", "[I", true)
  | 1 => ("SmellMoorings$Text", "numbers", "[I", true)
  | 2 => ("SmellMoorings$Text", "length", "I", false)
  | _ => ("SmellMoorings$Text", "place", "I", false)
def tyX4 : Nat → FieldType := fun k => match k with
  | 0 => .array .int
  | 1 => .array .int
  | 2 => .int
  | _ => .int
abbrev wsX40 : List Cond := u_ws RX4 TX4 4
theorem nmX4 : ∀ a, a < 4 → ∀ b, b < 4 → a ≠ b → (TX4 a).2.1 ≠ (TX4 b).2.1 := by decide +kernel
theorem tyX4_ok : ∀ k, k < 4 → parseFieldDescriptor (TX4 k).2.2.1 = some (tyX4 k) := by decide +kernel
abbrev cX4_init : ByteArray := prog_6_method_1_code
def yX4_init : MethodName := ⟨RX4, "<init>", "()V"⟩
abbrev cX4_addLetter : ByteArray := prog_6_method_2_code
def yX4_addLetter : MethodName := ⟨RX4, "addLetter", "(I)Z"⟩
abbrev cX4_readInto : ByteArray := prog_6_method_3_code
def yX4_readInto : MethodName := ⟨RX4, "readInto", "(LSmellMoorings$Field;)I"⟩
abbrev cX4_readItem : ByteArray := prog_6_method_4_code
def yX4_readItem : MethodName := ⟨RX4, "readItem", "(LSmellMoorings$Field;)Z"⟩
abbrev cX4_readNumber : ByteArray := prog_6_method_5_code
def yX4_readNumber : MethodName := ⟨RX4, "readNumber", "()I"⟩
abbrev cX4_letterHere : ByteArray := prog_6_method_6_code
def yX4_letterHere : MethodName := ⟨RX4, "letterHere", "()I"⟩
abbrev cX4_tellShip : ByteArray := prog_6_method_7_code
def yX4_tellShip : MethodName := ⟨RX4, "tellShip", "(LSmellMoorings$Field;III)Z"⟩
abbrev cX4_tellWind : ByteArray := prog_6_method_8_code
def yX4_tellWind : MethodName := ⟨RX4, "tellWind", "(LSmellMoorings$Field;II)Z"⟩
abbrev cX4_tellPost : ByteArray := prog_6_method_9_code
def yX4_tellPost : MethodName := ⟨RX4, "tellPost", "(LSmellMoorings$Field;III)Z"⟩
abbrev cX4_tellSailor : ByteArray := prog_6_method_10_code
def yX4_tellSailor : MethodName := ⟨RX4, "tellSailor", "(LSmellMoorings$Field;III)Z"⟩
def RX5 : String := "SmellMoorings"
def TX5 : u_T := fun k => match k with
  | 0 => ("SmellMoorings", "text", "LSmellMoorings$Text;", true)
  | 1 => ("SmellMoorings", "now", "LSmellMoorings$Field;", true)
  | 2 => ("SmellMoorings", "trial", "LSmellMoorings$Field;", true)
  | 3 => ("SmellMoorings", "sightings", "LSmellMoorings$Sightings;", true)
  | 4 => ("SmellMoorings", "undoable", "LSmellMoorings$Pile;", true)
  | 5 => ("SmellMoorings", "kept", "LSmellMoorings$Pile;", true)
  | 6 => ("SmellMoorings", "chance", "[I", true)
  | _ => ("SmellMoorings", "chanceNext", "[I", true)
def tyX5 : Nat → FieldType := fun k => match k with
  | 0 => .object "SmellMoorings$Text"
  | 1 => .object "SmellMoorings$Field"
  | 2 => .object "SmellMoorings$Field"
  | 3 => .object "SmellMoorings$Sightings"
  | 4 => .object "SmellMoorings$Pile"
  | 5 => .object "SmellMoorings$Pile"
  | 6 => .array .int
  | _ => .array .int
abbrev wsX50 : List Cond := u_ws RX5 TX5 8
theorem nmX5 : ∀ a, a < 8 → ∀ b, b < 8 → a ≠ b → (TX5 a).2.1 ≠ (TX5 b).2.1 := by decide +kernel
theorem tyX5_ok : ∀ k, k < 8 → parseFieldDescriptor (TX5 k).2.2.1 = some (tyX5 k) := by decide +kernel
abbrev cX5_init : ByteArray := prog_1_method_1_code
def yX5_init : MethodName := ⟨RX5, "<init>", "()V"⟩
abbrev cX5_write : ByteArray := prog_1_method_2_code
def yX5_write : MethodName := ⟨RX5, "write", "(I)I"⟩
abbrev cX5_wipe : ByteArray := prog_1_method_3_code
def yX5_wipe : MethodName := ⟨RX5, "wipe", "()I"⟩
abbrev cX5_fault : ByteArray := prog_1_method_4_code
def yX5_fault : MethodName := ⟨RX5, "fault", "()I"⟩
abbrev cX5_lay : ByteArray := prog_1_method_5_code
def yX5_lay : MethodName := ⟨RX5, "lay", "()I"⟩
abbrev cX5_post : ByteArray := prog_1_method_6_code
def yX5_post : MethodName := ⟨RX5, "post", "(II)I"⟩
abbrev cX5_crew : ByteArray := prog_1_method_7_code
def yX5_crew : MethodName := ⟨RX5, "crew", "(II)I"⟩
abbrev cX5_pull : ByteArray := prog_1_method_8_code
def yX5_pull : MethodName := ⟨RX5, "pull", "(I)I"⟩
abbrev cX5_pass : ByteArray := prog_1_method_9_code
def yX5_pass : MethodName := ⟨RX5, "pass", "(I)I"⟩
abbrev cX5_wind : ByteArray := prog_1_method_10_code
def yX5_wind : MethodName := ⟨RX5, "wind", "(II)I"⟩
abbrev cX5_put : ByteArray := prog_1_method_11_code
def yX5_put : MethodName := ⟨RX5, "put", "(III)I"⟩
abbrev cX5_smell : ByteArray := prog_1_method_12_code
def yX5_smell : MethodName := ⟨RX5, "smell", "(II)I"⟩
abbrev cX5_take : ByteArray := prog_1_method_13_code
def yX5_take : MethodName := ⟨RX5, "take", "(I)I"⟩
abbrev cX5_undo : ByteArray := prog_1_method_14_code
def yX5_undo : MethodName := ⟨RX5, "undo", "()I"⟩
abbrev cX5_behind : ByteArray := prog_1_method_15_code
def yX5_behind : MethodName := ⟨RX5, "behind", "(II)I"⟩
abbrev cX5_stands : ByteArray := prog_1_method_16_code
def yX5_stands : MethodName := ⟨RX5, "stands", "()I"⟩
abbrev cX5_gale : ByteArray := prog_1_method_17_code
def yX5_gale : MethodName := ⟨RX5, "gale", "(I)I"⟩
abbrev cX5_hold : ByteArray := prog_1_method_18_code
def yX5_hold : MethodName := ⟨RX5, "hold", "()I"⟩
abbrev cX5_brings : ByteArray := prog_1_method_19_code
def yX5_brings : MethodName := ⟨RX5, "brings", "(III)I"⟩
abbrev cX5_keeps : ByteArray := prog_1_method_20_code
def yX5_keeps : MethodName := ⟨RX5, "keeps", "(I)I"⟩
abbrev cX5_instead : ByteArray := prog_1_method_21_code
def yX5_instead : MethodName := ⟨RX5, "instead", "()I"⟩
abbrev cX5_seen : ByteArray := prog_1_method_22_code
def yX5_seen : MethodName := ⟨RX5, "seen", "(III)I"⟩
abbrev cX5_forget : ByteArray := prog_1_method_23_code
def yX5_forget : MethodName := ⟨RX5, "forget", "()I"⟩
abbrev cX5_may : ByteArray := prog_1_method_24_code
def yX5_may : MethodName := ⟨RX5, "may", "(II)I"⟩
abbrev cX5_stowaway : ByteArray := prog_1_method_25_code
def yX5_stowaway : MethodName := ⟨RX5, "stowaway", "(I)I"⟩
abbrev cX5_likely : ByteArray := prog_1_method_26_code
def yX5_likely : MethodName := ⟨RX5, "likely", "(III)I"⟩
abbrev cX5_voyage : ByteArray := prog_1_method_27_code
def yX5_voyage : MethodName := ⟨RX5, "voyage", "(III)I"⟩
abbrev cX5_keep : ByteArray := prog_1_method_28_code
def yX5_keep : MethodName := ⟨RX5, "keep", "()I"⟩
abbrev cX5_back : ByteArray := prog_1_method_29_code
def yX5_back : MethodName := ⟨RX5, "back", "()I"⟩
abbrev cX5_count : ByteArray := prog_1_method_30_code
def yX5_count : MethodName := ⟨RX5, "count", "(I)I"⟩
abbrev cX5_within : ByteArray := prog_1_method_31_code
def yX5_within : MethodName := ⟨RX5, "within", "(III)Z"⟩
abbrev cX5_isCell : ByteArray := prog_1_method_32_code
def yX5_isCell : MethodName := ⟨RX5, "isCell", "(II)Z"⟩
abbrev cX5_cellOf : ByteArray := prog_1_method_33_code
def yX5_cellOf : MethodName := ⟨RX5, "cellOf", "(II)I"⟩
abbrev cX5_nameOf : ByteArray := prog_1_method_34_code
def yX5_nameOf : MethodName := ⟨RX5, "nameOf", "(III)I"⟩
abbrev cX5_endsAt : ByteArray := prog_1_method_35_code
def yX5_endsAt : MethodName := ⟨RX5, "endsAt", "(III)Z"⟩
abbrev cX5_bitsThatFit : ByteArray := prog_1_method_36_code
def yX5_bitsThatFit : MethodName := ⟨RX5, "bitsThatFit", "([IIII)I"⟩
abbrev cX5_spreadAnHour : ByteArray := prog_1_method_37_code
def yX5_spreadAnHour : MethodName := ⟨RX5, "spreadAnHour", "(I)V"⟩
abbrev cX5_drawOf : ByteArray := prog_1_method_38_code
def yX5_drawOf : MethodName := ⟨RX5, "drawOf", "(II)I"⟩
abbrev cX5_changeByDraw : ByteArray := prog_1_method_39_code
def yX5_changeByDraw : MethodName := ⟨RX5, "changeByDraw", "(I)V"⟩
def RX6 : String := "SmellMooringsModel"
def TX6 : u_T := fun k => match k with
  | 0 => ("SmellMooringsModel", "postMany", "I", false)
  | 1 => ("SmellMooringsModel", "crewMany", "I", false)
  | 2 => ("SmellMooringsModel", "heavy", "I", false)
  | 3 => ("SmellMooringsModel", "kinds", "[I", true)
  | 4 => ("SmellMooringsModel", "smells", "[I", true)
  | 5 => ("SmellMooringsModel", "noses", "[I", true)
  | 6 => ("SmellMooringsModel", "hour", "I", false)
  | 7 => ("SmellMooringsModel", "shipX", "I", false)
  | 8 => ("SmellMooringsModel", "shipY", "I", false)
  | 9 => ("SmellMooringsModel", "windTo", "I", false)
  | 10 => ("SmellMooringsModel", "windForce", "I", false)
  | 11 => ("SmellMooringsModel", "postX", "[I", true)
  | 12 => ("SmellMooringsModel", "postY", "[I", true)
  | 13 => ("SmellMooringsModel", "postSmell", "[I", true)
  | 14 => ("SmellMooringsModel", "away", "[I", true)
  | 15 => ("SmellMooringsModel", "seenMany", "I", false)
  | 16 => ("SmellMooringsModel", "seenX", "[I", true)
  | 17 => ("SmellMooringsModel", "seenY", "[I", true)
  | 18 => ("SmellMooringsModel", "seenTo", "[I", true)
  | 19 => ("SmellMooringsModel", "text", "[I", true)
  | 20 => ("SmellMooringsModel", "size", "I", false)
  | 21 => ("SmellMooringsModel", "readAt", "I", false)
  | 22 => ("SmellMooringsModel", "readPosts", "I", false)
  | 23 => ("SmellMooringsModel", "readCrew", "I", false)
  | 24 => ("SmellMooringsModel", "readHead", "[I", true)
  | 25 => ("SmellMooringsModel", "readPost", "[I", true)
  | 26 => ("SmellMooringsModel", "readOne", "[I", true)
  | 27 => ("SmellMooringsModel", "readNumber", "I", false)
  | 28 => ("SmellMooringsModel", "tried", "I", false)
  | 29 => ("SmellMooringsModel", "more", "I", false)
  | 30 => ("SmellMooringsModel", "ahead", "[I", true)
  | 31 => ("SmellMooringsModel", "undoMany", "I", false)
  | 32 => ("SmellMooringsModel", "aside", "[I", true)
  | 33 => ("SmellMooringsModel", "kept", "[I", true)
  | _ => ("SmellMooringsModel", "keptMany", "I", false)
def tyX6 : Nat → FieldType := fun k => match k with
  | 0 => .int
  | 1 => .int
  | 2 => .int
  | 3 => .array .int
  | 4 => .array .int
  | 5 => .array .int
  | 6 => .int
  | 7 => .int
  | 8 => .int
  | 9 => .int
  | 10 => .int
  | 11 => .array .int
  | 12 => .array .int
  | 13 => .array .int
  | 14 => .array .int
  | 15 => .int
  | 16 => .array .int
  | 17 => .array .int
  | 18 => .array .int
  | 19 => .array .int
  | 20 => .int
  | 21 => .int
  | 22 => .int
  | 23 => .int
  | 24 => .array .int
  | 25 => .array .int
  | 26 => .array .int
  | 27 => .int
  | 28 => .int
  | 29 => .int
  | 30 => .array .int
  | 31 => .int
  | 32 => .array .int
  | 33 => .array .int
  | _ => .int
abbrev wsX60 : List Cond := u_ws RX6 TX6 35
theorem nmX6 : ∀ a, a < 35 → ∀ b, b < 35 → a ≠ b → (TX6 a).2.1 ≠ (TX6 b).2.1 := by decide +kernel
theorem tyX6_ok : ∀ k, k < 35 → parseFieldDescriptor (TX6 k).2.2.1 = some (tyX6 k) := by decide +kernel
abbrev cX6_in : ByteArray := prog_8_method_1_code
def yX6_in : MethodName := ⟨RX6, "in", "(III)Z"⟩
abbrev cX6_has : ByteArray := prog_8_method_2_code
def yX6_has : MethodName := ⟨RX6, "has", "(II)Z"⟩
abbrev cX6_far : ByteArray := prog_8_method_3_code
def yX6_far : MethodName := ⟨RX6, "far", "(I)I"⟩
abbrev cX6_bits : ByteArray := prog_8_method_4_code
def yX6_bits : MethodName := ⟨RX6, "bits", "(I)I"⟩
abbrev cX6_init : ByteArray := prog_8_method_5_code
def yX6_init : MethodName := ⟨RX6, "<init>", "()V"⟩
abbrev cX6_firstPost : ByteArray := prog_8_method_6_code
def yX6_firstPost : MethodName := ⟨RX6, "firstPost", "(III)V"⟩
abbrev cX6_setsPost : ByteArray := prog_8_method_7_code
def yX6_setsPost : MethodName := ⟨RX6, "setsPost", "(IIII)V"⟩
abbrev cX6_firstOne : ByteArray := prog_8_method_8_code
def yX6_firstOne : MethodName := ⟨RX6, "firstOne", "(III)V"⟩
abbrev cX6_isPost : ByteArray := prog_8_method_9_code
def yX6_isPost : MethodName := ⟨RX6, "isPost", "(I)Z"⟩
abbrev cX6_isOne : ByteArray := prog_8_method_10_code
def yX6_isOne : MethodName := ⟨RX6, "isOne", "(I)Z"⟩
abbrev cX6_isCell : ByteArray := prog_8_method_11_code
def yX6_isCell : MethodName := ⟨RX6, "isCell", "(II)Z"⟩
abbrev cX6_write : ByteArray := prog_8_method_12_code
def yX6_write : MethodName := ⟨RX6, "write", "(I)I"⟩
abbrev cX6_wipe : ByteArray := prog_8_method_13_code
def yX6_wipe : MethodName := ⟨RX6, "wipe", "()I"⟩
abbrev cX6_here : ByteArray := prog_8_method_14_code
def yX6_here : MethodName := ⟨RX6, "here", "()I"⟩
abbrev cX6_isFigure : ByteArray := prog_8_method_15_code
def yX6_isFigure : MethodName := ⟨RX6, "isFigure", "()Z"⟩
abbrev cX6_number : ByteArray := prog_8_method_16_code
def yX6_number : MethodName := ⟨RX6, "number", "(III)Z"⟩
abbrev cX6_three : ByteArray := prog_8_method_17_code
def yX6_three : MethodName := ⟨RX6, "three", "([IIIIII)Z"⟩
abbrev cX6_readsWind : ByteArray := prog_8_method_18_code
def yX6_readsWind : MethodName := ⟨RX6, "readsWind", "()Z"⟩
abbrev cX6_readsItem : ByteArray := prog_8_method_19_code
def yX6_readsItem : MethodName := ⟨RX6, "readsItem", "()Z"⟩
abbrev cX6_fault : ByteArray := prog_8_method_20_code
def yX6_fault : MethodName := ⟨RX6, "fault", "()I"⟩
abbrev cX6_lay : ByteArray := prog_8_method_21_code
def yX6_lay : MethodName := ⟨RX6, "lay", "()I"⟩
abbrev cX6_farTo : ByteArray := prog_8_method_22_code
def yX6_farTo : MethodName := ⟨RX6, "farTo", "(I)I"⟩
abbrev cX6_nearest : ByteArray := prog_8_method_23_code
def yX6_nearest : MethodName := ⟨RX6, "nearest", "(I)I"⟩
abbrev cX6_strengthBy : ByteArray := prog_8_method_24_code
def yX6_strengthBy : MethodName := ⟨RX6, "strengthBy", "(III)I"⟩
abbrev cX6_strength : ByteArray := prog_8_method_25_code
def yX6_strength : MethodName := ⟨RX6, "strength", "(I)I"⟩
abbrev cX6_towards : ByteArray := prog_8_method_26_code
def yX6_towards : MethodName := ⟨RX6, "towards", "(I)I"⟩
abbrev cX6_pullBy : ByteArray := prog_8_method_27_code
def yX6_pullBy : MethodName := ⟨RX6, "pullBy", "(II)I"⟩
abbrev cX6_goesTo : ByteArray := prog_8_method_28_code
def yX6_goesTo : MethodName := ⟨RX6, "goesTo", "()I"⟩
abbrev cX6_passes : ByteArray := prog_8_method_29_code
def yX6_passes : MethodName := ⟨RX6, "passes", "()Z"⟩
abbrev cX6_goesOn : ByteArray := prog_8_method_30_code
def yX6_goesOn : MethodName := ⟨RX6, "goesOn", "(I)V"⟩
abbrev cX6_post : ByteArray := prog_8_method_31_code
def yX6_post : MethodName := ⟨RX6, "post", "(II)I"⟩
abbrev cX6_crew : ByteArray := prog_8_method_32_code
def yX6_crew : MethodName := ⟨RX6, "crew", "(II)I"⟩
abbrev cX6_pull : ByteArray := prog_8_method_33_code
def yX6_pull : MethodName := ⟨RX6, "pull", "(I)I"⟩
abbrev cX6_lays : ByteArray := prog_8_method_34_code
def yX6_lays : MethodName := ⟨RX6, "lays", "([II)V"⟩
abbrev cX6_takes : ByteArray := prog_8_method_35_code
def yX6_takes : MethodName := ⟨RX6, "takes", "([II)V"⟩
abbrev cX6_notes : ByteArray := prog_8_method_36_code
def yX6_notes : MethodName := ⟨RX6, "notes", "()V"⟩
abbrev cX6_pass : ByteArray := prog_8_method_37_code
def yX6_pass : MethodName := ⟨RX6, "pass", "(I)I"⟩
abbrev cX6_wind : ByteArray := prog_8_method_38_code
def yX6_wind : MethodName := ⟨RX6, "wind", "(II)I"⟩
abbrev cX6_put : ByteArray := prog_8_method_39_code
def yX6_put : MethodName := ⟨RX6, "put", "(III)I"⟩
abbrev cX6_smell : ByteArray := prog_8_method_40_code
def yX6_smell : MethodName := ⟨RX6, "smell", "(II)I"⟩
abbrev cX6_left : ByteArray := prog_8_method_41_code
def yX6_left : MethodName := ⟨RX6, "left", "()I"⟩
abbrev cX6_take : ByteArray := prog_8_method_42_code
def yX6_take : MethodName := ⟨RX6, "take", "(I)I"⟩
abbrev cX6_undo : ByteArray := prog_8_method_43_code
def yX6_undo : MethodName := ⟨RX6, "undo", "()I"⟩
abbrev cX6_puts : ByteArray := prog_8_method_44_code
def yX6_puts : MethodName := ⟨RX6, "puts", "()V"⟩
abbrev cX6_puttingBack : ByteArray := prog_8_method_45_code
def yX6_puttingBack : MethodName := ⟨RX6, "puttingBack", "()V"⟩
abbrev cX6_behind : ByteArray := prog_8_method_46_code
def yX6_behind : MethodName := ⟨RX6, "behind", "(II)I"⟩
abbrev cX6_stands : ByteArray := prog_8_method_47_code
def yX6_stands : MethodName := ⟨RX6, "stands", "()I"⟩
abbrev cX6_gale : ByteArray := prog_8_method_48_code
def yX6_gale : MethodName := ⟨RX6, "gale", "(I)I"⟩
abbrev cX6_hold : ByteArray := prog_8_method_49_code
def yX6_hold : MethodName := ⟨RX6, "hold", "()I"⟩
abbrev cX6_brings : ByteArray := prog_8_method_50_code
def yX6_brings : MethodName := ⟨RX6, "brings", "(III)I"⟩
abbrev cX6_endBy : ByteArray := prog_8_method_51_code
def yX6_endBy : MethodName := ⟨RX6, "endBy", "(I)I"⟩
abbrev cX6_keeps : ByteArray := prog_8_method_52_code
def yX6_keeps : MethodName := ⟨RX6, "keeps", "(I)I"⟩
abbrev cX6_instead : ByteArray := prog_8_method_53_code
def yX6_instead : MethodName := ⟨RX6, "instead", "()I"⟩
abbrev cX6_seen : ByteArray := prog_8_method_54_code
def yX6_seen : MethodName := ⟨RX6, "seen", "(III)I"⟩
abbrev cX6_forget : ByteArray := prog_8_method_55_code
def yX6_forget : MethodName := ⟨RX6, "forget", "()I"⟩
abbrev cX6_isSo : ByteArray := prog_8_method_56_code
def yX6_isSo : MethodName := ⟨RX6, "isSo", "()Z"⟩
abbrev cX6_may : ByteArray := prog_8_method_57_code
def yX6_may : MethodName := ⟨RX6, "may", "(II)I"⟩
abbrev cX6_stowaway : ByteArray := prog_8_method_58_code
def yX6_stowaway : MethodName := ⟨RX6, "stowaway", "(I)I"⟩
abbrev cX6_common : ByteArray := prog_8_method_59_code
def yX6_common : MethodName := ⟨RX6, "common", "(JJ)J"⟩
abbrev cX6_likely : ByteArray := prog_8_method_60_code
def yX6_likely : MethodName := ⟨RX6, "likely", "(III)I"⟩
abbrev cX6_voyage : ByteArray := prog_8_method_61_code
def yX6_voyage : MethodName := ⟨RX6, "voyage", "(III)I"⟩
abbrev cX6_keep : ByteArray := prog_8_method_62_code
def yX6_keep : MethodName := ⟨RX6, "keep", "()I"⟩
abbrev cX6_back : ByteArray := prog_8_method_63_code
def yX6_back : MethodName := ⟨RX6, "back", "()I"⟩
abbrev cX6_count : ByteArray := prog_8_method_64_code
def yX6_count : MethodName := ⟨RX6, "count", "(I)I"⟩
def RJx145de : String := "java/io/Serializable"
def TJx145de : u_T := fun k => match k with
  | _ => ("", "", "", false)
def tyJx145de : Nat → FieldType := fun k => match k with
  | _ => .int
abbrev wsJx145de0 : List Cond := u_ws RJx145de TJx145de 0
theorem nmJx145de : ∀ a, a < 0 → ∀ b, b < 0 → a ≠ b → (TJx145de a).2.1 ≠ (TJx145de b).2.1 := by decide +kernel
theorem tyJx145de_ok : ∀ k, k < 0 → parseFieldDescriptor (TJx145de k).2.2.1 = some (tyJx145de k) := by decide +kernel
def RJx9f9b0 : String := "java/lang/CharSequence"
def TJx9f9b0 : u_T := fun k => match k with
  | _ => ("", "", "", false)
def tyJx9f9b0 : Nat → FieldType := fun k => match k with
  | _ => .int
abbrev wsJx9f9b00 : List Cond := u_ws RJx9f9b0 TJx9f9b0 0
theorem nmJx9f9b0 : ∀ a, a < 0 → ∀ b, b < 0 → a ≠ b → (TJx9f9b0 a).2.1 ≠ (TJx9f9b0 b).2.1 := by decide +kernel
theorem tyJx9f9b0_ok : ∀ k, k < 0 → parseFieldDescriptor (TJx9f9b0 k).2.2.1 = some (tyJx9f9b0 k) := by decide +kernel
def RJxb160c : String := "java/lang/Comparable"
def TJxb160c : u_T := fun k => match k with
  | _ => ("", "", "", false)
def tyJxb160c : Nat → FieldType := fun k => match k with
  | _ => .int
abbrev wsJxb160c0 : List Cond := u_ws RJxb160c TJxb160c 0
theorem nmJxb160c : ∀ a, a < 0 → ∀ b, b < 0 → a ≠ b → (TJxb160c a).2.1 ≠ (TJxb160c b).2.1 := by decide +kernel
theorem tyJxb160c_ok : ∀ k, k < 0 → parseFieldDescriptor (TJxb160c k).2.2.1 = some (tyJxb160c k) := by decide +kernel
def RJ6 : String := "java/lang/Integer"
def TJ6 : u_T := fun k => match k with
  | _ => ("", "", "", false)
def tyJ6 : Nat → FieldType := fun k => match k with
  | _ => .int
abbrev wsJ60 : List Cond := u_ws RJ6 TJ6 0
theorem nmJ6 : ∀ a, a < 0 → ∀ b, b < 0 → a ≠ b → (TJ6 a).2.1 ≠ (TJ6 b).2.1 := by decide +kernel
theorem tyJ6_ok : ∀ k, k < 0 → parseFieldDescriptor (TJ6 k).2.2.1 = some (tyJ6 k) := by decide +kernel
abbrev cJ6_bitCount_0f7a4 : ByteArray := prog_9_method_49_code
def yJ6_bitCount_0f7a4 : MethodName := ⟨RJ6, "bitCount", "(I)I"⟩
def RJ9 : String := "java/lang/Math"
def TJ9 : u_T := fun k => match k with
  | _ => ("", "", "", false)
def tyJ9 : Nat → FieldType := fun k => match k with
  | _ => .int
abbrev wsJ90 : List Cond := u_ws RJ9 TJ9 0
theorem nmJ9 : ∀ a, a < 0 → ∀ b, b < 0 → a ≠ b → (TJ9 a).2.1 ≠ (TJ9 b).2.1 := by decide +kernel
theorem tyJ9_ok : ∀ k, k < 0 → parseFieldDescriptor (TJ9 k).2.2.1 = some (tyJ9 k) := by decide +kernel
abbrev cJ9_abs_0f7a4 : ByteArray := prog_10_method_59_code
def yJ9_abs_0f7a4 : MethodName := ⟨RJ9, "abs", "(I)I"⟩
abbrev cJ9_max_7cf53 : ByteArray := prog_10_method_65_code
def yJ9_max_7cf53 : MethodName := ⟨RJ9, "max", "(II)I"⟩
abbrev cJ9_min_7cf53 : ByteArray := prog_10_method_69_code
def yJ9_min_7cf53 : MethodName := ⟨RJ9, "min", "(II)I"⟩
def RJ0 : String := "java/lang/String"
def TJ0 : u_T := fun k => match k with
  | _ => ("", "", "", false)
def tyJ0 : Nat → FieldType := fun k => match k with
  | _ => .int
abbrev wsJ00 : List Cond := u_ws RJ0 TJ0 0
theorem nmJ0 : ∀ a, a < 0 → ∀ b, b < 0 → a ≠ b → (TJ0 a).2.1 ≠ (TJ0 b).2.1 := by decide +kernel
theorem tyJ0_ok : ∀ k, k < 0 → parseFieldDescriptor (TJ0 k).2.2.1 = some (tyJ0 k) := by decide +kernel
abbrev cJ0_length_8abf5 : ByteArray := prog_11_method_54_code
def yJ0_length_8abf5 : MethodName := ⟨RJ0, "length", "()I"⟩
abbrev cJ0_charAt_5068e : ByteArray := prog_11_method_56_code
def yJ0_charAt_5068e : MethodName := ⟨RJ0, "charAt", "(I)C"⟩
abbrev cJ0_coder_7d493 : ByteArray := prog_11_method_152_code
def yJ0_coder_7d493 : MethodName := ⟨RJ0, "coder", "()B"⟩
abbrev cJ0_isLatin1_aae02 : ByteArray := prog_11_method_154_code
def yJ0_isLatin1_aae02 : MethodName := ⟨RJ0, "isLatin1", "()Z"⟩
abbrev cJ0_checkIndex_df160 : ByteArray := prog_11_method_155_code
def yJ0_checkIndex_df160 : MethodName := ⟨RJ0, "checkIndex", "(II)V"⟩
def RJ1 : String := "java/lang/StringLatin1"
def TJ1 : u_T := fun k => match k with
  | _ => ("", "", "", false)
def tyJ1 : Nat → FieldType := fun k => match k with
  | _ => .int
abbrev wsJ10 : List Cond := u_ws RJ1 TJ1 0
theorem nmJ1 : ∀ a, a < 0 → ∀ b, b < 0 → a ≠ b → (TJ1 a).2.1 ≠ (TJ1 b).2.1 := by decide +kernel
theorem tyJ1_ok : ∀ k, k < 0 → parseFieldDescriptor (TJ1 k).2.2.1 = some (tyJ1 k) := by decide +kernel
abbrev cJ1_charAt_3b067 : ByteArray := prog_12_method_2_code
def yJ1_charAt_3b067 : MethodName := ⟨RJ1, "charAt", "([BI)C"⟩
def RJ2 : String := "java/lang/StringUTF16"
def TJ2 : u_T := fun k => match k with
  | _ => ("", "", "", false)
def tyJ2 : Nat → FieldType := fun k => match k with
  | _ => .int
abbrev wsJ20 : List Cond := u_ws RJ2 TJ2 0
theorem nmJ2 : ∀ a, a < 0 → ∀ b, b < 0 → a ≠ b → (TJ2 a).2.1 ≠ (TJ2 b).2.1 := by decide +kernel
theorem tyJ2_ok : ∀ k, k < 0 → parseFieldDescriptor (TJ2 k).2.2.1 = some (tyJ2 k) := by decide +kernel
abbrev cJ2_getChar_3b067 : ByteArray := prog_13_method_5_code
def yJ2_getChar_3b067 : MethodName := ⟨RJ2, "getChar", "([BI)C"⟩
abbrev cJ2_length_9d52b : ByteArray := prog_13_method_6_code
def yJ2_length_9d52b : MethodName := ⟨RJ2, "length", "([B)I"⟩
abbrev cJ2_charAt_3b067 : ByteArray := prog_13_method_83_code
def yJ2_charAt_3b067 : MethodName := ⟨RJ2, "charAt", "([BI)C"⟩
abbrev cJ2_checkIndex_2214a : ByteArray := prog_13_method_91_code
def yJ2_checkIndex_2214a : MethodName := ⟨RJ2, "checkIndex", "(I[B)V"⟩
def RJ10 : String := "java/lang/System"
def TJ10 : u_T := fun k => match k with
  | _ => ("", "", "", false)
def tyJ10 : Nat → FieldType := fun k => match k with
  | _ => .int
abbrev wsJ100 : List Cond := u_ws RJ10 TJ10 0
theorem nmJ10 : ∀ a, a < 0 → ∀ b, b < 0 → a ≠ b → (TJ10 a).2.1 ≠ (TJ10 b).2.1 := by decide +kernel
theorem tyJ10_ok : ∀ k, k < 0 → parseFieldDescriptor (TJ10 k).2.2.1 = some (tyJ10 k) := by decide +kernel
def RJxfd54e : String := "java/lang/constant/Constable"
def TJxfd54e : u_T := fun k => match k with
  | _ => ("", "", "", false)
def tyJxfd54e : Nat → FieldType := fun k => match k with
  | _ => .int
abbrev wsJxfd54e0 : List Cond := u_ws RJxfd54e TJxfd54e 0
theorem nmJxfd54e : ∀ a, a < 0 → ∀ b, b < 0 → a ≠ b → (TJxfd54e a).2.1 ≠ (TJxfd54e b).2.1 := by decide +kernel
theorem tyJxfd54e_ok : ∀ k, k < 0 → parseFieldDescriptor (TJxfd54e k).2.2.1 = some (tyJxfd54e k) := by decide +kernel
def RJx3cf43 : String := "java/lang/constant/ConstantDesc"
def TJx3cf43 : u_T := fun k => match k with
  | _ => ("", "", "", false)
def tyJx3cf43 : Nat → FieldType := fun k => match k with
  | _ => .int
abbrev wsJx3cf430 : List Cond := u_ws RJx3cf43 TJx3cf43 0
theorem nmJx3cf43 : ∀ a, a < 0 → ∀ b, b < 0 → a ≠ b → (TJx3cf43 a).2.1 ≠ (TJx3cf43 b).2.1 := by decide +kernel
theorem tyJx3cf43_ok : ∀ k, k < 0 → parseFieldDescriptor (TJx3cf43 k).2.2.1 = some (tyJx3cf43 k) := by decide +kernel
def RJ7 : String := "java/util/Arrays"
def TJ7 : u_T := fun k => match k with
  | _ => ("", "", "", false)
def tyJ7 : Nat → FieldType := fun k => match k with
  | _ => .int
abbrev wsJ70 : List Cond := u_ws RJ7 TJ7 0
theorem nmJ7 : ∀ a, a < 0 → ∀ b, b < 0 → a ≠ b → (TJ7 a).2.1 ≠ (TJ7 b).2.1 := by decide +kernel
theorem tyJ7_ok : ∀ k, k < 0 → parseFieldDescriptor (TJ7 k).2.2.1 = some (tyJ7 k) := by decide +kernel
abbrev cJ7_fill_53178 : ByteArray := prog_15_method_103_code
def yJ7_fill_53178 : MethodName := ⟨RJ7, "fill", "([II)V"⟩
def RJ3 : String := "jdk/internal/util/Preconditions"
def TJ3 : u_T := fun k => match k with
  | _ => ("", "", "", false)
def tyJ3 : Nat → FieldType := fun k => match k with
  | _ => .int
abbrev wsJ30 : List Cond := u_ws RJ3 TJ3 0
theorem nmJ3 : ∀ a, a < 0 → ∀ b, b < 0 → a ≠ b → (TJ3 a).2.1 ≠ (TJ3 b).2.1 := by decide +kernel
theorem tyJ3_ok : ∀ k, k < 0 → parseFieldDescriptor (TJ3 k).2.2.1 = some (tyJ3 k) := by decide +kernel
abbrev cJ3_checkIndex_8e157 : ByteArray := prog_16_method_11_code
def yJ3_checkIndex_8e157 : MethodName := ⟨RJ3, "checkIndex", "(IILjava/util/function/BiFunction;)I"⟩
def RL : String := "SmellMooringsLaw"
abbrev cL_law : ByteArray := code
def yL_law : MethodName := ⟨RL, "law", "([I)Z"⟩
