section
/-! ===== BEGIN words of one list among another's, by their places ===== -/
theorem goodIn_r {big : List Cond} (ws : List Cond) (ps : List Nat) (hp : ws = ps.filterMap (fun i => big[i]?)) (h : ws.all goodWord = true) : GoodIn big ws := by
  intro w hw
  have h1 := List.all_eq_true.mp h w hw
  rw [hp] at hw
  obtain ⟨i, -, hi⟩ := List.mem_filterMap.mp hw
  have hm : w ∈ big := by first | exact List.mem_of_getElem? hi | exact List.getElem?_mem hi
  exact ⟨hm, good_of_word h1⟩
theorem goodIn_app {big a b : List Cond} (ha : GoodIn big a) (hb : GoodIn big b) : GoodIn big (a ++ b) := fun w h => (List.mem_append.mp h).elim (ha w) (hb w)
theorem goodIn_ca {big a b : List Cond} {c : Cond} (ha : GoodIn big (c :: a)) (hb : GoodIn big b) : GoodIn big (c :: (a ++ b)) := fun w h => (List.mem_cons.mp h).elim (fun e => ha w (List.mem_cons.mpr (Or.inl e))) (fun h => (List.mem_append.mp h).elim (fun h => ha w (List.mem_cons.mpr (Or.inr h))) (hb w))
theorem goodIn_sub {big ws : List Cond} (hm : ∀ w ∈ ws, w ∈ big) (h : ws.all goodWord = true) : GoodIn big ws := fun w hw => ⟨hm w hw, good_of_word (List.all_eq_true.mp h w hw)⟩
/-! ===== END ===== -/

/-! ===== BEGIN printed: names, fields, word lists, decode rows ===== -/
def RX0 : String := "StormFelling$Days"
def TX0 : u_T := fun k => match k with
  | 0 => ("StormFelling$Days", "signs", "[C", true)
  | 1 => ("StormFelling$Days", "length", "I", false)
  | 2 => ("StormFelling$Days", "at", "I", false)
  | 3 => ("StormFelling$Days", "kind", "C", false)
  | 4 => ("StormFelling$Days", "first", "I", false)
  | _ => ("StormFelling$Days", "second", "I", false)
def tyX0 : Nat → FieldType := fun k => match k with
  | 0 => .array .char
  | 1 => .int
  | 2 => .int
  | 3 => .char
  | 4 => .int
  | _ => .int
abbrev wsX00 : List Cond := u_ws RX0 TX0 6
theorem nmX0 : ∀ a, a < 6 → ∀ b, b < 6 → a ≠ b → (TX0 a).2.1 ≠ (TX0 b).2.1 := by decide +kernel
theorem tyX0_ok : ∀ k, k < 6 → parseFieldDescriptor (TX0 k).2.2.1 = some (tyX0 k) := by decide +kernel
abbrev cX0_init : ByteArray := prog_2_method_1_code
def yX0_init : MethodName := ⟨RX0, "<init>", "()V"⟩
abbrev cX0_append : ByteArray := prog_2_method_2_code
def yX0_append : MethodName := ⟨RX0, "append", "(C)I"⟩
abbrev cX0_empty : ByteArray := prog_2_method_3_code
def yX0_empty : MethodName := ⟨RX0, "empty", "()I"⟩
abbrev cX0_countThings : ByteArray := prog_2_method_4_code
def yX0_countThings : MethodName := ⟨RX0, "countThings", "()I"⟩
abbrev cX0_startOver : ByteArray := prog_2_method_5_code
def yX0_startOver : MethodName := ⟨RX0, "startOver", "()V"⟩
abbrev cX0_readNext : ByteArray := prog_2_method_6_code
def yX0_readNext : MethodName := ⟨RX0, "readNext", "()V"⟩
abbrev cX0_readThing : ByteArray := prog_2_method_7_code
def yX0_readThing : MethodName := ⟨RX0, "readThing", "()Z"⟩
abbrev cX0_readKind : ByteArray := prog_2_method_8_code
def yX0_readKind : MethodName := ⟨RX0, "readKind", "(C)Z"⟩
abbrev cX0_readSign : ByteArray := prog_2_method_9_code
def yX0_readSign : MethodName := ⟨RX0, "readSign", "(C)Z"⟩
abbrev cX0_readFirst : ByteArray := prog_2_method_10_code
def yX0_readFirst : MethodName := ⟨RX0, "readFirst", "(II)Z"⟩
abbrev cX0_readSecond : ByteArray := prog_2_method_11_code
def yX0_readSecond : MethodName := ⟨RX0, "readSecond", "(I)Z"⟩
abbrev cX0_readNumber : ByteArray := prog_2_method_12_code
def yX0_readNumber : MethodName := ⟨RX0, "readNumber", "(II)I"⟩
abbrev cX0_digitHere : ByteArray := prog_2_method_13_code
def yX0_digitHere : MethodName := ⟨RX0, "digitHere", "()I"⟩
def RX1 : String := "StormFelling$History"
def TX1 : u_T := fun k => match k with
  | 0 => ("StormFelling$History", "states", "[LStormFelling$Wood;", true)
  | _ => ("StormFelling$History", "size", "I", false)
def tyX1 : Nat → FieldType := fun k => match k with
  | 0 => .array (.object "StormFelling$Wood")
  | _ => .int
abbrev wsX10 : List Cond := u_ws RX1 TX1 2
theorem nmX1 : ∀ a, a < 2 → ∀ b, b < 2 → a ≠ b → (TX1 a).2.1 ≠ (TX1 b).2.1 := by decide +kernel
theorem tyX1_ok : ∀ k, k < 2 → parseFieldDescriptor (TX1 k).2.2.1 = some (tyX1 k) := by decide +kernel
abbrev cX1_init : ByteArray := prog_3_method_1_code
def yX1_init : MethodName := ⟨RX1, "<init>", "()V"⟩
abbrev cX1_push : ByteArray := prog_3_method_2_code
def yX1_push : MethodName := ⟨RX1, "push", "(LStormFelling$Wood;)V"⟩
abbrev cX1_dropOldest : ByteArray := prog_3_method_3_code
def yX1_dropOldest : MethodName := ⟨RX1, "dropOldest", "()V"⟩
abbrev cX1_pop : ByteArray := prog_3_method_4_code
def yX1_pop : MethodName := ⟨RX1, "pop", "(LStormFelling$Wood;)Z"⟩
def RX2 : String := "StormFelling$Paths"
def TX2 : u_T := fun k => match k with
  | 0 => ("StormFelling$Paths", "above", "[I", true)
  | 1 => ("StormFelling$Paths", "below", "[I", true)
  | _ => ("StormFelling$Paths", "all", "I", false)
def tyX2 : Nat → FieldType := fun k => match k with
  | 0 => .array .int
  | 1 => .array .int
  | _ => .int
abbrev wsX20 : List Cond := u_ws RX2 TX2 3
theorem nmX2 : ∀ a, a < 3 → ∀ b, b < 3 → a ≠ b → (TX2 a).2.1 ≠ (TX2 b).2.1 := by decide +kernel
theorem tyX2_ok : ∀ k, k < 3 → parseFieldDescriptor (TX2 k).2.2.1 = some (tyX2 k) := by decide +kernel
abbrev cX2_init : ByteArray := prog_4_method_1_code
def yX2_init : MethodName := ⟨RX2, "<init>", "()V"⟩
abbrev cX2_follow : ByteArray := prog_4_method_2_code
def yX2_follow : MethodName := ⟨RX2, "follow", "([I)V"⟩
abbrev cX2_isOpen : ByteArray := prog_4_method_3_code
def yX2_isOpen : MethodName := ⟨RX2, "isOpen", "([II)Z"⟩
abbrev cX2_around : ByteArray := prog_4_method_4_code
def yX2_around : MethodName := ⟨RX2, "around", "([II)I"⟩
abbrev cX2_through : ByteArray := prog_4_method_5_code
def yX2_through : MethodName := ⟨RX2, "through", "(I)I"⟩
abbrev cX2_within : ByteArray := prog_4_method_6_code
def yX2_within : MethodName := ⟨RX2, "within", "(II)I"⟩
abbrev cX2_leastColumn : ByteArray := prog_4_method_7_code
def yX2_leastColumn : MethodName := ⟨RX2, "leastColumn", "(I)I"⟩
abbrev cX2_greatestColumn : ByteArray := prog_4_method_8_code
def yX2_greatestColumn : MethodName := ⟨RX2, "greatestColumn", "(I)I"⟩
abbrev cX2_mostOpenRow : ByteArray := prog_4_method_9_code
def yX2_mostOpenRow : MethodName := ⟨RX2, "mostOpenRow", "()I"⟩
abbrev cX2_openColumns : ByteArray := prog_4_method_10_code
def yX2_openColumns : MethodName := ⟨RX2, "openColumns", "(I)I"⟩
def RX3 : String := "StormFelling$Wood"
def TX3 : u_T := fun k => match k with
  | 0 => ("StormFelling$Wood", "worths", "[I", true)
  | 1 => ("StormFelling$Wood", "felled", "[Z", true)
  | 2 => ("StormFelling$Wood", "mud", "I", false)
  | 3 => ("StormFelling$Wood", "places", "[I", true)
  | 4 => ("StormFelling$Wood", "steps", "[I", true)
  | 5 => ("StormFelling$Wood", "saved", "[I", true)
  | 6 => ("StormFelling$Wood", "fellings", "[I", true)
  | 7 => ("StormFelling$Wood", "told", "[I", true)
  | 8 => ("StormFelling$Wood", "settings", "[I", true)
  | 9 => ("StormFelling$Wood", "day", "I", false)
  | 10 => ("StormFelling$Wood", "lost", "I", false)
  | 11 => ("StormFelling$Wood", "regretted", "I", false)
  | _ => ("StormFelling$Wood", "storms", "I", false)
def tyX3 : Nat → FieldType := fun k => match k with
  | 0 => .array .int
  | 1 => .array .boolean
  | 2 => .int
  | 3 => .array .int
  | 4 => .array .int
  | 5 => .array .int
  | 6 => .array .int
  | 7 => .array .int
  | 8 => .array .int
  | 9 => .int
  | 10 => .int
  | 11 => .int
  | _ => .int
abbrev wsX30 : List Cond := u_ws RX3 TX3 13
theorem nmX3 : ∀ a, a < 13 → ∀ b, b < 13 → a ≠ b → (TX3 a).2.1 ≠ (TX3 b).2.1 := by decide +kernel
theorem tyX3_ok : ∀ k, k < 13 → parseFieldDescriptor (TX3 k).2.2.1 = some (tyX3 k) := by decide +kernel
abbrev cX3_init : ByteArray := prog_5_method_1_code
def yX3_init : MethodName := ⟨RX3, "<init>", "()V"⟩
abbrev cX3_copyFrom : ByteArray := prog_5_method_2_code
def yX3_copyFrom : MethodName := ⟨RX3, "copyFrom", "(LStormFelling$Wood;)V"⟩
abbrev cX3_plant : ByteArray := prog_5_method_3_code
def yX3_plant : MethodName := ⟨RX3, "plant", "(II)I"⟩
abbrev cX3_getWet : ByteArray := prog_5_method_4_code
def yX3_getWet : MethodName := ⟨RX3, "getWet", "(I)I"⟩
abbrev cX3_passDays : ByteArray := prog_5_method_5_code
def yX3_passDays : MethodName := ⟨RX3, "passDays", "(I)I"⟩
abbrev cX3_changeSetting : ByteArray := prog_5_method_6_code
def yX3_changeSetting : MethodName := ⟨RX3, "changeSetting", "(II)I"⟩
abbrev cX3_sendCrew : ByteArray := prog_5_method_7_code
def yX3_sendCrew : MethodName := ⟨RX3, "sendCrew", "(II)I"⟩
abbrev cX3_fellHere : ByteArray := prog_5_method_8_code
def yX3_fellHere : MethodName := ⟨RX3, "fellHere", "(I)I"⟩
abbrev cX3_tellColumn : ByteArray := prog_5_method_9_code
def yX3_tellColumn : MethodName := ⟨RX3, "tellColumn", "(LStormFelling$Paths;II)I"⟩
abbrev cX3_untellColumn : ByteArray := prog_5_method_10_code
def yX3_untellColumn : MethodName := ⟨RX3, "untellColumn", "(LStormFelling$Paths;I)I"⟩
abbrev cX3_takeStorm : ByteArray := prog_5_method_11_code
def yX3_takeStorm : MethodName := ⟨RX3, "takeStorm", "(LStormFelling$Paths;)I"⟩
abbrev cX3_felledInVain : ByteArray := prog_5_method_12_code
def yX3_felledInVain : MethodName := ⟨RX3, "felledInVain", "(LStormFelling$Paths;)I"⟩
abbrev cX3_regret : ByteArray := prog_5_method_13_code
def yX3_regret : MethodName := ⟨RX3, "regret", "(LStormFelling$Paths;I)I"⟩
abbrev cX3_loseWorths : ByteArray := prog_5_method_14_code
def yX3_loseWorths : MethodName := ⟨RX3, "loseWorths", "(LStormFelling$Paths;)I"⟩
abbrev cX3_stepsTo : ByteArray := prog_5_method_15_code
def yX3_stepsTo : MethodName := ⟨RX3, "stepsTo", "(II)I"⟩
abbrev cX3_whyNot : ByteArray := prog_5_method_16_code
def yX3_whyNot : MethodName := ⟨RX3, "whyNot", "(II)I"⟩
abbrev cX3_bestPlot : ByteArray := prog_5_method_17_code
def yX3_bestPlot : MethodName := ⟨RX3, "bestPlot", "(LStormFelling$Paths;I)I"⟩
abbrev cX3_isBetter : ByteArray := prog_5_method_18_code
def yX3_isBetter : MethodName := ⟨RX3, "isBetter", "(LStormFelling$Paths;III)Z"⟩
abbrev cX3_hits : ByteArray := prog_5_method_19_code
def yX3_hits : MethodName := ⟨RX3, "hits", "(LStormFelling$Paths;I)I"⟩
abbrev cX3_isEndangered : ByteArray := prog_5_method_20_code
def yX3_isEndangered : MethodName := ⟨RX3, "isEndangered", "(LStormFelling$Paths;I)Z"⟩
abbrev cX3_isDoomed : ByteArray := prog_5_method_21_code
def yX3_isDoomed : MethodName := ⟨RX3, "isDoomed", "(LStormFelling$Paths;I)Z"⟩
abbrev cX3_standsToLose : ByteArray := prog_5_method_22_code
def yX3_standsToLose : MethodName := ⟨RX3, "standsToLose", "(LStormFelling$Paths;I)I"⟩
abbrev cX3_worthOfAll : ByteArray := prog_5_method_23_code
def yX3_worthOfAll : MethodName := ⟨RX3, "worthOfAll", "()I"⟩
abbrev cX3_endangeredPlots : ByteArray := prog_5_method_24_code
def yX3_endangeredPlots : MethodName := ⟨RX3, "endangeredPlots", "(LStormFelling$Paths;)I"⟩
abbrev cX3_doomedPlots : ByteArray := prog_5_method_25_code
def yX3_doomedPlots : MethodName := ⟨RX3, "doomedPlots", "(LStormFelling$Paths;)I"⟩
abbrev cX3_allStandToLose : ByteArray := prog_5_method_26_code
def yX3_allStandToLose : MethodName := ⟨RX3, "allStandToLose", "(LStormFelling$Paths;)I"⟩
abbrev cX3_felledPlots : ByteArray := prog_5_method_27_code
def yX3_felledPlots : MethodName := ⟨RX3, "felledPlots", "()I"⟩
abbrev cX3_hintsTold : ByteArray := prog_5_method_28_code
def yX3_hintsTold : MethodName := ⟨RX3, "hintsTold", "()I"⟩
abbrev cX3_savedByAll : ByteArray := prog_5_method_29_code
def yX3_savedByAll : MethodName := ⟨RX3, "savedByAll", "()I"⟩
def RX4 : String := "StormFelling"
def TX4 : u_T := fun k => match k with
  | 0 => ("StormFelling", "wood", "LStormFelling$Wood;", true)
  | 1 => ("StormFelling", "before", "LStormFelling$Wood;", true)
  | 2 => ("StormFelling", "snapshot", "LStormFelling$Wood;", true)
  | 3 => ("StormFelling", "hasSnapshot", "Z", false)
  | 4 => ("StormFelling", "history", "LStormFelling$History;", true)
  | 5 => ("StormFelling", "paths", "LStormFelling$Paths;", true)
  | 6 => ("StormFelling", "days", "LStormFelling$Days;", true)
  | 7 => ("StormFelling", "stopNumber", "I", false)
  | _ => ("StormFelling", "stopError", "I", false)
def tyX4 : Nat → FieldType := fun k => match k with
  | 0 => .object "StormFelling$Wood"
  | 1 => .object "StormFelling$Wood"
  | 2 => .object "StormFelling$Wood"
  | 3 => .boolean
  | 4 => .object "StormFelling$History"
  | 5 => .object "StormFelling$Paths"
  | 6 => .object "StormFelling$Days"
  | 7 => .int
  | _ => .int
abbrev wsX40 : List Cond := u_ws RX4 TX4 9
theorem nmX4 : ∀ a, a < 9 → ∀ b, b < 9 → a ≠ b → (TX4 a).2.1 ≠ (TX4 b).2.1 := by decide +kernel
theorem tyX4_ok : ∀ k, k < 9 → parseFieldDescriptor (TX4 k).2.2.1 = some (tyX4 k) := by decide +kernel
abbrev cX4_init : ByteArray := prog_1_method_1_code
def yX4_init : MethodName := ⟨RX4, "<init>", "()V"⟩
abbrev cX4_grow : ByteArray := prog_1_method_2_code
def yX4_grow : MethodName := ⟨RX4, "grow", "(II)I"⟩
abbrev cX4_rain : ByteArray := prog_1_method_3_code
def yX4_rain : MethodName := ⟨RX4, "rain", "(I)I"⟩
abbrev cX4_endDays : ByteArray := prog_1_method_4_code
def yX4_endDays : MethodName := ⟨RX4, "endDays", "(I)I"⟩
abbrev cX4_set : ByteArray := prog_1_method_5_code
def yX4_set : MethodName := ⟨RX4, "set", "(II)I"⟩
abbrev cX4_go : ByteArray := prog_1_method_6_code
def yX4_go : MethodName := ⟨RX4, "go", "(II)I"⟩
abbrev cX4_fell : ByteArray := prog_1_method_7_code
def yX4_fell : MethodName := ⟨RX4, "fell", "(I)I"⟩
abbrev cX4_hint : ByteArray := prog_1_method_8_code
def yX4_hint : MethodName := ⟨RX4, "hint", "(II)I"⟩
abbrev cX4_takeBack : ByteArray := prog_1_method_9_code
def yX4_takeBack : MethodName := ⟨RX4, "takeBack", "(I)I"⟩
abbrev cX4_storm : ByteArray := prog_1_method_10_code
def yX4_storm : MethodName := ⟨RX4, "storm", "()I"⟩
abbrev cX4_type : ByteArray := prog_1_method_11_code
def yX4_type : MethodName := ⟨RX4, "type", "(C)I"⟩
abbrev cX4_clearText : ByteArray := prog_1_method_12_code
def yX4_clearText : MethodName := ⟨RX4, "clearText", "()I"⟩
abbrev cX4_perform : ByteArray := prog_1_method_13_code
def yX4_perform : MethodName := ⟨RX4, "perform", "()I"⟩
abbrev cX4_stopped : ByteArray := prog_1_method_14_code
def yX4_stopped : MethodName := ⟨RX4, "stopped", "(I)I"⟩
abbrev cX4_undo : ByteArray := prog_1_method_15_code
def yX4_undo : MethodName := ⟨RX4, "undo", "()I"⟩
abbrev cX4_keep : ByteArray := prog_1_method_16_code
def yX4_keep : MethodName := ⟨RX4, "keep", "()I"⟩
abbrev cX4_restore : ByteArray := prog_1_method_17_code
def yX4_restore : MethodName := ⟨RX4, "restore", "()I"⟩
abbrev cX4_plot : ByteArray := prog_1_method_18_code
def yX4_plot : MethodName := ⟨RX4, "plot", "(II)I"⟩
abbrev cX4_crew : ByteArray := prog_1_method_19_code
def yX4_crew : MethodName := ⟨RX4, "crew", "(II)I"⟩
abbrev cX4_row : ByteArray := prog_1_method_20_code
def yX4_row : MethodName := ⟨RX4, "row", "(II)I"⟩
abbrev cX4_way : ByteArray := prog_1_method_21_code
def yX4_way : MethodName := ⟨RX4, "way", "(II)I"⟩
abbrev cX4_reason : ByteArray := prog_1_method_22_code
def yX4_reason : MethodName := ⟨RX4, "reason", "(II)I"⟩
abbrev cX4_best : ByteArray := prog_1_method_23_code
def yX4_best : MethodName := ⟨RX4, "best", "(I)I"⟩
abbrev cX4_openRow : ByteArray := prog_1_method_24_code
def yX4_openRow : MethodName := ⟨RX4, "openRow", "()I"⟩
abbrev cX4_ifTold : ByteArray := prog_1_method_25_code
def yX4_ifTold : MethodName := ⟨RX4, "ifTold", "(II)I"⟩
abbrev cX4_count : ByteArray := prog_1_method_26_code
def yX4_count : MethodName := ⟨RX4, "count", "(I)I"⟩
abbrev cX4_isIn : ByteArray := prog_1_method_27_code
def yX4_isIn : MethodName := ⟨RX4, "isIn", "(III)Z"⟩
abbrev cX4_isError : ByteArray := prog_1_method_28_code
def yX4_isError : MethodName := ⟨RX4, "isError", "(I)Z"⟩
abbrev cX4_recorded : ByteArray := prog_1_method_29_code
def yX4_recorded : MethodName := ⟨RX4, "recorded", "(I)I"⟩
abbrev cX4_pathsLeft : ByteArray := prog_1_method_30_code
def yX4_pathsLeft : MethodName := ⟨RX4, "pathsLeft", "()LStormFelling$Paths;"⟩
abbrev cX4_doThing : ByteArray := prog_1_method_31_code
def yX4_doThing : MethodName := ⟨RX4, "doThing", "()I"⟩
def RX5 : String := "StormFellingModel"
def TX5 : u_T := fun k => match k with
  | 0 => ("StormFellingModel", "z", "[I", true)
  | 1 => ("StormFellingModel", "spare", "[I", true)
  | 2 => ("StormFellingModel", "past", "[I", true)
  | 3 => ("StormFellingModel", "states", "I", false)
  | 4 => ("StormFellingModel", "kept", "[I", true)
  | 5 => ("StormFellingModel", "isKept", "Z", false)
  | 6 => ("StormFellingModel", "text", "[I", true)
  | 7 => ("StormFellingModel", "length", "I", false)
  | 8 => ("StormFellingModel", "stopNumber", "I", false)
  | 9 => ("StormFellingModel", "stopError", "I", false)
  | 10 => ("StormFellingModel", "down", "[I", true)
  | 11 => ("StormFellingModel", "up", "[I", true)
  | 12 => ("StormFellingModel", "far", "[I", true)
  | 13 => ("StormFellingModel", "lostWorths", "[I", true)
  | 14 => ("StormFellingModel", "told", "[I", true)
  | 15 => ("StormFellingModel", "toldMany", "I", false)
  | _ => ("StormFellingModel", "spot", "I", false)
def tyX5 : Nat → FieldType := fun k => match k with
  | 0 => .array .int
  | 1 => .array .int
  | 2 => .array .int
  | 3 => .int
  | 4 => .array .int
  | 5 => .boolean
  | 6 => .array .int
  | 7 => .int
  | 8 => .int
  | 9 => .int
  | 10 => .array .int
  | 11 => .array .int
  | 12 => .array .int
  | 13 => .array .int
  | 14 => .array .int
  | 15 => .int
  | _ => .int
abbrev wsX50 : List Cond := u_ws RX5 TX5 17
theorem nmX5 : ∀ a, a < 17 → ∀ b, b < 17 → a ≠ b → (TX5 a).2.1 ≠ (TX5 b).2.1 := by decide +kernel
theorem tyX5_ok : ∀ k, k < 17 → parseFieldDescriptor (TX5 k).2.2.1 = some (tyX5 k) := by decide +kernel
abbrev cX5_init : ByteArray := prog_7_method_1_code
def yX5_init : MethodName := ⟨RX5, "<init>", "()V"⟩
abbrev cX5_in : ByteArray := prog_7_method_2_code
def yX5_in : MethodName := ⟨RX5, "in", "(III)Z"⟩
abbrev cX5_isPlot : ByteArray := prog_7_method_3_code
def yX5_isPlot : MethodName := ⟨RX5, "isPlot", "(I)Z"⟩
abbrev cX5_isLine : ByteArray := prog_7_method_4_code
def yX5_isLine : MethodName := ⟨RX5, "isLine", "(I)Z"⟩
abbrev cX5_isCrew : ByteArray := prog_7_method_5_code
def yX5_isCrew : MethodName := ⟨RX5, "isCrew", "(I)Z"⟩
abbrev cX5_of : ByteArray := prog_7_method_6_code
def yX5_of : MethodName := ⟨RX5, "of", "(II)I"⟩
abbrev cX5_lay : ByteArray := prog_7_method_7_code
def yX5_lay : MethodName := ⟨RX5, "lay", "(III)V"⟩
abbrev cX5_refresh : ByteArray := prog_7_method_8_code
def yX5_refresh : MethodName := ⟨RX5, "refresh", "()V"⟩
abbrev cX5_copyState : ByteArray := prog_7_method_9_code
def yX5_copyState : MethodName := ⟨RX5, "copyState", "([II[II)V"⟩
abbrev cX5_recordRow : ByteArray := prog_7_method_10_code
def yX5_recordRow : MethodName := ⟨RX5, "recordRow", "([I)V"⟩
abbrev cX5_record : ByteArray := prog_7_method_11_code
def yX5_record : MethodName := ⟨RX5, "record", "()V"⟩
abbrev cX5_undo : ByteArray := prog_7_method_12_code
def yX5_undo : MethodName := ⟨RX5, "undo", "()I"⟩
abbrev cX5_keep : ByteArray := prog_7_method_13_code
def yX5_keep : MethodName := ⟨RX5, "keep", "()I"⟩
abbrev cX5_restore : ByteArray := prog_7_method_14_code
def yX5_restore : MethodName := ⟨RX5, "restore", "()I"⟩
abbrev cX5_isOpen : ByteArray := prog_7_method_15_code
def yX5_isOpen : MethodName := ⟨RX5, "isOpen", "(I)Z"⟩
abbrev cX5_beside : ByteArray := prog_7_method_16_code
def yX5_beside : MethodName := ⟨RX5, "beside", "([II)I"⟩
abbrev cX5_countPaths : ByteArray := prog_7_method_17_code
def yX5_countPaths : MethodName := ⟨RX5, "countPaths", "()V"⟩
abbrev cX5_allPaths : ByteArray := prog_7_method_18_code
def yX5_allPaths : MethodName := ⟨RX5, "allPaths", "()I"⟩
abbrev cX5_paths : ByteArray := prog_7_method_19_code
def yX5_paths : MethodName := ⟨RX5, "paths", "()I"⟩
abbrev cX5_hits : ByteArray := prog_7_method_20_code
def yX5_hits : MethodName := ⟨RX5, "hits", "(I)I"⟩
abbrev cX5_standsToLose : ByteArray := prog_7_method_21_code
def yX5_standsToLose : MethodName := ⟨RX5, "standsToLose", "(I)I"⟩
abbrev cX5_enters : ByteArray := prog_7_method_22_code
def yX5_enters : MethodName := ⟨RX5, "enters", "(I)I"⟩
abbrev cX5_nearer : ByteArray := prog_7_method_23_code
def yX5_nearer : MethodName := ⟨RX5, "nearer", "(II)Z"⟩
abbrev cX5_getsNearer : ByteArray := prog_7_method_24_code
def yX5_getsNearer : MethodName := ⟨RX5, "getsNearer", "(I)Z"⟩
abbrev cX5_measure : ByteArray := prog_7_method_25_code
def yX5_measure : MethodName := ⟨RX5, "measure", "(I)V"⟩
abbrev cX5_whyNotGrow : ByteArray := prog_7_method_26_code
def yX5_whyNotGrow : MethodName := ⟨RX5, "whyNotGrow", "(II)I"⟩
abbrev cX5_grow : ByteArray := prog_7_method_27_code
def yX5_grow : MethodName := ⟨RX5, "grow", "(II)I"⟩
abbrev cX5_rainNow : ByteArray := prog_7_method_28_code
def yX5_rainNow : MethodName := ⟨RX5, "rainNow", "(I)I"⟩
abbrev cX5_rain : ByteArray := prog_7_method_29_code
def yX5_rain : MethodName := ⟨RX5, "rain", "(I)I"⟩
abbrev cX5_whyNotEnd : ByteArray := prog_7_method_30_code
def yX5_whyNotEnd : MethodName := ⟨RX5, "whyNotEnd", "(I)I"⟩
abbrev cX5_endNow : ByteArray := prog_7_method_31_code
def yX5_endNow : MethodName := ⟨RX5, "endNow", "(I)I"⟩
abbrev cX5_endDays : ByteArray := prog_7_method_32_code
def yX5_endDays : MethodName := ⟨RX5, "endDays", "(I)I"⟩
abbrev cX5_set : ByteArray := prog_7_method_33_code
def yX5_set : MethodName := ⟨RX5, "set", "(II)I"⟩
abbrev cX5_wayOf : ByteArray := prog_7_method_34_code
def yX5_wayOf : MethodName := ⟨RX5, "wayOf", "(II)I"⟩
abbrev cX5_whyNotGo : ByteArray := prog_7_method_35_code
def yX5_whyNotGo : MethodName := ⟨RX5, "whyNotGo", "(II)I"⟩
abbrev cX5_goNow : ByteArray := prog_7_method_36_code
def yX5_goNow : MethodName := ⟨RX5, "goNow", "(II)V"⟩
abbrev cX5_go : ByteArray := prog_7_method_37_code
def yX5_go : MethodName := ⟨RX5, "go", "(II)I"⟩
abbrev cX5_whyNotFell : ByteArray := prog_7_method_38_code
def yX5_whyNotFell : MethodName := ⟨RX5, "whyNotFell", "(I)I"⟩
abbrev cX5_fellNow : ByteArray := prog_7_method_39_code
def yX5_fellNow : MethodName := ⟨RX5, "fellNow", "(I)I"⟩
abbrev cX5_fell : ByteArray := prog_7_method_40_code
def yX5_fell : MethodName := ⟨RX5, "fell", "(I)I"⟩
abbrev cX5_pathsAt : ByteArray := prog_7_method_41_code
def yX5_pathsAt : MethodName := ⟨RX5, "pathsAt", "(II)I"⟩
abbrev cX5_whyNotHint : ByteArray := prog_7_method_42_code
def yX5_whyNotHint : MethodName := ⟨RX5, "whyNotHint", "(II)I"⟩
abbrev cX5_hint : ByteArray := prog_7_method_43_code
def yX5_hint : MethodName := ⟨RX5, "hint", "(II)I"⟩
abbrev cX5_takeBack : ByteArray := prog_7_method_44_code
def yX5_takeBack : MethodName := ⟨RX5, "takeBack", "(I)I"⟩
abbrev cX5_greatest : ByteArray := prog_7_method_45_code
def yX5_greatest : MethodName := ⟨RX5, "greatest", "(I)I"⟩
abbrev cX5_storm : ByteArray := prog_7_method_46_code
def yX5_storm : MethodName := ⟨RX5, "storm", "()I"⟩
abbrev cX5_type : ByteArray := prog_7_method_47_code
def yX5_type : MethodName := ⟨RX5, "type", "(C)I"⟩
abbrev cX5_clearText : ByteArray := prog_7_method_48_code
def yX5_clearText : MethodName := ⟨RX5, "clearText", "()I"⟩
abbrev cX5_sees : ByteArray := prog_7_method_49_code
def yX5_sees : MethodName := ⟨RX5, "sees", "(II)Z"⟩
abbrev cX5_takes : ByteArray := prog_7_method_50_code
def yX5_takes : MethodName := ⟨RX5, "takes", "(I)Z"⟩
abbrev cX5_number : ByteArray := prog_7_method_51_code
def yX5_number : MethodName := ⟨RX5, "number", "(II)I"⟩
abbrev cX5_second : ByteArray := prog_7_method_52_code
def yX5_second : MethodName := ⟨RX5, "second", "(III)I"⟩
abbrev cX5_readThing : ByteArray := prog_7_method_53_code
def yX5_readThing : MethodName := ⟨RX5, "readThing", "()Z"⟩
abbrev cX5_readText : ByteArray := prog_7_method_54_code
def yX5_readText : MethodName := ⟨RX5, "readText", "()Z"⟩
abbrev cX5_whyNot : ByteArray := prog_7_method_55_code
def yX5_whyNot : MethodName := ⟨RX5, "whyNot", "(I)I"⟩
abbrev cX5_doThing : ByteArray := prog_7_method_56_code
def yX5_doThing : MethodName := ⟨RX5, "doThing", "(I)V"⟩
abbrev cX5_perform : ByteArray := prog_7_method_57_code
def yX5_perform : MethodName := ⟨RX5, "perform", "()I"⟩
abbrev cX5_stopped : ByteArray := prog_7_method_58_code
def yX5_stopped : MethodName := ⟨RX5, "stopped", "(I)I"⟩
abbrev cX5_plot : ByteArray := prog_7_method_59_code
def yX5_plot : MethodName := ⟨RX5, "plot", "(II)I"⟩
abbrev cX5_crew : ByteArray := prog_7_method_60_code
def yX5_crew : MethodName := ⟨RX5, "crew", "(II)I"⟩
abbrev cX5_columns : ByteArray := prog_7_method_61_code
def yX5_columns : MethodName := ⟨RX5, "columns", "(II)I"⟩
abbrev cX5_row : ByteArray := prog_7_method_62_code
def yX5_row : MethodName := ⟨RX5, "row", "(II)I"⟩
abbrev cX5_way : ByteArray := prog_7_method_63_code
def yX5_way : MethodName := ⟨RX5, "way", "(II)I"⟩
abbrev cX5_why : ByteArray := prog_7_method_64_code
def yX5_why : MethodName := ⟨RX5, "why", "(II)I"⟩
abbrev cX5_reason : ByteArray := prog_7_method_65_code
def yX5_reason : MethodName := ⟨RX5, "reason", "(II)I"⟩
abbrev cX5_isBetter : ByteArray := prog_7_method_66_code
def yX5_isBetter : MethodName := ⟨RX5, "isBetter", "(II)Z"⟩
abbrev cX5_best : ByteArray := prog_7_method_67_code
def yX5_best : MethodName := ⟨RX5, "best", "(I)I"⟩
abbrev cX5_openRow : ByteArray := prog_7_method_68_code
def yX5_openRow : MethodName := ⟨RX5, "openRow", "()I"⟩
abbrev cX5_ifTold : ByteArray := prog_7_method_69_code
def yX5_ifTold : MethodName := ⟨RX5, "ifTold", "(II)I"⟩
abbrev cX5_sum : ByteArray := prog_7_method_70_code
def yX5_sum : MethodName := ⟨RX5, "sum", "(II)I"⟩
abbrev cX5_plotsHit : ByteArray := prog_7_method_71_code
def yX5_plotsHit : MethodName := ⟨RX5, "plotsHit", "(Z)I"⟩
abbrev cX5_allToLose : ByteArray := prog_7_method_72_code
def yX5_allToLose : MethodName := ⟨RX5, "allToLose", "()I"⟩
abbrev cX5_hints : ByteArray := prog_7_method_73_code
def yX5_hints : MethodName := ⟨RX5, "hints", "()I"⟩
abbrev cX5_count : ByteArray := prog_7_method_74_code
def yX5_count : MethodName := ⟨RX5, "count", "(I)I"⟩
def RJ9 : String := "java/lang/Math"
def TJ9 : u_T := fun k => match k with
  | _ => ("", "", "", false)
def tyJ9 : Nat → FieldType := fun k => match k with
  | _ => .int
abbrev wsJ90 : List Cond := u_ws RJ9 TJ9 0
theorem nmJ9 : ∀ a, a < 0 → ∀ b, b < 0 → a ≠ b → (TJ9 a).2.1 ≠ (TJ9 b).2.1 := by decide +kernel
theorem tyJ9_ok : ∀ k, k < 0 → parseFieldDescriptor (TJ9 k).2.2.1 = some (tyJ9 k) := by decide +kernel
abbrev cJ9_abs_0f7a4 : ByteArray := prog_8_method_59_code
def yJ9_abs_0f7a4 : MethodName := ⟨RJ9, "abs", "(I)I"⟩
abbrev cJ9_max_7cf53 : ByteArray := prog_8_method_65_code
def yJ9_max_7cf53 : MethodName := ⟨RJ9, "max", "(II)I"⟩
abbrev cJ9_min_7cf53 : ByteArray := prog_8_method_69_code
def yJ9_min_7cf53 : MethodName := ⟨RJ9, "min", "(II)I"⟩
def RJ10 : String := "java/lang/System"
def TJ10 : u_T := fun k => match k with
  | _ => ("", "", "", false)
def tyJ10 : Nat → FieldType := fun k => match k with
  | _ => .int
abbrev wsJ100 : List Cond := u_ws RJ10 TJ10 0
theorem nmJ10 : ∀ a, a < 0 → ∀ b, b < 0 → a ≠ b → (TJ10 a).2.1 ≠ (TJ10 b).2.1 := by decide +kernel
theorem tyJ10_ok : ∀ k, k < 0 → parseFieldDescriptor (TJ10 k).2.2.1 = some (tyJ10 k) := by decide +kernel
def RL : String := "StormFellingLaw"
abbrev cL_law : ByteArray := code
def yL_law : MethodName := ⟨RL, "law", "([I)Z"⟩
def wsX0_init : List Cond := .code yX0_init cX0_init 1 none :: ([.methodLink RX0 3 objectInit, .instanceMethod objectInit, .code objectInit ⟨#[0xb1]⟩ 1 none, .arrayClass .char, .fieldLink RX0 9 "StormFelling$Days" "signs" "[C"] ++ wsX00)
def wsX0_append : List Cond := .code yX0_append cX0_append 2 (some .int) :: ([.fieldLink RX0 15 "StormFelling$Days" "length" "I", .fieldLink RX0 9 "StormFelling$Days" "signs" "[C"] ++ wsX00)
def wsX0_empty : List Cond := .code yX0_empty cX0_empty 2 (some .int) :: ([.fieldLink RX0 15 "StormFelling$Days" "length" "I"] ++ wsX00)
def wsX0_startOver : List Cond := .code yX0_startOver cX0_startOver 1 none :: ([.fieldLink RX0 26 "StormFelling$Days" "at" "I"] ++ wsX00)
def wsX0_readSign : List Cond := .code yX0_readSign cX0_readSign 2 (some .boolean) :: ([.fieldLink RX0 26 "StormFelling$Days" "at" "I", .fieldLink RX0 15 "StormFelling$Days" "length" "I", .fieldLink RX0 9 "StormFelling$Days" "signs" "[C"] ++ wsX00)
def wsX0_readKind : List Cond := .code yX0_readKind cX0_readKind 2 (some .boolean) :: ([.fieldLink RX0 44 "StormFelling$Days" "kind" "C", .methodLink RX0 29 yX0_readSign, .instanceMethod yX0_readSign, .selects RX0 yX0_readSign yX0_readSign, .initialized RX0, .code yX0_readSign cX0_readSign 2 (some .boolean), .fieldLink RX0 26 "StormFelling$Days" "at" "I", .fieldLink RX0 15 "StormFelling$Days" "length" "I", .fieldLink RX0 9 "StormFelling$Days" "signs" "[C"] ++ wsX00)
def wsX0_digitHere : List Cond := .code yX0_digitHere cX0_digitHere 1 (some .int) :: ([.fieldLink RX0 26 "StormFelling$Days" "at" "I", .fieldLink RX0 15 "StormFelling$Days" "length" "I", .fieldLink RX0 9 "StormFelling$Days" "signs" "[C"] ++ wsX00)
def wsX4_isIn : List Cond := .code yX4_isIn cX4_isIn 3 (some .boolean) :: ([])
def wsX0_readNumber : List Cond := .code yX0_readNumber cX0_readNumber 5 (some .int) :: ([.fieldLink RX0 26 "StormFelling$Days" "at" "I", .methodLink RX0 58 yX0_digitHere, .instanceMethod yX0_digitHere, .selects RX0 yX0_digitHere yX0_digitHere, .initialized RX0, .code yX0_digitHere cX0_digitHere 1 (some .int), .fieldLink RX0 15 "StormFelling$Days" "length" "I", .fieldLink RX0 9 "StormFelling$Days" "signs" "[C", .static yX4_isIn, .initialized RX4, .code yX4_isIn cX4_isIn 3 (some .boolean)] ++ wsX00)
def wsX0_readFirst : List Cond := .code yX0_readFirst cX0_readFirst 3 (some .boolean) :: ([.fieldLink RX0 52 "StormFelling$Days" "first" "I", .methodLink RX0 48 yX0_readNumber, .instanceMethod yX0_readNumber, .selects RX0 yX0_readNumber yX0_readNumber, .initialized RX0, .code yX0_readNumber cX0_readNumber 5 (some .int), .fieldLink RX0 26 "StormFelling$Days" "at" "I", .methodLink RX0 58 yX0_digitHere, .instanceMethod yX0_digitHere, .selects RX0 yX0_digitHere yX0_digitHere, .code yX0_digitHere cX0_digitHere 1 (some .int), .fieldLink RX0 15 "StormFelling$Days" "length" "I", .fieldLink RX0 9 "StormFelling$Days" "signs" "[C", .static yX4_isIn, .initialized RX4, .code yX4_isIn cX4_isIn 3 (some .boolean)] ++ wsX00)
def wsX0_readSecond : List Cond := .code yX0_readSecond cX0_readSecond 2 (some .boolean) :: ([.fieldLink RX0 55 "StormFelling$Days" "second" "I", .methodLink RX0 48 yX0_readNumber, .instanceMethod yX0_readNumber, .selects RX0 yX0_readNumber yX0_readNumber, .initialized RX0, .code yX0_readNumber cX0_readNumber 5 (some .int), .fieldLink RX0 26 "StormFelling$Days" "at" "I", .methodLink RX0 58 yX0_digitHere, .instanceMethod yX0_digitHere, .selects RX0 yX0_digitHere yX0_digitHere, .code yX0_digitHere cX0_digitHere 1 (some .int), .fieldLink RX0 15 "StormFelling$Days" "length" "I", .fieldLink RX0 9 "StormFelling$Days" "signs" "[C", .static yX4_isIn, .initialized RX4, .code yX4_isIn cX4_isIn 3 (some .boolean)] ++ wsX00)
def wsX0_readThing_r1 : List Cond := [Cond.methodLink RX0 33 yX0_readKind, Cond.instanceMethod yX0_readKind, Cond.selects RX0 yX0_readKind yX0_readKind, Cond.initialized RX0, Cond.code yX0_readKind cX0_readKind 2 (some .boolean), Cond.fieldLink RX0 44 "StormFelling$Days" "kind" "C", Cond.methodLink RX0 29 yX0_readSign, Cond.instanceMethod yX0_readSign, Cond.selects RX0 yX0_readSign yX0_readSign, Cond.code yX0_readSign cX0_readSign 2 (some .boolean), Cond.fieldLink RX0 26 "StormFelling$Days" "at" "I", Cond.fieldLink RX0 15 "StormFelling$Days" "length" "I", Cond.fieldLink RX0 9 "StormFelling$Days" "signs" "[C", Cond.methodLink RX0 36 yX0_readFirst, Cond.instanceMethod yX0_readFirst, Cond.selects RX0 yX0_readFirst yX0_readFirst, Cond.code yX0_readFirst cX0_readFirst 3 (some .boolean), Cond.fieldLink RX0 52 "StormFelling$Days" "first" "I", Cond.methodLink RX0 48 yX0_readNumber, Cond.instanceMethod yX0_readNumber, Cond.selects RX0 yX0_readNumber yX0_readNumber, Cond.code yX0_readNumber cX0_readNumber 5 (some .int), Cond.methodLink RX0 58 yX0_digitHere, Cond.instanceMethod yX0_digitHere]
def wsX0_readThing_r2 : List Cond := [Cond.selects RX0 yX0_digitHere yX0_digitHere, Cond.code yX0_digitHere cX0_digitHere 1 (some .int), Cond.static yX4_isIn, Cond.initialized RX4, Cond.code yX4_isIn cX4_isIn 3 (some .boolean), Cond.methodLink RX0 40 yX0_readSecond, Cond.instanceMethod yX0_readSecond, Cond.selects RX0 yX0_readSecond yX0_readSecond, Cond.code yX0_readSecond cX0_readSecond 2 (some .boolean), Cond.fieldLink RX0 55 "StormFelling$Days" "second" "I"]
def wsX0_readThing : List Cond := .code yX0_readThing cX0_readThing 1 (some .boolean) :: ((wsX0_readThing_r1 ++ wsX0_readThing_r2) ++ wsX00)
def wsX0_countThings_r1 : List Cond := [Cond.fieldLink RX0 26 "StormFelling$Days" "at" "I", Cond.fieldLink RX0 15 "StormFelling$Days" "length" "I", Cond.methodLink RX0 19 yX0_startOver, Cond.instanceMethod yX0_startOver, Cond.selects RX0 yX0_startOver yX0_startOver, Cond.initialized RX0, Cond.code yX0_startOver cX0_startOver 1 none, Cond.methodLink RX0 22 yX0_readThing, Cond.instanceMethod yX0_readThing, Cond.selects RX0 yX0_readThing yX0_readThing, Cond.code yX0_readThing cX0_readThing 1 (some .boolean), Cond.methodLink RX0 33 yX0_readKind, Cond.instanceMethod yX0_readKind, Cond.selects RX0 yX0_readKind yX0_readKind, Cond.code yX0_readKind cX0_readKind 2 (some .boolean), Cond.fieldLink RX0 44 "StormFelling$Days" "kind" "C", Cond.methodLink RX0 29 yX0_readSign, Cond.instanceMethod yX0_readSign, Cond.selects RX0 yX0_readSign yX0_readSign, Cond.code yX0_readSign cX0_readSign 2 (some .boolean), Cond.fieldLink RX0 9 "StormFelling$Days" "signs" "[C", Cond.methodLink RX0 36 yX0_readFirst, Cond.instanceMethod yX0_readFirst, Cond.selects RX0 yX0_readFirst yX0_readFirst]
def wsX0_countThings_r2 : List Cond := [Cond.code yX0_readFirst cX0_readFirst 3 (some .boolean), Cond.fieldLink RX0 52 "StormFelling$Days" "first" "I", Cond.methodLink RX0 48 yX0_readNumber, Cond.instanceMethod yX0_readNumber, Cond.selects RX0 yX0_readNumber yX0_readNumber, Cond.code yX0_readNumber cX0_readNumber 5 (some .int), Cond.methodLink RX0 58 yX0_digitHere, Cond.instanceMethod yX0_digitHere, Cond.selects RX0 yX0_digitHere yX0_digitHere, Cond.code yX0_digitHere cX0_digitHere 1 (some .int), Cond.static yX4_isIn, Cond.initialized RX4, Cond.code yX4_isIn cX4_isIn 3 (some .boolean), Cond.methodLink RX0 40 yX0_readSecond, Cond.instanceMethod yX0_readSecond, Cond.selects RX0 yX0_readSecond yX0_readSecond, Cond.code yX0_readSecond cX0_readSecond 2 (some .boolean), Cond.fieldLink RX0 55 "StormFelling$Days" "second" "I"]
def wsX0_countThings : List Cond := .code yX0_countThings cX0_countThings 2 (some .int) :: ((wsX0_countThings_r1 ++ wsX0_countThings_r2) ++ wsX00)
def wsX0_readNext_r1 : List Cond := [Cond.methodLink RX0 29 yX0_readSign, Cond.instanceMethod yX0_readSign, Cond.selects RX0 yX0_readSign yX0_readSign, Cond.initialized RX0, Cond.code yX0_readSign cX0_readSign 2 (some .boolean), Cond.fieldLink RX0 26 "StormFelling$Days" "at" "I", Cond.fieldLink RX0 15 "StormFelling$Days" "length" "I", Cond.fieldLink RX0 9 "StormFelling$Days" "signs" "[C", Cond.methodLink RX0 22 yX0_readThing, Cond.instanceMethod yX0_readThing, Cond.selects RX0 yX0_readThing yX0_readThing, Cond.code yX0_readThing cX0_readThing 1 (some .boolean), Cond.methodLink RX0 33 yX0_readKind, Cond.instanceMethod yX0_readKind, Cond.selects RX0 yX0_readKind yX0_readKind, Cond.code yX0_readKind cX0_readKind 2 (some .boolean), Cond.fieldLink RX0 44 "StormFelling$Days" "kind" "C", Cond.methodLink RX0 36 yX0_readFirst, Cond.instanceMethod yX0_readFirst, Cond.selects RX0 yX0_readFirst yX0_readFirst, Cond.code yX0_readFirst cX0_readFirst 3 (some .boolean), Cond.fieldLink RX0 52 "StormFelling$Days" "first" "I", Cond.methodLink RX0 48 yX0_readNumber, Cond.instanceMethod yX0_readNumber]
def wsX0_readNext_r2 : List Cond := [Cond.selects RX0 yX0_readNumber yX0_readNumber, Cond.code yX0_readNumber cX0_readNumber 5 (some .int), Cond.methodLink RX0 58 yX0_digitHere, Cond.instanceMethod yX0_digitHere, Cond.selects RX0 yX0_digitHere yX0_digitHere, Cond.code yX0_digitHere cX0_digitHere 1 (some .int), Cond.static yX4_isIn, Cond.initialized RX4, Cond.code yX4_isIn cX4_isIn 3 (some .boolean), Cond.methodLink RX0 40 yX0_readSecond, Cond.instanceMethod yX0_readSecond, Cond.selects RX0 yX0_readSecond yX0_readSecond, Cond.code yX0_readSecond cX0_readSecond 2 (some .boolean), Cond.fieldLink RX0 55 "StormFelling$Days" "second" "I"]
def wsX0_readNext : List Cond := .code yX0_readNext cX0_readNext 1 none :: ((wsX0_readNext_r1 ++ wsX0_readNext_r2) ++ wsX00)
def wsX3_init : List Cond := .code yX3_init cX3_init 2 none :: ([.methodLink RX3 3 objectInit, .instanceMethod objectInit, .code objectInit ⟨#[0xb1]⟩ 1 none, .arrayClass .int, .fieldLink RX3 9 "StormFelling$Wood" "worths" "[I", .arrayClass .boolean, .fieldLink RX3 15 "StormFelling$Wood" "felled" "[Z", .fieldLink RX3 19 "StormFelling$Wood" "places" "[I", .fieldLink RX3 22 "StormFelling$Wood" "steps" "[I", .fieldLink RX3 25 "StormFelling$Wood" "saved" "[I", .fieldLink RX3 28 "StormFelling$Wood" "fellings" "[I", .fieldLink RX3 31 "StormFelling$Wood" "told" "[I", .fieldLink RX3 34 "StormFelling$Wood" "settings" "[I"] ++ wsX30)
def wsX1_init : List Cond := .code yX1_init cX1_init 2 none :: ([.methodLink RX1 3 objectInit, .instanceMethod objectInit, .code objectInit ⟨#[0xb1]⟩ 1 none, .classLink RX1 9 RX3, .fieldLink RX1 11 "StormFelling$History" "states" "[LStormFelling$Wood;", .instantiable RX3 13, .initialized RX3, .methodLink RX1 17 yX3_init, .instanceMethod yX3_init, .code yX3_init cX3_init 2 none, .methodLink RX3 3 objectInit, .arrayClass .int, .fieldLink RX3 9 "StormFelling$Wood" "worths" "[I", .arrayClass .boolean, .fieldLink RX3 15 "StormFelling$Wood" "felled" "[Z", .fieldLink RX3 19 "StormFelling$Wood" "places" "[I", .fieldLink RX3 22 "StormFelling$Wood" "steps" "[I", .fieldLink RX3 25 "StormFelling$Wood" "saved" "[I", .fieldLink RX3 28 "StormFelling$Wood" "fellings" "[I", .fieldLink RX3 31 "StormFelling$Wood" "told" "[I", .fieldLink RX3 34 "StormFelling$Wood" "settings" "[I"] ++ wsX10 ++ wsX30)
def wsX1_dropOldest : List Cond := .code yX1_dropOldest cX1_dropOldest 3 none :: ([.fieldLink RX1 11 "StormFelling$History" "states" "[LStormFelling$Wood;", .fieldLink RX1 18 "StormFelling$History" "size" "I"] ++ wsX10)
def wsX3_copyFrom : List Cond := .code yX3_copyFrom cX3_copyFrom 2 none :: ([.fieldLink RX3 9 "StormFelling$Wood" "worths" "[I", .methodLink RX3 40 arraycopyName, .native arraycopyName, .static arraycopyName, .initialized "java/lang/System", .fieldLink RX3 15 "StormFelling$Wood" "felled" "[Z", .fieldLink RX3 46 "StormFelling$Wood" "mud" "I", .fieldLink RX3 19 "StormFelling$Wood" "places" "[I", .fieldLink RX3 22 "StormFelling$Wood" "steps" "[I", .fieldLink RX3 25 "StormFelling$Wood" "saved" "[I", .fieldLink RX3 28 "StormFelling$Wood" "fellings" "[I", .fieldLink RX3 31 "StormFelling$Wood" "told" "[I", .fieldLink RX3 34 "StormFelling$Wood" "settings" "[I", .fieldLink RX3 50 "StormFelling$Wood" "day" "I", .fieldLink RX3 53 "StormFelling$Wood" "lost" "I", .fieldLink RX3 56 "StormFelling$Wood" "regretted" "I", .fieldLink RX3 59 "StormFelling$Wood" "storms" "I"] ++ wsX30)
def wsX1_push_r1 : List Cond := [Cond.fieldLink RX1 18 "StormFelling$History" "size" "I", Cond.fieldLink RX1 11 "StormFelling$History" "states" "[LStormFelling$Wood;", Cond.methodLink RX1 22 yX1_dropOldest, Cond.instanceMethod yX1_dropOldest, Cond.selects RX1 yX1_dropOldest yX1_dropOldest, Cond.initialized RX1, Cond.code yX1_dropOldest cX1_dropOldest 3 none, Cond.methodLink RX1 25 yX3_copyFrom, Cond.instanceMethod yX3_copyFrom, Cond.selects RX3 yX3_copyFrom yX3_copyFrom, Cond.initialized RX3, Cond.code yX3_copyFrom cX3_copyFrom 2 none, Cond.fieldLink RX3 9 "StormFelling$Wood" "worths" "[I", Cond.methodLink RX3 40 arraycopyName, Cond.native arraycopyName, Cond.static arraycopyName, Cond.initialized "java/lang/System", Cond.fieldLink RX3 15 "StormFelling$Wood" "felled" "[Z", Cond.fieldLink RX3 46 "StormFelling$Wood" "mud" "I", Cond.fieldLink RX3 19 "StormFelling$Wood" "places" "[I", Cond.fieldLink RX3 22 "StormFelling$Wood" "steps" "[I", Cond.fieldLink RX3 25 "StormFelling$Wood" "saved" "[I", Cond.fieldLink RX3 28 "StormFelling$Wood" "fellings" "[I", Cond.fieldLink RX3 31 "StormFelling$Wood" "told" "[I"]
def wsX1_push_r2 : List Cond := [Cond.fieldLink RX3 34 "StormFelling$Wood" "settings" "[I", Cond.fieldLink RX3 50 "StormFelling$Wood" "day" "I", Cond.fieldLink RX3 53 "StormFelling$Wood" "lost" "I", Cond.fieldLink RX3 56 "StormFelling$Wood" "regretted" "I", Cond.fieldLink RX3 59 "StormFelling$Wood" "storms" "I"]
def wsX1_push : List Cond := .code yX1_push cX1_push 2 none :: ((wsX1_push_r1 ++ wsX1_push_r2) ++ wsX10 ++ wsX30)
def wsX1_pop : List Cond := .code yX1_pop cX1_pop 2 (some .boolean) :: ([.fieldLink RX1 18 "StormFelling$History" "size" "I", .fieldLink RX1 11 "StormFelling$History" "states" "[LStormFelling$Wood;", .methodLink RX1 25 yX3_copyFrom, .instanceMethod yX3_copyFrom, .selects RX3 yX3_copyFrom yX3_copyFrom, .initialized RX3, .code yX3_copyFrom cX3_copyFrom 2 none, .fieldLink RX3 9 "StormFelling$Wood" "worths" "[I", .methodLink RX3 40 arraycopyName, .native arraycopyName, .static arraycopyName, .initialized "java/lang/System", .fieldLink RX3 15 "StormFelling$Wood" "felled" "[Z", .fieldLink RX3 46 "StormFelling$Wood" "mud" "I", .fieldLink RX3 19 "StormFelling$Wood" "places" "[I", .fieldLink RX3 22 "StormFelling$Wood" "steps" "[I", .fieldLink RX3 25 "StormFelling$Wood" "saved" "[I", .fieldLink RX3 28 "StormFelling$Wood" "fellings" "[I", .fieldLink RX3 31 "StormFelling$Wood" "told" "[I", .fieldLink RX3 34 "StormFelling$Wood" "settings" "[I", .fieldLink RX3 50 "StormFelling$Wood" "day" "I", .fieldLink RX3 53 "StormFelling$Wood" "lost" "I", .fieldLink RX3 56 "StormFelling$Wood" "regretted" "I", .fieldLink RX3 59 "StormFelling$Wood" "storms" "I"] ++ wsX10 ++ wsX30)
def wsX2_init : List Cond := .code yX2_init cX2_init 1 none :: ([.methodLink RX2 3 objectInit, .instanceMethod objectInit, .code objectInit ⟨#[0xb1]⟩ 1 none, .arrayClass .int, .fieldLink RX2 9 "StormFelling$Paths" "above" "[I", .fieldLink RX2 15 "StormFelling$Paths" "below" "[I"] ++ wsX20)
def wsX2_isOpen : List Cond := .code yX2_isOpen cX2_isOpen 3 (some .boolean) :: ([])
def wsX2_around : List Cond := .code yX2_around cX2_around 3 (some .int) :: ([])
def wsX2_follow : List Cond := .code yX2_follow cX2_follow 3 none :: ([.fieldLink RX2 9 "StormFelling$Paths" "above" "[I", .fieldLink RX2 15 "StormFelling$Paths" "below" "[I", .fieldLink RX2 26 "StormFelling$Paths" "all" "I", .methodLink RX2 18 yX2_isOpen, .static yX2_isOpen, .initialized RX2, .code yX2_isOpen cX2_isOpen 3 (some .boolean), .methodLink RX2 22 yX2_around, .static yX2_around, .code yX2_around cX2_around 3 (some .int)] ++ wsX20)
def wsX2_through : List Cond := .code yX2_through cX2_through 2 (some .int) :: ([.fieldLink RX2 9 "StormFelling$Paths" "above" "[I", .fieldLink RX2 15 "StormFelling$Paths" "below" "[I"] ++ wsX20)
def wsX2_within : List Cond := .code yX2_within cX2_within 8 (some .int) :: ([.methodLink RX2 30 Lib.Math.max.name, .static Lib.Math.max.name, .initialized "java/lang/Math", .code Lib.Math.max.name Lib.Math.max.code 2 (some .int), .methodLink RX2 36 Lib.Math.min.name, .static Lib.Math.min.name, .code Lib.Math.min.name Lib.Math.min.code 2 (some .int), .methodLink RX2 39 yX2_through, .instanceMethod yX2_through, .selects RX2 yX2_through yX2_through, .initialized RX2, .code yX2_through cX2_through 2 (some .int), .fieldLink RX2 9 "StormFelling$Paths" "above" "[I", .fieldLink RX2 15 "StormFelling$Paths" "below" "[I"] ++ wsX20)
def wsX2_leastColumn : List Cond := .code yX2_leastColumn cX2_leastColumn 3 (some .int) :: ([.methodLink RX2 39 yX2_through, .instanceMethod yX2_through, .selects RX2 yX2_through yX2_through, .initialized RX2, .code yX2_through cX2_through 2 (some .int), .fieldLink RX2 9 "StormFelling$Paths" "above" "[I", .fieldLink RX2 15 "StormFelling$Paths" "below" "[I"] ++ wsX20)
def wsX2_greatestColumn : List Cond := .code yX2_greatestColumn cX2_greatestColumn 3 (some .int) :: ([.methodLink RX2 39 yX2_through, .instanceMethod yX2_through, .selects RX2 yX2_through yX2_through, .initialized RX2, .code yX2_through cX2_through 2 (some .int), .fieldLink RX2 9 "StormFelling$Paths" "above" "[I", .fieldLink RX2 15 "StormFelling$Paths" "below" "[I"] ++ wsX20)
def wsX2_openColumns : List Cond := .code yX2_openColumns cX2_openColumns 4 (some .int) :: ([.methodLink RX2 39 yX2_through, .instanceMethod yX2_through, .selects RX2 yX2_through yX2_through, .initialized RX2, .code yX2_through cX2_through 2 (some .int), .fieldLink RX2 9 "StormFelling$Paths" "above" "[I", .fieldLink RX2 15 "StormFelling$Paths" "below" "[I"] ++ wsX20)
def wsX2_mostOpenRow : List Cond := .code yX2_mostOpenRow cX2_mostOpenRow 3 (some .int) :: ([.fieldLink RX2 26 "StormFelling$Paths" "all" "I", .methodLink RX2 43 yX2_openColumns, .instanceMethod yX2_openColumns, .selects RX2 yX2_openColumns yX2_openColumns, .initialized RX2, .code yX2_openColumns cX2_openColumns 4 (some .int), .methodLink RX2 39 yX2_through, .instanceMethod yX2_through, .selects RX2 yX2_through yX2_through, .code yX2_through cX2_through 2 (some .int), .fieldLink RX2 9 "StormFelling$Paths" "above" "[I", .fieldLink RX2 15 "StormFelling$Paths" "below" "[I"] ++ wsX20)
def wsX3_plant : List Cond := .code yX3_plant cX3_plant 4 (some .int) :: ([.fieldLink RX3 9 "StormFelling$Wood" "worths" "[I", .static yX4_isIn, .initialized RX4, .code yX4_isIn cX4_isIn 3 (some .boolean)] ++ wsX30)
def wsX3_getWet : List Cond := .code yX3_getWet cX3_getWet 2 (some .int) :: ([.fieldLink RX3 46 "StormFelling$Wood" "mud" "I", .methodLink RX3 66 Lib.Math.min.name, .static Lib.Math.min.name, .initialized "java/lang/Math", .code Lib.Math.min.name Lib.Math.min.code 2 (some .int), .static yX4_isIn, .initialized RX4, .code yX4_isIn cX4_isIn 3 (some .boolean)] ++ wsX30)
def wsX3_passDays : List Cond := .code yX3_passDays cX3_passDays 3 (some .int) :: ([.fieldLink RX3 50 "StormFelling$Wood" "day" "I", .fieldLink RX3 46 "StormFelling$Wood" "mud" "I", .methodLink RX3 72 Lib.Math.max.name, .static Lib.Math.max.name, .initialized "java/lang/Math", .code Lib.Math.max.name Lib.Math.max.code 2 (some .int), .fieldLink RX3 22 "StormFelling$Wood" "steps" "[I", .fieldLink RX3 34 "StormFelling$Wood" "settings" "[I", .static yX4_isIn, .initialized RX4, .code yX4_isIn cX4_isIn 3 (some .boolean)] ++ wsX30)
def wsX3_changeSetting : List Cond := .code yX3_changeSetting cX3_changeSetting 4 (some .int) :: ([.fieldLink RX3 34 "StormFelling$Wood" "settings" "[I", .static yX4_isIn, .initialized RX4, .code yX4_isIn cX4_isIn 3 (some .boolean)] ++ wsX30)
def wsX3_stepsTo : List Cond := .code yX3_stepsTo cX3_stepsTo 6 (some .int) :: ([.fieldLink RX3 19 "StormFelling$Wood" "places" "[I", .methodLink RX3 112 Lib.Math.abs.name, .static Lib.Math.abs.name, .initialized "java/lang/Math", .code Lib.Math.abs.name Lib.Math.abs.code 1 (some .int), .fieldLink RX3 46 "StormFelling$Wood" "mud" "I"] ++ wsX30)
def wsX3_sendCrew : List Cond := .code yX3_sendCrew cX3_sendCrew 4 (some .int) :: ([.fieldLink RX3 22 "StormFelling$Wood" "steps" "[I", .fieldLink RX3 19 "StormFelling$Wood" "places" "[I", .static yX4_isIn, .initialized RX4, .code yX4_isIn cX4_isIn 3 (some .boolean), .methodLink RX3 81 yX3_stepsTo, .instanceMethod yX3_stepsTo, .selects RX3 yX3_stepsTo yX3_stepsTo, .initialized RX3, .code yX3_stepsTo cX3_stepsTo 6 (some .int), .methodLink RX3 112 Lib.Math.abs.name, .static Lib.Math.abs.name, .initialized "java/lang/Math", .code Lib.Math.abs.name Lib.Math.abs.code 1 (some .int), .fieldLink RX3 46 "StormFelling$Wood" "mud" "I"] ++ wsX30)
def wsX3_fellHere : List Cond := .code yX3_fellHere cX3_fellHere 4 (some .int) :: ([.fieldLink RX3 34 "StormFelling$Wood" "settings" "[I", .fieldLink RX3 22 "StormFelling$Wood" "steps" "[I", .fieldLink RX3 19 "StormFelling$Wood" "places" "[I", .fieldLink RX3 9 "StormFelling$Wood" "worths" "[I", .fieldLink RX3 15 "StormFelling$Wood" "felled" "[Z", .fieldLink RX3 25 "StormFelling$Wood" "saved" "[I", .fieldLink RX3 28 "StormFelling$Wood" "fellings" "[I", .static yX4_isIn, .initialized RX4, .code yX4_isIn cX4_isIn 3 (some .boolean)] ++ wsX30)
def wsX3_tellColumn : List Cond := .code yX3_tellColumn cX3_tellColumn 5 (some .int) :: ([.fieldLink RX3 31 "StormFelling$Wood" "told" "[I", .static yX4_isIn, .initialized RX4, .code yX4_isIn cX4_isIn 3 (some .boolean), .methodLink RX3 84 yX2_through, .instanceMethod yX2_through, .selects RX2 yX2_through yX2_through, .initialized RX2, .code yX2_through cX2_through 2 (some .int), .fieldLink RX2 9 "StormFelling$Paths" "above" "[I", .fieldLink RX2 15 "StormFelling$Paths" "below" "[I"] ++ wsX30 ++ wsX20)
def wsX3_untellColumn : List Cond := .code yX3_untellColumn cX3_untellColumn 3 (some .int) :: ([.fieldLink RX3 31 "StormFelling$Wood" "told" "[I", .static yX4_isIn, .initialized RX4, .code yX4_isIn cX4_isIn 3 (some .boolean), .methodLink RX3 90 yX2_follow, .instanceMethod yX2_follow, .selects RX2 yX2_follow yX2_follow, .initialized RX2, .code yX2_follow cX2_follow 3 none, .fieldLink RX2 9 "StormFelling$Paths" "above" "[I", .fieldLink RX2 15 "StormFelling$Paths" "below" "[I", .fieldLink RX2 26 "StormFelling$Paths" "all" "I", .methodLink RX2 18 yX2_isOpen, .static yX2_isOpen, .code yX2_isOpen cX2_isOpen 3 (some .boolean), .methodLink RX2 22 yX2_around, .static yX2_around, .code yX2_around cX2_around 3 (some .int)] ++ wsX30 ++ wsX20)
def wsX3_hits : List Cond := .code yX3_hits cX3_hits 3 (some .int) :: ([.fieldLink RX3 34 "StormFelling$Wood" "settings" "[I", .methodLink RX3 125 yX2_within, .instanceMethod yX2_within, .selects RX2 yX2_within yX2_within, .initialized RX2, .code yX2_within cX2_within 8 (some .int), .methodLink RX2 30 Lib.Math.max.name, .static Lib.Math.max.name, .initialized "java/lang/Math", .code Lib.Math.max.name Lib.Math.max.code 2 (some .int), .methodLink RX2 36 Lib.Math.min.name, .static Lib.Math.min.name, .code Lib.Math.min.name Lib.Math.min.code 2 (some .int), .methodLink RX2 39 yX2_through, .instanceMethod yX2_through, .selects RX2 yX2_through yX2_through, .code yX2_through cX2_through 2 (some .int), .fieldLink RX2 9 "StormFelling$Paths" "above" "[I", .fieldLink RX2 15 "StormFelling$Paths" "below" "[I"] ++ wsX30 ++ wsX20)
def wsX3_isEndangered : List Cond := .code yX3_isEndangered cX3_isEndangered 3 (some .boolean) :: ([.methodLink RX3 128 yX3_hits, .instanceMethod yX3_hits, .selects RX3 yX3_hits yX3_hits, .initialized RX3, .code yX3_hits cX3_hits 3 (some .int), .fieldLink RX3 34 "StormFelling$Wood" "settings" "[I", .methodLink RX3 125 yX2_within, .instanceMethod yX2_within, .selects RX2 yX2_within yX2_within, .initialized RX2, .code yX2_within cX2_within 8 (some .int), .methodLink RX2 30 Lib.Math.max.name, .static Lib.Math.max.name, .initialized "java/lang/Math", .code Lib.Math.max.name Lib.Math.max.code 2 (some .int), .methodLink RX2 36 Lib.Math.min.name, .static Lib.Math.min.name, .code Lib.Math.min.name Lib.Math.min.code 2 (some .int), .methodLink RX2 39 yX2_through, .instanceMethod yX2_through, .selects RX2 yX2_through yX2_through, .code yX2_through cX2_through 2 (some .int), .fieldLink RX2 9 "StormFelling$Paths" "above" "[I", .fieldLink RX2 15 "StormFelling$Paths" "below" "[I"] ++ wsX30 ++ wsX20)
def wsX3_felledInVain_r1 : List Cond := [Cond.fieldLink RX3 15 "StormFelling$Wood" "felled" "[Z", Cond.methodLink RX3 108 yX3_isEndangered, Cond.instanceMethod yX3_isEndangered, Cond.selects RX3 yX3_isEndangered yX3_isEndangered, Cond.initialized RX3, Cond.code yX3_isEndangered cX3_isEndangered 3 (some .boolean), Cond.methodLink RX3 128 yX3_hits, Cond.instanceMethod yX3_hits, Cond.selects RX3 yX3_hits yX3_hits, Cond.code yX3_hits cX3_hits 3 (some .int), Cond.fieldLink RX3 34 "StormFelling$Wood" "settings" "[I", Cond.methodLink RX3 125 yX2_within, Cond.instanceMethod yX2_within, Cond.selects RX2 yX2_within yX2_within, Cond.initialized RX2, Cond.code yX2_within cX2_within 8 (some .int), Cond.methodLink RX2 30 Lib.Math.max.name, Cond.static Lib.Math.max.name, Cond.initialized "java/lang/Math", Cond.code Lib.Math.max.name Lib.Math.max.code 2 (some .int), Cond.methodLink RX2 36 Lib.Math.min.name, Cond.static Lib.Math.min.name, Cond.code Lib.Math.min.name Lib.Math.min.code 2 (some .int), Cond.methodLink RX2 39 yX2_through]
def wsX3_felledInVain_r2 : List Cond := [Cond.instanceMethod yX2_through, Cond.selects RX2 yX2_through yX2_through, Cond.code yX2_through cX2_through 2 (some .int), Cond.fieldLink RX2 9 "StormFelling$Paths" "above" "[I", Cond.fieldLink RX2 15 "StormFelling$Paths" "below" "[I"]
def wsX3_felledInVain : List Cond := .code yX3_felledInVain cX3_felledInVain 4 (some .int) :: ((wsX3_felledInVain_r1 ++ wsX3_felledInVain_r2) ++ wsX30 ++ wsX20)
def wsX3_regret_r1 : List Cond := [Cond.fieldLink RX3 9 "StormFelling$Wood" "worths" "[I", Cond.methodLink RX3 108 yX3_isEndangered, Cond.instanceMethod yX3_isEndangered, Cond.selects RX3 yX3_isEndangered yX3_isEndangered, Cond.initialized RX3, Cond.code yX3_isEndangered cX3_isEndangered 3 (some .boolean), Cond.methodLink RX3 128 yX3_hits, Cond.instanceMethod yX3_hits, Cond.selects RX3 yX3_hits yX3_hits, Cond.code yX3_hits cX3_hits 3 (some .int), Cond.fieldLink RX3 34 "StormFelling$Wood" "settings" "[I", Cond.methodLink RX3 125 yX2_within, Cond.instanceMethod yX2_within, Cond.selects RX2 yX2_within yX2_within, Cond.initialized RX2, Cond.code yX2_within cX2_within 8 (some .int), Cond.methodLink RX2 30 Lib.Math.max.name, Cond.static Lib.Math.max.name, Cond.initialized "java/lang/Math", Cond.code Lib.Math.max.name Lib.Math.max.code 2 (some .int), Cond.methodLink RX2 36 Lib.Math.min.name, Cond.static Lib.Math.min.name, Cond.code Lib.Math.min.name Lib.Math.min.code 2 (some .int), Cond.methodLink RX2 39 yX2_through]
def wsX3_regret_r2 : List Cond := [Cond.instanceMethod yX2_through, Cond.selects RX2 yX2_through yX2_through, Cond.code yX2_through cX2_through 2 (some .int), Cond.fieldLink RX2 9 "StormFelling$Paths" "above" "[I", Cond.fieldLink RX2 15 "StormFelling$Paths" "below" "[I"]
def wsX3_regret : List Cond := .code yX3_regret cX3_regret 7 (some .int) :: ((wsX3_regret_r1 ++ wsX3_regret_r2) ++ wsX30 ++ wsX20)
def wsX3_loseWorths_r1 : List Cond := [Cond.fieldLink RX3 9 "StormFelling$Wood" "worths" "[I", Cond.methodLink RX3 108 yX3_isEndangered, Cond.instanceMethod yX3_isEndangered, Cond.selects RX3 yX3_isEndangered yX3_isEndangered, Cond.initialized RX3, Cond.code yX3_isEndangered cX3_isEndangered 3 (some .boolean), Cond.methodLink RX3 128 yX3_hits, Cond.instanceMethod yX3_hits, Cond.selects RX3 yX3_hits yX3_hits, Cond.code yX3_hits cX3_hits 3 (some .int), Cond.fieldLink RX3 34 "StormFelling$Wood" "settings" "[I", Cond.methodLink RX3 125 yX2_within, Cond.instanceMethod yX2_within, Cond.selects RX2 yX2_within yX2_within, Cond.initialized RX2, Cond.code yX2_within cX2_within 8 (some .int), Cond.methodLink RX2 30 Lib.Math.max.name, Cond.static Lib.Math.max.name, Cond.initialized "java/lang/Math", Cond.code Lib.Math.max.name Lib.Math.max.code 2 (some .int), Cond.methodLink RX2 36 Lib.Math.min.name, Cond.static Lib.Math.min.name, Cond.code Lib.Math.min.name Lib.Math.min.code 2 (some .int), Cond.methodLink RX2 39 yX2_through]
def wsX3_loseWorths_r2 : List Cond := [Cond.instanceMethod yX2_through, Cond.selects RX2 yX2_through yX2_through, Cond.code yX2_through cX2_through 2 (some .int), Cond.fieldLink RX2 9 "StormFelling$Paths" "above" "[I", Cond.fieldLink RX2 15 "StormFelling$Paths" "below" "[I"]
def wsX3_loseWorths : List Cond := .code yX3_loseWorths cX3_loseWorths 4 (some .int) :: ((wsX3_loseWorths_r1 ++ wsX3_loseWorths_r2) ++ wsX30 ++ wsX20)
def wsX3_takeStorm_r1 : List Cond := [Cond.fieldLink RX3 56 "StormFelling$Wood" "regretted" "I", Cond.fieldLink RX3 53 "StormFelling$Wood" "lost" "I", Cond.fieldLink RX3 59 "StormFelling$Wood" "storms" "I", Cond.fieldLink RX3 15 "StormFelling$Wood" "felled" "[Z", Cond.fieldLink RX3 31 "StormFelling$Wood" "told" "[I", Cond.methodLink RX3 97 yX3_felledInVain, Cond.instanceMethod yX3_felledInVain, Cond.selects RX3 yX3_felledInVain yX3_felledInVain, Cond.initialized RX3, Cond.code yX3_felledInVain cX3_felledInVain 4 (some .int), Cond.methodLink RX3 108 yX3_isEndangered, Cond.instanceMethod yX3_isEndangered, Cond.selects RX3 yX3_isEndangered yX3_isEndangered, Cond.code yX3_isEndangered cX3_isEndangered 3 (some .boolean), Cond.methodLink RX3 128 yX3_hits, Cond.instanceMethod yX3_hits, Cond.selects RX3 yX3_hits yX3_hits, Cond.code yX3_hits cX3_hits 3 (some .int), Cond.fieldLink RX3 34 "StormFelling$Wood" "settings" "[I", Cond.methodLink RX3 125 yX2_within, Cond.instanceMethod yX2_within, Cond.selects RX2 yX2_within yX2_within, Cond.initialized RX2, Cond.code yX2_within cX2_within 8 (some .int)]
def wsX3_takeStorm_r2 : List Cond := [Cond.methodLink RX2 30 Lib.Math.max.name, Cond.static Lib.Math.max.name, Cond.initialized "java/lang/Math", Cond.code Lib.Math.max.name Lib.Math.max.code 2 (some .int), Cond.methodLink RX2 36 Lib.Math.min.name, Cond.static Lib.Math.min.name, Cond.code Lib.Math.min.name Lib.Math.min.code 2 (some .int), Cond.methodLink RX2 39 yX2_through, Cond.instanceMethod yX2_through, Cond.selects RX2 yX2_through yX2_through, Cond.code yX2_through cX2_through 2 (some .int), Cond.fieldLink RX2 9 "StormFelling$Paths" "above" "[I", Cond.fieldLink RX2 15 "StormFelling$Paths" "below" "[I", Cond.methodLink RX3 101 yX3_regret, Cond.instanceMethod yX3_regret, Cond.selects RX3 yX3_regret yX3_regret, Cond.code yX3_regret cX3_regret 7 (some .int), Cond.fieldLink RX3 9 "StormFelling$Wood" "worths" "[I", Cond.methodLink RX3 105 yX3_loseWorths, Cond.instanceMethod yX3_loseWorths, Cond.selects RX3 yX3_loseWorths yX3_loseWorths, Cond.code yX3_loseWorths cX3_loseWorths 4 (some .int)]
def wsX3_takeStorm : List Cond := .code yX3_takeStorm cX3_takeStorm 4 (some .int) :: ((wsX3_takeStorm_r1 ++ wsX3_takeStorm_r2) ++ wsX20 ++ wsX30)
def wsX3_whyNot : List Cond := .code yX3_whyNot cX3_whyNot 4 (some .int) :: ([.fieldLink RX3 9 "StormFelling$Wood" "worths" "[I", .fieldLink RX3 22 "StormFelling$Wood" "steps" "[I", .fieldLink RX3 34 "StormFelling$Wood" "settings" "[I", .methodLink RX3 81 yX3_stepsTo, .instanceMethod yX3_stepsTo, .selects RX3 yX3_stepsTo yX3_stepsTo, .initialized RX3, .code yX3_stepsTo cX3_stepsTo 6 (some .int), .fieldLink RX3 19 "StormFelling$Wood" "places" "[I", .methodLink RX3 112 Lib.Math.abs.name, .static Lib.Math.abs.name, .initialized "java/lang/Math", .code Lib.Math.abs.name Lib.Math.abs.code 1 (some .int), .fieldLink RX3 46 "StormFelling$Wood" "mud" "I"] ++ wsX30)
def wsX3_standsToLose_r1 : List Cond := [Cond.fieldLink RX3 9 "StormFelling$Wood" "worths" "[I", Cond.methodLink RX3 128 yX3_hits, Cond.instanceMethod yX3_hits, Cond.selects RX3 yX3_hits yX3_hits, Cond.initialized RX3, Cond.code yX3_hits cX3_hits 3 (some .int), Cond.fieldLink RX3 34 "StormFelling$Wood" "settings" "[I", Cond.methodLink RX3 125 yX2_within, Cond.instanceMethod yX2_within, Cond.selects RX2 yX2_within yX2_within, Cond.initialized RX2, Cond.code yX2_within cX2_within 8 (some .int), Cond.methodLink RX2 30 Lib.Math.max.name, Cond.static Lib.Math.max.name, Cond.initialized "java/lang/Math", Cond.code Lib.Math.max.name Lib.Math.max.code 2 (some .int), Cond.methodLink RX2 36 Lib.Math.min.name, Cond.static Lib.Math.min.name, Cond.code Lib.Math.min.name Lib.Math.min.code 2 (some .int), Cond.methodLink RX2 39 yX2_through, Cond.instanceMethod yX2_through, Cond.selects RX2 yX2_through yX2_through, Cond.code yX2_through cX2_through 2 (some .int), Cond.fieldLink RX2 9 "StormFelling$Paths" "above" "[I"]
def wsX3_standsToLose_r2 : List Cond := [Cond.fieldLink RX2 15 "StormFelling$Paths" "below" "[I"]
def wsX3_standsToLose : List Cond := .code yX3_standsToLose cX3_standsToLose 3 (some .int) :: ((wsX3_standsToLose_r1 ++ wsX3_standsToLose_r2) ++ wsX20 ++ wsX30)
def wsX3_isBetter_r1 : List Cond := [Cond.fieldLink RX3 9 "StormFelling$Wood" "worths" "[I", Cond.methodLink RX3 122 yX3_standsToLose, Cond.instanceMethod yX3_standsToLose, Cond.selects RX3 yX3_standsToLose yX3_standsToLose, Cond.initialized RX3, Cond.code yX3_standsToLose cX3_standsToLose 3 (some .int), Cond.methodLink RX3 128 yX3_hits, Cond.instanceMethod yX3_hits, Cond.selects RX3 yX3_hits yX3_hits, Cond.code yX3_hits cX3_hits 3 (some .int), Cond.fieldLink RX3 34 "StormFelling$Wood" "settings" "[I", Cond.methodLink RX3 125 yX2_within, Cond.instanceMethod yX2_within, Cond.selects RX2 yX2_within yX2_within, Cond.initialized RX2, Cond.code yX2_within cX2_within 8 (some .int), Cond.methodLink RX2 30 Lib.Math.max.name, Cond.static Lib.Math.max.name, Cond.initialized "java/lang/Math", Cond.code Lib.Math.max.name Lib.Math.max.code 2 (some .int), Cond.methodLink RX2 36 Lib.Math.min.name, Cond.static Lib.Math.min.name, Cond.code Lib.Math.min.name Lib.Math.min.code 2 (some .int), Cond.methodLink RX2 39 yX2_through]
def wsX3_isBetter_r2 : List Cond := [Cond.instanceMethod yX2_through, Cond.selects RX2 yX2_through yX2_through, Cond.code yX2_through cX2_through 2 (some .int), Cond.fieldLink RX2 9 "StormFelling$Paths" "above" "[I", Cond.fieldLink RX2 15 "StormFelling$Paths" "below" "[I", Cond.methodLink RX3 81 yX3_stepsTo, Cond.instanceMethod yX3_stepsTo, Cond.selects RX3 yX3_stepsTo yX3_stepsTo, Cond.code yX3_stepsTo cX3_stepsTo 6 (some .int), Cond.fieldLink RX3 19 "StormFelling$Wood" "places" "[I", Cond.methodLink RX3 112 Lib.Math.abs.name, Cond.static Lib.Math.abs.name, Cond.code Lib.Math.abs.name Lib.Math.abs.code 1 (some .int), Cond.fieldLink RX3 46 "StormFelling$Wood" "mud" "I"]
def wsX3_isBetter : List Cond := .code yX3_isBetter cX3_isBetter 6 (some .boolean) :: ((wsX3_isBetter_r1 ++ wsX3_isBetter_r2) ++ wsX30 ++ wsX20)
def wsX3_bestPlot_r1 : List Cond := [Cond.methodLink RX3 115 yX3_whyNot, Cond.instanceMethod yX3_whyNot, Cond.selects RX3 yX3_whyNot yX3_whyNot, Cond.initialized RX3, Cond.code yX3_whyNot cX3_whyNot 4 (some .int), Cond.fieldLink RX3 9 "StormFelling$Wood" "worths" "[I", Cond.fieldLink RX3 22 "StormFelling$Wood" "steps" "[I", Cond.fieldLink RX3 34 "StormFelling$Wood" "settings" "[I", Cond.methodLink RX3 81 yX3_stepsTo, Cond.instanceMethod yX3_stepsTo, Cond.selects RX3 yX3_stepsTo yX3_stepsTo, Cond.code yX3_stepsTo cX3_stepsTo 6 (some .int), Cond.fieldLink RX3 19 "StormFelling$Wood" "places" "[I", Cond.methodLink RX3 112 Lib.Math.abs.name, Cond.static Lib.Math.abs.name, Cond.initialized "java/lang/Math", Cond.code Lib.Math.abs.name Lib.Math.abs.code 1 (some .int), Cond.fieldLink RX3 46 "StormFelling$Wood" "mud" "I", Cond.methodLink RX3 118 yX3_isBetter, Cond.instanceMethod yX3_isBetter, Cond.selects RX3 yX3_isBetter yX3_isBetter, Cond.code yX3_isBetter cX3_isBetter 6 (some .boolean), Cond.methodLink RX3 122 yX3_standsToLose, Cond.instanceMethod yX3_standsToLose]
def wsX3_bestPlot_r2 : List Cond := [Cond.selects RX3 yX3_standsToLose yX3_standsToLose, Cond.code yX3_standsToLose cX3_standsToLose 3 (some .int), Cond.methodLink RX3 128 yX3_hits, Cond.instanceMethod yX3_hits, Cond.selects RX3 yX3_hits yX3_hits, Cond.code yX3_hits cX3_hits 3 (some .int), Cond.methodLink RX3 125 yX2_within, Cond.instanceMethod yX2_within, Cond.selects RX2 yX2_within yX2_within, Cond.initialized RX2, Cond.code yX2_within cX2_within 8 (some .int), Cond.methodLink RX2 30 Lib.Math.max.name, Cond.static Lib.Math.max.name, Cond.code Lib.Math.max.name Lib.Math.max.code 2 (some .int), Cond.methodLink RX2 36 Lib.Math.min.name, Cond.static Lib.Math.min.name, Cond.code Lib.Math.min.name Lib.Math.min.code 2 (some .int), Cond.methodLink RX2 39 yX2_through, Cond.instanceMethod yX2_through, Cond.selects RX2 yX2_through yX2_through, Cond.code yX2_through cX2_through 2 (some .int), Cond.fieldLink RX2 9 "StormFelling$Paths" "above" "[I", Cond.fieldLink RX2 15 "StormFelling$Paths" "below" "[I"]
def wsX3_bestPlot : List Cond := .code yX3_bestPlot cX3_bestPlot 5 (some .int) :: ((wsX3_bestPlot_r1 ++ wsX3_bestPlot_r2) ++ wsX30 ++ wsX20)
def wsX3_isDoomed : List Cond := .code yX3_isDoomed cX3_isDoomed 3 (some .boolean) :: ([.methodLink RX3 128 yX3_hits, .instanceMethod yX3_hits, .selects RX3 yX3_hits yX3_hits, .initialized RX3, .code yX3_hits cX3_hits 3 (some .int), .fieldLink RX3 34 "StormFelling$Wood" "settings" "[I", .methodLink RX3 125 yX2_within, .instanceMethod yX2_within, .selects RX2 yX2_within yX2_within, .initialized RX2, .code yX2_within cX2_within 8 (some .int), .methodLink RX2 30 Lib.Math.max.name, .static Lib.Math.max.name, .initialized "java/lang/Math", .code Lib.Math.max.name Lib.Math.max.code 2 (some .int), .methodLink RX2 36 Lib.Math.min.name, .static Lib.Math.min.name, .code Lib.Math.min.name Lib.Math.min.code 2 (some .int), .methodLink RX2 39 yX2_through, .instanceMethod yX2_through, .selects RX2 yX2_through yX2_through, .code yX2_through cX2_through 2 (some .int), .fieldLink RX2 9 "StormFelling$Paths" "above" "[I", .fieldLink RX2 15 "StormFelling$Paths" "below" "[I"] ++ wsX20 ++ wsX30)
def wsX3_worthOfAll : List Cond := .code yX3_worthOfAll cX3_worthOfAll 3 (some .int) :: ([.fieldLink RX3 9 "StormFelling$Wood" "worths" "[I"] ++ wsX30)
def wsX3_endangeredPlots_r1 : List Cond := [Cond.methodLink RX3 108 yX3_isEndangered, Cond.instanceMethod yX3_isEndangered, Cond.selects RX3 yX3_isEndangered yX3_isEndangered, Cond.initialized RX3, Cond.code yX3_isEndangered cX3_isEndangered 3 (some .boolean), Cond.methodLink RX3 128 yX3_hits, Cond.instanceMethod yX3_hits, Cond.selects RX3 yX3_hits yX3_hits, Cond.code yX3_hits cX3_hits 3 (some .int), Cond.fieldLink RX3 34 "StormFelling$Wood" "settings" "[I", Cond.methodLink RX3 125 yX2_within, Cond.instanceMethod yX2_within, Cond.selects RX2 yX2_within yX2_within, Cond.initialized RX2, Cond.code yX2_within cX2_within 8 (some .int), Cond.methodLink RX2 30 Lib.Math.max.name, Cond.static Lib.Math.max.name, Cond.initialized "java/lang/Math", Cond.code Lib.Math.max.name Lib.Math.max.code 2 (some .int), Cond.methodLink RX2 36 Lib.Math.min.name, Cond.static Lib.Math.min.name, Cond.code Lib.Math.min.name Lib.Math.min.code 2 (some .int), Cond.methodLink RX2 39 yX2_through, Cond.instanceMethod yX2_through]
def wsX3_endangeredPlots_r2 : List Cond := [Cond.selects RX2 yX2_through yX2_through, Cond.code yX2_through cX2_through 2 (some .int), Cond.fieldLink RX2 9 "StormFelling$Paths" "above" "[I", Cond.fieldLink RX2 15 "StormFelling$Paths" "below" "[I"]
def wsX3_endangeredPlots : List Cond := .code yX3_endangeredPlots cX3_endangeredPlots 4 (some .int) :: ((wsX3_endangeredPlots_r1 ++ wsX3_endangeredPlots_r2) ++ wsX30 ++ wsX20)
def wsX3_doomedPlots_r1 : List Cond := [Cond.methodLink RX3 131 yX3_isDoomed, Cond.instanceMethod yX3_isDoomed, Cond.selects RX3 yX3_isDoomed yX3_isDoomed, Cond.initialized RX3, Cond.code yX3_isDoomed cX3_isDoomed 3 (some .boolean), Cond.methodLink RX3 128 yX3_hits, Cond.instanceMethod yX3_hits, Cond.selects RX3 yX3_hits yX3_hits, Cond.code yX3_hits cX3_hits 3 (some .int), Cond.fieldLink RX3 34 "StormFelling$Wood" "settings" "[I", Cond.methodLink RX3 125 yX2_within, Cond.instanceMethod yX2_within, Cond.selects RX2 yX2_within yX2_within, Cond.initialized RX2, Cond.code yX2_within cX2_within 8 (some .int), Cond.methodLink RX2 30 Lib.Math.max.name, Cond.static Lib.Math.max.name, Cond.initialized "java/lang/Math", Cond.code Lib.Math.max.name Lib.Math.max.code 2 (some .int), Cond.methodLink RX2 36 Lib.Math.min.name, Cond.static Lib.Math.min.name, Cond.code Lib.Math.min.name Lib.Math.min.code 2 (some .int), Cond.methodLink RX2 39 yX2_through, Cond.instanceMethod yX2_through]
def wsX3_doomedPlots_r2 : List Cond := [Cond.selects RX2 yX2_through yX2_through, Cond.code yX2_through cX2_through 2 (some .int), Cond.fieldLink RX2 9 "StormFelling$Paths" "above" "[I", Cond.fieldLink RX2 15 "StormFelling$Paths" "below" "[I"]
def wsX3_doomedPlots : List Cond := .code yX3_doomedPlots cX3_doomedPlots 4 (some .int) :: ((wsX3_doomedPlots_r1 ++ wsX3_doomedPlots_r2) ++ wsX20 ++ wsX30)
def wsX3_allStandToLose_r1 : List Cond := [Cond.methodLink RX3 122 yX3_standsToLose, Cond.instanceMethod yX3_standsToLose, Cond.selects RX3 yX3_standsToLose yX3_standsToLose, Cond.initialized RX3, Cond.code yX3_standsToLose cX3_standsToLose 3 (some .int), Cond.fieldLink RX3 9 "StormFelling$Wood" "worths" "[I", Cond.methodLink RX3 128 yX3_hits, Cond.instanceMethod yX3_hits, Cond.selects RX3 yX3_hits yX3_hits, Cond.code yX3_hits cX3_hits 3 (some .int), Cond.fieldLink RX3 34 "StormFelling$Wood" "settings" "[I", Cond.methodLink RX3 125 yX2_within, Cond.instanceMethod yX2_within, Cond.selects RX2 yX2_within yX2_within, Cond.initialized RX2, Cond.code yX2_within cX2_within 8 (some .int), Cond.methodLink RX2 30 Lib.Math.max.name, Cond.static Lib.Math.max.name, Cond.initialized "java/lang/Math", Cond.code Lib.Math.max.name Lib.Math.max.code 2 (some .int), Cond.methodLink RX2 36 Lib.Math.min.name, Cond.static Lib.Math.min.name, Cond.code Lib.Math.min.name Lib.Math.min.code 2 (some .int), Cond.methodLink RX2 39 yX2_through]
def wsX3_allStandToLose_r2 : List Cond := [Cond.instanceMethod yX2_through, Cond.selects RX2 yX2_through yX2_through, Cond.code yX2_through cX2_through 2 (some .int), Cond.fieldLink RX2 9 "StormFelling$Paths" "above" "[I", Cond.fieldLink RX2 15 "StormFelling$Paths" "below" "[I"]
def wsX3_allStandToLose : List Cond := .code yX3_allStandToLose cX3_allStandToLose 4 (some .int) :: ((wsX3_allStandToLose_r1 ++ wsX3_allStandToLose_r2) ++ wsX20 ++ wsX30)
def wsX3_felledPlots : List Cond := .code yX3_felledPlots cX3_felledPlots 3 (some .int) :: ([.fieldLink RX3 15 "StormFelling$Wood" "felled" "[Z"] ++ wsX30)
def wsX3_hintsTold : List Cond := .code yX3_hintsTold cX3_hintsTold 3 (some .int) :: ([.fieldLink RX3 31 "StormFelling$Wood" "told" "[I"] ++ wsX30)
def wsX3_savedByAll : List Cond := .code yX3_savedByAll cX3_savedByAll 3 (some .int) :: ([.fieldLink RX3 25 "StormFelling$Wood" "saved" "[I"] ++ wsX30)
def wsX4_init_r1 : List Cond := [Cond.methodLink RX4 1 objectInit, Cond.instanceMethod objectInit, Cond.code objectInit ⟨#[0xb1]⟩ 1 none, Cond.classLink RX4 7 RX3, Cond.instantiable RX3 13, Cond.initialized RX3, Cond.fieldLink RX4 10 "StormFelling" "wood" "LStormFelling$Wood;", Cond.fieldLink RX4 16 "StormFelling" "before" "LStormFelling$Wood;", Cond.fieldLink RX4 19 "StormFelling" "snapshot" "LStormFelling$Wood;", Cond.classLink RX4 22 RX1, Cond.instantiable RX1 2, Cond.initialized RX1, Cond.fieldLink RX4 25 "StormFelling" "history" "LStormFelling$History;", Cond.classLink RX4 29 RX2, Cond.instantiable RX2 3, Cond.initialized RX2, Cond.fieldLink RX4 32 "StormFelling" "paths" "LStormFelling$Paths;", Cond.classLink RX4 36 RX0, Cond.instantiable RX0 6, Cond.initialized RX0, Cond.fieldLink RX4 39 "StormFelling" "days" "LStormFelling$Days;", Cond.methodLink RX4 9 yX3_init, Cond.instanceMethod yX3_init, Cond.code yX3_init cX3_init 2 none]
def wsX4_init_r2 : List Cond := [Cond.methodLink RX3 3 objectInit, Cond.arrayClass .int, Cond.fieldLink RX3 9 "StormFelling$Wood" "worths" "[I", Cond.arrayClass .boolean, Cond.fieldLink RX3 15 "StormFelling$Wood" "felled" "[Z", Cond.fieldLink RX3 19 "StormFelling$Wood" "places" "[I", Cond.fieldLink RX3 22 "StormFelling$Wood" "steps" "[I", Cond.fieldLink RX3 25 "StormFelling$Wood" "saved" "[I", Cond.fieldLink RX3 28 "StormFelling$Wood" "fellings" "[I", Cond.fieldLink RX3 31 "StormFelling$Wood" "told" "[I", Cond.fieldLink RX3 34 "StormFelling$Wood" "settings" "[I", Cond.methodLink RX4 24 yX1_init, Cond.instanceMethod yX1_init, Cond.code yX1_init cX1_init 2 none, Cond.methodLink RX1 3 objectInit, Cond.classLink RX1 9 RX3, Cond.fieldLink RX1 11 "StormFelling$History" "states" "[LStormFelling$Wood;", Cond.methodLink RX1 17 yX3_init, Cond.instanceMethod yX2_init, Cond.code yX2_init cX2_init 1 none, Cond.methodLink RX2 3 objectInit, Cond.fieldLink RX2 9 "StormFelling$Paths" "above" "[I", Cond.fieldLink RX2 15 "StormFelling$Paths" "below" "[I", Cond.instanceMethod yX0_init]
def wsX4_init_r3 : List Cond := [Cond.code yX0_init cX0_init 1 none, Cond.methodLink RX0 3 objectInit, Cond.arrayClass .char, Cond.fieldLink RX0 9 "StormFelling$Days" "signs" "[C"]
def wsX4_init : List Cond := .code yX4_init cX4_init 1 none :: ((wsX4_init_r1 ++ (wsX4_init_r2 ++ wsX4_init_r3)) ++ wsX30 ++ wsX40 ++ wsX10 ++ wsX20 ++ wsX00)
def wsX4_recorded_r1 : List Cond := [Cond.fieldLink RX4 25 "StormFelling" "history" "LStormFelling$History;", Cond.fieldLink RX4 16 "StormFelling" "before" "LStormFelling$Wood;", Cond.methodLink RX4 234 yX1_push, Cond.instanceMethod yX1_push, Cond.selects RX1 yX1_push yX1_push, Cond.initialized RX1, Cond.code yX1_push cX1_push 2 none, Cond.fieldLink RX1 18 "StormFelling$History" "size" "I", Cond.fieldLink RX1 11 "StormFelling$History" "states" "[LStormFelling$Wood;", Cond.methodLink RX1 22 yX1_dropOldest, Cond.instanceMethod yX1_dropOldest, Cond.selects RX1 yX1_dropOldest yX1_dropOldest, Cond.code yX1_dropOldest cX1_dropOldest 3 none, Cond.methodLink RX1 25 yX3_copyFrom, Cond.instanceMethod yX3_copyFrom, Cond.selects RX3 yX3_copyFrom yX3_copyFrom, Cond.initialized RX3, Cond.code yX3_copyFrom cX3_copyFrom 2 none, Cond.fieldLink RX3 9 "StormFelling$Wood" "worths" "[I", Cond.methodLink RX3 40 arraycopyName, Cond.native arraycopyName, Cond.static arraycopyName, Cond.initialized "java/lang/System", Cond.fieldLink RX3 15 "StormFelling$Wood" "felled" "[Z"]
def wsX4_recorded_r2 : List Cond := [Cond.fieldLink RX3 46 "StormFelling$Wood" "mud" "I", Cond.fieldLink RX3 19 "StormFelling$Wood" "places" "[I", Cond.fieldLink RX3 22 "StormFelling$Wood" "steps" "[I", Cond.fieldLink RX3 25 "StormFelling$Wood" "saved" "[I", Cond.fieldLink RX3 28 "StormFelling$Wood" "fellings" "[I", Cond.fieldLink RX3 31 "StormFelling$Wood" "told" "[I", Cond.fieldLink RX3 34 "StormFelling$Wood" "settings" "[I", Cond.fieldLink RX3 50 "StormFelling$Wood" "day" "I", Cond.fieldLink RX3 53 "StormFelling$Wood" "lost" "I", Cond.fieldLink RX3 56 "StormFelling$Wood" "regretted" "I", Cond.fieldLink RX3 59 "StormFelling$Wood" "storms" "I"]
def wsX4_recorded : List Cond := .code yX4_recorded cX4_recorded 2 (some .int) :: ((wsX4_recorded_r1 ++ wsX4_recorded_r2) ++ wsX40 ++ wsX10 ++ wsX30)
def wsX4_grow_r1 : List Cond := [Cond.fieldLink RX4 16 "StormFelling" "before" "LStormFelling$Wood;", Cond.fieldLink RX4 10 "StormFelling" "wood" "LStormFelling$Wood;", Cond.methodLink RX4 43 yX3_copyFrom, Cond.instanceMethod yX3_copyFrom, Cond.selects RX3 yX3_copyFrom yX3_copyFrom, Cond.initialized RX3, Cond.code yX3_copyFrom cX3_copyFrom 2 none, Cond.fieldLink RX3 9 "StormFelling$Wood" "worths" "[I", Cond.methodLink RX3 40 arraycopyName, Cond.native arraycopyName, Cond.static arraycopyName, Cond.initialized "java/lang/System", Cond.fieldLink RX3 15 "StormFelling$Wood" "felled" "[Z", Cond.fieldLink RX3 46 "StormFelling$Wood" "mud" "I", Cond.fieldLink RX3 19 "StormFelling$Wood" "places" "[I", Cond.fieldLink RX3 22 "StormFelling$Wood" "steps" "[I", Cond.fieldLink RX3 25 "StormFelling$Wood" "saved" "[I", Cond.fieldLink RX3 28 "StormFelling$Wood" "fellings" "[I", Cond.fieldLink RX3 31 "StormFelling$Wood" "told" "[I", Cond.fieldLink RX3 34 "StormFelling$Wood" "settings" "[I", Cond.fieldLink RX3 50 "StormFelling$Wood" "day" "I", Cond.fieldLink RX3 53 "StormFelling$Wood" "lost" "I", Cond.fieldLink RX3 56 "StormFelling$Wood" "regretted" "I", Cond.fieldLink RX3 59 "StormFelling$Wood" "storms" "I"]
def wsX4_grow_r2 : List Cond := [Cond.methodLink RX4 47 yX3_plant, Cond.instanceMethod yX3_plant, Cond.selects RX3 yX3_plant yX3_plant, Cond.code yX3_plant cX3_plant 4 (some .int), Cond.static yX4_isIn, Cond.initialized RX4, Cond.code yX4_isIn cX4_isIn 3 (some .boolean), Cond.methodLink RX4 51 yX4_recorded, Cond.instanceMethod yX4_recorded, Cond.selects RX4 yX4_recorded yX4_recorded, Cond.code yX4_recorded cX4_recorded 2 (some .int), Cond.fieldLink RX4 25 "StormFelling" "history" "LStormFelling$History;", Cond.methodLink RX4 234 yX1_push, Cond.instanceMethod yX1_push, Cond.selects RX1 yX1_push yX1_push, Cond.initialized RX1, Cond.code yX1_push cX1_push 2 none, Cond.fieldLink RX1 18 "StormFelling$History" "size" "I", Cond.fieldLink RX1 11 "StormFelling$History" "states" "[LStormFelling$Wood;", Cond.methodLink RX1 22 yX1_dropOldest, Cond.instanceMethod yX1_dropOldest, Cond.selects RX1 yX1_dropOldest yX1_dropOldest, Cond.code yX1_dropOldest cX1_dropOldest 3 none, Cond.methodLink RX1 25 yX3_copyFrom]
def wsX4_grow : List Cond := .code yX4_grow cX4_grow 3 (some .int) :: ((wsX4_grow_r1 ++ wsX4_grow_r2) ++ wsX40 ++ wsX30 ++ wsX10)
def wsX4_rain_r1 : List Cond := [Cond.fieldLink RX4 16 "StormFelling" "before" "LStormFelling$Wood;", Cond.fieldLink RX4 10 "StormFelling" "wood" "LStormFelling$Wood;", Cond.methodLink RX4 43 yX3_copyFrom, Cond.instanceMethod yX3_copyFrom, Cond.selects RX3 yX3_copyFrom yX3_copyFrom, Cond.initialized RX3, Cond.code yX3_copyFrom cX3_copyFrom 2 none, Cond.fieldLink RX3 9 "StormFelling$Wood" "worths" "[I", Cond.methodLink RX3 40 arraycopyName, Cond.native arraycopyName, Cond.static arraycopyName, Cond.initialized "java/lang/System", Cond.fieldLink RX3 15 "StormFelling$Wood" "felled" "[Z", Cond.fieldLink RX3 46 "StormFelling$Wood" "mud" "I", Cond.fieldLink RX3 19 "StormFelling$Wood" "places" "[I", Cond.fieldLink RX3 22 "StormFelling$Wood" "steps" "[I", Cond.fieldLink RX3 25 "StormFelling$Wood" "saved" "[I", Cond.fieldLink RX3 28 "StormFelling$Wood" "fellings" "[I", Cond.fieldLink RX3 31 "StormFelling$Wood" "told" "[I", Cond.fieldLink RX3 34 "StormFelling$Wood" "settings" "[I", Cond.fieldLink RX3 50 "StormFelling$Wood" "day" "I", Cond.fieldLink RX3 53 "StormFelling$Wood" "lost" "I", Cond.fieldLink RX3 56 "StormFelling$Wood" "regretted" "I", Cond.fieldLink RX3 59 "StormFelling$Wood" "storms" "I"]
def wsX4_rain_r2 : List Cond := [Cond.methodLink RX4 55 yX3_getWet, Cond.instanceMethod yX3_getWet, Cond.selects RX3 yX3_getWet yX3_getWet, Cond.code yX3_getWet cX3_getWet 2 (some .int), Cond.methodLink RX3 66 Lib.Math.min.name, Cond.static Lib.Math.min.name, Cond.initialized "java/lang/Math", Cond.code Lib.Math.min.name Lib.Math.min.code 2 (some .int), Cond.static yX4_isIn, Cond.initialized RX4, Cond.code yX4_isIn cX4_isIn 3 (some .boolean), Cond.methodLink RX4 51 yX4_recorded, Cond.instanceMethod yX4_recorded, Cond.selects RX4 yX4_recorded yX4_recorded, Cond.code yX4_recorded cX4_recorded 2 (some .int), Cond.fieldLink RX4 25 "StormFelling" "history" "LStormFelling$History;", Cond.methodLink RX4 234 yX1_push, Cond.instanceMethod yX1_push, Cond.selects RX1 yX1_push yX1_push, Cond.initialized RX1, Cond.code yX1_push cX1_push 2 none, Cond.fieldLink RX1 18 "StormFelling$History" "size" "I", Cond.fieldLink RX1 11 "StormFelling$History" "states" "[LStormFelling$Wood;", Cond.methodLink RX1 22 yX1_dropOldest]
def wsX4_rain_r3 : List Cond := [Cond.instanceMethod yX1_dropOldest, Cond.selects RX1 yX1_dropOldest yX1_dropOldest, Cond.code yX1_dropOldest cX1_dropOldest 3 none, Cond.methodLink RX1 25 yX3_copyFrom]
def wsX4_rain : List Cond := .code yX4_rain cX4_rain 2 (some .int) :: ((wsX4_rain_r1 ++ (wsX4_rain_r2 ++ wsX4_rain_r3)) ++ wsX40 ++ wsX30 ++ wsX10)
def wsX4_endDays_r1 : List Cond := [Cond.fieldLink RX4 16 "StormFelling" "before" "LStormFelling$Wood;", Cond.fieldLink RX4 10 "StormFelling" "wood" "LStormFelling$Wood;", Cond.methodLink RX4 43 yX3_copyFrom, Cond.instanceMethod yX3_copyFrom, Cond.selects RX3 yX3_copyFrom yX3_copyFrom, Cond.initialized RX3, Cond.code yX3_copyFrom cX3_copyFrom 2 none, Cond.fieldLink RX3 9 "StormFelling$Wood" "worths" "[I", Cond.methodLink RX3 40 arraycopyName, Cond.native arraycopyName, Cond.static arraycopyName, Cond.initialized "java/lang/System", Cond.fieldLink RX3 15 "StormFelling$Wood" "felled" "[Z", Cond.fieldLink RX3 46 "StormFelling$Wood" "mud" "I", Cond.fieldLink RX3 19 "StormFelling$Wood" "places" "[I", Cond.fieldLink RX3 22 "StormFelling$Wood" "steps" "[I", Cond.fieldLink RX3 25 "StormFelling$Wood" "saved" "[I", Cond.fieldLink RX3 28 "StormFelling$Wood" "fellings" "[I", Cond.fieldLink RX3 31 "StormFelling$Wood" "told" "[I", Cond.fieldLink RX3 34 "StormFelling$Wood" "settings" "[I", Cond.fieldLink RX3 50 "StormFelling$Wood" "day" "I", Cond.fieldLink RX3 53 "StormFelling$Wood" "lost" "I", Cond.fieldLink RX3 56 "StormFelling$Wood" "regretted" "I", Cond.fieldLink RX3 59 "StormFelling$Wood" "storms" "I"]
def wsX4_endDays_r2 : List Cond := [Cond.methodLink RX4 58 yX3_passDays, Cond.instanceMethod yX3_passDays, Cond.selects RX3 yX3_passDays yX3_passDays, Cond.code yX3_passDays cX3_passDays 3 (some .int), Cond.methodLink RX3 72 Lib.Math.max.name, Cond.static Lib.Math.max.name, Cond.initialized "java/lang/Math", Cond.code Lib.Math.max.name Lib.Math.max.code 2 (some .int), Cond.static yX4_isIn, Cond.initialized RX4, Cond.code yX4_isIn cX4_isIn 3 (some .boolean), Cond.methodLink RX4 51 yX4_recorded, Cond.instanceMethod yX4_recorded, Cond.selects RX4 yX4_recorded yX4_recorded, Cond.code yX4_recorded cX4_recorded 2 (some .int), Cond.fieldLink RX4 25 "StormFelling" "history" "LStormFelling$History;", Cond.methodLink RX4 234 yX1_push, Cond.instanceMethod yX1_push, Cond.selects RX1 yX1_push yX1_push, Cond.initialized RX1, Cond.code yX1_push cX1_push 2 none, Cond.fieldLink RX1 18 "StormFelling$History" "size" "I", Cond.fieldLink RX1 11 "StormFelling$History" "states" "[LStormFelling$Wood;", Cond.methodLink RX1 22 yX1_dropOldest]
def wsX4_endDays_r3 : List Cond := [Cond.instanceMethod yX1_dropOldest, Cond.selects RX1 yX1_dropOldest yX1_dropOldest, Cond.code yX1_dropOldest cX1_dropOldest 3 none, Cond.methodLink RX1 25 yX3_copyFrom]
def wsX4_endDays : List Cond := .code yX4_endDays cX4_endDays 2 (some .int) :: ((wsX4_endDays_r1 ++ (wsX4_endDays_r2 ++ wsX4_endDays_r3)) ++ wsX40 ++ wsX30 ++ wsX10)
def wsX4_set_r1 : List Cond := [Cond.fieldLink RX4 16 "StormFelling" "before" "LStormFelling$Wood;", Cond.fieldLink RX4 10 "StormFelling" "wood" "LStormFelling$Wood;", Cond.methodLink RX4 43 yX3_copyFrom, Cond.instanceMethod yX3_copyFrom, Cond.selects RX3 yX3_copyFrom yX3_copyFrom, Cond.initialized RX3, Cond.code yX3_copyFrom cX3_copyFrom 2 none, Cond.fieldLink RX3 9 "StormFelling$Wood" "worths" "[I", Cond.methodLink RX3 40 arraycopyName, Cond.native arraycopyName, Cond.static arraycopyName, Cond.initialized "java/lang/System", Cond.fieldLink RX3 15 "StormFelling$Wood" "felled" "[Z", Cond.fieldLink RX3 46 "StormFelling$Wood" "mud" "I", Cond.fieldLink RX3 19 "StormFelling$Wood" "places" "[I", Cond.fieldLink RX3 22 "StormFelling$Wood" "steps" "[I", Cond.fieldLink RX3 25 "StormFelling$Wood" "saved" "[I", Cond.fieldLink RX3 28 "StormFelling$Wood" "fellings" "[I", Cond.fieldLink RX3 31 "StormFelling$Wood" "told" "[I", Cond.fieldLink RX3 34 "StormFelling$Wood" "settings" "[I", Cond.fieldLink RX3 50 "StormFelling$Wood" "day" "I", Cond.fieldLink RX3 53 "StormFelling$Wood" "lost" "I", Cond.fieldLink RX3 56 "StormFelling$Wood" "regretted" "I", Cond.fieldLink RX3 59 "StormFelling$Wood" "storms" "I"]
def wsX4_set_r2 : List Cond := [Cond.methodLink RX4 61 yX3_changeSetting, Cond.instanceMethod yX3_changeSetting, Cond.selects RX3 yX3_changeSetting yX3_changeSetting, Cond.code yX3_changeSetting cX3_changeSetting 4 (some .int), Cond.static yX4_isIn, Cond.initialized RX4, Cond.code yX4_isIn cX4_isIn 3 (some .boolean), Cond.methodLink RX4 51 yX4_recorded, Cond.instanceMethod yX4_recorded, Cond.selects RX4 yX4_recorded yX4_recorded, Cond.code yX4_recorded cX4_recorded 2 (some .int), Cond.fieldLink RX4 25 "StormFelling" "history" "LStormFelling$History;", Cond.methodLink RX4 234 yX1_push, Cond.instanceMethod yX1_push, Cond.selects RX1 yX1_push yX1_push, Cond.initialized RX1, Cond.code yX1_push cX1_push 2 none, Cond.fieldLink RX1 18 "StormFelling$History" "size" "I", Cond.fieldLink RX1 11 "StormFelling$History" "states" "[LStormFelling$Wood;", Cond.methodLink RX1 22 yX1_dropOldest, Cond.instanceMethod yX1_dropOldest, Cond.selects RX1 yX1_dropOldest yX1_dropOldest, Cond.code yX1_dropOldest cX1_dropOldest 3 none, Cond.methodLink RX1 25 yX3_copyFrom]
def wsX4_set : List Cond := .code yX4_set cX4_set 3 (some .int) :: ((wsX4_set_r1 ++ wsX4_set_r2) ++ wsX40 ++ wsX30 ++ wsX10)
def wsX4_go_r1 : List Cond := [Cond.fieldLink RX4 16 "StormFelling" "before" "LStormFelling$Wood;", Cond.fieldLink RX4 10 "StormFelling" "wood" "LStormFelling$Wood;", Cond.methodLink RX4 43 yX3_copyFrom, Cond.instanceMethod yX3_copyFrom, Cond.selects RX3 yX3_copyFrom yX3_copyFrom, Cond.initialized RX3, Cond.code yX3_copyFrom cX3_copyFrom 2 none, Cond.fieldLink RX3 9 "StormFelling$Wood" "worths" "[I", Cond.methodLink RX3 40 arraycopyName, Cond.native arraycopyName, Cond.static arraycopyName, Cond.initialized "java/lang/System", Cond.fieldLink RX3 15 "StormFelling$Wood" "felled" "[Z", Cond.fieldLink RX3 46 "StormFelling$Wood" "mud" "I", Cond.fieldLink RX3 19 "StormFelling$Wood" "places" "[I", Cond.fieldLink RX3 22 "StormFelling$Wood" "steps" "[I", Cond.fieldLink RX3 25 "StormFelling$Wood" "saved" "[I", Cond.fieldLink RX3 28 "StormFelling$Wood" "fellings" "[I", Cond.fieldLink RX3 31 "StormFelling$Wood" "told" "[I", Cond.fieldLink RX3 34 "StormFelling$Wood" "settings" "[I", Cond.fieldLink RX3 50 "StormFelling$Wood" "day" "I", Cond.fieldLink RX3 53 "StormFelling$Wood" "lost" "I", Cond.fieldLink RX3 56 "StormFelling$Wood" "regretted" "I", Cond.fieldLink RX3 59 "StormFelling$Wood" "storms" "I"]
def wsX4_go_r2 : List Cond := [Cond.methodLink RX4 64 yX3_sendCrew, Cond.instanceMethod yX3_sendCrew, Cond.selects RX3 yX3_sendCrew yX3_sendCrew, Cond.code yX3_sendCrew cX3_sendCrew 4 (some .int), Cond.static yX4_isIn, Cond.initialized RX4, Cond.code yX4_isIn cX4_isIn 3 (some .boolean), Cond.methodLink RX3 81 yX3_stepsTo, Cond.instanceMethod yX3_stepsTo, Cond.selects RX3 yX3_stepsTo yX3_stepsTo, Cond.code yX3_stepsTo cX3_stepsTo 6 (some .int), Cond.methodLink RX3 112 Lib.Math.abs.name, Cond.static Lib.Math.abs.name, Cond.initialized "java/lang/Math", Cond.code Lib.Math.abs.name Lib.Math.abs.code 1 (some .int), Cond.methodLink RX4 51 yX4_recorded, Cond.instanceMethod yX4_recorded, Cond.selects RX4 yX4_recorded yX4_recorded, Cond.code yX4_recorded cX4_recorded 2 (some .int), Cond.fieldLink RX4 25 "StormFelling" "history" "LStormFelling$History;", Cond.methodLink RX4 234 yX1_push, Cond.instanceMethod yX1_push, Cond.selects RX1 yX1_push yX1_push, Cond.initialized RX1]
def wsX4_go_r3 : List Cond := [Cond.code yX1_push cX1_push 2 none, Cond.fieldLink RX1 18 "StormFelling$History" "size" "I", Cond.fieldLink RX1 11 "StormFelling$History" "states" "[LStormFelling$Wood;", Cond.methodLink RX1 22 yX1_dropOldest, Cond.instanceMethod yX1_dropOldest, Cond.selects RX1 yX1_dropOldest yX1_dropOldest, Cond.code yX1_dropOldest cX1_dropOldest 3 none, Cond.methodLink RX1 25 yX3_copyFrom]
def wsX4_go : List Cond := .code yX4_go cX4_go 3 (some .int) :: ((wsX4_go_r1 ++ (wsX4_go_r2 ++ wsX4_go_r3)) ++ wsX40 ++ wsX30 ++ wsX10)
def wsX4_fell_r1 : List Cond := [Cond.fieldLink RX4 16 "StormFelling" "before" "LStormFelling$Wood;", Cond.fieldLink RX4 10 "StormFelling" "wood" "LStormFelling$Wood;", Cond.methodLink RX4 43 yX3_copyFrom, Cond.instanceMethod yX3_copyFrom, Cond.selects RX3 yX3_copyFrom yX3_copyFrom, Cond.initialized RX3, Cond.code yX3_copyFrom cX3_copyFrom 2 none, Cond.fieldLink RX3 9 "StormFelling$Wood" "worths" "[I", Cond.methodLink RX3 40 arraycopyName, Cond.native arraycopyName, Cond.static arraycopyName, Cond.initialized "java/lang/System", Cond.fieldLink RX3 15 "StormFelling$Wood" "felled" "[Z", Cond.fieldLink RX3 46 "StormFelling$Wood" "mud" "I", Cond.fieldLink RX3 19 "StormFelling$Wood" "places" "[I", Cond.fieldLink RX3 22 "StormFelling$Wood" "steps" "[I", Cond.fieldLink RX3 25 "StormFelling$Wood" "saved" "[I", Cond.fieldLink RX3 28 "StormFelling$Wood" "fellings" "[I", Cond.fieldLink RX3 31 "StormFelling$Wood" "told" "[I", Cond.fieldLink RX3 34 "StormFelling$Wood" "settings" "[I", Cond.fieldLink RX3 50 "StormFelling$Wood" "day" "I", Cond.fieldLink RX3 53 "StormFelling$Wood" "lost" "I", Cond.fieldLink RX3 56 "StormFelling$Wood" "regretted" "I", Cond.fieldLink RX3 59 "StormFelling$Wood" "storms" "I"]
def wsX4_fell_r2 : List Cond := [Cond.methodLink RX4 67 yX3_fellHere, Cond.instanceMethod yX3_fellHere, Cond.selects RX3 yX3_fellHere yX3_fellHere, Cond.code yX3_fellHere cX3_fellHere 4 (some .int), Cond.static yX4_isIn, Cond.initialized RX4, Cond.code yX4_isIn cX4_isIn 3 (some .boolean), Cond.methodLink RX4 51 yX4_recorded, Cond.instanceMethod yX4_recorded, Cond.selects RX4 yX4_recorded yX4_recorded, Cond.code yX4_recorded cX4_recorded 2 (some .int), Cond.fieldLink RX4 25 "StormFelling" "history" "LStormFelling$History;", Cond.methodLink RX4 234 yX1_push, Cond.instanceMethod yX1_push, Cond.selects RX1 yX1_push yX1_push, Cond.initialized RX1, Cond.code yX1_push cX1_push 2 none, Cond.fieldLink RX1 18 "StormFelling$History" "size" "I", Cond.fieldLink RX1 11 "StormFelling$History" "states" "[LStormFelling$Wood;", Cond.methodLink RX1 22 yX1_dropOldest, Cond.instanceMethod yX1_dropOldest, Cond.selects RX1 yX1_dropOldest yX1_dropOldest, Cond.code yX1_dropOldest cX1_dropOldest 3 none, Cond.methodLink RX1 25 yX3_copyFrom]
def wsX4_fell : List Cond := .code yX4_fell cX4_fell 2 (some .int) :: ((wsX4_fell_r1 ++ wsX4_fell_r2) ++ wsX40 ++ wsX30 ++ wsX10)
def wsX4_pathsLeft : List Cond := .code yX4_pathsLeft cX4_pathsLeft 1 (some (.object "StormFelling$Paths")) :: ([.fieldLink RX4 32 "StormFelling" "paths" "LStormFelling$Paths;", .fieldLink RX4 10 "StormFelling" "wood" "LStormFelling$Wood;", .methodLink RX4 237 yX2_follow, .instanceMethod yX2_follow, .selects RX2 yX2_follow yX2_follow, .initialized RX2, .code yX2_follow cX2_follow 3 none, .fieldLink RX2 9 "StormFelling$Paths" "above" "[I", .fieldLink RX2 15 "StormFelling$Paths" "below" "[I", .fieldLink RX2 26 "StormFelling$Paths" "all" "I", .methodLink RX2 18 yX2_isOpen, .static yX2_isOpen, .code yX2_isOpen cX2_isOpen 3 (some .boolean), .methodLink RX2 22 yX2_around, .static yX2_around, .code yX2_around cX2_around 3 (some .int)] ++ wsX40 ++ wsX30 ++ wsX20)
def wsX4_hint_r1 : List Cond := [Cond.fieldLink RX4 16 "StormFelling" "before" "LStormFelling$Wood;", Cond.fieldLink RX4 10 "StormFelling" "wood" "LStormFelling$Wood;", Cond.methodLink RX4 43 yX3_copyFrom, Cond.instanceMethod yX3_copyFrom, Cond.selects RX3 yX3_copyFrom yX3_copyFrom, Cond.initialized RX3, Cond.code yX3_copyFrom cX3_copyFrom 2 none, Cond.fieldLink RX3 9 "StormFelling$Wood" "worths" "[I", Cond.methodLink RX3 40 arraycopyName, Cond.native arraycopyName, Cond.static arraycopyName, Cond.initialized "java/lang/System", Cond.fieldLink RX3 15 "StormFelling$Wood" "felled" "[Z", Cond.fieldLink RX3 46 "StormFelling$Wood" "mud" "I", Cond.fieldLink RX3 19 "StormFelling$Wood" "places" "[I", Cond.fieldLink RX3 22 "StormFelling$Wood" "steps" "[I", Cond.fieldLink RX3 25 "StormFelling$Wood" "saved" "[I", Cond.fieldLink RX3 28 "StormFelling$Wood" "fellings" "[I", Cond.fieldLink RX3 31 "StormFelling$Wood" "told" "[I", Cond.fieldLink RX3 34 "StormFelling$Wood" "settings" "[I", Cond.fieldLink RX3 50 "StormFelling$Wood" "day" "I", Cond.fieldLink RX3 53 "StormFelling$Wood" "lost" "I", Cond.fieldLink RX3 56 "StormFelling$Wood" "regretted" "I", Cond.fieldLink RX3 59 "StormFelling$Wood" "storms" "I"]
def wsX4_hint_r2 : List Cond := [Cond.methodLink RX4 70 yX4_pathsLeft, Cond.instanceMethod yX4_pathsLeft, Cond.selects RX4 yX4_pathsLeft yX4_pathsLeft, Cond.initialized RX4, Cond.code yX4_pathsLeft cX4_pathsLeft 1 (some (.object "StormFelling$Paths")), Cond.fieldLink RX4 32 "StormFelling" "paths" "LStormFelling$Paths;", Cond.methodLink RX4 237 yX2_follow, Cond.instanceMethod yX2_follow, Cond.selects RX2 yX2_follow yX2_follow, Cond.initialized RX2, Cond.code yX2_follow cX2_follow 3 none, Cond.fieldLink RX2 9 "StormFelling$Paths" "above" "[I", Cond.fieldLink RX2 15 "StormFelling$Paths" "below" "[I", Cond.fieldLink RX2 26 "StormFelling$Paths" "all" "I", Cond.methodLink RX2 18 yX2_isOpen, Cond.static yX2_isOpen, Cond.code yX2_isOpen cX2_isOpen 3 (some .boolean), Cond.methodLink RX2 22 yX2_around, Cond.static yX2_around, Cond.code yX2_around cX2_around 3 (some .int), Cond.methodLink RX4 74 yX3_tellColumn, Cond.instanceMethod yX3_tellColumn, Cond.selects RX3 yX3_tellColumn yX3_tellColumn, Cond.code yX3_tellColumn cX3_tellColumn 5 (some .int)]
def wsX4_hint_r3 : List Cond := [Cond.static yX4_isIn, Cond.code yX4_isIn cX4_isIn 3 (some .boolean), Cond.methodLink RX3 84 yX2_through, Cond.instanceMethod yX2_through, Cond.selects RX2 yX2_through yX2_through, Cond.code yX2_through cX2_through 2 (some .int), Cond.methodLink RX4 51 yX4_recorded, Cond.instanceMethod yX4_recorded, Cond.selects RX4 yX4_recorded yX4_recorded, Cond.code yX4_recorded cX4_recorded 2 (some .int), Cond.fieldLink RX4 25 "StormFelling" "history" "LStormFelling$History;", Cond.methodLink RX4 234 yX1_push, Cond.instanceMethod yX1_push, Cond.selects RX1 yX1_push yX1_push, Cond.initialized RX1, Cond.code yX1_push cX1_push 2 none, Cond.fieldLink RX1 18 "StormFelling$History" "size" "I", Cond.fieldLink RX1 11 "StormFelling$History" "states" "[LStormFelling$Wood;", Cond.methodLink RX1 22 yX1_dropOldest, Cond.instanceMethod yX1_dropOldest, Cond.selects RX1 yX1_dropOldest yX1_dropOldest, Cond.code yX1_dropOldest cX1_dropOldest 3 none, Cond.methodLink RX1 25 yX3_copyFrom]
def wsX4_hint : List Cond := .code yX4_hint cX4_hint 3 (some .int) :: ((wsX4_hint_r1 ++ (wsX4_hint_r2 ++ wsX4_hint_r3)) ++ wsX40 ++ wsX30 ++ wsX20 ++ wsX10)
def wsX4_takeBack_r1 : List Cond := [Cond.fieldLink RX4 16 "StormFelling" "before" "LStormFelling$Wood;", Cond.fieldLink RX4 10 "StormFelling" "wood" "LStormFelling$Wood;", Cond.fieldLink RX4 32 "StormFelling" "paths" "LStormFelling$Paths;", Cond.methodLink RX4 43 yX3_copyFrom, Cond.instanceMethod yX3_copyFrom, Cond.selects RX3 yX3_copyFrom yX3_copyFrom, Cond.initialized RX3, Cond.code yX3_copyFrom cX3_copyFrom 2 none, Cond.fieldLink RX3 9 "StormFelling$Wood" "worths" "[I", Cond.methodLink RX3 40 arraycopyName, Cond.native arraycopyName, Cond.static arraycopyName, Cond.initialized "java/lang/System", Cond.fieldLink RX3 15 "StormFelling$Wood" "felled" "[Z", Cond.fieldLink RX3 46 "StormFelling$Wood" "mud" "I", Cond.fieldLink RX3 19 "StormFelling$Wood" "places" "[I", Cond.fieldLink RX3 22 "StormFelling$Wood" "steps" "[I", Cond.fieldLink RX3 25 "StormFelling$Wood" "saved" "[I", Cond.fieldLink RX3 28 "StormFelling$Wood" "fellings" "[I", Cond.fieldLink RX3 31 "StormFelling$Wood" "told" "[I", Cond.fieldLink RX3 34 "StormFelling$Wood" "settings" "[I", Cond.fieldLink RX3 50 "StormFelling$Wood" "day" "I", Cond.fieldLink RX3 53 "StormFelling$Wood" "lost" "I", Cond.fieldLink RX3 56 "StormFelling$Wood" "regretted" "I"]
def wsX4_takeBack_r2 : List Cond := [Cond.fieldLink RX3 59 "StormFelling$Wood" "storms" "I", Cond.methodLink RX4 78 yX3_untellColumn, Cond.instanceMethod yX3_untellColumn, Cond.selects RX3 yX3_untellColumn yX3_untellColumn, Cond.code yX3_untellColumn cX3_untellColumn 3 (some .int), Cond.static yX4_isIn, Cond.initialized RX4, Cond.code yX4_isIn cX4_isIn 3 (some .boolean), Cond.methodLink RX3 90 yX2_follow, Cond.instanceMethod yX2_follow, Cond.selects RX2 yX2_follow yX2_follow, Cond.initialized RX2, Cond.code yX2_follow cX2_follow 3 none, Cond.fieldLink RX2 9 "StormFelling$Paths" "above" "[I", Cond.fieldLink RX2 15 "StormFelling$Paths" "below" "[I", Cond.fieldLink RX2 26 "StormFelling$Paths" "all" "I", Cond.methodLink RX2 18 yX2_isOpen, Cond.static yX2_isOpen, Cond.code yX2_isOpen cX2_isOpen 3 (some .boolean), Cond.methodLink RX2 22 yX2_around, Cond.static yX2_around, Cond.code yX2_around cX2_around 3 (some .int), Cond.methodLink RX4 51 yX4_recorded, Cond.instanceMethod yX4_recorded]
def wsX4_takeBack_r3 : List Cond := [Cond.selects RX4 yX4_recorded yX4_recorded, Cond.code yX4_recorded cX4_recorded 2 (some .int), Cond.fieldLink RX4 25 "StormFelling" "history" "LStormFelling$History;", Cond.methodLink RX4 234 yX1_push, Cond.instanceMethod yX1_push, Cond.selects RX1 yX1_push yX1_push, Cond.initialized RX1, Cond.code yX1_push cX1_push 2 none, Cond.fieldLink RX1 18 "StormFelling$History" "size" "I", Cond.fieldLink RX1 11 "StormFelling$History" "states" "[LStormFelling$Wood;", Cond.methodLink RX1 22 yX1_dropOldest, Cond.instanceMethod yX1_dropOldest, Cond.selects RX1 yX1_dropOldest yX1_dropOldest, Cond.code yX1_dropOldest cX1_dropOldest 3 none, Cond.methodLink RX1 25 yX3_copyFrom]
def wsX4_takeBack : List Cond := .code yX4_takeBack cX4_takeBack 2 (some .int) :: ((wsX4_takeBack_r1 ++ (wsX4_takeBack_r2 ++ wsX4_takeBack_r3)) ++ wsX40 ++ wsX30 ++ wsX20 ++ wsX10)
def wsX4_storm_r1 : List Cond := [Cond.fieldLink RX4 16 "StormFelling" "before" "LStormFelling$Wood;", Cond.fieldLink RX4 10 "StormFelling" "wood" "LStormFelling$Wood;", Cond.methodLink RX4 43 yX3_copyFrom, Cond.instanceMethod yX3_copyFrom, Cond.selects RX3 yX3_copyFrom yX3_copyFrom, Cond.initialized RX3, Cond.code yX3_copyFrom cX3_copyFrom 2 none, Cond.fieldLink RX3 9 "StormFelling$Wood" "worths" "[I", Cond.methodLink RX3 40 arraycopyName, Cond.native arraycopyName, Cond.static arraycopyName, Cond.initialized "java/lang/System", Cond.fieldLink RX3 15 "StormFelling$Wood" "felled" "[Z", Cond.fieldLink RX3 46 "StormFelling$Wood" "mud" "I", Cond.fieldLink RX3 19 "StormFelling$Wood" "places" "[I", Cond.fieldLink RX3 22 "StormFelling$Wood" "steps" "[I", Cond.fieldLink RX3 25 "StormFelling$Wood" "saved" "[I", Cond.fieldLink RX3 28 "StormFelling$Wood" "fellings" "[I", Cond.fieldLink RX3 31 "StormFelling$Wood" "told" "[I", Cond.fieldLink RX3 34 "StormFelling$Wood" "settings" "[I", Cond.fieldLink RX3 50 "StormFelling$Wood" "day" "I", Cond.fieldLink RX3 53 "StormFelling$Wood" "lost" "I", Cond.fieldLink RX3 56 "StormFelling$Wood" "regretted" "I", Cond.fieldLink RX3 59 "StormFelling$Wood" "storms" "I"]
def wsX4_storm_r2 : List Cond := [Cond.methodLink RX4 70 yX4_pathsLeft, Cond.instanceMethod yX4_pathsLeft, Cond.selects RX4 yX4_pathsLeft yX4_pathsLeft, Cond.initialized RX4, Cond.code yX4_pathsLeft cX4_pathsLeft 1 (some (.object "StormFelling$Paths")), Cond.fieldLink RX4 32 "StormFelling" "paths" "LStormFelling$Paths;", Cond.methodLink RX4 237 yX2_follow, Cond.instanceMethod yX2_follow, Cond.selects RX2 yX2_follow yX2_follow, Cond.initialized RX2, Cond.code yX2_follow cX2_follow 3 none, Cond.fieldLink RX2 9 "StormFelling$Paths" "above" "[I", Cond.fieldLink RX2 15 "StormFelling$Paths" "below" "[I", Cond.fieldLink RX2 26 "StormFelling$Paths" "all" "I", Cond.methodLink RX2 18 yX2_isOpen, Cond.static yX2_isOpen, Cond.code yX2_isOpen cX2_isOpen 3 (some .boolean), Cond.methodLink RX2 22 yX2_around, Cond.static yX2_around, Cond.code yX2_around cX2_around 3 (some .int), Cond.methodLink RX4 82 yX3_takeStorm, Cond.instanceMethod yX3_takeStorm, Cond.selects RX3 yX3_takeStorm yX3_takeStorm, Cond.code yX3_takeStorm cX3_takeStorm 4 (some .int)]
def wsX4_storm_r3 : List Cond := [Cond.methodLink RX3 97 yX3_felledInVain, Cond.instanceMethod yX3_felledInVain, Cond.selects RX3 yX3_felledInVain yX3_felledInVain, Cond.code yX3_felledInVain cX3_felledInVain 4 (some .int), Cond.methodLink RX3 108 yX3_isEndangered, Cond.instanceMethod yX3_isEndangered, Cond.selects RX3 yX3_isEndangered yX3_isEndangered, Cond.code yX3_isEndangered cX3_isEndangered 3 (some .boolean), Cond.methodLink RX3 128 yX3_hits, Cond.instanceMethod yX3_hits, Cond.selects RX3 yX3_hits yX3_hits, Cond.code yX3_hits cX3_hits 3 (some .int), Cond.methodLink RX3 125 yX2_within, Cond.instanceMethod yX2_within, Cond.selects RX2 yX2_within yX2_within, Cond.code yX2_within cX2_within 8 (some .int), Cond.methodLink RX2 30 Lib.Math.max.name, Cond.static Lib.Math.max.name, Cond.initialized "java/lang/Math", Cond.code Lib.Math.max.name Lib.Math.max.code 2 (some .int), Cond.methodLink RX2 36 Lib.Math.min.name, Cond.static Lib.Math.min.name, Cond.code Lib.Math.min.name Lib.Math.min.code 2 (some .int), Cond.methodLink RX2 39 yX2_through]
def wsX4_storm_r4 : List Cond := [Cond.instanceMethod yX2_through, Cond.selects RX2 yX2_through yX2_through, Cond.code yX2_through cX2_through 2 (some .int), Cond.methodLink RX3 101 yX3_regret, Cond.instanceMethod yX3_regret, Cond.selects RX3 yX3_regret yX3_regret, Cond.code yX3_regret cX3_regret 7 (some .int), Cond.methodLink RX3 105 yX3_loseWorths, Cond.instanceMethod yX3_loseWorths, Cond.selects RX3 yX3_loseWorths yX3_loseWorths, Cond.code yX3_loseWorths cX3_loseWorths 4 (some .int), Cond.methodLink RX4 51 yX4_recorded, Cond.instanceMethod yX4_recorded, Cond.selects RX4 yX4_recorded yX4_recorded, Cond.code yX4_recorded cX4_recorded 2 (some .int), Cond.fieldLink RX4 25 "StormFelling" "history" "LStormFelling$History;", Cond.methodLink RX4 234 yX1_push, Cond.instanceMethod yX1_push, Cond.selects RX1 yX1_push yX1_push, Cond.initialized RX1, Cond.code yX1_push cX1_push 2 none, Cond.fieldLink RX1 18 "StormFelling$History" "size" "I", Cond.fieldLink RX1 11 "StormFelling$History" "states" "[LStormFelling$Wood;", Cond.methodLink RX1 22 yX1_dropOldest]
def wsX4_storm_r5 : List Cond := [Cond.instanceMethod yX1_dropOldest, Cond.selects RX1 yX1_dropOldest yX1_dropOldest, Cond.code yX1_dropOldest cX1_dropOldest 3 none, Cond.methodLink RX1 25 yX3_copyFrom]
def wsX4_storm : List Cond := .code yX4_storm cX4_storm 1 (some .int) :: ((wsX4_storm_r1 ++ (wsX4_storm_r2 ++ (wsX4_storm_r3 ++ (wsX4_storm_r4 ++ wsX4_storm_r5)))) ++ wsX40 ++ wsX30 ++ wsX20 ++ wsX10)
def wsX4_type : List Cond := .code yX4_type cX4_type 2 (some .int) :: ([.fieldLink RX4 39 "StormFelling" "days" "LStormFelling$Days;", .methodLink RX4 86 yX0_append, .instanceMethod yX0_append, .selects RX0 yX0_append yX0_append, .initialized RX0, .code yX0_append cX0_append 2 (some .int), .fieldLink RX0 15 "StormFelling$Days" "length" "I", .fieldLink RX0 9 "StormFelling$Days" "signs" "[C"] ++ wsX40 ++ wsX00)
def wsX4_clearText : List Cond := .code yX4_clearText cX4_clearText 1 (some .int) :: ([.fieldLink RX4 39 "StormFelling" "days" "LStormFelling$Days;", .methodLink RX4 90 yX0_empty, .instanceMethod yX0_empty, .selects RX0 yX0_empty yX0_empty, .initialized RX0, .code yX0_empty cX0_empty 2 (some .int), .fieldLink RX0 15 "StormFelling$Days" "length" "I"] ++ wsX40 ++ wsX00)
def wsX4_doThing_r1 : List Cond := [Cond.fieldLink RX4 39 "StormFelling" "days" "LStormFelling$Days;", Cond.fieldLink RX4 10 "StormFelling" "wood" "LStormFelling$Wood;", Cond.methodLink RX4 47 yX3_plant, Cond.instanceMethod yX3_plant, Cond.selects RX3 yX3_plant yX3_plant, Cond.initialized RX3, Cond.code yX3_plant cX3_plant 4 (some .int), Cond.fieldLink RX3 9 "StormFelling$Wood" "worths" "[I", Cond.static yX4_isIn, Cond.initialized RX4, Cond.code yX4_isIn cX4_isIn 3 (some .boolean), Cond.methodLink RX4 55 yX3_getWet, Cond.instanceMethod yX3_getWet, Cond.selects RX3 yX3_getWet yX3_getWet, Cond.code yX3_getWet cX3_getWet 2 (some .int), Cond.fieldLink RX3 46 "StormFelling$Wood" "mud" "I", Cond.methodLink RX3 66 Lib.Math.min.name, Cond.static Lib.Math.min.name, Cond.initialized "java/lang/Math", Cond.code Lib.Math.min.name Lib.Math.min.code 2 (some .int), Cond.methodLink RX4 70 yX4_pathsLeft, Cond.instanceMethod yX4_pathsLeft, Cond.selects RX4 yX4_pathsLeft yX4_pathsLeft, Cond.code yX4_pathsLeft cX4_pathsLeft 1 (some (.object "StormFelling$Paths"))]
def wsX4_doThing_r2 : List Cond := [Cond.fieldLink RX4 32 "StormFelling" "paths" "LStormFelling$Paths;", Cond.methodLink RX4 237 yX2_follow, Cond.instanceMethod yX2_follow, Cond.selects RX2 yX2_follow yX2_follow, Cond.initialized RX2, Cond.code yX2_follow cX2_follow 3 none, Cond.fieldLink RX2 9 "StormFelling$Paths" "above" "[I", Cond.fieldLink RX2 15 "StormFelling$Paths" "below" "[I", Cond.fieldLink RX2 26 "StormFelling$Paths" "all" "I", Cond.methodLink RX2 18 yX2_isOpen, Cond.static yX2_isOpen, Cond.code yX2_isOpen cX2_isOpen 3 (some .boolean), Cond.methodLink RX2 22 yX2_around, Cond.static yX2_around, Cond.code yX2_around cX2_around 3 (some .int), Cond.methodLink RX4 74 yX3_tellColumn, Cond.instanceMethod yX3_tellColumn, Cond.selects RX3 yX3_tellColumn yX3_tellColumn, Cond.code yX3_tellColumn cX3_tellColumn 5 (some .int), Cond.fieldLink RX3 31 "StormFelling$Wood" "told" "[I", Cond.methodLink RX3 84 yX2_through, Cond.instanceMethod yX2_through, Cond.selects RX2 yX2_through yX2_through, Cond.code yX2_through cX2_through 2 (some .int)]
def wsX4_doThing_r3 : List Cond := [Cond.methodLink RX4 64 yX3_sendCrew, Cond.instanceMethod yX3_sendCrew, Cond.selects RX3 yX3_sendCrew yX3_sendCrew, Cond.code yX3_sendCrew cX3_sendCrew 4 (some .int), Cond.fieldLink RX3 22 "StormFelling$Wood" "steps" "[I", Cond.fieldLink RX3 19 "StormFelling$Wood" "places" "[I", Cond.methodLink RX3 81 yX3_stepsTo, Cond.instanceMethod yX3_stepsTo, Cond.selects RX3 yX3_stepsTo yX3_stepsTo, Cond.code yX3_stepsTo cX3_stepsTo 6 (some .int), Cond.methodLink RX3 112 Lib.Math.abs.name, Cond.static Lib.Math.abs.name, Cond.code Lib.Math.abs.name Lib.Math.abs.code 1 (some .int), Cond.methodLink RX4 67 yX3_fellHere, Cond.instanceMethod yX3_fellHere, Cond.selects RX3 yX3_fellHere yX3_fellHere, Cond.code yX3_fellHere cX3_fellHere 4 (some .int), Cond.fieldLink RX3 34 "StormFelling$Wood" "settings" "[I", Cond.fieldLink RX3 15 "StormFelling$Wood" "felled" "[Z", Cond.fieldLink RX3 25 "StormFelling$Wood" "saved" "[I", Cond.fieldLink RX3 28 "StormFelling$Wood" "fellings" "[I", Cond.methodLink RX4 58 yX3_passDays, Cond.instanceMethod yX3_passDays, Cond.selects RX3 yX3_passDays yX3_passDays]
def wsX4_doThing_r4 : List Cond := [Cond.code yX3_passDays cX3_passDays 3 (some .int), Cond.fieldLink RX3 50 "StormFelling$Wood" "day" "I", Cond.methodLink RX3 72 Lib.Math.max.name, Cond.static Lib.Math.max.name, Cond.code Lib.Math.max.name Lib.Math.max.code 2 (some .int)]
def wsX4_doThing : List Cond := .code yX4_doThing cX4_doThing 3 (some .int) :: ((wsX4_doThing_r1 ++ (wsX4_doThing_r2 ++ (wsX4_doThing_r3 ++ wsX4_doThing_r4))) ++ wsX40 ++ wsX00 ++ wsX30 ++ wsX20)
def wsX4_isError : List Cond := .code yX4_isError cX4_isError 1 (some .boolean) :: ([])
def wsX4_perform_r1 : List Cond := [Cond.fieldLink RX4 39 "StormFelling" "days" "LStormFelling$Days;", Cond.fieldLink RX4 16 "StormFelling" "before" "LStormFelling$Wood;", Cond.fieldLink RX4 10 "StormFelling" "wood" "LStormFelling$Wood;", Cond.fieldLink RX4 110 "StormFelling" "stopNumber" "I", Cond.fieldLink RX4 114 "StormFelling" "stopError" "I", Cond.methodLink RX4 94 yX0_countThings, Cond.instanceMethod yX0_countThings, Cond.selects RX0 yX0_countThings yX0_countThings, Cond.initialized RX0, Cond.code yX0_countThings cX0_countThings 2 (some .int), Cond.fieldLink RX0 26 "StormFelling$Days" "at" "I", Cond.fieldLink RX0 15 "StormFelling$Days" "length" "I", Cond.methodLink RX0 19 yX0_startOver, Cond.instanceMethod yX0_startOver, Cond.selects RX0 yX0_startOver yX0_startOver, Cond.code yX0_startOver cX0_startOver 1 none, Cond.methodLink RX0 22 yX0_readThing, Cond.instanceMethod yX0_readThing, Cond.selects RX0 yX0_readThing yX0_readThing, Cond.code yX0_readThing cX0_readThing 1 (some .boolean), Cond.methodLink RX0 33 yX0_readKind, Cond.instanceMethod yX0_readKind, Cond.selects RX0 yX0_readKind yX0_readKind, Cond.code yX0_readKind cX0_readKind 2 (some .boolean)]
def wsX4_perform_r2 : List Cond := [Cond.fieldLink RX0 44 "StormFelling$Days" "kind" "C", Cond.methodLink RX0 29 yX0_readSign, Cond.instanceMethod yX0_readSign, Cond.selects RX0 yX0_readSign yX0_readSign, Cond.code yX0_readSign cX0_readSign 2 (some .boolean), Cond.fieldLink RX0 9 "StormFelling$Days" "signs" "[C", Cond.methodLink RX0 36 yX0_readFirst, Cond.instanceMethod yX0_readFirst, Cond.selects RX0 yX0_readFirst yX0_readFirst, Cond.code yX0_readFirst cX0_readFirst 3 (some .boolean), Cond.fieldLink RX0 52 "StormFelling$Days" "first" "I", Cond.methodLink RX0 48 yX0_readNumber, Cond.instanceMethod yX0_readNumber, Cond.selects RX0 yX0_readNumber yX0_readNumber, Cond.code yX0_readNumber cX0_readNumber 5 (some .int), Cond.methodLink RX0 58 yX0_digitHere, Cond.instanceMethod yX0_digitHere, Cond.selects RX0 yX0_digitHere yX0_digitHere, Cond.code yX0_digitHere cX0_digitHere 1 (some .int), Cond.static yX4_isIn, Cond.initialized RX4, Cond.code yX4_isIn cX4_isIn 3 (some .boolean), Cond.methodLink RX0 40 yX0_readSecond, Cond.instanceMethod yX0_readSecond]
def wsX4_perform_r3 : List Cond := [Cond.selects RX0 yX0_readSecond yX0_readSecond, Cond.code yX0_readSecond cX0_readSecond 2 (some .boolean), Cond.fieldLink RX0 55 "StormFelling$Days" "second" "I", Cond.methodLink RX4 43 yX3_copyFrom, Cond.instanceMethod yX3_copyFrom, Cond.selects RX3 yX3_copyFrom yX3_copyFrom, Cond.initialized RX3, Cond.code yX3_copyFrom cX3_copyFrom 2 none, Cond.fieldLink RX3 9 "StormFelling$Wood" "worths" "[I", Cond.methodLink RX3 40 arraycopyName, Cond.native arraycopyName, Cond.static arraycopyName, Cond.initialized "java/lang/System", Cond.fieldLink RX3 15 "StormFelling$Wood" "felled" "[Z", Cond.fieldLink RX3 46 "StormFelling$Wood" "mud" "I", Cond.fieldLink RX3 19 "StormFelling$Wood" "places" "[I", Cond.fieldLink RX3 22 "StormFelling$Wood" "steps" "[I", Cond.fieldLink RX3 25 "StormFelling$Wood" "saved" "[I", Cond.fieldLink RX3 28 "StormFelling$Wood" "fellings" "[I", Cond.fieldLink RX3 31 "StormFelling$Wood" "told" "[I", Cond.fieldLink RX3 34 "StormFelling$Wood" "settings" "[I", Cond.fieldLink RX3 50 "StormFelling$Wood" "day" "I", Cond.fieldLink RX3 53 "StormFelling$Wood" "lost" "I", Cond.fieldLink RX3 56 "StormFelling$Wood" "regretted" "I"]
def wsX4_perform_r4 : List Cond := [Cond.fieldLink RX3 59 "StormFelling$Wood" "storms" "I", Cond.methodLink RX4 97 yX0_startOver, Cond.methodLink RX4 100 yX0_readNext, Cond.instanceMethod yX0_readNext, Cond.selects RX0 yX0_readNext yX0_readNext, Cond.code yX0_readNext cX0_readNext 1 none, Cond.methodLink RX4 103 yX4_doThing, Cond.instanceMethod yX4_doThing, Cond.selects RX4 yX4_doThing yX4_doThing, Cond.code yX4_doThing cX4_doThing 3 (some .int), Cond.methodLink RX4 47 yX3_plant, Cond.instanceMethod yX3_plant, Cond.selects RX3 yX3_plant yX3_plant, Cond.code yX3_plant cX3_plant 4 (some .int), Cond.methodLink RX4 55 yX3_getWet, Cond.instanceMethod yX3_getWet, Cond.selects RX3 yX3_getWet yX3_getWet, Cond.code yX3_getWet cX3_getWet 2 (some .int), Cond.methodLink RX3 66 Lib.Math.min.name, Cond.static Lib.Math.min.name, Cond.initialized "java/lang/Math", Cond.code Lib.Math.min.name Lib.Math.min.code 2 (some .int), Cond.methodLink RX4 70 yX4_pathsLeft, Cond.instanceMethod yX4_pathsLeft]
def wsX4_perform_r5 : List Cond := [Cond.selects RX4 yX4_pathsLeft yX4_pathsLeft, Cond.code yX4_pathsLeft cX4_pathsLeft 1 (some (.object "StormFelling$Paths")), Cond.fieldLink RX4 32 "StormFelling" "paths" "LStormFelling$Paths;", Cond.methodLink RX4 237 yX2_follow, Cond.instanceMethod yX2_follow, Cond.selects RX2 yX2_follow yX2_follow, Cond.initialized RX2, Cond.code yX2_follow cX2_follow 3 none, Cond.fieldLink RX2 9 "StormFelling$Paths" "above" "[I", Cond.fieldLink RX2 15 "StormFelling$Paths" "below" "[I", Cond.fieldLink RX2 26 "StormFelling$Paths" "all" "I", Cond.methodLink RX2 18 yX2_isOpen, Cond.static yX2_isOpen, Cond.code yX2_isOpen cX2_isOpen 3 (some .boolean), Cond.methodLink RX2 22 yX2_around, Cond.static yX2_around, Cond.code yX2_around cX2_around 3 (some .int), Cond.methodLink RX4 74 yX3_tellColumn, Cond.instanceMethod yX3_tellColumn, Cond.selects RX3 yX3_tellColumn yX3_tellColumn, Cond.code yX3_tellColumn cX3_tellColumn 5 (some .int), Cond.methodLink RX3 84 yX2_through, Cond.instanceMethod yX2_through, Cond.selects RX2 yX2_through yX2_through]
def wsX4_perform_r6 : List Cond := [Cond.code yX2_through cX2_through 2 (some .int), Cond.methodLink RX4 64 yX3_sendCrew, Cond.instanceMethod yX3_sendCrew, Cond.selects RX3 yX3_sendCrew yX3_sendCrew, Cond.code yX3_sendCrew cX3_sendCrew 4 (some .int), Cond.methodLink RX3 81 yX3_stepsTo, Cond.instanceMethod yX3_stepsTo, Cond.selects RX3 yX3_stepsTo yX3_stepsTo, Cond.code yX3_stepsTo cX3_stepsTo 6 (some .int), Cond.methodLink RX3 112 Lib.Math.abs.name, Cond.static Lib.Math.abs.name, Cond.code Lib.Math.abs.name Lib.Math.abs.code 1 (some .int), Cond.methodLink RX4 67 yX3_fellHere, Cond.instanceMethod yX3_fellHere, Cond.selects RX3 yX3_fellHere yX3_fellHere, Cond.code yX3_fellHere cX3_fellHere 4 (some .int), Cond.methodLink RX4 58 yX3_passDays, Cond.instanceMethod yX3_passDays, Cond.selects RX3 yX3_passDays yX3_passDays, Cond.code yX3_passDays cX3_passDays 3 (some .int), Cond.methodLink RX3 72 Lib.Math.max.name, Cond.static Lib.Math.max.name, Cond.code Lib.Math.max.name Lib.Math.max.code 2 (some .int), Cond.methodLink RX4 106 yX4_isError]
def wsX4_perform_r7 : List Cond := [Cond.static yX4_isError, Cond.code yX4_isError cX4_isError 1 (some .boolean), Cond.methodLink RX4 51 yX4_recorded, Cond.instanceMethod yX4_recorded, Cond.selects RX4 yX4_recorded yX4_recorded, Cond.code yX4_recorded cX4_recorded 2 (some .int), Cond.fieldLink RX4 25 "StormFelling" "history" "LStormFelling$History;", Cond.methodLink RX4 234 yX1_push, Cond.instanceMethod yX1_push, Cond.selects RX1 yX1_push yX1_push, Cond.initialized RX1, Cond.code yX1_push cX1_push 2 none, Cond.fieldLink RX1 18 "StormFelling$History" "size" "I", Cond.fieldLink RX1 11 "StormFelling$History" "states" "[LStormFelling$Wood;", Cond.methodLink RX1 22 yX1_dropOldest, Cond.instanceMethod yX1_dropOldest, Cond.selects RX1 yX1_dropOldest yX1_dropOldest, Cond.code yX1_dropOldest cX1_dropOldest 3 none, Cond.methodLink RX1 25 yX3_copyFrom]
def wsX4_perform : List Cond := .code yX4_perform cX4_perform 4 (some .int) :: ((wsX4_perform_r1 ++ (wsX4_perform_r2 ++ (wsX4_perform_r3 ++ (wsX4_perform_r4 ++ (wsX4_perform_r5 ++ (wsX4_perform_r6 ++ wsX4_perform_r7)))))) ++ wsX40 ++ wsX00 ++ wsX30 ++ wsX20 ++ wsX10)
def wsX4_stopped : List Cond := .code yX4_stopped cX4_stopped 2 (some .int) :: ([.fieldLink RX4 114 "StormFelling" "stopError" "I", .fieldLink RX4 110 "StormFelling" "stopNumber" "I", .methodLink RX4 117 yX4_isIn, .static yX4_isIn, .initialized RX4, .code yX4_isIn cX4_isIn 3 (some .boolean)] ++ wsX40)
def wsX4_undo_r1 : List Cond := [Cond.fieldLink RX4 25 "StormFelling" "history" "LStormFelling$History;", Cond.fieldLink RX4 10 "StormFelling" "wood" "LStormFelling$Wood;", Cond.methodLink RX4 121 yX1_pop, Cond.instanceMethod yX1_pop, Cond.selects RX1 yX1_pop yX1_pop, Cond.initialized RX1, Cond.code yX1_pop cX1_pop 2 (some .boolean), Cond.fieldLink RX1 18 "StormFelling$History" "size" "I", Cond.fieldLink RX1 11 "StormFelling$History" "states" "[LStormFelling$Wood;", Cond.methodLink RX1 25 yX3_copyFrom, Cond.instanceMethod yX3_copyFrom, Cond.selects RX3 yX3_copyFrom yX3_copyFrom, Cond.initialized RX3, Cond.code yX3_copyFrom cX3_copyFrom 2 none, Cond.fieldLink RX3 9 "StormFelling$Wood" "worths" "[I", Cond.methodLink RX3 40 arraycopyName, Cond.native arraycopyName, Cond.static arraycopyName, Cond.initialized "java/lang/System", Cond.fieldLink RX3 15 "StormFelling$Wood" "felled" "[Z", Cond.fieldLink RX3 46 "StormFelling$Wood" "mud" "I", Cond.fieldLink RX3 19 "StormFelling$Wood" "places" "[I", Cond.fieldLink RX3 22 "StormFelling$Wood" "steps" "[I", Cond.fieldLink RX3 25 "StormFelling$Wood" "saved" "[I"]
def wsX4_undo_r2 : List Cond := [Cond.fieldLink RX3 28 "StormFelling$Wood" "fellings" "[I", Cond.fieldLink RX3 31 "StormFelling$Wood" "told" "[I", Cond.fieldLink RX3 34 "StormFelling$Wood" "settings" "[I", Cond.fieldLink RX3 50 "StormFelling$Wood" "day" "I", Cond.fieldLink RX3 53 "StormFelling$Wood" "lost" "I", Cond.fieldLink RX3 56 "StormFelling$Wood" "regretted" "I", Cond.fieldLink RX3 59 "StormFelling$Wood" "storms" "I"]
def wsX4_undo : List Cond := .code yX4_undo cX4_undo 1 (some .int) :: ((wsX4_undo_r1 ++ wsX4_undo_r2) ++ wsX40 ++ wsX10 ++ wsX30)
def wsX4_keep_r1 : List Cond := [Cond.fieldLink RX4 19 "StormFelling" "snapshot" "LStormFelling$Wood;", Cond.fieldLink RX4 10 "StormFelling" "wood" "LStormFelling$Wood;", Cond.fieldLink RX4 128 "StormFelling" "hasSnapshot" "Z", Cond.methodLink RX4 43 yX3_copyFrom, Cond.instanceMethod yX3_copyFrom, Cond.selects RX3 yX3_copyFrom yX3_copyFrom, Cond.initialized RX3, Cond.code yX3_copyFrom cX3_copyFrom 2 none, Cond.fieldLink RX3 9 "StormFelling$Wood" "worths" "[I", Cond.methodLink RX3 40 arraycopyName, Cond.native arraycopyName, Cond.static arraycopyName, Cond.initialized "java/lang/System", Cond.fieldLink RX3 15 "StormFelling$Wood" "felled" "[Z", Cond.fieldLink RX3 46 "StormFelling$Wood" "mud" "I", Cond.fieldLink RX3 19 "StormFelling$Wood" "places" "[I", Cond.fieldLink RX3 22 "StormFelling$Wood" "steps" "[I", Cond.fieldLink RX3 25 "StormFelling$Wood" "saved" "[I", Cond.fieldLink RX3 28 "StormFelling$Wood" "fellings" "[I", Cond.fieldLink RX3 31 "StormFelling$Wood" "told" "[I", Cond.fieldLink RX3 34 "StormFelling$Wood" "settings" "[I", Cond.fieldLink RX3 50 "StormFelling$Wood" "day" "I", Cond.fieldLink RX3 53 "StormFelling$Wood" "lost" "I", Cond.fieldLink RX3 56 "StormFelling$Wood" "regretted" "I"]
def wsX4_keep_r2 : List Cond := [Cond.fieldLink RX3 59 "StormFelling$Wood" "storms" "I"]
def wsX4_keep : List Cond := .code yX4_keep cX4_keep 1 (some .int) :: ((wsX4_keep_r1 ++ wsX4_keep_r2) ++ wsX40 ++ wsX30)
def wsX4_restore_r1 : List Cond := [Cond.fieldLink RX4 128 "StormFelling" "hasSnapshot" "Z", Cond.fieldLink RX4 16 "StormFelling" "before" "LStormFelling$Wood;", Cond.fieldLink RX4 10 "StormFelling" "wood" "LStormFelling$Wood;", Cond.fieldLink RX4 19 "StormFelling" "snapshot" "LStormFelling$Wood;", Cond.methodLink RX4 43 yX3_copyFrom, Cond.instanceMethod yX3_copyFrom, Cond.selects RX3 yX3_copyFrom yX3_copyFrom, Cond.initialized RX3, Cond.code yX3_copyFrom cX3_copyFrom 2 none, Cond.fieldLink RX3 9 "StormFelling$Wood" "worths" "[I", Cond.methodLink RX3 40 arraycopyName, Cond.native arraycopyName, Cond.static arraycopyName, Cond.initialized "java/lang/System", Cond.fieldLink RX3 15 "StormFelling$Wood" "felled" "[Z", Cond.fieldLink RX3 46 "StormFelling$Wood" "mud" "I", Cond.fieldLink RX3 19 "StormFelling$Wood" "places" "[I", Cond.fieldLink RX3 22 "StormFelling$Wood" "steps" "[I", Cond.fieldLink RX3 25 "StormFelling$Wood" "saved" "[I", Cond.fieldLink RX3 28 "StormFelling$Wood" "fellings" "[I", Cond.fieldLink RX3 31 "StormFelling$Wood" "told" "[I", Cond.fieldLink RX3 34 "StormFelling$Wood" "settings" "[I", Cond.fieldLink RX3 50 "StormFelling$Wood" "day" "I", Cond.fieldLink RX3 53 "StormFelling$Wood" "lost" "I"]
def wsX4_restore_r2 : List Cond := [Cond.fieldLink RX3 56 "StormFelling$Wood" "regretted" "I", Cond.fieldLink RX3 59 "StormFelling$Wood" "storms" "I", Cond.methodLink RX4 51 yX4_recorded, Cond.instanceMethod yX4_recorded, Cond.selects RX4 yX4_recorded yX4_recorded, Cond.initialized RX4, Cond.code yX4_recorded cX4_recorded 2 (some .int), Cond.fieldLink RX4 25 "StormFelling" "history" "LStormFelling$History;", Cond.methodLink RX4 234 yX1_push, Cond.instanceMethod yX1_push, Cond.selects RX1 yX1_push yX1_push, Cond.initialized RX1, Cond.code yX1_push cX1_push 2 none, Cond.fieldLink RX1 18 "StormFelling$History" "size" "I", Cond.fieldLink RX1 11 "StormFelling$History" "states" "[LStormFelling$Wood;", Cond.methodLink RX1 22 yX1_dropOldest, Cond.instanceMethod yX1_dropOldest, Cond.selects RX1 yX1_dropOldest yX1_dropOldest, Cond.code yX1_dropOldest cX1_dropOldest 3 none, Cond.methodLink RX1 25 yX3_copyFrom]
def wsX4_restore : List Cond := .code yX4_restore cX4_restore 1 (some .int) :: ((wsX4_restore_r1 ++ wsX4_restore_r2) ++ wsX40 ++ wsX30 ++ wsX10)
def wsX4_plot_r1 : List Cond := [Cond.fieldLink RX4 10 "StormFelling" "wood" "LStormFelling$Wood;", Cond.methodLink RX4 117 yX4_isIn, Cond.static yX4_isIn, Cond.initialized RX4, Cond.code yX4_isIn cX4_isIn 3 (some .boolean), Cond.methodLink RX4 70 yX4_pathsLeft, Cond.instanceMethod yX4_pathsLeft, Cond.selects RX4 yX4_pathsLeft yX4_pathsLeft, Cond.code yX4_pathsLeft cX4_pathsLeft 1 (some (.object "StormFelling$Paths")), Cond.fieldLink RX4 32 "StormFelling" "paths" "LStormFelling$Paths;", Cond.methodLink RX4 237 yX2_follow, Cond.instanceMethod yX2_follow, Cond.selects RX2 yX2_follow yX2_follow, Cond.initialized RX2, Cond.code yX2_follow cX2_follow 3 none, Cond.fieldLink RX2 9 "StormFelling$Paths" "above" "[I", Cond.fieldLink RX2 15 "StormFelling$Paths" "below" "[I", Cond.fieldLink RX2 26 "StormFelling$Paths" "all" "I", Cond.methodLink RX2 18 yX2_isOpen, Cond.static yX2_isOpen, Cond.code yX2_isOpen cX2_isOpen 3 (some .boolean), Cond.methodLink RX2 22 yX2_around, Cond.static yX2_around, Cond.code yX2_around cX2_around 3 (some .int)]
def wsX4_plot_r2 : List Cond := [Cond.methodLink RX4 142 yX3_hits, Cond.instanceMethod yX3_hits, Cond.selects RX3 yX3_hits yX3_hits, Cond.initialized RX3, Cond.code yX3_hits cX3_hits 3 (some .int), Cond.fieldLink RX3 34 "StormFelling$Wood" "settings" "[I", Cond.methodLink RX3 125 yX2_within, Cond.instanceMethod yX2_within, Cond.selects RX2 yX2_within yX2_within, Cond.code yX2_within cX2_within 8 (some .int), Cond.methodLink RX2 30 Lib.Math.max.name, Cond.static Lib.Math.max.name, Cond.initialized "java/lang/Math", Cond.code Lib.Math.max.name Lib.Math.max.code 2 (some .int), Cond.methodLink RX2 36 Lib.Math.min.name, Cond.static Lib.Math.min.name, Cond.code Lib.Math.min.name Lib.Math.min.code 2 (some .int), Cond.methodLink RX2 39 yX2_through, Cond.instanceMethod yX2_through, Cond.selects RX2 yX2_through yX2_through, Cond.code yX2_through cX2_through 2 (some .int), Cond.methodLink RX4 145 yX3_isEndangered, Cond.instanceMethod yX3_isEndangered, Cond.selects RX3 yX3_isEndangered yX3_isEndangered]
def wsX4_plot_r3 : List Cond := [Cond.code yX3_isEndangered cX3_isEndangered 3 (some .boolean), Cond.methodLink RX3 128 yX3_hits, Cond.methodLink RX4 149 yX3_isDoomed, Cond.instanceMethod yX3_isDoomed, Cond.selects RX3 yX3_isDoomed yX3_isDoomed, Cond.code yX3_isDoomed cX3_isDoomed 3 (some .boolean), Cond.methodLink RX4 152 yX3_standsToLose, Cond.instanceMethod yX3_standsToLose, Cond.selects RX3 yX3_standsToLose yX3_standsToLose, Cond.code yX3_standsToLose cX3_standsToLose 3 (some .int), Cond.fieldLink RX3 9 "StormFelling$Wood" "worths" "[I"]
def wsX4_plot : List Cond := .code yX4_plot cX4_plot 3 (some .int) :: ((wsX4_plot_r1 ++ (wsX4_plot_r2 ++ wsX4_plot_r3)) ++ wsX40 ++ wsX30 ++ wsX20)
def wsX4_crew : List Cond := .code yX4_crew cX4_crew 3 (some .int) :: ([.fieldLink RX4 10 "StormFelling" "wood" "LStormFelling$Wood;", .methodLink RX4 117 yX4_isIn, .static yX4_isIn, .initialized RX4, .code yX4_isIn cX4_isIn 3 (some .boolean)] ++ wsX40 ++ wsX30)
def wsX4_row_r1 : List Cond := [Cond.fieldLink RX4 10 "StormFelling" "wood" "LStormFelling$Wood;", Cond.methodLink RX4 117 yX4_isIn, Cond.static yX4_isIn, Cond.initialized RX4, Cond.code yX4_isIn cX4_isIn 3 (some .boolean), Cond.methodLink RX4 70 yX4_pathsLeft, Cond.instanceMethod yX4_pathsLeft, Cond.selects RX4 yX4_pathsLeft yX4_pathsLeft, Cond.code yX4_pathsLeft cX4_pathsLeft 1 (some (.object "StormFelling$Paths")), Cond.fieldLink RX4 32 "StormFelling" "paths" "LStormFelling$Paths;", Cond.methodLink RX4 237 yX2_follow, Cond.instanceMethod yX2_follow, Cond.selects RX2 yX2_follow yX2_follow, Cond.initialized RX2, Cond.code yX2_follow cX2_follow 3 none, Cond.fieldLink RX2 9 "StormFelling$Paths" "above" "[I", Cond.fieldLink RX2 15 "StormFelling$Paths" "below" "[I", Cond.fieldLink RX2 26 "StormFelling$Paths" "all" "I", Cond.methodLink RX2 18 yX2_isOpen, Cond.static yX2_isOpen, Cond.code yX2_isOpen cX2_isOpen 3 (some .boolean), Cond.methodLink RX2 22 yX2_around, Cond.static yX2_around, Cond.code yX2_around cX2_around 3 (some .int)]
def wsX4_row_r2 : List Cond := [Cond.methodLink RX4 174 yX2_leastColumn, Cond.instanceMethod yX2_leastColumn, Cond.selects RX2 yX2_leastColumn yX2_leastColumn, Cond.code yX2_leastColumn cX2_leastColumn 3 (some .int), Cond.methodLink RX2 39 yX2_through, Cond.instanceMethod yX2_through, Cond.selects RX2 yX2_through yX2_through, Cond.code yX2_through cX2_through 2 (some .int), Cond.methodLink RX4 177 yX2_greatestColumn, Cond.instanceMethod yX2_greatestColumn, Cond.selects RX2 yX2_greatestColumn yX2_greatestColumn, Cond.code yX2_greatestColumn cX2_greatestColumn 3 (some .int)]
def wsX4_row : List Cond := .code yX4_row cX4_row 3 (some .int) :: ((wsX4_row_r1 ++ wsX4_row_r2) ++ wsX40 ++ wsX30 ++ wsX20)
def wsX4_way : List Cond := .code yX4_way cX4_way 3 (some .int) :: ([.fieldLink RX4 10 "StormFelling" "wood" "LStormFelling$Wood;", .methodLink RX4 117 yX4_isIn, .static yX4_isIn, .initialized RX4, .code yX4_isIn cX4_isIn 3 (some .boolean), .methodLink RX4 180 yX3_stepsTo, .instanceMethod yX3_stepsTo, .selects RX3 yX3_stepsTo yX3_stepsTo, .initialized RX3, .code yX3_stepsTo cX3_stepsTo 6 (some .int), .fieldLink RX3 19 "StormFelling$Wood" "places" "[I", .methodLink RX3 112 Lib.Math.abs.name, .static Lib.Math.abs.name, .initialized "java/lang/Math", .code Lib.Math.abs.name Lib.Math.abs.code 1 (some .int), .fieldLink RX3 46 "StormFelling$Wood" "mud" "I"] ++ wsX40 ++ wsX30)
def wsX4_reason : List Cond := .code yX4_reason cX4_reason 3 (some .int) :: ([.fieldLink RX4 10 "StormFelling" "wood" "LStormFelling$Wood;", .methodLink RX4 117 yX4_isIn, .static yX4_isIn, .initialized RX4, .code yX4_isIn cX4_isIn 3 (some .boolean), .methodLink RX4 183 yX3_whyNot, .instanceMethod yX3_whyNot, .selects RX3 yX3_whyNot yX3_whyNot, .initialized RX3, .code yX3_whyNot cX3_whyNot 4 (some .int), .fieldLink RX3 9 "StormFelling$Wood" "worths" "[I", .fieldLink RX3 22 "StormFelling$Wood" "steps" "[I", .fieldLink RX3 34 "StormFelling$Wood" "settings" "[I", .methodLink RX3 81 yX3_stepsTo, .instanceMethod yX3_stepsTo, .selects RX3 yX3_stepsTo yX3_stepsTo, .code yX3_stepsTo cX3_stepsTo 6 (some .int), .fieldLink RX3 19 "StormFelling$Wood" "places" "[I", .methodLink RX3 112 Lib.Math.abs.name, .static Lib.Math.abs.name, .initialized "java/lang/Math", .code Lib.Math.abs.name Lib.Math.abs.code 1 (some .int), .fieldLink RX3 46 "StormFelling$Wood" "mud" "I"] ++ wsX40 ++ wsX30)
def wsX4_best_r1 : List Cond := [Cond.fieldLink RX4 10 "StormFelling" "wood" "LStormFelling$Wood;", Cond.methodLink RX4 117 yX4_isIn, Cond.static yX4_isIn, Cond.initialized RX4, Cond.code yX4_isIn cX4_isIn 3 (some .boolean), Cond.methodLink RX4 70 yX4_pathsLeft, Cond.instanceMethod yX4_pathsLeft, Cond.selects RX4 yX4_pathsLeft yX4_pathsLeft, Cond.code yX4_pathsLeft cX4_pathsLeft 1 (some (.object "StormFelling$Paths")), Cond.fieldLink RX4 32 "StormFelling" "paths" "LStormFelling$Paths;", Cond.methodLink RX4 237 yX2_follow, Cond.instanceMethod yX2_follow, Cond.selects RX2 yX2_follow yX2_follow, Cond.initialized RX2, Cond.code yX2_follow cX2_follow 3 none, Cond.fieldLink RX2 9 "StormFelling$Paths" "above" "[I", Cond.fieldLink RX2 15 "StormFelling$Paths" "below" "[I", Cond.fieldLink RX2 26 "StormFelling$Paths" "all" "I", Cond.methodLink RX2 18 yX2_isOpen, Cond.static yX2_isOpen, Cond.code yX2_isOpen cX2_isOpen 3 (some .boolean), Cond.methodLink RX2 22 yX2_around, Cond.static yX2_around, Cond.code yX2_around cX2_around 3 (some .int)]
def wsX4_best_r2 : List Cond := [Cond.methodLink RX4 186 yX3_bestPlot, Cond.instanceMethod yX3_bestPlot, Cond.selects RX3 yX3_bestPlot yX3_bestPlot, Cond.initialized RX3, Cond.code yX3_bestPlot cX3_bestPlot 5 (some .int), Cond.methodLink RX3 115 yX3_whyNot, Cond.instanceMethod yX3_whyNot, Cond.selects RX3 yX3_whyNot yX3_whyNot, Cond.code yX3_whyNot cX3_whyNot 4 (some .int), Cond.fieldLink RX3 9 "StormFelling$Wood" "worths" "[I", Cond.fieldLink RX3 22 "StormFelling$Wood" "steps" "[I", Cond.fieldLink RX3 34 "StormFelling$Wood" "settings" "[I", Cond.methodLink RX3 81 yX3_stepsTo, Cond.instanceMethod yX3_stepsTo, Cond.selects RX3 yX3_stepsTo yX3_stepsTo, Cond.code yX3_stepsTo cX3_stepsTo 6 (some .int), Cond.fieldLink RX3 19 "StormFelling$Wood" "places" "[I", Cond.methodLink RX3 112 Lib.Math.abs.name, Cond.static Lib.Math.abs.name, Cond.initialized "java/lang/Math", Cond.code Lib.Math.abs.name Lib.Math.abs.code 1 (some .int), Cond.fieldLink RX3 46 "StormFelling$Wood" "mud" "I", Cond.methodLink RX3 118 yX3_isBetter, Cond.instanceMethod yX3_isBetter]
def wsX4_best_r3 : List Cond := [Cond.selects RX3 yX3_isBetter yX3_isBetter, Cond.code yX3_isBetter cX3_isBetter 6 (some .boolean), Cond.methodLink RX3 122 yX3_standsToLose, Cond.instanceMethod yX3_standsToLose, Cond.selects RX3 yX3_standsToLose yX3_standsToLose, Cond.code yX3_standsToLose cX3_standsToLose 3 (some .int), Cond.methodLink RX3 128 yX3_hits, Cond.instanceMethod yX3_hits, Cond.selects RX3 yX3_hits yX3_hits, Cond.code yX3_hits cX3_hits 3 (some .int), Cond.methodLink RX3 125 yX2_within, Cond.instanceMethod yX2_within, Cond.selects RX2 yX2_within yX2_within, Cond.code yX2_within cX2_within 8 (some .int), Cond.methodLink RX2 30 Lib.Math.max.name, Cond.static Lib.Math.max.name, Cond.code Lib.Math.max.name Lib.Math.max.code 2 (some .int), Cond.methodLink RX2 36 Lib.Math.min.name, Cond.static Lib.Math.min.name, Cond.code Lib.Math.min.name Lib.Math.min.code 2 (some .int), Cond.methodLink RX2 39 yX2_through, Cond.instanceMethod yX2_through, Cond.selects RX2 yX2_through yX2_through, Cond.code yX2_through cX2_through 2 (some .int)]
def wsX4_best : List Cond := .code yX4_best cX4_best 2 (some .int) :: ((wsX4_best_r1 ++ (wsX4_best_r2 ++ wsX4_best_r3)) ++ wsX40 ++ wsX30 ++ wsX20)
def wsX4_openRow_r1 : List Cond := [Cond.methodLink RX4 70 yX4_pathsLeft, Cond.instanceMethod yX4_pathsLeft, Cond.selects RX4 yX4_pathsLeft yX4_pathsLeft, Cond.initialized RX4, Cond.code yX4_pathsLeft cX4_pathsLeft 1 (some (.object "StormFelling$Paths")), Cond.fieldLink RX4 32 "StormFelling" "paths" "LStormFelling$Paths;", Cond.fieldLink RX4 10 "StormFelling" "wood" "LStormFelling$Wood;", Cond.methodLink RX4 237 yX2_follow, Cond.instanceMethod yX2_follow, Cond.selects RX2 yX2_follow yX2_follow, Cond.initialized RX2, Cond.code yX2_follow cX2_follow 3 none, Cond.fieldLink RX2 9 "StormFelling$Paths" "above" "[I", Cond.fieldLink RX2 15 "StormFelling$Paths" "below" "[I", Cond.fieldLink RX2 26 "StormFelling$Paths" "all" "I", Cond.methodLink RX2 18 yX2_isOpen, Cond.static yX2_isOpen, Cond.code yX2_isOpen cX2_isOpen 3 (some .boolean), Cond.methodLink RX2 22 yX2_around, Cond.static yX2_around, Cond.code yX2_around cX2_around 3 (some .int), Cond.methodLink RX4 189 yX2_mostOpenRow, Cond.instanceMethod yX2_mostOpenRow, Cond.selects RX2 yX2_mostOpenRow yX2_mostOpenRow]
def wsX4_openRow_r2 : List Cond := [Cond.code yX2_mostOpenRow cX2_mostOpenRow 3 (some .int), Cond.methodLink RX2 43 yX2_openColumns, Cond.instanceMethod yX2_openColumns, Cond.selects RX2 yX2_openColumns yX2_openColumns, Cond.code yX2_openColumns cX2_openColumns 4 (some .int), Cond.methodLink RX2 39 yX2_through, Cond.instanceMethod yX2_through, Cond.selects RX2 yX2_through yX2_through, Cond.code yX2_through cX2_through 2 (some .int)]
def wsX4_openRow : List Cond := .code yX4_openRow cX4_openRow 1 (some .int) :: ((wsX4_openRow_r1 ++ wsX4_openRow_r2) ++ wsX40 ++ wsX30 ++ wsX20)
def wsX4_ifTold_r1 : List Cond := [Cond.methodLink RX4 117 yX4_isIn, Cond.static yX4_isIn, Cond.initialized RX4, Cond.code yX4_isIn cX4_isIn 3 (some .boolean), Cond.methodLink RX4 70 yX4_pathsLeft, Cond.instanceMethod yX4_pathsLeft, Cond.selects RX4 yX4_pathsLeft yX4_pathsLeft, Cond.code yX4_pathsLeft cX4_pathsLeft 1 (some (.object "StormFelling$Paths")), Cond.fieldLink RX4 32 "StormFelling" "paths" "LStormFelling$Paths;", Cond.fieldLink RX4 10 "StormFelling" "wood" "LStormFelling$Wood;", Cond.methodLink RX4 237 yX2_follow, Cond.instanceMethod yX2_follow, Cond.selects RX2 yX2_follow yX2_follow, Cond.initialized RX2, Cond.code yX2_follow cX2_follow 3 none, Cond.fieldLink RX2 9 "StormFelling$Paths" "above" "[I", Cond.fieldLink RX2 15 "StormFelling$Paths" "below" "[I", Cond.fieldLink RX2 26 "StormFelling$Paths" "all" "I", Cond.methodLink RX2 18 yX2_isOpen, Cond.static yX2_isOpen, Cond.code yX2_isOpen cX2_isOpen 3 (some .boolean), Cond.methodLink RX2 22 yX2_around, Cond.static yX2_around, Cond.code yX2_around cX2_around 3 (some .int)]
def wsX4_ifTold_r2 : List Cond := [Cond.methodLink RX4 192 yX2_through, Cond.instanceMethod yX2_through, Cond.selects RX2 yX2_through yX2_through, Cond.code yX2_through cX2_through 2 (some .int)]
def wsX4_ifTold : List Cond := .code yX4_ifTold cX4_ifTold 3 (some .int) :: ((wsX4_ifTold_r1 ++ wsX4_ifTold_r2) ++ wsX40 ++ wsX30 ++ wsX20)
def wsX4_count_r1 : List Cond := [Cond.fieldLink RX4 10 "StormFelling" "wood" "LStormFelling$Wood;", Cond.fieldLink RX4 25 "StormFelling" "history" "LStormFelling$History;", Cond.fieldLink RX4 39 "StormFelling" "days" "LStormFelling$Days;", Cond.methodLink RX4 195 yX3_worthOfAll, Cond.instanceMethod yX3_worthOfAll, Cond.selects RX3 yX3_worthOfAll yX3_worthOfAll, Cond.initialized RX3, Cond.code yX3_worthOfAll cX3_worthOfAll 3 (some .int), Cond.fieldLink RX3 9 "StormFelling$Wood" "worths" "[I", Cond.methodLink RX4 70 yX4_pathsLeft, Cond.instanceMethod yX4_pathsLeft, Cond.selects RX4 yX4_pathsLeft yX4_pathsLeft, Cond.initialized RX4, Cond.code yX4_pathsLeft cX4_pathsLeft 1 (some (.object "StormFelling$Paths")), Cond.fieldLink RX4 32 "StormFelling" "paths" "LStormFelling$Paths;", Cond.methodLink RX4 237 yX2_follow, Cond.instanceMethod yX2_follow, Cond.selects RX2 yX2_follow yX2_follow, Cond.initialized RX2, Cond.code yX2_follow cX2_follow 3 none, Cond.fieldLink RX2 9 "StormFelling$Paths" "above" "[I", Cond.fieldLink RX2 15 "StormFelling$Paths" "below" "[I", Cond.fieldLink RX2 26 "StormFelling$Paths" "all" "I", Cond.methodLink RX2 18 yX2_isOpen]
def wsX4_count_r2 : List Cond := [Cond.static yX2_isOpen, Cond.code yX2_isOpen cX2_isOpen 3 (some .boolean), Cond.methodLink RX2 22 yX2_around, Cond.static yX2_around, Cond.code yX2_around cX2_around 3 (some .int), Cond.methodLink RX4 198 yX3_endangeredPlots, Cond.instanceMethod yX3_endangeredPlots, Cond.selects RX3 yX3_endangeredPlots yX3_endangeredPlots, Cond.code yX3_endangeredPlots cX3_endangeredPlots 4 (some .int), Cond.methodLink RX3 108 yX3_isEndangered, Cond.instanceMethod yX3_isEndangered, Cond.selects RX3 yX3_isEndangered yX3_isEndangered, Cond.code yX3_isEndangered cX3_isEndangered 3 (some .boolean), Cond.methodLink RX3 128 yX3_hits, Cond.instanceMethod yX3_hits, Cond.selects RX3 yX3_hits yX3_hits, Cond.code yX3_hits cX3_hits 3 (some .int), Cond.fieldLink RX3 34 "StormFelling$Wood" "settings" "[I", Cond.methodLink RX3 125 yX2_within, Cond.instanceMethod yX2_within, Cond.selects RX2 yX2_within yX2_within, Cond.code yX2_within cX2_within 8 (some .int), Cond.methodLink RX2 30 Lib.Math.max.name, Cond.static Lib.Math.max.name]
def wsX4_count_r3 : List Cond := [Cond.initialized "java/lang/Math", Cond.code Lib.Math.max.name Lib.Math.max.code 2 (some .int), Cond.methodLink RX2 36 Lib.Math.min.name, Cond.static Lib.Math.min.name, Cond.code Lib.Math.min.name Lib.Math.min.code 2 (some .int), Cond.methodLink RX2 39 yX2_through, Cond.instanceMethod yX2_through, Cond.selects RX2 yX2_through yX2_through, Cond.code yX2_through cX2_through 2 (some .int), Cond.methodLink RX4 201 yX3_doomedPlots, Cond.instanceMethod yX3_doomedPlots, Cond.selects RX3 yX3_doomedPlots yX3_doomedPlots, Cond.code yX3_doomedPlots cX3_doomedPlots 4 (some .int), Cond.methodLink RX3 131 yX3_isDoomed, Cond.instanceMethod yX3_isDoomed, Cond.selects RX3 yX3_isDoomed yX3_isDoomed, Cond.code yX3_isDoomed cX3_isDoomed 3 (some .boolean), Cond.methodLink RX4 204 yX3_allStandToLose, Cond.instanceMethod yX3_allStandToLose, Cond.selects RX3 yX3_allStandToLose yX3_allStandToLose, Cond.code yX3_allStandToLose cX3_allStandToLose 4 (some .int), Cond.methodLink RX3 122 yX3_standsToLose, Cond.instanceMethod yX3_standsToLose, Cond.selects RX3 yX3_standsToLose yX3_standsToLose]
def wsX4_count_r4 : List Cond := [Cond.code yX3_standsToLose cX3_standsToLose 3 (some .int), Cond.methodLink RX4 210 yX3_hintsTold, Cond.instanceMethod yX3_hintsTold, Cond.selects RX3 yX3_hintsTold yX3_hintsTold, Cond.code yX3_hintsTold cX3_hintsTold 3 (some .int), Cond.fieldLink RX3 31 "StormFelling$Wood" "told" "[I", Cond.methodLink RX4 213 yX3_savedByAll, Cond.instanceMethod yX3_savedByAll, Cond.selects RX3 yX3_savedByAll yX3_savedByAll, Cond.code yX3_savedByAll cX3_savedByAll 3 (some .int), Cond.fieldLink RX3 25 "StormFelling$Wood" "saved" "[I", Cond.methodLink RX4 225 yX3_felledPlots, Cond.instanceMethod yX3_felledPlots, Cond.selects RX3 yX3_felledPlots yX3_felledPlots, Cond.code yX3_felledPlots cX3_felledPlots 3 (some .int), Cond.fieldLink RX3 15 "StormFelling$Wood" "felled" "[Z"]
def wsX4_count : List Cond := .code yX4_count cX4_count 2 (some .int) :: ((wsX4_count_r1 ++ (wsX4_count_r2 ++ (wsX4_count_r3 ++ wsX4_count_r4))) ++ wsX40 ++ wsX30 ++ wsX20 ++ wsX10 ++ wsX00)
def wsX5_lay : List Cond := .code yX5_lay cX5_lay 4 none :: ([.fieldLink RX5 7 "StormFellingModel" "z" "[I"] ++ wsX50)
def wsX5_refresh : List Cond := .code yX5_refresh cX5_refresh 2 none :: ([.fieldLink RX5 7 "StormFellingModel" "z" "[I", .methodLink RX5 40 yX5_lay, .instanceMethod yX5_lay, .selects RX5 yX5_lay yX5_lay, .initialized RX5, .code yX5_lay cX5_lay 4 none] ++ wsX50)
def wsX5_init : List Cond := .code yX5_init cX5_init 2 none :: ([.methodLink RX5 1 objectInit, .instanceMethod objectInit, .code objectInit ⟨#[0xb1]⟩ 1 none, .arrayClass .int, .fieldLink RX5 7 "StormFellingModel" "z" "[I", .fieldLink RX5 13 "StormFellingModel" "spare" "[I", .fieldLink RX5 16 "StormFellingModel" "past" "[I", .fieldLink RX5 19 "StormFellingModel" "kept" "[I", .fieldLink RX5 22 "StormFellingModel" "text" "[I", .fieldLink RX5 25 "StormFellingModel" "down" "[I", .fieldLink RX5 28 "StormFellingModel" "up" "[I", .fieldLink RX5 31 "StormFellingModel" "far" "[I", .fieldLink RX5 34 "StormFellingModel" "lostWorths" "[I", .fieldLink RX5 37 "StormFellingModel" "told" "[I", .methodLink RX5 40 yX5_lay, .instanceMethod yX5_lay, .selects RX5 yX5_lay yX5_lay, .initialized RX5, .code yX5_lay cX5_lay 4 none, .methodLink RX5 44 yX5_refresh, .instanceMethod yX5_refresh, .selects RX5 yX5_refresh yX5_refresh, .code yX5_refresh cX5_refresh 2 none] ++ wsX50)
def wsX5_in : List Cond := .code yX5_in cX5_in 3 (some .boolean) :: ([])
def wsX5_isPlot : List Cond := .code yX5_isPlot cX5_isPlot 1 (some .boolean) :: ([.methodLink RX5 47 yX5_in, .static yX5_in, .initialized RX5, .code yX5_in cX5_in 3 (some .boolean)])
def wsX5_isLine : List Cond := .code yX5_isLine cX5_isLine 1 (some .boolean) :: ([.methodLink RX5 47 yX5_in, .static yX5_in, .initialized RX5, .code yX5_in cX5_in 3 (some .boolean)])
def wsX5_isCrew : List Cond := .code yX5_isCrew cX5_isCrew 1 (some .boolean) :: ([.methodLink RX5 47 yX5_in, .static yX5_in, .initialized RX5, .code yX5_in cX5_in 3 (some .boolean)])
def wsX5_of : List Cond := .code yX5_of cX5_of 3 (some .int) :: ([.fieldLink RX5 7 "StormFellingModel" "z" "[I"] ++ wsX50)
def wsX5_copyState : List Cond := .code yX5_copyState cX5_copyState 5 none :: ([])
def wsX5_recordRow : List Cond := .code yX5_recordRow cX5_recordRow 3 none :: ([.fieldLink RX5 51 "StormFellingModel" "states" "I", .fieldLink RX5 16 "StormFellingModel" "past" "[I", .methodLink RX5 55 yX5_copyState, .static yX5_copyState, .initialized RX5, .code yX5_copyState cX5_copyState 5 none] ++ wsX50)
def wsX5_record : List Cond := .code yX5_record cX5_record 1 none :: ([.fieldLink RX5 7 "StormFellingModel" "z" "[I", .methodLink RX5 59 yX5_recordRow, .instanceMethod yX5_recordRow, .selects RX5 yX5_recordRow yX5_recordRow, .initialized RX5, .code yX5_recordRow cX5_recordRow 3 none, .fieldLink RX5 51 "StormFellingModel" "states" "I", .fieldLink RX5 16 "StormFellingModel" "past" "[I", .methodLink RX5 55 yX5_copyState, .static yX5_copyState, .code yX5_copyState cX5_copyState 5 none] ++ wsX50)
def wsX5_undo : List Cond := .code yX5_undo cX5_undo 1 (some .int) :: ([.fieldLink RX5 51 "StormFellingModel" "states" "I", .fieldLink RX5 16 "StormFellingModel" "past" "[I", .fieldLink RX5 7 "StormFellingModel" "z" "[I", .methodLink RX5 55 yX5_copyState, .static yX5_copyState, .initialized RX5, .code yX5_copyState cX5_copyState 5 none] ++ wsX50)
def wsX5_keep : List Cond := .code yX5_keep cX5_keep 1 (some .int) :: ([.fieldLink RX5 7 "StormFellingModel" "z" "[I", .fieldLink RX5 19 "StormFellingModel" "kept" "[I", .fieldLink RX5 63 "StormFellingModel" "isKept" "Z", .methodLink RX5 55 yX5_copyState, .static yX5_copyState, .initialized RX5, .code yX5_copyState cX5_copyState 5 none] ++ wsX50)
def wsX5_restore : List Cond := .code yX5_restore cX5_restore 1 (some .int) :: ([.fieldLink RX5 63 "StormFellingModel" "isKept" "Z", .fieldLink RX5 19 "StormFellingModel" "kept" "[I", .fieldLink RX5 7 "StormFellingModel" "z" "[I", .methodLink RX5 67 yX5_record, .instanceMethod yX5_record, .selects RX5 yX5_record yX5_record, .initialized RX5, .code yX5_record cX5_record 1 none, .methodLink RX5 59 yX5_recordRow, .instanceMethod yX5_recordRow, .selects RX5 yX5_recordRow yX5_recordRow, .code yX5_recordRow cX5_recordRow 3 none, .fieldLink RX5 51 "StormFellingModel" "states" "I", .fieldLink RX5 16 "StormFellingModel" "past" "[I", .methodLink RX5 55 yX5_copyState, .static yX5_copyState, .code yX5_copyState cX5_copyState 5 none] ++ wsX50)
def wsX5_isOpen : List Cond := .code yX5_isOpen cX5_isOpen 3 (some .boolean) :: ([.fieldLink RX5 7 "StormFellingModel" "z" "[I"] ++ wsX50)
def wsX5_beside : List Cond := .code yX5_beside cX5_beside 3 (some .int) :: ([])
def wsX5_countPaths : List Cond := .code yX5_countPaths cX5_countPaths 2 none :: ([.fieldLink RX5 25 "StormFellingModel" "down" "[I", .fieldLink RX5 28 "StormFellingModel" "up" "[I", .methodLink RX5 70 yX5_isOpen, .instanceMethod yX5_isOpen, .selects RX5 yX5_isOpen yX5_isOpen, .initialized RX5, .code yX5_isOpen cX5_isOpen 3 (some .boolean), .fieldLink RX5 7 "StormFellingModel" "z" "[I", .methodLink RX5 74 yX5_beside, .static yX5_beside, .code yX5_beside cX5_beside 3 (some .int)] ++ wsX50)
def wsX5_allPaths : List Cond := .code yX5_allPaths cX5_allPaths 3 (some .int) :: ([.fieldLink RX5 28 "StormFellingModel" "up" "[I"] ++ wsX50)
def wsX5_paths : List Cond := .code yX5_paths cX5_paths 1 (some .int) :: ([.methodLink RX5 78 yX5_countPaths, .instanceMethod yX5_countPaths, .selects RX5 yX5_countPaths yX5_countPaths, .initialized RX5, .code yX5_countPaths cX5_countPaths 2 none, .fieldLink RX5 25 "StormFellingModel" "down" "[I", .fieldLink RX5 28 "StormFellingModel" "up" "[I", .methodLink RX5 70 yX5_isOpen, .instanceMethod yX5_isOpen, .selects RX5 yX5_isOpen yX5_isOpen, .code yX5_isOpen cX5_isOpen 3 (some .boolean), .fieldLink RX5 7 "StormFellingModel" "z" "[I", .methodLink RX5 74 yX5_beside, .static yX5_beside, .code yX5_beside cX5_beside 3 (some .int), .methodLink RX5 81 yX5_allPaths, .instanceMethod yX5_allPaths, .selects RX5 yX5_allPaths yX5_allPaths, .code yX5_allPaths cX5_allPaths 3 (some .int)] ++ wsX50)
def wsX5_hits : List Cond := .code yX5_hits cX5_hits 5 (some .int) :: ([.fieldLink RX5 7 "StormFellingModel" "z" "[I", .fieldLink RX5 25 "StormFellingModel" "down" "[I", .fieldLink RX5 28 "StormFellingModel" "up" "[I", .methodLink RX5 47 yX5_in, .static yX5_in, .initialized RX5, .code yX5_in cX5_in 3 (some .boolean)] ++ wsX50)
def wsX5_standsToLose : List Cond := .code yX5_standsToLose cX5_standsToLose 2 (some .int) :: ([.fieldLink RX5 7 "StormFellingModel" "z" "[I", .methodLink RX5 85 yX5_hits, .instanceMethod yX5_hits, .selects RX5 yX5_hits yX5_hits, .initialized RX5, .code yX5_hits cX5_hits 5 (some .int), .fieldLink RX5 25 "StormFellingModel" "down" "[I", .fieldLink RX5 28 "StormFellingModel" "up" "[I", .methodLink RX5 47 yX5_in, .static yX5_in, .code yX5_in cX5_in 3 (some .boolean), .methodLink RX5 81 yX5_allPaths, .instanceMethod yX5_allPaths, .selects RX5 yX5_allPaths yX5_allPaths, .code yX5_allPaths cX5_allPaths 3 (some .int)] ++ wsX50)
def wsX5_enters : List Cond := .code yX5_enters cX5_enters 2 (some .int) :: ([.fieldLink RX5 7 "StormFellingModel" "z" "[I"] ++ wsX50)
def wsX5_nearer : List Cond := .code yX5_nearer cX5_nearer 5 (some .boolean) :: ([.fieldLink RX5 31 "StormFellingModel" "far" "[I", .methodLink RX5 89 yX5_enters, .instanceMethod yX5_enters, .selects RX5 yX5_enters yX5_enters, .initialized RX5, .code yX5_enters cX5_enters 2 (some .int), .fieldLink RX5 7 "StormFellingModel" "z" "[I"] ++ wsX50)
def wsX5_getsNearer : List Cond := .code yX5_getsNearer cX5_getsNearer 6 (some .boolean) :: ([.methodLink RX5 92 yX5_nearer, .instanceMethod yX5_nearer, .selects RX5 yX5_nearer yX5_nearer, .initialized RX5, .code yX5_nearer cX5_nearer 5 (some .boolean), .fieldLink RX5 31 "StormFellingModel" "far" "[I", .methodLink RX5 89 yX5_enters, .instanceMethod yX5_enters, .selects RX5 yX5_enters yX5_enters, .code yX5_enters cX5_enters 2 (some .int), .fieldLink RX5 7 "StormFellingModel" "z" "[I"] ++ wsX50)
def wsX5_measure : List Cond := .code yX5_measure cX5_measure 4 none :: ([.fieldLink RX5 31 "StormFellingModel" "far" "[I", .constant RX5 96 (100000), .methodLink RX5 97 yX5_getsNearer, .instanceMethod yX5_getsNearer, .selects RX5 yX5_getsNearer yX5_getsNearer, .initialized RX5, .code yX5_getsNearer cX5_getsNearer 6 (some .boolean), .methodLink RX5 92 yX5_nearer, .instanceMethod yX5_nearer, .selects RX5 yX5_nearer yX5_nearer, .code yX5_nearer cX5_nearer 5 (some .boolean), .methodLink RX5 89 yX5_enters, .instanceMethod yX5_enters, .selects RX5 yX5_enters yX5_enters, .code yX5_enters cX5_enters 2 (some .int), .fieldLink RX5 7 "StormFellingModel" "z" "[I"] ++ wsX50)
def wsX5_whyNotGrow : List Cond := .code yX5_whyNotGrow cX5_whyNotGrow 3 (some .int) :: ([.methodLink RX5 100 yX5_isPlot, .static yX5_isPlot, .initialized RX5, .code yX5_isPlot cX5_isPlot 1 (some .boolean), .methodLink RX5 47 yX5_in, .static yX5_in, .code yX5_in cX5_in 3 (some .boolean)])
def wsX5_grow_r1 : List Cond := [Cond.fieldLink RX5 7 "StormFellingModel" "z" "[I", Cond.methodLink RX5 103 yX5_whyNotGrow, Cond.instanceMethod yX5_whyNotGrow, Cond.selects RX5 yX5_whyNotGrow yX5_whyNotGrow, Cond.initialized RX5, Cond.code yX5_whyNotGrow cX5_whyNotGrow 3 (some .int), Cond.methodLink RX5 100 yX5_isPlot, Cond.static yX5_isPlot, Cond.code yX5_isPlot cX5_isPlot 1 (some .boolean), Cond.methodLink RX5 47 yX5_in, Cond.static yX5_in, Cond.code yX5_in cX5_in 3 (some .boolean), Cond.methodLink RX5 67 yX5_record, Cond.instanceMethod yX5_record, Cond.selects RX5 yX5_record yX5_record, Cond.code yX5_record cX5_record 1 none, Cond.methodLink RX5 59 yX5_recordRow, Cond.instanceMethod yX5_recordRow, Cond.selects RX5 yX5_recordRow yX5_recordRow, Cond.code yX5_recordRow cX5_recordRow 3 none, Cond.fieldLink RX5 51 "StormFellingModel" "states" "I", Cond.fieldLink RX5 16 "StormFellingModel" "past" "[I", Cond.methodLink RX5 55 yX5_copyState, Cond.static yX5_copyState]
def wsX5_grow_r2 : List Cond := [Cond.code yX5_copyState cX5_copyState 5 none]
def wsX5_grow : List Cond := .code yX5_grow cX5_grow 5 (some .int) :: ((wsX5_grow_r1 ++ wsX5_grow_r2) ++ wsX50)
def wsX5_rainNow : List Cond := .code yX5_rainNow cX5_rainNow 5 (some .int) :: ([.fieldLink RX5 7 "StormFellingModel" "z" "[I"] ++ wsX50)
def wsX5_rain : List Cond := .code yX5_rain cX5_rain 2 (some .int) :: ([.methodLink RX5 47 yX5_in, .static yX5_in, .initialized RX5, .code yX5_in cX5_in 3 (some .boolean), .methodLink RX5 67 yX5_record, .instanceMethod yX5_record, .selects RX5 yX5_record yX5_record, .code yX5_record cX5_record 1 none, .fieldLink RX5 7 "StormFellingModel" "z" "[I", .methodLink RX5 59 yX5_recordRow, .instanceMethod yX5_recordRow, .selects RX5 yX5_recordRow yX5_recordRow, .code yX5_recordRow cX5_recordRow 3 none, .fieldLink RX5 51 "StormFellingModel" "states" "I", .fieldLink RX5 16 "StormFellingModel" "past" "[I", .methodLink RX5 55 yX5_copyState, .static yX5_copyState, .code yX5_copyState cX5_copyState 5 none, .methodLink RX5 107 yX5_rainNow, .instanceMethod yX5_rainNow, .selects RX5 yX5_rainNow yX5_rainNow, .code yX5_rainNow cX5_rainNow 5 (some .int)] ++ wsX50)
def wsX5_whyNotEnd : List Cond := .code yX5_whyNotEnd cX5_whyNotEnd 2 (some .int) :: ([.fieldLink RX5 7 "StormFellingModel" "z" "[I", .methodLink RX5 47 yX5_in, .static yX5_in, .initialized RX5, .code yX5_in cX5_in 3 (some .boolean)] ++ wsX50)
def wsX5_endNow : List Cond := .code yX5_endNow cX5_endNow 3 (some .int) :: ([.fieldLink RX5 7 "StormFellingModel" "z" "[I", .methodLink RX5 44 yX5_refresh, .instanceMethod yX5_refresh, .selects RX5 yX5_refresh yX5_refresh, .initialized RX5, .code yX5_refresh cX5_refresh 2 none, .methodLink RX5 40 yX5_lay, .instanceMethod yX5_lay, .selects RX5 yX5_lay yX5_lay, .code yX5_lay cX5_lay 4 none] ++ wsX50)
def wsX5_endDays_r1 : List Cond := [Cond.methodLink RX5 110 yX5_whyNotEnd, Cond.instanceMethod yX5_whyNotEnd, Cond.selects RX5 yX5_whyNotEnd yX5_whyNotEnd, Cond.initialized RX5, Cond.code yX5_whyNotEnd cX5_whyNotEnd 2 (some .int), Cond.fieldLink RX5 7 "StormFellingModel" "z" "[I", Cond.methodLink RX5 47 yX5_in, Cond.static yX5_in, Cond.code yX5_in cX5_in 3 (some .boolean), Cond.methodLink RX5 67 yX5_record, Cond.instanceMethod yX5_record, Cond.selects RX5 yX5_record yX5_record, Cond.code yX5_record cX5_record 1 none, Cond.methodLink RX5 59 yX5_recordRow, Cond.instanceMethod yX5_recordRow, Cond.selects RX5 yX5_recordRow yX5_recordRow, Cond.code yX5_recordRow cX5_recordRow 3 none, Cond.fieldLink RX5 51 "StormFellingModel" "states" "I", Cond.fieldLink RX5 16 "StormFellingModel" "past" "[I", Cond.methodLink RX5 55 yX5_copyState, Cond.static yX5_copyState, Cond.code yX5_copyState cX5_copyState 5 none, Cond.methodLink RX5 113 yX5_endNow, Cond.instanceMethod yX5_endNow]
def wsX5_endDays_r2 : List Cond := [Cond.selects RX5 yX5_endNow yX5_endNow, Cond.code yX5_endNow cX5_endNow 3 (some .int), Cond.methodLink RX5 44 yX5_refresh, Cond.instanceMethod yX5_refresh, Cond.selects RX5 yX5_refresh yX5_refresh, Cond.code yX5_refresh cX5_refresh 2 none, Cond.methodLink RX5 40 yX5_lay, Cond.instanceMethod yX5_lay, Cond.selects RX5 yX5_lay yX5_lay, Cond.code yX5_lay cX5_lay 4 none]
def wsX5_endDays : List Cond := .code yX5_endDays cX5_endDays 3 (some .int) :: ((wsX5_endDays_r1 ++ wsX5_endDays_r2) ++ wsX50)
def wsX5_set : List Cond := .code yX5_set cX5_set 4 (some .int) :: ([.fieldLink RX5 7 "StormFellingModel" "z" "[I", .methodLink RX5 47 yX5_in, .static yX5_in, .initialized RX5, .code yX5_in cX5_in 3 (some .boolean), .methodLink RX5 67 yX5_record, .instanceMethod yX5_record, .selects RX5 yX5_record yX5_record, .code yX5_record cX5_record 1 none, .methodLink RX5 59 yX5_recordRow, .instanceMethod yX5_recordRow, .selects RX5 yX5_recordRow yX5_recordRow, .code yX5_recordRow cX5_recordRow 3 none, .fieldLink RX5 51 "StormFellingModel" "states" "I", .fieldLink RX5 16 "StormFellingModel" "past" "[I", .methodLink RX5 55 yX5_copyState, .static yX5_copyState, .code yX5_copyState cX5_copyState 5 none] ++ wsX50)
def wsX5_wayOf : List Cond := .code yX5_wayOf cX5_wayOf 3 (some .int) :: ([.fieldLink RX5 31 "StormFellingModel" "far" "[I", .methodLink RX5 116 yX5_of, .instanceMethod yX5_of, .selects RX5 yX5_of yX5_of, .initialized RX5, .code yX5_of cX5_of 3 (some .int), .fieldLink RX5 7 "StormFellingModel" "z" "[I", .methodLink RX5 119 yX5_measure, .instanceMethod yX5_measure, .selects RX5 yX5_measure yX5_measure, .code yX5_measure cX5_measure 4 none, .constant RX5 96 (100000), .methodLink RX5 97 yX5_getsNearer, .instanceMethod yX5_getsNearer, .selects RX5 yX5_getsNearer yX5_getsNearer, .code yX5_getsNearer cX5_getsNearer 6 (some .boolean), .methodLink RX5 92 yX5_nearer, .instanceMethod yX5_nearer, .selects RX5 yX5_nearer yX5_nearer, .code yX5_nearer cX5_nearer 5 (some .boolean), .methodLink RX5 89 yX5_enters, .instanceMethod yX5_enters, .selects RX5 yX5_enters yX5_enters, .code yX5_enters cX5_enters 2 (some .int)] ++ wsX50)
def wsX5_whyNotGo_r1 : List Cond := [Cond.methodLink RX5 123 yX5_isCrew, Cond.static yX5_isCrew, Cond.initialized RX5, Cond.code yX5_isCrew cX5_isCrew 1 (some .boolean), Cond.methodLink RX5 47 yX5_in, Cond.static yX5_in, Cond.code yX5_in cX5_in 3 (some .boolean), Cond.methodLink RX5 100 yX5_isPlot, Cond.static yX5_isPlot, Cond.code yX5_isPlot cX5_isPlot 1 (some .boolean), Cond.methodLink RX5 126 yX5_wayOf, Cond.instanceMethod yX5_wayOf, Cond.selects RX5 yX5_wayOf yX5_wayOf, Cond.code yX5_wayOf cX5_wayOf 3 (some .int), Cond.fieldLink RX5 31 "StormFellingModel" "far" "[I", Cond.methodLink RX5 116 yX5_of, Cond.instanceMethod yX5_of, Cond.selects RX5 yX5_of yX5_of, Cond.code yX5_of cX5_of 3 (some .int), Cond.fieldLink RX5 7 "StormFellingModel" "z" "[I", Cond.methodLink RX5 119 yX5_measure, Cond.instanceMethod yX5_measure, Cond.selects RX5 yX5_measure yX5_measure, Cond.code yX5_measure cX5_measure 4 none]
def wsX5_whyNotGo_r2 : List Cond := [Cond.constant RX5 96 (100000), Cond.methodLink RX5 97 yX5_getsNearer, Cond.instanceMethod yX5_getsNearer, Cond.selects RX5 yX5_getsNearer yX5_getsNearer, Cond.code yX5_getsNearer cX5_getsNearer 6 (some .boolean), Cond.methodLink RX5 92 yX5_nearer, Cond.instanceMethod yX5_nearer, Cond.selects RX5 yX5_nearer yX5_nearer, Cond.code yX5_nearer cX5_nearer 5 (some .boolean), Cond.methodLink RX5 89 yX5_enters, Cond.instanceMethod yX5_enters, Cond.selects RX5 yX5_enters yX5_enters, Cond.code yX5_enters cX5_enters 2 (some .int)]
def wsX5_whyNotGo : List Cond := .code yX5_whyNotGo cX5_whyNotGo 3 (some .int) :: ((wsX5_whyNotGo_r1 ++ wsX5_whyNotGo_r2) ++ wsX50)
def wsX5_goNow_r1 : List Cond := [Cond.methodLink RX5 116 yX5_of, Cond.instanceMethod yX5_of, Cond.selects RX5 yX5_of yX5_of, Cond.initialized RX5, Cond.code yX5_of cX5_of 3 (some .int), Cond.fieldLink RX5 7 "StormFellingModel" "z" "[I", Cond.methodLink RX5 126 yX5_wayOf, Cond.instanceMethod yX5_wayOf, Cond.selects RX5 yX5_wayOf yX5_wayOf, Cond.code yX5_wayOf cX5_wayOf 3 (some .int), Cond.fieldLink RX5 31 "StormFellingModel" "far" "[I", Cond.methodLink RX5 119 yX5_measure, Cond.instanceMethod yX5_measure, Cond.selects RX5 yX5_measure yX5_measure, Cond.code yX5_measure cX5_measure 4 none, Cond.constant RX5 96 (100000), Cond.methodLink RX5 97 yX5_getsNearer, Cond.instanceMethod yX5_getsNearer, Cond.selects RX5 yX5_getsNearer yX5_getsNearer, Cond.code yX5_getsNearer cX5_getsNearer 6 (some .boolean), Cond.methodLink RX5 92 yX5_nearer, Cond.instanceMethod yX5_nearer, Cond.selects RX5 yX5_nearer yX5_nearer, Cond.code yX5_nearer cX5_nearer 5 (some .boolean)]
def wsX5_goNow_r2 : List Cond := [Cond.methodLink RX5 89 yX5_enters, Cond.instanceMethod yX5_enters, Cond.selects RX5 yX5_enters yX5_enters, Cond.code yX5_enters cX5_enters 2 (some .int), Cond.methodLink RX5 40 yX5_lay, Cond.instanceMethod yX5_lay, Cond.selects RX5 yX5_lay yX5_lay, Cond.code yX5_lay cX5_lay 4 none]
def wsX5_goNow : List Cond := .code yX5_goNow cX5_goNow 3 none :: ((wsX5_goNow_r1 ++ wsX5_goNow_r2) ++ wsX50)
def wsX5_go_r1 : List Cond := [Cond.methodLink RX5 129 yX5_whyNotGo, Cond.instanceMethod yX5_whyNotGo, Cond.selects RX5 yX5_whyNotGo yX5_whyNotGo, Cond.initialized RX5, Cond.code yX5_whyNotGo cX5_whyNotGo 3 (some .int), Cond.methodLink RX5 123 yX5_isCrew, Cond.static yX5_isCrew, Cond.code yX5_isCrew cX5_isCrew 1 (some .boolean), Cond.methodLink RX5 47 yX5_in, Cond.static yX5_in, Cond.code yX5_in cX5_in 3 (some .boolean), Cond.methodLink RX5 100 yX5_isPlot, Cond.static yX5_isPlot, Cond.code yX5_isPlot cX5_isPlot 1 (some .boolean), Cond.methodLink RX5 126 yX5_wayOf, Cond.instanceMethod yX5_wayOf, Cond.selects RX5 yX5_wayOf yX5_wayOf, Cond.code yX5_wayOf cX5_wayOf 3 (some .int), Cond.fieldLink RX5 31 "StormFellingModel" "far" "[I", Cond.methodLink RX5 116 yX5_of, Cond.instanceMethod yX5_of, Cond.selects RX5 yX5_of yX5_of, Cond.code yX5_of cX5_of 3 (some .int), Cond.fieldLink RX5 7 "StormFellingModel" "z" "[I"]
def wsX5_go_r2 : List Cond := [Cond.methodLink RX5 119 yX5_measure, Cond.instanceMethod yX5_measure, Cond.selects RX5 yX5_measure yX5_measure, Cond.code yX5_measure cX5_measure 4 none, Cond.constant RX5 96 (100000), Cond.methodLink RX5 97 yX5_getsNearer, Cond.instanceMethod yX5_getsNearer, Cond.selects RX5 yX5_getsNearer yX5_getsNearer, Cond.code yX5_getsNearer cX5_getsNearer 6 (some .boolean), Cond.methodLink RX5 92 yX5_nearer, Cond.instanceMethod yX5_nearer, Cond.selects RX5 yX5_nearer yX5_nearer, Cond.code yX5_nearer cX5_nearer 5 (some .boolean), Cond.methodLink RX5 89 yX5_enters, Cond.instanceMethod yX5_enters, Cond.selects RX5 yX5_enters yX5_enters, Cond.code yX5_enters cX5_enters 2 (some .int), Cond.methodLink RX5 67 yX5_record, Cond.instanceMethod yX5_record, Cond.selects RX5 yX5_record yX5_record, Cond.code yX5_record cX5_record 1 none, Cond.methodLink RX5 59 yX5_recordRow, Cond.instanceMethod yX5_recordRow, Cond.selects RX5 yX5_recordRow yX5_recordRow]
def wsX5_go_r3 : List Cond := [Cond.code yX5_recordRow cX5_recordRow 3 none, Cond.fieldLink RX5 51 "StormFellingModel" "states" "I", Cond.fieldLink RX5 16 "StormFellingModel" "past" "[I", Cond.methodLink RX5 55 yX5_copyState, Cond.static yX5_copyState, Cond.code yX5_copyState cX5_copyState 5 none, Cond.methodLink RX5 132 yX5_goNow, Cond.instanceMethod yX5_goNow, Cond.selects RX5 yX5_goNow yX5_goNow, Cond.code yX5_goNow cX5_goNow 3 none, Cond.methodLink RX5 40 yX5_lay, Cond.instanceMethod yX5_lay, Cond.selects RX5 yX5_lay yX5_lay, Cond.code yX5_lay cX5_lay 4 none]
def wsX5_go : List Cond := .code yX5_go cX5_go 4 (some .int) :: ((wsX5_go_r1 ++ (wsX5_go_r2 ++ wsX5_go_r3)) ++ wsX50)
def wsX5_whyNotFell : List Cond := .code yX5_whyNotFell cX5_whyNotFell 2 (some .int) :: ([.fieldLink RX5 7 "StormFellingModel" "z" "[I", .methodLink RX5 123 yX5_isCrew, .static yX5_isCrew, .initialized RX5, .code yX5_isCrew cX5_isCrew 1 (some .boolean), .methodLink RX5 47 yX5_in, .static yX5_in, .code yX5_in cX5_in 3 (some .boolean), .methodLink RX5 116 yX5_of, .instanceMethod yX5_of, .selects RX5 yX5_of yX5_of, .code yX5_of cX5_of 3 (some .int)] ++ wsX50)
def wsX5_fellNow : List Cond := .code yX5_fellNow cX5_fellNow 4 (some .int) :: ([.fieldLink RX5 7 "StormFellingModel" "z" "[I", .methodLink RX5 116 yX5_of, .instanceMethod yX5_of, .selects RX5 yX5_of yX5_of, .initialized RX5, .code yX5_of cX5_of 3 (some .int), .methodLink RX5 40 yX5_lay, .instanceMethod yX5_lay, .selects RX5 yX5_lay yX5_lay, .code yX5_lay cX5_lay 4 none] ++ wsX50)
def wsX5_fell_r1 : List Cond := [Cond.fieldLink RX5 7 "StormFellingModel" "z" "[I", Cond.methodLink RX5 136 yX5_whyNotFell, Cond.instanceMethod yX5_whyNotFell, Cond.selects RX5 yX5_whyNotFell yX5_whyNotFell, Cond.initialized RX5, Cond.code yX5_whyNotFell cX5_whyNotFell 2 (some .int), Cond.methodLink RX5 123 yX5_isCrew, Cond.static yX5_isCrew, Cond.code yX5_isCrew cX5_isCrew 1 (some .boolean), Cond.methodLink RX5 47 yX5_in, Cond.static yX5_in, Cond.code yX5_in cX5_in 3 (some .boolean), Cond.methodLink RX5 116 yX5_of, Cond.instanceMethod yX5_of, Cond.selects RX5 yX5_of yX5_of, Cond.code yX5_of cX5_of 3 (some .int), Cond.methodLink RX5 67 yX5_record, Cond.instanceMethod yX5_record, Cond.selects RX5 yX5_record yX5_record, Cond.code yX5_record cX5_record 1 none, Cond.methodLink RX5 59 yX5_recordRow, Cond.instanceMethod yX5_recordRow, Cond.selects RX5 yX5_recordRow yX5_recordRow, Cond.code yX5_recordRow cX5_recordRow 3 none]
def wsX5_fell_r2 : List Cond := [Cond.fieldLink RX5 51 "StormFellingModel" "states" "I", Cond.fieldLink RX5 16 "StormFellingModel" "past" "[I", Cond.methodLink RX5 55 yX5_copyState, Cond.static yX5_copyState, Cond.code yX5_copyState cX5_copyState 5 none, Cond.methodLink RX5 139 yX5_fellNow, Cond.instanceMethod yX5_fellNow, Cond.selects RX5 yX5_fellNow yX5_fellNow, Cond.code yX5_fellNow cX5_fellNow 4 (some .int), Cond.methodLink RX5 40 yX5_lay, Cond.instanceMethod yX5_lay, Cond.selects RX5 yX5_lay yX5_lay, Cond.code yX5_lay cX5_lay 4 none]
def wsX5_fell : List Cond := .code yX5_fell cX5_fell 3 (some .int) :: ((wsX5_fell_r1 ++ wsX5_fell_r2) ++ wsX50)
def wsX5_pathsAt : List Cond := .code yX5_pathsAt cX5_pathsAt 3 (some .int) :: ([.fieldLink RX5 25 "StormFellingModel" "down" "[I", .fieldLink RX5 28 "StormFellingModel" "up" "[I", .methodLink RX5 78 yX5_countPaths, .instanceMethod yX5_countPaths, .selects RX5 yX5_countPaths yX5_countPaths, .initialized RX5, .code yX5_countPaths cX5_countPaths 2 none, .methodLink RX5 70 yX5_isOpen, .instanceMethod yX5_isOpen, .selects RX5 yX5_isOpen yX5_isOpen, .code yX5_isOpen cX5_isOpen 3 (some .boolean), .fieldLink RX5 7 "StormFellingModel" "z" "[I", .methodLink RX5 74 yX5_beside, .static yX5_beside, .code yX5_beside cX5_beside 3 (some .int)] ++ wsX50)
def wsX5_whyNotHint_r1 : List Cond := [Cond.fieldLink RX5 7 "StormFellingModel" "z" "[I", Cond.methodLink RX5 142 yX5_isLine, Cond.static yX5_isLine, Cond.initialized RX5, Cond.code yX5_isLine cX5_isLine 1 (some .boolean), Cond.methodLink RX5 47 yX5_in, Cond.static yX5_in, Cond.code yX5_in cX5_in 3 (some .boolean), Cond.methodLink RX5 145 yX5_pathsAt, Cond.instanceMethod yX5_pathsAt, Cond.selects RX5 yX5_pathsAt yX5_pathsAt, Cond.code yX5_pathsAt cX5_pathsAt 3 (some .int), Cond.fieldLink RX5 25 "StormFellingModel" "down" "[I", Cond.fieldLink RX5 28 "StormFellingModel" "up" "[I", Cond.methodLink RX5 78 yX5_countPaths, Cond.instanceMethod yX5_countPaths, Cond.selects RX5 yX5_countPaths yX5_countPaths, Cond.code yX5_countPaths cX5_countPaths 2 none, Cond.methodLink RX5 70 yX5_isOpen, Cond.instanceMethod yX5_isOpen, Cond.selects RX5 yX5_isOpen yX5_isOpen, Cond.code yX5_isOpen cX5_isOpen 3 (some .boolean), Cond.methodLink RX5 74 yX5_beside, Cond.static yX5_beside]
def wsX5_whyNotHint_r2 : List Cond := [Cond.code yX5_beside cX5_beside 3 (some .int)]
def wsX5_whyNotHint : List Cond := .code yX5_whyNotHint cX5_whyNotHint 3 (some .int) :: ((wsX5_whyNotHint_r1 ++ wsX5_whyNotHint_r2) ++ wsX50)
def wsX5_hint_r1 : List Cond := [Cond.fieldLink RX5 7 "StormFellingModel" "z" "[I", Cond.methodLink RX5 148 yX5_whyNotHint, Cond.instanceMethod yX5_whyNotHint, Cond.selects RX5 yX5_whyNotHint yX5_whyNotHint, Cond.initialized RX5, Cond.code yX5_whyNotHint cX5_whyNotHint 3 (some .int), Cond.methodLink RX5 142 yX5_isLine, Cond.static yX5_isLine, Cond.code yX5_isLine cX5_isLine 1 (some .boolean), Cond.methodLink RX5 47 yX5_in, Cond.static yX5_in, Cond.code yX5_in cX5_in 3 (some .boolean), Cond.methodLink RX5 145 yX5_pathsAt, Cond.instanceMethod yX5_pathsAt, Cond.selects RX5 yX5_pathsAt yX5_pathsAt, Cond.code yX5_pathsAt cX5_pathsAt 3 (some .int), Cond.fieldLink RX5 25 "StormFellingModel" "down" "[I", Cond.fieldLink RX5 28 "StormFellingModel" "up" "[I", Cond.methodLink RX5 78 yX5_countPaths, Cond.instanceMethod yX5_countPaths, Cond.selects RX5 yX5_countPaths yX5_countPaths, Cond.code yX5_countPaths cX5_countPaths 2 none, Cond.methodLink RX5 70 yX5_isOpen, Cond.instanceMethod yX5_isOpen]
def wsX5_hint_r2 : List Cond := [Cond.selects RX5 yX5_isOpen yX5_isOpen, Cond.code yX5_isOpen cX5_isOpen 3 (some .boolean), Cond.methodLink RX5 74 yX5_beside, Cond.static yX5_beside, Cond.code yX5_beside cX5_beside 3 (some .int), Cond.methodLink RX5 67 yX5_record, Cond.instanceMethod yX5_record, Cond.selects RX5 yX5_record yX5_record, Cond.code yX5_record cX5_record 1 none, Cond.methodLink RX5 59 yX5_recordRow, Cond.instanceMethod yX5_recordRow, Cond.selects RX5 yX5_recordRow yX5_recordRow, Cond.code yX5_recordRow cX5_recordRow 3 none, Cond.fieldLink RX5 51 "StormFellingModel" "states" "I", Cond.fieldLink RX5 16 "StormFellingModel" "past" "[I", Cond.methodLink RX5 55 yX5_copyState, Cond.static yX5_copyState, Cond.code yX5_copyState cX5_copyState 5 none, Cond.methodLink RX5 151 yX5_paths, Cond.instanceMethod yX5_paths, Cond.selects RX5 yX5_paths yX5_paths, Cond.code yX5_paths cX5_paths 1 (some .int), Cond.methodLink RX5 81 yX5_allPaths, Cond.instanceMethod yX5_allPaths]
def wsX5_hint_r3 : List Cond := [Cond.selects RX5 yX5_allPaths yX5_allPaths, Cond.code yX5_allPaths cX5_allPaths 3 (some .int)]
def wsX5_hint : List Cond := .code yX5_hint cX5_hint 4 (some .int) :: ((wsX5_hint_r1 ++ (wsX5_hint_r2 ++ wsX5_hint_r3)) ++ wsX50)
def wsX5_takeBack_r1 : List Cond := [Cond.fieldLink RX5 7 "StormFellingModel" "z" "[I", Cond.methodLink RX5 142 yX5_isLine, Cond.static yX5_isLine, Cond.initialized RX5, Cond.code yX5_isLine cX5_isLine 1 (some .boolean), Cond.methodLink RX5 47 yX5_in, Cond.static yX5_in, Cond.code yX5_in cX5_in 3 (some .boolean), Cond.methodLink RX5 67 yX5_record, Cond.instanceMethod yX5_record, Cond.selects RX5 yX5_record yX5_record, Cond.code yX5_record cX5_record 1 none, Cond.methodLink RX5 59 yX5_recordRow, Cond.instanceMethod yX5_recordRow, Cond.selects RX5 yX5_recordRow yX5_recordRow, Cond.code yX5_recordRow cX5_recordRow 3 none, Cond.fieldLink RX5 51 "StormFellingModel" "states" "I", Cond.fieldLink RX5 16 "StormFellingModel" "past" "[I", Cond.methodLink RX5 55 yX5_copyState, Cond.static yX5_copyState, Cond.code yX5_copyState cX5_copyState 5 none, Cond.methodLink RX5 151 yX5_paths, Cond.instanceMethod yX5_paths, Cond.selects RX5 yX5_paths yX5_paths]
def wsX5_takeBack_r2 : List Cond := [Cond.code yX5_paths cX5_paths 1 (some .int), Cond.methodLink RX5 78 yX5_countPaths, Cond.instanceMethod yX5_countPaths, Cond.selects RX5 yX5_countPaths yX5_countPaths, Cond.code yX5_countPaths cX5_countPaths 2 none, Cond.fieldLink RX5 25 "StormFellingModel" "down" "[I", Cond.fieldLink RX5 28 "StormFellingModel" "up" "[I", Cond.methodLink RX5 70 yX5_isOpen, Cond.instanceMethod yX5_isOpen, Cond.selects RX5 yX5_isOpen yX5_isOpen, Cond.code yX5_isOpen cX5_isOpen 3 (some .boolean), Cond.methodLink RX5 74 yX5_beside, Cond.static yX5_beside, Cond.code yX5_beside cX5_beside 3 (some .int), Cond.methodLink RX5 81 yX5_allPaths, Cond.instanceMethod yX5_allPaths, Cond.selects RX5 yX5_allPaths yX5_allPaths, Cond.code yX5_allPaths cX5_allPaths 3 (some .int)]
def wsX5_takeBack : List Cond := .code yX5_takeBack cX5_takeBack 2 (some .int) :: ((wsX5_takeBack_r1 ++ wsX5_takeBack_r2) ++ wsX50)
def wsX5_greatest : List Cond := .code yX5_greatest cX5_greatest 6 (some .int) :: ([.fieldLink RX5 34 "StormFellingModel" "lostWorths" "[I"] ++ wsX50)
def wsX5_storm_r1 : List Cond := [Cond.fieldLink RX5 34 "StormFellingModel" "lostWorths" "[I", Cond.fieldLink RX5 7 "StormFellingModel" "z" "[I", Cond.methodLink RX5 151 yX5_paths, Cond.instanceMethod yX5_paths, Cond.selects RX5 yX5_paths yX5_paths, Cond.initialized RX5, Cond.code yX5_paths cX5_paths 1 (some .int), Cond.methodLink RX5 78 yX5_countPaths, Cond.instanceMethod yX5_countPaths, Cond.selects RX5 yX5_countPaths yX5_countPaths, Cond.code yX5_countPaths cX5_countPaths 2 none, Cond.fieldLink RX5 25 "StormFellingModel" "down" "[I", Cond.fieldLink RX5 28 "StormFellingModel" "up" "[I", Cond.methodLink RX5 70 yX5_isOpen, Cond.instanceMethod yX5_isOpen, Cond.selects RX5 yX5_isOpen yX5_isOpen, Cond.code yX5_isOpen cX5_isOpen 3 (some .boolean), Cond.methodLink RX5 74 yX5_beside, Cond.static yX5_beside, Cond.code yX5_beside cX5_beside 3 (some .int), Cond.methodLink RX5 81 yX5_allPaths, Cond.instanceMethod yX5_allPaths, Cond.selects RX5 yX5_allPaths yX5_allPaths, Cond.code yX5_allPaths cX5_allPaths 3 (some .int)]
def wsX5_storm_r2 : List Cond := [Cond.methodLink RX5 67 yX5_record, Cond.instanceMethod yX5_record, Cond.selects RX5 yX5_record yX5_record, Cond.code yX5_record cX5_record 1 none, Cond.methodLink RX5 59 yX5_recordRow, Cond.instanceMethod yX5_recordRow, Cond.selects RX5 yX5_recordRow yX5_recordRow, Cond.code yX5_recordRow cX5_recordRow 3 none, Cond.fieldLink RX5 51 "StormFellingModel" "states" "I", Cond.fieldLink RX5 16 "StormFellingModel" "past" "[I", Cond.methodLink RX5 55 yX5_copyState, Cond.static yX5_copyState, Cond.code yX5_copyState cX5_copyState 5 none, Cond.methodLink RX5 85 yX5_hits, Cond.instanceMethod yX5_hits, Cond.selects RX5 yX5_hits yX5_hits, Cond.code yX5_hits cX5_hits 5 (some .int), Cond.methodLink RX5 47 yX5_in, Cond.static yX5_in, Cond.code yX5_in cX5_in 3 (some .boolean), Cond.methodLink RX5 154 yX5_greatest, Cond.instanceMethod yX5_greatest, Cond.selects RX5 yX5_greatest yX5_greatest, Cond.code yX5_greatest cX5_greatest 6 (some .int)]
def wsX5_storm : List Cond := .code yX5_storm cX5_storm 5 (some .int) :: ((wsX5_storm_r1 ++ wsX5_storm_r2) ++ wsX50)
def wsX5_type : List Cond := .code yX5_type cX5_type 2 (some .int) :: ([.fieldLink RX5 157 "StormFellingModel" "length" "I", .fieldLink RX5 22 "StormFellingModel" "text" "[I"] ++ wsX50)
def wsX5_clearText : List Cond := .code yX5_clearText cX5_clearText 2 (some .int) :: ([.fieldLink RX5 157 "StormFellingModel" "length" "I"] ++ wsX50)
def wsX5_sees : List Cond := .code yX5_sees cX5_sees 3 (some .boolean) :: ([.fieldLink RX5 160 "StormFellingModel" "spot" "I", .fieldLink RX5 157 "StormFellingModel" "length" "I", .fieldLink RX5 22 "StormFellingModel" "text" "[I", .methodLink RX5 47 yX5_in, .static yX5_in, .initialized RX5, .code yX5_in cX5_in 3 (some .boolean)] ++ wsX50)
def wsX5_takes : List Cond := .code yX5_takes cX5_takes 3 (some .boolean) :: ([.fieldLink RX5 160 "StormFellingModel" "spot" "I", .methodLink RX5 163 yX5_sees, .instanceMethod yX5_sees, .selects RX5 yX5_sees yX5_sees, .initialized RX5, .code yX5_sees cX5_sees 3 (some .boolean), .fieldLink RX5 157 "StormFellingModel" "length" "I", .fieldLink RX5 22 "StormFellingModel" "text" "[I", .methodLink RX5 47 yX5_in, .static yX5_in, .code yX5_in cX5_in 3 (some .boolean)] ++ wsX50)
def wsX5_number : List Cond := .code yX5_number cX5_number 4 (some .int) :: ([.fieldLink RX5 22 "StormFellingModel" "text" "[I", .fieldLink RX5 160 "StormFellingModel" "spot" "I", .methodLink RX5 163 yX5_sees, .instanceMethod yX5_sees, .selects RX5 yX5_sees yX5_sees, .initialized RX5, .code yX5_sees cX5_sees 3 (some .boolean), .fieldLink RX5 157 "StormFellingModel" "length" "I", .methodLink RX5 47 yX5_in, .static yX5_in, .code yX5_in cX5_in 3 (some .boolean)] ++ wsX50)
def wsX5_second : List Cond := .code yX5_second cX5_second 4 (some .int) :: ([.methodLink RX5 166 yX5_takes, .instanceMethod yX5_takes, .selects RX5 yX5_takes yX5_takes, .initialized RX5, .code yX5_takes cX5_takes 3 (some .boolean), .fieldLink RX5 160 "StormFellingModel" "spot" "I", .methodLink RX5 163 yX5_sees, .instanceMethod yX5_sees, .selects RX5 yX5_sees yX5_sees, .code yX5_sees cX5_sees 3 (some .boolean), .fieldLink RX5 157 "StormFellingModel" "length" "I", .fieldLink RX5 22 "StormFellingModel" "text" "[I", .methodLink RX5 47 yX5_in, .static yX5_in, .code yX5_in cX5_in 3 (some .boolean), .methodLink RX5 169 yX5_number, .instanceMethod yX5_number, .selects RX5 yX5_number yX5_number, .code yX5_number cX5_number 4 (some .int)] ++ wsX50)
def wsX5_readThing_r1 : List Cond := [Cond.fieldLink RX5 160 "StormFellingModel" "spot" "I", Cond.fieldLink RX5 157 "StormFellingModel" "length" "I", Cond.fieldLink RX5 22 "StormFellingModel" "text" "[I", Cond.fieldLink RX5 37 "StormFellingModel" "told" "[I", Cond.fieldLink RX5 176 "StormFellingModel" "toldMany" "I", Cond.methodLink RX5 169 yX5_number, Cond.instanceMethod yX5_number, Cond.selects RX5 yX5_number yX5_number, Cond.initialized RX5, Cond.code yX5_number cX5_number 4 (some .int), Cond.methodLink RX5 163 yX5_sees, Cond.instanceMethod yX5_sees, Cond.selects RX5 yX5_sees yX5_sees, Cond.code yX5_sees cX5_sees 3 (some .boolean), Cond.methodLink RX5 47 yX5_in, Cond.static yX5_in, Cond.code yX5_in cX5_in 3 (some .boolean), Cond.methodLink RX5 172 yX5_second, Cond.instanceMethod yX5_second, Cond.selects RX5 yX5_second yX5_second, Cond.code yX5_second cX5_second 4 (some .int), Cond.methodLink RX5 166 yX5_takes, Cond.instanceMethod yX5_takes, Cond.selects RX5 yX5_takes yX5_takes]
def wsX5_readThing_r2 : List Cond := [Cond.code yX5_takes cX5_takes 3 (some .boolean)]
def wsX5_readThing : List Cond := .code yX5_readThing cX5_readThing 4 (some .boolean) :: ((wsX5_readThing_r1 ++ wsX5_readThing_r2) ++ wsX50)
def wsX5_readText_r1 : List Cond := [Cond.fieldLink RX5 160 "StormFellingModel" "spot" "I", Cond.fieldLink RX5 176 "StormFellingModel" "toldMany" "I", Cond.fieldLink RX5 157 "StormFellingModel" "length" "I", Cond.methodLink RX5 179 yX5_readThing, Cond.instanceMethod yX5_readThing, Cond.selects RX5 yX5_readThing yX5_readThing, Cond.initialized RX5, Cond.code yX5_readThing cX5_readThing 4 (some .boolean), Cond.fieldLink RX5 22 "StormFellingModel" "text" "[I", Cond.fieldLink RX5 37 "StormFellingModel" "told" "[I", Cond.methodLink RX5 169 yX5_number, Cond.instanceMethod yX5_number, Cond.selects RX5 yX5_number yX5_number, Cond.code yX5_number cX5_number 4 (some .int), Cond.methodLink RX5 163 yX5_sees, Cond.instanceMethod yX5_sees, Cond.selects RX5 yX5_sees yX5_sees, Cond.code yX5_sees cX5_sees 3 (some .boolean), Cond.methodLink RX5 47 yX5_in, Cond.static yX5_in, Cond.code yX5_in cX5_in 3 (some .boolean), Cond.methodLink RX5 172 yX5_second, Cond.instanceMethod yX5_second, Cond.selects RX5 yX5_second yX5_second]
def wsX5_readText_r2 : List Cond := [Cond.code yX5_second cX5_second 4 (some .int), Cond.methodLink RX5 166 yX5_takes, Cond.instanceMethod yX5_takes, Cond.selects RX5 yX5_takes yX5_takes, Cond.code yX5_takes cX5_takes 3 (some .boolean)]
def wsX5_readText : List Cond := .code yX5_readText cX5_readText 2 (some .boolean) :: ((wsX5_readText_r1 ++ wsX5_readText_r2) ++ wsX50)
def wsX5_whyNot_r1 : List Cond := [Cond.fieldLink RX5 37 "StormFellingModel" "told" "[I", Cond.methodLink RX5 148 yX5_whyNotHint, Cond.instanceMethod yX5_whyNotHint, Cond.selects RX5 yX5_whyNotHint yX5_whyNotHint, Cond.initialized RX5, Cond.code yX5_whyNotHint cX5_whyNotHint 3 (some .int), Cond.fieldLink RX5 7 "StormFellingModel" "z" "[I", Cond.methodLink RX5 142 yX5_isLine, Cond.static yX5_isLine, Cond.code yX5_isLine cX5_isLine 1 (some .boolean), Cond.methodLink RX5 47 yX5_in, Cond.static yX5_in, Cond.code yX5_in cX5_in 3 (some .boolean), Cond.methodLink RX5 145 yX5_pathsAt, Cond.instanceMethod yX5_pathsAt, Cond.selects RX5 yX5_pathsAt yX5_pathsAt, Cond.code yX5_pathsAt cX5_pathsAt 3 (some .int), Cond.fieldLink RX5 25 "StormFellingModel" "down" "[I", Cond.fieldLink RX5 28 "StormFellingModel" "up" "[I", Cond.methodLink RX5 78 yX5_countPaths, Cond.instanceMethod yX5_countPaths, Cond.selects RX5 yX5_countPaths yX5_countPaths, Cond.code yX5_countPaths cX5_countPaths 2 none, Cond.methodLink RX5 70 yX5_isOpen]
def wsX5_whyNot_r2 : List Cond := [Cond.instanceMethod yX5_isOpen, Cond.selects RX5 yX5_isOpen yX5_isOpen, Cond.code yX5_isOpen cX5_isOpen 3 (some .boolean), Cond.methodLink RX5 74 yX5_beside, Cond.static yX5_beside, Cond.code yX5_beside cX5_beside 3 (some .int), Cond.methodLink RX5 129 yX5_whyNotGo, Cond.instanceMethod yX5_whyNotGo, Cond.selects RX5 yX5_whyNotGo yX5_whyNotGo, Cond.code yX5_whyNotGo cX5_whyNotGo 3 (some .int), Cond.methodLink RX5 123 yX5_isCrew, Cond.static yX5_isCrew, Cond.code yX5_isCrew cX5_isCrew 1 (some .boolean), Cond.methodLink RX5 100 yX5_isPlot, Cond.static yX5_isPlot, Cond.code yX5_isPlot cX5_isPlot 1 (some .boolean), Cond.methodLink RX5 126 yX5_wayOf, Cond.instanceMethod yX5_wayOf, Cond.selects RX5 yX5_wayOf yX5_wayOf, Cond.code yX5_wayOf cX5_wayOf 3 (some .int), Cond.fieldLink RX5 31 "StormFellingModel" "far" "[I", Cond.methodLink RX5 116 yX5_of, Cond.instanceMethod yX5_of, Cond.selects RX5 yX5_of yX5_of]
def wsX5_whyNot_r3 : List Cond := [Cond.code yX5_of cX5_of 3 (some .int), Cond.methodLink RX5 119 yX5_measure, Cond.instanceMethod yX5_measure, Cond.selects RX5 yX5_measure yX5_measure, Cond.code yX5_measure cX5_measure 4 none, Cond.constant RX5 96 (100000), Cond.methodLink RX5 97 yX5_getsNearer, Cond.instanceMethod yX5_getsNearer, Cond.selects RX5 yX5_getsNearer yX5_getsNearer, Cond.code yX5_getsNearer cX5_getsNearer 6 (some .boolean), Cond.methodLink RX5 92 yX5_nearer, Cond.instanceMethod yX5_nearer, Cond.selects RX5 yX5_nearer yX5_nearer, Cond.code yX5_nearer cX5_nearer 5 (some .boolean), Cond.methodLink RX5 89 yX5_enters, Cond.instanceMethod yX5_enters, Cond.selects RX5 yX5_enters yX5_enters, Cond.code yX5_enters cX5_enters 2 (some .int), Cond.methodLink RX5 136 yX5_whyNotFell, Cond.instanceMethod yX5_whyNotFell, Cond.selects RX5 yX5_whyNotFell yX5_whyNotFell, Cond.code yX5_whyNotFell cX5_whyNotFell 2 (some .int), Cond.methodLink RX5 110 yX5_whyNotEnd, Cond.instanceMethod yX5_whyNotEnd]
def wsX5_whyNot_r4 : List Cond := [Cond.selects RX5 yX5_whyNotEnd yX5_whyNotEnd, Cond.code yX5_whyNotEnd cX5_whyNotEnd 2 (some .int)]
def wsX5_whyNot : List Cond := .code yX5_whyNot cX5_whyNot 4 (some .int) :: ((wsX5_whyNot_r1 ++ (wsX5_whyNot_r2 ++ (wsX5_whyNot_r3 ++ wsX5_whyNot_r4))) ++ wsX50)
def wsX5_doThing_r1 : List Cond := [Cond.fieldLink RX5 37 "StormFellingModel" "told" "[I", Cond.fieldLink RX5 7 "StormFellingModel" "z" "[I", Cond.methodLink RX5 107 yX5_rainNow, Cond.instanceMethod yX5_rainNow, Cond.selects RX5 yX5_rainNow yX5_rainNow, Cond.initialized RX5, Cond.code yX5_rainNow cX5_rainNow 5 (some .int), Cond.methodLink RX5 132 yX5_goNow, Cond.instanceMethod yX5_goNow, Cond.selects RX5 yX5_goNow yX5_goNow, Cond.code yX5_goNow cX5_goNow 3 none, Cond.methodLink RX5 116 yX5_of, Cond.instanceMethod yX5_of, Cond.selects RX5 yX5_of yX5_of, Cond.code yX5_of cX5_of 3 (some .int), Cond.methodLink RX5 126 yX5_wayOf, Cond.instanceMethod yX5_wayOf, Cond.selects RX5 yX5_wayOf yX5_wayOf, Cond.code yX5_wayOf cX5_wayOf 3 (some .int), Cond.fieldLink RX5 31 "StormFellingModel" "far" "[I", Cond.methodLink RX5 119 yX5_measure, Cond.instanceMethod yX5_measure, Cond.selects RX5 yX5_measure yX5_measure, Cond.code yX5_measure cX5_measure 4 none]
def wsX5_doThing_r2 : List Cond := [Cond.constant RX5 96 (100000), Cond.methodLink RX5 97 yX5_getsNearer, Cond.instanceMethod yX5_getsNearer, Cond.selects RX5 yX5_getsNearer yX5_getsNearer, Cond.code yX5_getsNearer cX5_getsNearer 6 (some .boolean), Cond.methodLink RX5 92 yX5_nearer, Cond.instanceMethod yX5_nearer, Cond.selects RX5 yX5_nearer yX5_nearer, Cond.code yX5_nearer cX5_nearer 5 (some .boolean), Cond.methodLink RX5 89 yX5_enters, Cond.instanceMethod yX5_enters, Cond.selects RX5 yX5_enters yX5_enters, Cond.code yX5_enters cX5_enters 2 (some .int), Cond.methodLink RX5 40 yX5_lay, Cond.instanceMethod yX5_lay, Cond.selects RX5 yX5_lay yX5_lay, Cond.code yX5_lay cX5_lay 4 none, Cond.methodLink RX5 139 yX5_fellNow, Cond.instanceMethod yX5_fellNow, Cond.selects RX5 yX5_fellNow yX5_fellNow, Cond.code yX5_fellNow cX5_fellNow 4 (some .int), Cond.methodLink RX5 113 yX5_endNow, Cond.instanceMethod yX5_endNow, Cond.selects RX5 yX5_endNow yX5_endNow]
def wsX5_doThing_r3 : List Cond := [Cond.code yX5_endNow cX5_endNow 3 (some .int), Cond.methodLink RX5 44 yX5_refresh, Cond.instanceMethod yX5_refresh, Cond.selects RX5 yX5_refresh yX5_refresh, Cond.code yX5_refresh cX5_refresh 2 none]
def wsX5_doThing : List Cond := .code yX5_doThing cX5_doThing 4 none :: ((wsX5_doThing_r1 ++ (wsX5_doThing_r2 ++ wsX5_doThing_r3)) ++ wsX50)
def wsX5_perform_r1 : List Cond := [Cond.fieldLink RX5 160 "StormFellingModel" "spot" "I", Cond.fieldLink RX5 7 "StormFellingModel" "z" "[I", Cond.fieldLink RX5 13 "StormFellingModel" "spare" "[I", Cond.fieldLink RX5 176 "StormFellingModel" "toldMany" "I", Cond.fieldLink RX5 189 "StormFellingModel" "stopNumber" "I", Cond.fieldLink RX5 192 "StormFellingModel" "stopError" "I", Cond.methodLink RX5 183 yX5_readText, Cond.instanceMethod yX5_readText, Cond.selects RX5 yX5_readText yX5_readText, Cond.initialized RX5, Cond.code yX5_readText cX5_readText 2 (some .boolean), Cond.fieldLink RX5 157 "StormFellingModel" "length" "I", Cond.methodLink RX5 179 yX5_readThing, Cond.instanceMethod yX5_readThing, Cond.selects RX5 yX5_readThing yX5_readThing, Cond.code yX5_readThing cX5_readThing 4 (some .boolean), Cond.fieldLink RX5 22 "StormFellingModel" "text" "[I", Cond.fieldLink RX5 37 "StormFellingModel" "told" "[I", Cond.methodLink RX5 169 yX5_number, Cond.instanceMethod yX5_number, Cond.selects RX5 yX5_number yX5_number, Cond.code yX5_number cX5_number 4 (some .int), Cond.methodLink RX5 163 yX5_sees, Cond.instanceMethod yX5_sees]
def wsX5_perform_r2 : List Cond := [Cond.selects RX5 yX5_sees yX5_sees, Cond.code yX5_sees cX5_sees 3 (some .boolean), Cond.methodLink RX5 47 yX5_in, Cond.static yX5_in, Cond.code yX5_in cX5_in 3 (some .boolean), Cond.methodLink RX5 172 yX5_second, Cond.instanceMethod yX5_second, Cond.selects RX5 yX5_second yX5_second, Cond.code yX5_second cX5_second 4 (some .int), Cond.methodLink RX5 166 yX5_takes, Cond.instanceMethod yX5_takes, Cond.selects RX5 yX5_takes yX5_takes, Cond.code yX5_takes cX5_takes 3 (some .boolean), Cond.methodLink RX5 55 yX5_copyState, Cond.static yX5_copyState, Cond.code yX5_copyState cX5_copyState 5 none, Cond.methodLink RX5 186 yX5_whyNot, Cond.instanceMethod yX5_whyNot, Cond.selects RX5 yX5_whyNot yX5_whyNot, Cond.code yX5_whyNot cX5_whyNot 4 (some .int), Cond.methodLink RX5 148 yX5_whyNotHint, Cond.instanceMethod yX5_whyNotHint, Cond.selects RX5 yX5_whyNotHint yX5_whyNotHint, Cond.code yX5_whyNotHint cX5_whyNotHint 3 (some .int)]
def wsX5_perform_r3 : List Cond := [Cond.methodLink RX5 142 yX5_isLine, Cond.static yX5_isLine, Cond.code yX5_isLine cX5_isLine 1 (some .boolean), Cond.methodLink RX5 145 yX5_pathsAt, Cond.instanceMethod yX5_pathsAt, Cond.selects RX5 yX5_pathsAt yX5_pathsAt, Cond.code yX5_pathsAt cX5_pathsAt 3 (some .int), Cond.fieldLink RX5 25 "StormFellingModel" "down" "[I", Cond.fieldLink RX5 28 "StormFellingModel" "up" "[I", Cond.methodLink RX5 78 yX5_countPaths, Cond.instanceMethod yX5_countPaths, Cond.selects RX5 yX5_countPaths yX5_countPaths, Cond.code yX5_countPaths cX5_countPaths 2 none, Cond.methodLink RX5 70 yX5_isOpen, Cond.instanceMethod yX5_isOpen, Cond.selects RX5 yX5_isOpen yX5_isOpen, Cond.code yX5_isOpen cX5_isOpen 3 (some .boolean), Cond.methodLink RX5 74 yX5_beside, Cond.static yX5_beside, Cond.code yX5_beside cX5_beside 3 (some .int), Cond.methodLink RX5 129 yX5_whyNotGo, Cond.instanceMethod yX5_whyNotGo, Cond.selects RX5 yX5_whyNotGo yX5_whyNotGo, Cond.code yX5_whyNotGo cX5_whyNotGo 3 (some .int)]
def wsX5_perform_r4 : List Cond := [Cond.methodLink RX5 123 yX5_isCrew, Cond.static yX5_isCrew, Cond.code yX5_isCrew cX5_isCrew 1 (some .boolean), Cond.methodLink RX5 100 yX5_isPlot, Cond.static yX5_isPlot, Cond.code yX5_isPlot cX5_isPlot 1 (some .boolean), Cond.methodLink RX5 126 yX5_wayOf, Cond.instanceMethod yX5_wayOf, Cond.selects RX5 yX5_wayOf yX5_wayOf, Cond.code yX5_wayOf cX5_wayOf 3 (some .int), Cond.fieldLink RX5 31 "StormFellingModel" "far" "[I", Cond.methodLink RX5 116 yX5_of, Cond.instanceMethod yX5_of, Cond.selects RX5 yX5_of yX5_of, Cond.code yX5_of cX5_of 3 (some .int), Cond.methodLink RX5 119 yX5_measure, Cond.instanceMethod yX5_measure, Cond.selects RX5 yX5_measure yX5_measure, Cond.code yX5_measure cX5_measure 4 none, Cond.constant RX5 96 (100000), Cond.methodLink RX5 97 yX5_getsNearer, Cond.instanceMethod yX5_getsNearer, Cond.selects RX5 yX5_getsNearer yX5_getsNearer, Cond.code yX5_getsNearer cX5_getsNearer 6 (some .boolean)]
def wsX5_perform_r5 : List Cond := [Cond.methodLink RX5 92 yX5_nearer, Cond.instanceMethod yX5_nearer, Cond.selects RX5 yX5_nearer yX5_nearer, Cond.code yX5_nearer cX5_nearer 5 (some .boolean), Cond.methodLink RX5 89 yX5_enters, Cond.instanceMethod yX5_enters, Cond.selects RX5 yX5_enters yX5_enters, Cond.code yX5_enters cX5_enters 2 (some .int), Cond.methodLink RX5 136 yX5_whyNotFell, Cond.instanceMethod yX5_whyNotFell, Cond.selects RX5 yX5_whyNotFell yX5_whyNotFell, Cond.code yX5_whyNotFell cX5_whyNotFell 2 (some .int), Cond.methodLink RX5 110 yX5_whyNotEnd, Cond.instanceMethod yX5_whyNotEnd, Cond.selects RX5 yX5_whyNotEnd yX5_whyNotEnd, Cond.code yX5_whyNotEnd cX5_whyNotEnd 2 (some .int), Cond.methodLink RX5 195 yX5_doThing, Cond.instanceMethod yX5_doThing, Cond.selects RX5 yX5_doThing yX5_doThing, Cond.code yX5_doThing cX5_doThing 4 none, Cond.methodLink RX5 107 yX5_rainNow, Cond.instanceMethod yX5_rainNow, Cond.selects RX5 yX5_rainNow yX5_rainNow, Cond.code yX5_rainNow cX5_rainNow 5 (some .int)]
def wsX5_perform_r6 : List Cond := [Cond.methodLink RX5 132 yX5_goNow, Cond.instanceMethod yX5_goNow, Cond.selects RX5 yX5_goNow yX5_goNow, Cond.code yX5_goNow cX5_goNow 3 none, Cond.methodLink RX5 40 yX5_lay, Cond.instanceMethod yX5_lay, Cond.selects RX5 yX5_lay yX5_lay, Cond.code yX5_lay cX5_lay 4 none, Cond.methodLink RX5 139 yX5_fellNow, Cond.instanceMethod yX5_fellNow, Cond.selects RX5 yX5_fellNow yX5_fellNow, Cond.code yX5_fellNow cX5_fellNow 4 (some .int), Cond.methodLink RX5 113 yX5_endNow, Cond.instanceMethod yX5_endNow, Cond.selects RX5 yX5_endNow yX5_endNow, Cond.code yX5_endNow cX5_endNow 3 (some .int), Cond.methodLink RX5 44 yX5_refresh, Cond.instanceMethod yX5_refresh, Cond.selects RX5 yX5_refresh yX5_refresh, Cond.code yX5_refresh cX5_refresh 2 none, Cond.methodLink RX5 59 yX5_recordRow, Cond.instanceMethod yX5_recordRow, Cond.selects RX5 yX5_recordRow yX5_recordRow, Cond.code yX5_recordRow cX5_recordRow 3 none]
def wsX5_perform_r7 : List Cond := [Cond.fieldLink RX5 51 "StormFellingModel" "states" "I", Cond.fieldLink RX5 16 "StormFellingModel" "past" "[I"]
def wsX5_perform : List Cond := .code yX5_perform cX5_perform 3 (some .int) :: ((wsX5_perform_r1 ++ (wsX5_perform_r2 ++ (wsX5_perform_r3 ++ (wsX5_perform_r4 ++ (wsX5_perform_r5 ++ (wsX5_perform_r6 ++ wsX5_perform_r7)))))) ++ wsX50)
def wsX5_stopped : List Cond := .code yX5_stopped cX5_stopped 2 (some .int) :: ([.fieldLink RX5 192 "StormFellingModel" "stopError" "I", .fieldLink RX5 189 "StormFellingModel" "stopNumber" "I", .methodLink RX5 47 yX5_in, .static yX5_in, .initialized RX5, .code yX5_in cX5_in 3 (some .boolean)] ++ wsX50)
def wsX5_plot_r1 : List Cond := [Cond.fieldLink RX5 7 "StormFellingModel" "z" "[I", Cond.methodLink RX5 100 yX5_isPlot, Cond.static yX5_isPlot, Cond.initialized RX5, Cond.code yX5_isPlot cX5_isPlot 1 (some .boolean), Cond.methodLink RX5 47 yX5_in, Cond.static yX5_in, Cond.code yX5_in cX5_in 3 (some .boolean), Cond.methodLink RX5 78 yX5_countPaths, Cond.instanceMethod yX5_countPaths, Cond.selects RX5 yX5_countPaths yX5_countPaths, Cond.code yX5_countPaths cX5_countPaths 2 none, Cond.fieldLink RX5 25 "StormFellingModel" "down" "[I", Cond.fieldLink RX5 28 "StormFellingModel" "up" "[I", Cond.methodLink RX5 70 yX5_isOpen, Cond.instanceMethod yX5_isOpen, Cond.selects RX5 yX5_isOpen yX5_isOpen, Cond.code yX5_isOpen cX5_isOpen 3 (some .boolean), Cond.methodLink RX5 74 yX5_beside, Cond.static yX5_beside, Cond.code yX5_beside cX5_beside 3 (some .int), Cond.methodLink RX5 85 yX5_hits, Cond.instanceMethod yX5_hits, Cond.selects RX5 yX5_hits yX5_hits]
def wsX5_plot_r2 : List Cond := [Cond.code yX5_hits cX5_hits 5 (some .int), Cond.methodLink RX5 81 yX5_allPaths, Cond.instanceMethod yX5_allPaths, Cond.selects RX5 yX5_allPaths yX5_allPaths, Cond.code yX5_allPaths cX5_allPaths 3 (some .int), Cond.methodLink RX5 198 yX5_standsToLose, Cond.instanceMethod yX5_standsToLose, Cond.selects RX5 yX5_standsToLose yX5_standsToLose, Cond.code yX5_standsToLose cX5_standsToLose 2 (some .int)]
def wsX5_plot : List Cond := .code yX5_plot cX5_plot 3 (some .int) :: ((wsX5_plot_r1 ++ wsX5_plot_r2) ++ wsX50)
def wsX5_crew : List Cond := .code yX5_crew cX5_crew 3 (some .int) :: ([.methodLink RX5 123 yX5_isCrew, .static yX5_isCrew, .initialized RX5, .code yX5_isCrew cX5_isCrew 1 (some .boolean), .methodLink RX5 47 yX5_in, .static yX5_in, .code yX5_in cX5_in 3 (some .boolean), .methodLink RX5 116 yX5_of, .instanceMethod yX5_of, .selects RX5 yX5_of yX5_of, .code yX5_of cX5_of 3 (some .int), .fieldLink RX5 7 "StormFellingModel" "z" "[I"] ++ wsX50)
def wsX5_columns : List Cond := .code yX5_columns cX5_columns 8 (some .int) :: ([.fieldLink RX5 25 "StormFellingModel" "down" "[I", .fieldLink RX5 28 "StormFellingModel" "up" "[I"] ++ wsX50)
def wsX5_row_r1 : List Cond := [Cond.fieldLink RX5 7 "StormFellingModel" "z" "[I", Cond.methodLink RX5 142 yX5_isLine, Cond.static yX5_isLine, Cond.initialized RX5, Cond.code yX5_isLine cX5_isLine 1 (some .boolean), Cond.methodLink RX5 47 yX5_in, Cond.static yX5_in, Cond.code yX5_in cX5_in 3 (some .boolean), Cond.methodLink RX5 78 yX5_countPaths, Cond.instanceMethod yX5_countPaths, Cond.selects RX5 yX5_countPaths yX5_countPaths, Cond.code yX5_countPaths cX5_countPaths 2 none, Cond.fieldLink RX5 25 "StormFellingModel" "down" "[I", Cond.fieldLink RX5 28 "StormFellingModel" "up" "[I", Cond.methodLink RX5 70 yX5_isOpen, Cond.instanceMethod yX5_isOpen, Cond.selects RX5 yX5_isOpen yX5_isOpen, Cond.code yX5_isOpen cX5_isOpen 3 (some .boolean), Cond.methodLink RX5 74 yX5_beside, Cond.static yX5_beside, Cond.code yX5_beside cX5_beside 3 (some .int), Cond.methodLink RX5 201 yX5_columns, Cond.instanceMethod yX5_columns, Cond.selects RX5 yX5_columns yX5_columns]
def wsX5_row_r2 : List Cond := [Cond.code yX5_columns cX5_columns 8 (some .int)]
def wsX5_row : List Cond := .code yX5_row cX5_row 3 (some .int) :: ((wsX5_row_r1 ++ wsX5_row_r2) ++ wsX50)
def wsX5_way_r1 : List Cond := [Cond.methodLink RX5 123 yX5_isCrew, Cond.static yX5_isCrew, Cond.initialized RX5, Cond.code yX5_isCrew cX5_isCrew 1 (some .boolean), Cond.methodLink RX5 47 yX5_in, Cond.static yX5_in, Cond.code yX5_in cX5_in 3 (some .boolean), Cond.methodLink RX5 100 yX5_isPlot, Cond.static yX5_isPlot, Cond.code yX5_isPlot cX5_isPlot 1 (some .boolean), Cond.methodLink RX5 126 yX5_wayOf, Cond.instanceMethod yX5_wayOf, Cond.selects RX5 yX5_wayOf yX5_wayOf, Cond.code yX5_wayOf cX5_wayOf 3 (some .int), Cond.fieldLink RX5 31 "StormFellingModel" "far" "[I", Cond.methodLink RX5 116 yX5_of, Cond.instanceMethod yX5_of, Cond.selects RX5 yX5_of yX5_of, Cond.code yX5_of cX5_of 3 (some .int), Cond.fieldLink RX5 7 "StormFellingModel" "z" "[I", Cond.methodLink RX5 119 yX5_measure, Cond.instanceMethod yX5_measure, Cond.selects RX5 yX5_measure yX5_measure, Cond.code yX5_measure cX5_measure 4 none]
def wsX5_way_r2 : List Cond := [Cond.constant RX5 96 (100000), Cond.methodLink RX5 97 yX5_getsNearer, Cond.instanceMethod yX5_getsNearer, Cond.selects RX5 yX5_getsNearer yX5_getsNearer, Cond.code yX5_getsNearer cX5_getsNearer 6 (some .boolean), Cond.methodLink RX5 92 yX5_nearer, Cond.instanceMethod yX5_nearer, Cond.selects RX5 yX5_nearer yX5_nearer, Cond.code yX5_nearer cX5_nearer 5 (some .boolean), Cond.methodLink RX5 89 yX5_enters, Cond.instanceMethod yX5_enters, Cond.selects RX5 yX5_enters yX5_enters, Cond.code yX5_enters cX5_enters 2 (some .int)]
def wsX5_way : List Cond := .code yX5_way cX5_way 3 (some .int) :: ((wsX5_way_r1 ++ wsX5_way_r2) ++ wsX50)
def wsX5_why : List Cond := .code yX5_why cX5_why 4 (some .int) :: ([.fieldLink RX5 31 "StormFellingModel" "far" "[I", .fieldLink RX5 7 "StormFellingModel" "z" "[I", .methodLink RX5 116 yX5_of, .instanceMethod yX5_of, .selects RX5 yX5_of yX5_of, .initialized RX5, .code yX5_of cX5_of 3 (some .int)] ++ wsX50)
def wsX5_reason_r1 : List Cond := [Cond.methodLink RX5 123 yX5_isCrew, Cond.static yX5_isCrew, Cond.initialized RX5, Cond.code yX5_isCrew cX5_isCrew 1 (some .boolean), Cond.methodLink RX5 47 yX5_in, Cond.static yX5_in, Cond.code yX5_in cX5_in 3 (some .boolean), Cond.methodLink RX5 100 yX5_isPlot, Cond.static yX5_isPlot, Cond.code yX5_isPlot cX5_isPlot 1 (some .boolean), Cond.methodLink RX5 116 yX5_of, Cond.instanceMethod yX5_of, Cond.selects RX5 yX5_of yX5_of, Cond.code yX5_of cX5_of 3 (some .int), Cond.fieldLink RX5 7 "StormFellingModel" "z" "[I", Cond.methodLink RX5 119 yX5_measure, Cond.instanceMethod yX5_measure, Cond.selects RX5 yX5_measure yX5_measure, Cond.code yX5_measure cX5_measure 4 none, Cond.fieldLink RX5 31 "StormFellingModel" "far" "[I", Cond.constant RX5 96 (100000), Cond.methodLink RX5 97 yX5_getsNearer, Cond.instanceMethod yX5_getsNearer, Cond.selects RX5 yX5_getsNearer yX5_getsNearer]
def wsX5_reason_r2 : List Cond := [Cond.code yX5_getsNearer cX5_getsNearer 6 (some .boolean), Cond.methodLink RX5 92 yX5_nearer, Cond.instanceMethod yX5_nearer, Cond.selects RX5 yX5_nearer yX5_nearer, Cond.code yX5_nearer cX5_nearer 5 (some .boolean), Cond.methodLink RX5 89 yX5_enters, Cond.instanceMethod yX5_enters, Cond.selects RX5 yX5_enters yX5_enters, Cond.code yX5_enters cX5_enters 2 (some .int), Cond.methodLink RX5 204 yX5_why, Cond.instanceMethod yX5_why, Cond.selects RX5 yX5_why yX5_why, Cond.code yX5_why cX5_why 4 (some .int)]
def wsX5_reason : List Cond := .code yX5_reason cX5_reason 3 (some .int) :: ((wsX5_reason_r1 ++ wsX5_reason_r2) ++ wsX50)
def wsX5_isBetter : List Cond := .code yX5_isBetter cX5_isBetter 4 (some .boolean) :: ([.fieldLink RX5 7 "StormFellingModel" "z" "[I", .fieldLink RX5 31 "StormFellingModel" "far" "[I", .methodLink RX5 198 yX5_standsToLose, .instanceMethod yX5_standsToLose, .selects RX5 yX5_standsToLose yX5_standsToLose, .initialized RX5, .code yX5_standsToLose cX5_standsToLose 2 (some .int), .methodLink RX5 85 yX5_hits, .instanceMethod yX5_hits, .selects RX5 yX5_hits yX5_hits, .code yX5_hits cX5_hits 5 (some .int), .fieldLink RX5 25 "StormFellingModel" "down" "[I", .fieldLink RX5 28 "StormFellingModel" "up" "[I", .methodLink RX5 47 yX5_in, .static yX5_in, .code yX5_in cX5_in 3 (some .boolean), .methodLink RX5 81 yX5_allPaths, .instanceMethod yX5_allPaths, .selects RX5 yX5_allPaths yX5_allPaths, .code yX5_allPaths cX5_allPaths 3 (some .int)] ++ wsX50)
def wsX5_best_r1 : List Cond := [Cond.methodLink RX5 123 yX5_isCrew, Cond.static yX5_isCrew, Cond.initialized RX5, Cond.code yX5_isCrew cX5_isCrew 1 (some .boolean), Cond.methodLink RX5 47 yX5_in, Cond.static yX5_in, Cond.code yX5_in cX5_in 3 (some .boolean), Cond.methodLink RX5 116 yX5_of, Cond.instanceMethod yX5_of, Cond.selects RX5 yX5_of yX5_of, Cond.code yX5_of cX5_of 3 (some .int), Cond.fieldLink RX5 7 "StormFellingModel" "z" "[I", Cond.methodLink RX5 119 yX5_measure, Cond.instanceMethod yX5_measure, Cond.selects RX5 yX5_measure yX5_measure, Cond.code yX5_measure cX5_measure 4 none, Cond.fieldLink RX5 31 "StormFellingModel" "far" "[I", Cond.constant RX5 96 (100000), Cond.methodLink RX5 97 yX5_getsNearer, Cond.instanceMethod yX5_getsNearer, Cond.selects RX5 yX5_getsNearer yX5_getsNearer, Cond.code yX5_getsNearer cX5_getsNearer 6 (some .boolean), Cond.methodLink RX5 92 yX5_nearer, Cond.instanceMethod yX5_nearer]
def wsX5_best_r2 : List Cond := [Cond.selects RX5 yX5_nearer yX5_nearer, Cond.code yX5_nearer cX5_nearer 5 (some .boolean), Cond.methodLink RX5 89 yX5_enters, Cond.instanceMethod yX5_enters, Cond.selects RX5 yX5_enters yX5_enters, Cond.code yX5_enters cX5_enters 2 (some .int), Cond.methodLink RX5 78 yX5_countPaths, Cond.instanceMethod yX5_countPaths, Cond.selects RX5 yX5_countPaths yX5_countPaths, Cond.code yX5_countPaths cX5_countPaths 2 none, Cond.fieldLink RX5 25 "StormFellingModel" "down" "[I", Cond.fieldLink RX5 28 "StormFellingModel" "up" "[I", Cond.methodLink RX5 70 yX5_isOpen, Cond.instanceMethod yX5_isOpen, Cond.selects RX5 yX5_isOpen yX5_isOpen, Cond.code yX5_isOpen cX5_isOpen 3 (some .boolean), Cond.methodLink RX5 74 yX5_beside, Cond.static yX5_beside, Cond.code yX5_beside cX5_beside 3 (some .int), Cond.methodLink RX5 204 yX5_why, Cond.instanceMethod yX5_why, Cond.selects RX5 yX5_why yX5_why, Cond.code yX5_why cX5_why 4 (some .int), Cond.methodLink RX5 207 yX5_isBetter]
def wsX5_best_r3 : List Cond := [Cond.instanceMethod yX5_isBetter, Cond.selects RX5 yX5_isBetter yX5_isBetter, Cond.code yX5_isBetter cX5_isBetter 4 (some .boolean), Cond.methodLink RX5 198 yX5_standsToLose, Cond.instanceMethod yX5_standsToLose, Cond.selects RX5 yX5_standsToLose yX5_standsToLose, Cond.code yX5_standsToLose cX5_standsToLose 2 (some .int), Cond.methodLink RX5 85 yX5_hits, Cond.instanceMethod yX5_hits, Cond.selects RX5 yX5_hits yX5_hits, Cond.code yX5_hits cX5_hits 5 (some .int), Cond.methodLink RX5 81 yX5_allPaths, Cond.instanceMethod yX5_allPaths, Cond.selects RX5 yX5_allPaths yX5_allPaths, Cond.code yX5_allPaths cX5_allPaths 3 (some .int)]
def wsX5_best : List Cond := .code yX5_best cX5_best 5 (some .int) :: ((wsX5_best_r1 ++ (wsX5_best_r2 ++ wsX5_best_r3)) ++ wsX50)
def wsX5_openRow_r1 : List Cond := [Cond.methodLink RX5 151 yX5_paths, Cond.instanceMethod yX5_paths, Cond.selects RX5 yX5_paths yX5_paths, Cond.initialized RX5, Cond.code yX5_paths cX5_paths 1 (some .int), Cond.methodLink RX5 78 yX5_countPaths, Cond.instanceMethod yX5_countPaths, Cond.selects RX5 yX5_countPaths yX5_countPaths, Cond.code yX5_countPaths cX5_countPaths 2 none, Cond.fieldLink RX5 25 "StormFellingModel" "down" "[I", Cond.fieldLink RX5 28 "StormFellingModel" "up" "[I", Cond.methodLink RX5 70 yX5_isOpen, Cond.instanceMethod yX5_isOpen, Cond.selects RX5 yX5_isOpen yX5_isOpen, Cond.code yX5_isOpen cX5_isOpen 3 (some .boolean), Cond.fieldLink RX5 7 "StormFellingModel" "z" "[I", Cond.methodLink RX5 74 yX5_beside, Cond.static yX5_beside, Cond.code yX5_beside cX5_beside 3 (some .int), Cond.methodLink RX5 81 yX5_allPaths, Cond.instanceMethod yX5_allPaths, Cond.selects RX5 yX5_allPaths yX5_allPaths, Cond.code yX5_allPaths cX5_allPaths 3 (some .int), Cond.methodLink RX5 201 yX5_columns]
def wsX5_openRow_r2 : List Cond := [Cond.instanceMethod yX5_columns, Cond.selects RX5 yX5_columns yX5_columns, Cond.code yX5_columns cX5_columns 8 (some .int)]
def wsX5_openRow : List Cond := .code yX5_openRow cX5_openRow 3 (some .int) :: ((wsX5_openRow_r1 ++ wsX5_openRow_r2) ++ wsX50)
def wsX5_ifTold_r1 : List Cond := [Cond.methodLink RX5 142 yX5_isLine, Cond.static yX5_isLine, Cond.initialized RX5, Cond.code yX5_isLine cX5_isLine 1 (some .boolean), Cond.methodLink RX5 47 yX5_in, Cond.static yX5_in, Cond.code yX5_in cX5_in 3 (some .boolean), Cond.methodLink RX5 145 yX5_pathsAt, Cond.instanceMethod yX5_pathsAt, Cond.selects RX5 yX5_pathsAt yX5_pathsAt, Cond.code yX5_pathsAt cX5_pathsAt 3 (some .int), Cond.fieldLink RX5 25 "StormFellingModel" "down" "[I", Cond.fieldLink RX5 28 "StormFellingModel" "up" "[I", Cond.methodLink RX5 78 yX5_countPaths, Cond.instanceMethod yX5_countPaths, Cond.selects RX5 yX5_countPaths yX5_countPaths, Cond.code yX5_countPaths cX5_countPaths 2 none, Cond.methodLink RX5 70 yX5_isOpen, Cond.instanceMethod yX5_isOpen, Cond.selects RX5 yX5_isOpen yX5_isOpen, Cond.code yX5_isOpen cX5_isOpen 3 (some .boolean), Cond.fieldLink RX5 7 "StormFellingModel" "z" "[I", Cond.methodLink RX5 74 yX5_beside, Cond.static yX5_beside]
def wsX5_ifTold_r2 : List Cond := [Cond.code yX5_beside cX5_beside 3 (some .int)]
def wsX5_ifTold : List Cond := .code yX5_ifTold cX5_ifTold 3 (some .int) :: ((wsX5_ifTold_r1 ++ wsX5_ifTold_r2) ++ wsX50)
def wsX5_sum : List Cond := .code yX5_sum cX5_sum 5 (some .int) :: ([.fieldLink RX5 7 "StormFellingModel" "z" "[I"] ++ wsX50)
def wsX5_plotsHit : List Cond := .code yX5_plotsHit cX5_plotsHit 4 (some .int) :: ([.methodLink RX5 85 yX5_hits, .instanceMethod yX5_hits, .selects RX5 yX5_hits yX5_hits, .initialized RX5, .code yX5_hits cX5_hits 5 (some .int), .fieldLink RX5 7 "StormFellingModel" "z" "[I", .fieldLink RX5 25 "StormFellingModel" "down" "[I", .fieldLink RX5 28 "StormFellingModel" "up" "[I", .methodLink RX5 47 yX5_in, .static yX5_in, .code yX5_in cX5_in 3 (some .boolean), .methodLink RX5 81 yX5_allPaths, .instanceMethod yX5_allPaths, .selects RX5 yX5_allPaths yX5_allPaths, .code yX5_allPaths cX5_allPaths 3 (some .int)] ++ wsX50)
def wsX5_allToLose : List Cond := .code yX5_allToLose cX5_allToLose 3 (some .int) :: ([.methodLink RX5 198 yX5_standsToLose, .instanceMethod yX5_standsToLose, .selects RX5 yX5_standsToLose yX5_standsToLose, .initialized RX5, .code yX5_standsToLose cX5_standsToLose 2 (some .int), .fieldLink RX5 7 "StormFellingModel" "z" "[I", .methodLink RX5 85 yX5_hits, .instanceMethod yX5_hits, .selects RX5 yX5_hits yX5_hits, .code yX5_hits cX5_hits 5 (some .int), .fieldLink RX5 25 "StormFellingModel" "down" "[I", .fieldLink RX5 28 "StormFellingModel" "up" "[I", .methodLink RX5 47 yX5_in, .static yX5_in, .code yX5_in cX5_in 3 (some .boolean), .methodLink RX5 81 yX5_allPaths, .instanceMethod yX5_allPaths, .selects RX5 yX5_allPaths yX5_allPaths, .code yX5_allPaths cX5_allPaths 3 (some .int)] ++ wsX50)
def wsX5_hints : List Cond := .code yX5_hints cX5_hints 3 (some .int) :: ([.fieldLink RX5 7 "StormFellingModel" "z" "[I"] ++ wsX50)
def wsX5_count_r1 : List Cond := [Cond.fieldLink RX5 7 "StormFellingModel" "z" "[I", Cond.fieldLink RX5 51 "StormFellingModel" "states" "I", Cond.fieldLink RX5 157 "StormFellingModel" "length" "I", Cond.methodLink RX5 78 yX5_countPaths, Cond.instanceMethod yX5_countPaths, Cond.selects RX5 yX5_countPaths yX5_countPaths, Cond.initialized RX5, Cond.code yX5_countPaths cX5_countPaths 2 none, Cond.fieldLink RX5 25 "StormFellingModel" "down" "[I", Cond.fieldLink RX5 28 "StormFellingModel" "up" "[I", Cond.methodLink RX5 70 yX5_isOpen, Cond.instanceMethod yX5_isOpen, Cond.selects RX5 yX5_isOpen yX5_isOpen, Cond.code yX5_isOpen cX5_isOpen 3 (some .boolean), Cond.methodLink RX5 74 yX5_beside, Cond.static yX5_beside, Cond.code yX5_beside cX5_beside 3 (some .int), Cond.methodLink RX5 210 yX5_sum, Cond.instanceMethod yX5_sum, Cond.selects RX5 yX5_sum yX5_sum, Cond.code yX5_sum cX5_sum 5 (some .int), Cond.methodLink RX5 213 yX5_plotsHit, Cond.instanceMethod yX5_plotsHit, Cond.selects RX5 yX5_plotsHit yX5_plotsHit]
def wsX5_count_r2 : List Cond := [Cond.code yX5_plotsHit cX5_plotsHit 4 (some .int), Cond.methodLink RX5 85 yX5_hits, Cond.instanceMethod yX5_hits, Cond.selects RX5 yX5_hits yX5_hits, Cond.code yX5_hits cX5_hits 5 (some .int), Cond.methodLink RX5 47 yX5_in, Cond.static yX5_in, Cond.code yX5_in cX5_in 3 (some .boolean), Cond.methodLink RX5 81 yX5_allPaths, Cond.instanceMethod yX5_allPaths, Cond.selects RX5 yX5_allPaths yX5_allPaths, Cond.code yX5_allPaths cX5_allPaths 3 (some .int), Cond.methodLink RX5 217 yX5_allToLose, Cond.instanceMethod yX5_allToLose, Cond.selects RX5 yX5_allToLose yX5_allToLose, Cond.code yX5_allToLose cX5_allToLose 3 (some .int), Cond.methodLink RX5 198 yX5_standsToLose, Cond.instanceMethod yX5_standsToLose, Cond.selects RX5 yX5_standsToLose yX5_standsToLose, Cond.code yX5_standsToLose cX5_standsToLose 2 (some .int), Cond.methodLink RX5 220 yX5_hints, Cond.instanceMethod yX5_hints, Cond.selects RX5 yX5_hints yX5_hints, Cond.code yX5_hints cX5_hints 3 (some .int)]
def wsX5_count_r3 : List Cond := [Cond.methodLink RX5 116 yX5_of, Cond.instanceMethod yX5_of, Cond.selects RX5 yX5_of yX5_of, Cond.code yX5_of cX5_of 3 (some .int)]
def wsX5_count : List Cond := .code yX5_count cX5_count 2 (some .int) :: ((wsX5_count_r1 ++ (wsX5_count_r2 ++ wsX5_count_r3)) ++ wsX50)
def wsJ9_abs_0f7a4 : List Cond := .code yJ9_abs_0f7a4 cJ9_abs_0f7a4 1 (some .int) :: ([])
def wsJ9_max_7cf53 : List Cond := .code yJ9_max_7cf53 cJ9_max_7cf53 2 (some .int) :: ([])
def wsJ9_min_7cf53 : List Cond := .code yJ9_min_7cf53 cJ9_min_7cf53 2 (some .int) :: ([])
abbrev vwCl : List vw_C := [(RX0, TX0, 6), (RX1, TX1, 2), (RX2, TX2, 3), (RX3, TX3, 13), (RX4, TX4, 9), (RX5, TX5, 17)]
end
section
theorem dX0_init_0 : decode cX0_init 0 = .ok (.aload_n 0, 1) := by decide +kernel
theorem dX0_init_1 : decode cX0_init 1 = .ok (.invokespecial 3, 3) := by decide +kernel
theorem dX0_init_4 : decode cX0_init 4 = .ok (.aload_n 0, 1) := by decide +kernel
theorem dX0_init_5 : decode cX0_init 5 = .ok (.bipush 60, 2) := by decide +kernel
theorem dX0_init_7 : decode cX0_init 7 = .ok (.newarray .char, 2) := by decide +kernel
theorem dX0_init_9 : decode cX0_init 9 = .ok (.putfield 9, 3) := by decide +kernel
theorem dX0_init_12 : decode cX0_init 12 = .ok (.return_, 1) := by decide +kernel
theorem dX0_append_0 : decode cX0_append 0 = .ok (.aload_n 0, 1) := by decide +kernel
theorem dX0_append_1 : decode cX0_append 1 = .ok (.getfield 15, 3) := by decide +kernel
theorem dX0_append_4 : decode cX0_append 4 = .ok (.bipush 60, 2) := by decide +kernel
theorem dX0_append_6 : decode cX0_append 6 = .ok (.if_icmp .lt 6, 3) := by decide +kernel
theorem dX0_append_9 : decode cX0_append 9 = .ok (.bipush (-3), 2) := by decide +kernel
theorem dX0_append_11 : decode cX0_append 11 = .ok (.ireturn, 1) := by decide +kernel
theorem dX0_append_12 : decode cX0_append 12 = .ok (.aload_n 0, 1) := by decide +kernel
theorem dX0_append_13 : decode cX0_append 13 = .ok (.getfield 9, 3) := by decide +kernel
theorem dX0_append_16 : decode cX0_append 16 = .ok (.aload_n 0, 1) := by decide +kernel
theorem dX0_append_17 : decode cX0_append 17 = .ok (.getfield 15, 3) := by decide +kernel
theorem dX0_append_20 : decode cX0_append 20 = .ok (.iload_n 1, 1) := by decide +kernel
theorem dX0_append_21 : decode cX0_append 21 = .ok (.castore, 1) := by decide +kernel
theorem dX0_append_22 : decode cX0_append 22 = .ok (.aload_n 0, 1) := by decide +kernel
theorem dX0_append_23 : decode cX0_append 23 = .ok (.dup, 1) := by decide +kernel
theorem dX0_append_24 : decode cX0_append 24 = .ok (.getfield 15, 3) := by decide +kernel
theorem dX0_append_27 : decode cX0_append 27 = .ok (.iconst 1, 1) := by decide +kernel
theorem dX0_append_28 : decode cX0_append 28 = .ok (.iadd, 1) := by decide +kernel
theorem dX0_append_29 : decode cX0_append 29 = .ok (.putfield 15, 3) := by decide +kernel
theorem dX0_append_32 : decode cX0_append 32 = .ok (.aload_n 0, 1) := by decide +kernel
theorem dX0_append_33 : decode cX0_append 33 = .ok (.getfield 15, 3) := by decide +kernel
theorem dX0_append_36 : decode cX0_append 36 = .ok (.ireturn, 1) := by decide +kernel
theorem dX0_empty_0 : decode cX0_empty 0 = .ok (.aload_n 0, 1) := by decide +kernel
theorem dX0_empty_1 : decode cX0_empty 1 = .ok (.getfield 15, 3) := by decide +kernel
theorem dX0_empty_4 : decode cX0_empty 4 = .ok (.istore_n 1, 1) := by decide +kernel
theorem dX0_empty_5 : decode cX0_empty 5 = .ok (.aload_n 0, 1) := by decide +kernel
theorem dX0_empty_6 : decode cX0_empty 6 = .ok (.iconst 0, 1) := by decide +kernel
theorem dX0_empty_7 : decode cX0_empty 7 = .ok (.putfield 15, 3) := by decide +kernel
theorem dX0_empty_10 : decode cX0_empty 10 = .ok (.iload_n 1, 1) := by decide +kernel
theorem dX0_empty_11 : decode cX0_empty 11 = .ok (.ireturn, 1) := by decide +kernel
theorem dX0_countThings_0 : decode cX0_countThings 0 = .ok (.aload_n 0, 1) := by decide +kernel
theorem dX0_countThings_1 : decode cX0_countThings 1 = .ok (.invokevirtual 19, 3) := by decide +kernel
theorem dX0_countThings_4 : decode cX0_countThings 4 = .ok (.iconst 1, 1) := by decide +kernel
theorem dX0_countThings_5 : decode cX0_countThings 5 = .ok (.istore_n 1, 1) := by decide +kernel
theorem dX0_countThings_6 : decode cX0_countThings 6 = .ok (.iload_n 1, 1) := by decide +kernel
theorem dX0_countThings_7 : decode cX0_countThings 7 = .ok (.bipush 60, 2) := by decide +kernel
theorem dX0_countThings_9 : decode cX0_countThings 9 = .ok (.if_icmp .gt 41, 3) := by decide +kernel
theorem dX0_countThings_12 : decode cX0_countThings 12 = .ok (.aload_n 0, 1) := by decide +kernel
theorem dX0_countThings_13 : decode cX0_countThings 13 = .ok (.invokevirtual 22, 3) := by decide +kernel
theorem dX0_countThings_16 : decode cX0_countThings 16 = .ok (.ifCond .eq 34, 3) := by decide +kernel
theorem dX0_countThings_19 : decode cX0_countThings 19 = .ok (.aload_n 0, 1) := by decide +kernel
theorem dX0_countThings_20 : decode cX0_countThings 20 = .ok (.getfield 26, 3) := by decide +kernel
theorem dX0_countThings_23 : decode cX0_countThings 23 = .ok (.aload_n 0, 1) := by decide +kernel
theorem dX0_countThings_24 : decode cX0_countThings 24 = .ok (.getfield 15, 3) := by decide +kernel
theorem dX0_countThings_27 : decode cX0_countThings 27 = .ok (.if_icmp .ne 5, 3) := by decide +kernel
theorem dX0_countThings_30 : decode cX0_countThings 30 = .ok (.iload_n 1, 1) := by decide +kernel
theorem dX0_countThings_31 : decode cX0_countThings 31 = .ok (.ireturn, 1) := by decide +kernel
theorem dX0_countThings_32 : decode cX0_countThings 32 = .ok (.aload_n 0, 1) := by decide +kernel
theorem dX0_countThings_33 : decode cX0_countThings 33 = .ok (.bipush 59, 2) := by decide +kernel
theorem dX0_countThings_35 : decode cX0_countThings 35 = .ok (.invokevirtual 29, 3) := by decide +kernel
theorem dX0_countThings_38 : decode cX0_countThings 38 = .ok (.ifCond .ne 6, 3) := by decide +kernel
theorem dX0_countThings_41 : decode cX0_countThings 41 = .ok (.goto 9, 3) := by decide +kernel
theorem dX0_countThings_44 : decode cX0_countThings 44 = .ok (.iinc 1 1, 3) := by decide +kernel
theorem dX0_countThings_47 : decode cX0_countThings 47 = .ok (.goto (-41), 3) := by decide +kernel
theorem dX0_countThings_50 : decode cX0_countThings 50 = .ok (.bipush (-100), 2) := by decide +kernel
theorem dX0_countThings_52 : decode cX0_countThings 52 = .ok (.aload_n 0, 1) := by decide +kernel
theorem dX0_countThings_53 : decode cX0_countThings 53 = .ok (.getfield 26, 3) := by decide +kernel
theorem dX0_countThings_56 : decode cX0_countThings 56 = .ok (.isub, 1) := by decide +kernel
theorem dX0_countThings_57 : decode cX0_countThings 57 = .ok (.ireturn, 1) := by decide +kernel
theorem dX0_startOver_0 : decode cX0_startOver 0 = .ok (.aload_n 0, 1) := by decide +kernel
theorem dX0_startOver_1 : decode cX0_startOver 1 = .ok (.iconst 0, 1) := by decide +kernel
theorem dX0_startOver_2 : decode cX0_startOver 2 = .ok (.putfield 26, 3) := by decide +kernel
theorem dX0_startOver_5 : decode cX0_startOver 5 = .ok (.return_, 1) := by decide +kernel
theorem dX0_readNext_0 : decode cX0_readNext 0 = .ok (.aload_n 0, 1) := by decide +kernel
theorem dX0_readNext_1 : decode cX0_readNext 1 = .ok (.bipush 59, 2) := by decide +kernel
theorem dX0_readNext_3 : decode cX0_readNext 3 = .ok (.invokevirtual 29, 3) := by decide +kernel
theorem dX0_readNext_6 : decode cX0_readNext 6 = .ok (.pop, 1) := by decide +kernel
theorem dX0_readNext_7 : decode cX0_readNext 7 = .ok (.aload_n 0, 1) := by decide +kernel
theorem dX0_readNext_8 : decode cX0_readNext 8 = .ok (.invokevirtual 22, 3) := by decide +kernel
theorem dX0_readNext_11 : decode cX0_readNext 11 = .ok (.pop, 1) := by decide +kernel
theorem dX0_readNext_12 : decode cX0_readNext 12 = .ok (.return_, 1) := by decide +kernel
theorem dX0_readThing_0 : decode cX0_readThing 0 = .ok (.aload_n 0, 1) := by decide +kernel
theorem dX0_readThing_1 : decode cX0_readThing 1 = .ok (.bipush 116, 2) := by decide +kernel
theorem dX0_readThing_3 : decode cX0_readThing 3 = .ok (.invokevirtual 33, 3) := by decide +kernel
theorem dX0_readThing_6 : decode cX0_readThing 6 = .ok (.ifCond .eq 37, 3) := by decide +kernel
theorem dX0_readThing_9 : decode cX0_readThing 9 = .ok (.aload_n 0, 1) := by decide +kernel
theorem dX0_readThing_10 : decode cX0_readThing 10 = .ok (.iconst 0, 1) := by decide +kernel
theorem dX0_readThing_11 : decode cX0_readThing 11 = .ok (.bipush 63, 2) := by decide +kernel
theorem dX0_readThing_13 : decode cX0_readThing 13 = .ok (.invokevirtual 36, 3) := by decide +kernel
theorem dX0_readThing_16 : decode cX0_readThing 16 = .ok (.ifCond .eq 25, 3) := by decide +kernel
theorem dX0_readThing_19 : decode cX0_readThing 19 = .ok (.aload_n 0, 1) := by decide +kernel
theorem dX0_readThing_20 : decode cX0_readThing 20 = .ok (.bipush 61, 2) := by decide +kernel
theorem dX0_readThing_22 : decode cX0_readThing 22 = .ok (.invokevirtual 29, 3) := by decide +kernel
theorem dX0_readThing_25 : decode cX0_readThing 25 = .ok (.ifCond .eq 16, 3) := by decide +kernel
theorem dX0_readThing_28 : decode cX0_readThing 28 = .ok (.aload_n 0, 1) := by decide +kernel
theorem dX0_readThing_29 : decode cX0_readThing 29 = .ok (.bipush 99, 2) := by decide +kernel
theorem dX0_readThing_31 : decode cX0_readThing 31 = .ok (.invokevirtual 40, 3) := by decide +kernel
theorem dX0_readThing_34 : decode cX0_readThing 34 = .ok (.ifCond .eq 7, 3) := by decide +kernel
theorem dX0_readThing_37 : decode cX0_readThing 37 = .ok (.iconst 1, 1) := by decide +kernel
theorem dX0_readThing_38 : decode cX0_readThing 38 = .ok (.goto 4, 3) := by decide +kernel
theorem dX0_readThing_41 : decode cX0_readThing 41 = .ok (.iconst 0, 1) := by decide +kernel
theorem dX0_readThing_42 : decode cX0_readThing 42 = .ok (.ireturn, 1) := by decide +kernel
theorem dX0_readThing_43 : decode cX0_readThing 43 = .ok (.aload_n 0, 1) := by decide +kernel
theorem dX0_readThing_44 : decode cX0_readThing 44 = .ok (.bipush 114, 2) := by decide +kernel
theorem dX0_readThing_46 : decode cX0_readThing 46 = .ok (.invokevirtual 33, 3) := by decide +kernel
theorem dX0_readThing_49 : decode cX0_readThing 49 = .ok (.ifCond .eq 11, 3) := by decide +kernel
theorem dX0_readThing_52 : decode cX0_readThing 52 = .ok (.aload_n 0, 1) := by decide +kernel
theorem dX0_readThing_53 : decode cX0_readThing 53 = .ok (.iconst 1, 1) := by decide +kernel
theorem dX0_readThing_54 : decode cX0_readThing 54 = .ok (.bipush 9, 2) := by decide +kernel
theorem dX0_readThing_56 : decode cX0_readThing 56 = .ok (.invokevirtual 36, 3) := by decide +kernel
theorem dX0_readThing_59 : decode cX0_readThing 59 = .ok (.ireturn, 1) := by decide +kernel
theorem dX0_readThing_60 : decode cX0_readThing 60 = .ok (.aload_n 0, 1) := by decide +kernel
theorem dX0_readThing_61 : decode cX0_readThing 61 = .ok (.bipush 104, 2) := by decide +kernel
theorem dX0_readThing_63 : decode cX0_readThing 63 = .ok (.invokevirtual 33, 3) := by decide +kernel
theorem dX0_readThing_66 : decode cX0_readThing 66 = .ok (.ifCond .eq 37, 3) := by decide +kernel
theorem dX0_readThing_69 : decode cX0_readThing 69 = .ok (.aload_n 0, 1) := by decide +kernel
theorem dX0_readThing_70 : decode cX0_readThing 70 = .ok (.iconst 0, 1) := by decide +kernel
theorem dX0_readThing_71 : decode cX0_readThing 71 = .ok (.bipush 7, 2) := by decide +kernel
theorem dX0_readThing_73 : decode cX0_readThing 73 = .ok (.invokevirtual 36, 3) := by decide +kernel
theorem dX0_readThing_76 : decode cX0_readThing 76 = .ok (.ifCond .eq 25, 3) := by decide +kernel
theorem dX0_readThing_79 : decode cX0_readThing 79 = .ok (.aload_n 0, 1) := by decide +kernel
theorem dX0_readThing_80 : decode cX0_readThing 80 = .ok (.bipush 58, 2) := by decide +kernel
theorem dX0_readThing_82 : decode cX0_readThing 82 = .ok (.invokevirtual 29, 3) := by decide +kernel
theorem dX0_readThing_85 : decode cX0_readThing 85 = .ok (.ifCond .eq 16, 3) := by decide +kernel
theorem dX0_readThing_88 : decode cX0_readThing 88 = .ok (.aload_n 0, 1) := by decide +kernel
theorem dX0_readThing_89 : decode cX0_readThing 89 = .ok (.bipush 7, 2) := by decide +kernel
theorem dX0_readThing_91 : decode cX0_readThing 91 = .ok (.invokevirtual 40, 3) := by decide +kernel
theorem dX0_readThing_94 : decode cX0_readThing 94 = .ok (.ifCond .eq 7, 3) := by decide +kernel
theorem dX0_readThing_97 : decode cX0_readThing 97 = .ok (.iconst 1, 1) := by decide +kernel
theorem dX0_readThing_98 : decode cX0_readThing 98 = .ok (.goto 4, 3) := by decide +kernel
theorem dX0_readThing_101 : decode cX0_readThing 101 = .ok (.iconst 0, 1) := by decide +kernel
theorem dX0_readThing_102 : decode cX0_readThing 102 = .ok (.ireturn, 1) := by decide +kernel
theorem dX0_readThing_103 : decode cX0_readThing 103 = .ok (.aload_n 0, 1) := by decide +kernel
theorem dX0_readThing_104 : decode cX0_readThing 104 = .ok (.bipush 103, 2) := by decide +kernel
theorem dX0_readThing_106 : decode cX0_readThing 106 = .ok (.invokevirtual 33, 3) := by decide +kernel
theorem dX0_readThing_109 : decode cX0_readThing 109 = .ok (.ifCond .eq 36, 3) := by decide +kernel
theorem dX0_readThing_112 : decode cX0_readThing 112 = .ok (.aload_n 0, 1) := by decide +kernel
theorem dX0_readThing_113 : decode cX0_readThing 113 = .ok (.iconst 0, 1) := by decide +kernel
theorem dX0_readThing_114 : decode cX0_readThing 114 = .ok (.iconst 2, 1) := by decide +kernel
theorem dX0_readThing_115 : decode cX0_readThing 115 = .ok (.invokevirtual 36, 3) := by decide +kernel
theorem dX0_readThing_118 : decode cX0_readThing 118 = .ok (.ifCond .eq 25, 3) := by decide +kernel
theorem dX0_readThing_121 : decode cX0_readThing 121 = .ok (.aload_n 0, 1) := by decide +kernel
theorem dX0_readThing_122 : decode cX0_readThing 122 = .ok (.bipush 62, 2) := by decide +kernel
theorem dX0_readThing_124 : decode cX0_readThing 124 = .ok (.invokevirtual 29, 3) := by decide +kernel
theorem dX0_readThing_127 : decode cX0_readThing 127 = .ok (.ifCond .eq 16, 3) := by decide +kernel
theorem dX0_readThing_130 : decode cX0_readThing 130 = .ok (.aload_n 0, 1) := by decide +kernel
theorem dX0_readThing_131 : decode cX0_readThing 131 = .ok (.bipush 63, 2) := by decide +kernel
theorem dX0_readThing_133 : decode cX0_readThing 133 = .ok (.invokevirtual 40, 3) := by decide +kernel
theorem dX0_readThing_136 : decode cX0_readThing 136 = .ok (.ifCond .eq 7, 3) := by decide +kernel
theorem dX0_readThing_139 : decode cX0_readThing 139 = .ok (.iconst 1, 1) := by decide +kernel
theorem dX0_readThing_140 : decode cX0_readThing 140 = .ok (.goto 4, 3) := by decide +kernel
theorem dX0_readThing_143 : decode cX0_readThing 143 = .ok (.iconst 0, 1) := by decide +kernel
theorem dX0_readThing_144 : decode cX0_readThing 144 = .ok (.ireturn, 1) := by decide +kernel
theorem dX0_readThing_145 : decode cX0_readThing 145 = .ok (.aload_n 0, 1) := by decide +kernel
theorem dX0_readThing_146 : decode cX0_readThing 146 = .ok (.bipush 102, 2) := by decide +kernel
theorem dX0_readThing_148 : decode cX0_readThing 148 = .ok (.invokevirtual 33, 3) := by decide +kernel
theorem dX0_readThing_151 : decode cX0_readThing 151 = .ok (.ifCond .eq 10, 3) := by decide +kernel
theorem dX0_readThing_154 : decode cX0_readThing 154 = .ok (.aload_n 0, 1) := by decide +kernel
theorem dX0_readThing_155 : decode cX0_readThing 155 = .ok (.iconst 0, 1) := by decide +kernel
theorem dX0_readThing_156 : decode cX0_readThing 156 = .ok (.iconst 2, 1) := by decide +kernel
theorem dX0_readThing_157 : decode cX0_readThing 157 = .ok (.invokevirtual 36, 3) := by decide +kernel
theorem dX0_readThing_160 : decode cX0_readThing 160 = .ok (.ireturn, 1) := by decide +kernel
theorem dX0_readThing_161 : decode cX0_readThing 161 = .ok (.aload_n 0, 1) := by decide +kernel
theorem dX0_readThing_162 : decode cX0_readThing 162 = .ok (.bipush 46, 2) := by decide +kernel
theorem dX0_readThing_164 : decode cX0_readThing 164 = .ok (.invokevirtual 33, 3) := by decide +kernel
theorem dX0_readThing_167 : decode cX0_readThing 167 = .ok (.ifCond .eq 17, 3) := by decide +kernel
theorem dX0_readThing_170 : decode cX0_readThing 170 = .ok (.aload_n 0, 1) := by decide +kernel
theorem dX0_readThing_171 : decode cX0_readThing 171 = .ok (.iconst 1, 1) := by decide +kernel
theorem dX0_readThing_172 : decode cX0_readThing 172 = .ok (.bipush 99, 2) := by decide +kernel
theorem dX0_readThing_174 : decode cX0_readThing 174 = .ok (.invokevirtual 36, 3) := by decide +kernel
theorem dX0_readThing_177 : decode cX0_readThing 177 = .ok (.ifCond .eq 7, 3) := by decide +kernel
theorem dX0_readThing_180 : decode cX0_readThing 180 = .ok (.iconst 1, 1) := by decide +kernel
theorem dX0_readThing_181 : decode cX0_readThing 181 = .ok (.goto 4, 3) := by decide +kernel
theorem dX0_readThing_184 : decode cX0_readThing 184 = .ok (.iconst 0, 1) := by decide +kernel
theorem dX0_readThing_185 : decode cX0_readThing 185 = .ok (.ireturn, 1) := by decide +kernel
theorem dX0_readKind_0 : decode cX0_readKind 0 = .ok (.aload_n 0, 1) := by decide +kernel
theorem dX0_readKind_1 : decode cX0_readKind 1 = .ok (.iload_n 1, 1) := by decide +kernel
theorem dX0_readKind_2 : decode cX0_readKind 2 = .ok (.invokevirtual 29, 3) := by decide +kernel
theorem dX0_readKind_5 : decode cX0_readKind 5 = .ok (.ifCond .ne 5, 3) := by decide +kernel
theorem dX0_readKind_8 : decode cX0_readKind 8 = .ok (.iconst 0, 1) := by decide +kernel
theorem dX0_readKind_9 : decode cX0_readKind 9 = .ok (.ireturn, 1) := by decide +kernel
theorem dX0_readKind_10 : decode cX0_readKind 10 = .ok (.aload_n 0, 1) := by decide +kernel
theorem dX0_readKind_11 : decode cX0_readKind 11 = .ok (.iload_n 1, 1) := by decide +kernel
theorem dX0_readKind_12 : decode cX0_readKind 12 = .ok (.putfield 44, 3) := by decide +kernel
theorem dX0_readKind_15 : decode cX0_readKind 15 = .ok (.iconst 1, 1) := by decide +kernel
theorem dX0_readKind_16 : decode cX0_readKind 16 = .ok (.ireturn, 1) := by decide +kernel
theorem dX0_readSign_0 : decode cX0_readSign 0 = .ok (.aload_n 0, 1) := by decide +kernel
theorem dX0_readSign_1 : decode cX0_readSign 1 = .ok (.getfield 26, 3) := by decide +kernel
theorem dX0_readSign_4 : decode cX0_readSign 4 = .ok (.aload_n 0, 1) := by decide +kernel
theorem dX0_readSign_5 : decode cX0_readSign 5 = .ok (.getfield 15, 3) := by decide +kernel
theorem dX0_readSign_8 : decode cX0_readSign 8 = .ok (.if_icmp .ge 16, 3) := by decide +kernel
theorem dX0_readSign_11 : decode cX0_readSign 11 = .ok (.aload_n 0, 1) := by decide +kernel
theorem dX0_readSign_12 : decode cX0_readSign 12 = .ok (.getfield 9, 3) := by decide +kernel
theorem dX0_readSign_15 : decode cX0_readSign 15 = .ok (.aload_n 0, 1) := by decide +kernel
theorem dX0_readSign_16 : decode cX0_readSign 16 = .ok (.getfield 26, 3) := by decide +kernel
theorem dX0_readSign_19 : decode cX0_readSign 19 = .ok (.caload, 1) := by decide +kernel
theorem dX0_readSign_20 : decode cX0_readSign 20 = .ok (.iload_n 1, 1) := by decide +kernel
theorem dX0_readSign_21 : decode cX0_readSign 21 = .ok (.if_icmp .eq 5, 3) := by decide +kernel
theorem dX0_readSign_24 : decode cX0_readSign 24 = .ok (.iconst 0, 1) := by decide +kernel
theorem dX0_readSign_25 : decode cX0_readSign 25 = .ok (.ireturn, 1) := by decide +kernel
theorem dX0_readSign_26 : decode cX0_readSign 26 = .ok (.aload_n 0, 1) := by decide +kernel
theorem dX0_readSign_27 : decode cX0_readSign 27 = .ok (.dup, 1) := by decide +kernel
theorem dX0_readSign_28 : decode cX0_readSign 28 = .ok (.getfield 26, 3) := by decide +kernel
theorem dX0_readSign_31 : decode cX0_readSign 31 = .ok (.iconst 1, 1) := by decide +kernel
theorem dX0_readSign_32 : decode cX0_readSign 32 = .ok (.iadd, 1) := by decide +kernel
theorem dX0_readSign_33 : decode cX0_readSign 33 = .ok (.putfield 26, 3) := by decide +kernel
theorem dX0_readSign_36 : decode cX0_readSign 36 = .ok (.iconst 1, 1) := by decide +kernel
theorem dX0_readSign_37 : decode cX0_readSign 37 = .ok (.ireturn, 1) := by decide +kernel
theorem dX0_readFirst_0 : decode cX0_readFirst 0 = .ok (.aload_n 0, 1) := by decide +kernel
theorem dX0_readFirst_1 : decode cX0_readFirst 1 = .ok (.aload_n 0, 1) := by decide +kernel
theorem dX0_readFirst_2 : decode cX0_readFirst 2 = .ok (.iload_n 1, 1) := by decide +kernel
theorem dX0_readFirst_3 : decode cX0_readFirst 3 = .ok (.iload_n 2, 1) := by decide +kernel
theorem dX0_readFirst_4 : decode cX0_readFirst 4 = .ok (.invokevirtual 48, 3) := by decide +kernel
theorem dX0_readFirst_7 : decode cX0_readFirst 7 = .ok (.putfield 52, 3) := by decide +kernel
theorem dX0_readFirst_10 : decode cX0_readFirst 10 = .ok (.aload_n 0, 1) := by decide +kernel
theorem dX0_readFirst_11 : decode cX0_readFirst 11 = .ok (.getfield 52, 3) := by decide +kernel
theorem dX0_readFirst_14 : decode cX0_readFirst 14 = .ok (.iconst (-1), 1) := by decide +kernel
theorem dX0_readFirst_15 : decode cX0_readFirst 15 = .ok (.if_icmp .eq 7, 3) := by decide +kernel
theorem dX0_readFirst_18 : decode cX0_readFirst 18 = .ok (.iconst 1, 1) := by decide +kernel
theorem dX0_readFirst_19 : decode cX0_readFirst 19 = .ok (.goto 4, 3) := by decide +kernel
theorem dX0_readFirst_22 : decode cX0_readFirst 22 = .ok (.iconst 0, 1) := by decide +kernel
theorem dX0_readFirst_23 : decode cX0_readFirst 23 = .ok (.ireturn, 1) := by decide +kernel
theorem dX0_readSecond_0 : decode cX0_readSecond 0 = .ok (.aload_n 0, 1) := by decide +kernel
theorem dX0_readSecond_1 : decode cX0_readSecond 1 = .ok (.aload_n 0, 1) := by decide +kernel
theorem dX0_readSecond_2 : decode cX0_readSecond 2 = .ok (.iconst 0, 1) := by decide +kernel
theorem dX0_readSecond_3 : decode cX0_readSecond 3 = .ok (.iload_n 1, 1) := by decide +kernel
theorem dX0_readSecond_4 : decode cX0_readSecond 4 = .ok (.invokevirtual 48, 3) := by decide +kernel
theorem dX0_readSecond_7 : decode cX0_readSecond 7 = .ok (.putfield 55, 3) := by decide +kernel
theorem dX0_readSecond_10 : decode cX0_readSecond 10 = .ok (.aload_n 0, 1) := by decide +kernel
theorem dX0_readSecond_11 : decode cX0_readSecond 11 = .ok (.getfield 55, 3) := by decide +kernel
theorem dX0_readSecond_14 : decode cX0_readSecond 14 = .ok (.iconst (-1), 1) := by decide +kernel
theorem dX0_readSecond_15 : decode cX0_readSecond 15 = .ok (.if_icmp .eq 7, 3) := by decide +kernel
theorem dX0_readSecond_18 : decode cX0_readSecond 18 = .ok (.iconst 1, 1) := by decide +kernel
theorem dX0_readSecond_19 : decode cX0_readSecond 19 = .ok (.goto 4, 3) := by decide +kernel
theorem dX0_readSecond_22 : decode cX0_readSecond 22 = .ok (.iconst 0, 1) := by decide +kernel
theorem dX0_readSecond_23 : decode cX0_readSecond 23 = .ok (.ireturn, 1) := by decide +kernel
theorem dX0_readNumber_0 : decode cX0_readNumber 0 = .ok (.aload_n 0, 1) := by decide +kernel
theorem dX0_readNumber_1 : decode cX0_readNumber 1 = .ok (.invokevirtual 58, 3) := by decide +kernel
theorem dX0_readNumber_4 : decode cX0_readNumber 4 = .ok (.istore_n 3, 1) := by decide +kernel
theorem dX0_readNumber_5 : decode cX0_readNumber 5 = .ok (.iload_n 3, 1) := by decide +kernel
theorem dX0_readNumber_6 : decode cX0_readNumber 6 = .ok (.iload_n 1, 1) := by decide +kernel
theorem dX0_readNumber_7 : decode cX0_readNumber 7 = .ok (.iload_n 2, 1) := by decide +kernel
theorem dX0_readNumber_8 : decode cX0_readNumber 8 = .ok (.invokestatic 62, 3) := by decide +kernel
theorem dX0_readNumber_11 : decode cX0_readNumber 11 = .ok (.ifCond .ne 5, 3) := by decide +kernel
theorem dX0_readNumber_14 : decode cX0_readNumber 14 = .ok (.iconst (-1), 1) := by decide +kernel
theorem dX0_readNumber_15 : decode cX0_readNumber 15 = .ok (.ireturn, 1) := by decide +kernel
theorem dX0_readNumber_16 : decode cX0_readNumber 16 = .ok (.aload_n 0, 1) := by decide +kernel
theorem dX0_readNumber_17 : decode cX0_readNumber 17 = .ok (.dup, 1) := by decide +kernel
theorem dX0_readNumber_18 : decode cX0_readNumber 18 = .ok (.getfield 26, 3) := by decide +kernel
theorem dX0_readNumber_21 : decode cX0_readNumber 21 = .ok (.iconst 1, 1) := by decide +kernel
theorem dX0_readNumber_22 : decode cX0_readNumber 22 = .ok (.iadd, 1) := by decide +kernel
theorem dX0_readNumber_23 : decode cX0_readNumber 23 = .ok (.putfield 26, 3) := by decide +kernel
theorem dX0_readNumber_26 : decode cX0_readNumber 26 = .ok (.aload_n 0, 1) := by decide +kernel
theorem dX0_readNumber_27 : decode cX0_readNumber 27 = .ok (.invokevirtual 58, 3) := by decide +kernel
theorem dX0_readNumber_30 : decode cX0_readNumber 30 = .ok (.istore 4, 2) := by decide +kernel
theorem dX0_readNumber_32 : decode cX0_readNumber 32 = .ok (.iload_n 3, 1) := by decide +kernel
theorem dX0_readNumber_33 : decode cX0_readNumber 33 = .ok (.ifCond .eq 20, 3) := by decide +kernel
theorem dX0_readNumber_36 : decode cX0_readNumber 36 = .ok (.iload 4, 2) := by decide +kernel
theorem dX0_readNumber_38 : decode cX0_readNumber 38 = .ok (.iconst (-1), 1) := by decide +kernel
theorem dX0_readNumber_39 : decode cX0_readNumber 39 = .ok (.if_icmp .eq 14, 3) := by decide +kernel
theorem dX0_readNumber_42 : decode cX0_readNumber 42 = .ok (.iload_n 3, 1) := by decide +kernel
theorem dX0_readNumber_43 : decode cX0_readNumber 43 = .ok (.bipush 10, 2) := by decide +kernel
theorem dX0_readNumber_45 : decode cX0_readNumber 45 = .ok (.imul, 1) := by decide +kernel
theorem dX0_readNumber_46 : decode cX0_readNumber 46 = .ok (.iload 4, 2) := by decide +kernel
theorem dX0_readNumber_48 : decode cX0_readNumber 48 = .ok (.iadd, 1) := by decide +kernel
theorem dX0_readNumber_49 : decode cX0_readNumber 49 = .ok (.iload_n 2, 1) := by decide +kernel
theorem dX0_readNumber_50 : decode cX0_readNumber 50 = .ok (.if_icmp .le 5, 3) := by decide +kernel
theorem dX0_readNumber_53 : decode cX0_readNumber 53 = .ok (.iload_n 3, 1) := by decide +kernel
theorem dX0_readNumber_54 : decode cX0_readNumber 54 = .ok (.ireturn, 1) := by decide +kernel
theorem dX0_readNumber_55 : decode cX0_readNumber 55 = .ok (.aload_n 0, 1) := by decide +kernel
theorem dX0_readNumber_56 : decode cX0_readNumber 56 = .ok (.dup, 1) := by decide +kernel
theorem dX0_readNumber_57 : decode cX0_readNumber 57 = .ok (.getfield 26, 3) := by decide +kernel
theorem dX0_readNumber_60 : decode cX0_readNumber 60 = .ok (.iconst 1, 1) := by decide +kernel
theorem dX0_readNumber_61 : decode cX0_readNumber 61 = .ok (.iadd, 1) := by decide +kernel
theorem dX0_readNumber_62 : decode cX0_readNumber 62 = .ok (.putfield 26, 3) := by decide +kernel
theorem dX0_readNumber_65 : decode cX0_readNumber 65 = .ok (.iload_n 3, 1) := by decide +kernel
theorem dX0_readNumber_66 : decode cX0_readNumber 66 = .ok (.bipush 10, 2) := by decide +kernel
theorem dX0_readNumber_68 : decode cX0_readNumber 68 = .ok (.imul, 1) := by decide +kernel
theorem dX0_readNumber_69 : decode cX0_readNumber 69 = .ok (.iload 4, 2) := by decide +kernel
theorem dX0_readNumber_71 : decode cX0_readNumber 71 = .ok (.iadd, 1) := by decide +kernel
theorem dX0_readNumber_72 : decode cX0_readNumber 72 = .ok (.ireturn, 1) := by decide +kernel
theorem dX0_digitHere_0 : decode cX0_digitHere 0 = .ok (.aload_n 0, 1) := by decide +kernel
theorem dX0_digitHere_1 : decode cX0_digitHere 1 = .ok (.getfield 26, 3) := by decide +kernel
theorem dX0_digitHere_4 : decode cX0_digitHere 4 = .ok (.aload_n 0, 1) := by decide +kernel
theorem dX0_digitHere_5 : decode cX0_digitHere 5 = .ok (.getfield 15, 3) := by decide +kernel
theorem dX0_digitHere_8 : decode cX0_digitHere 8 = .ok (.if_icmp .ge 31, 3) := by decide +kernel
theorem dX0_digitHere_11 : decode cX0_digitHere 11 = .ok (.aload_n 0, 1) := by decide +kernel
theorem dX0_digitHere_12 : decode cX0_digitHere 12 = .ok (.getfield 9, 3) := by decide +kernel
theorem dX0_digitHere_15 : decode cX0_digitHere 15 = .ok (.aload_n 0, 1) := by decide +kernel
theorem dX0_digitHere_16 : decode cX0_digitHere 16 = .ok (.getfield 26, 3) := by decide +kernel
theorem dX0_digitHere_19 : decode cX0_digitHere 19 = .ok (.caload, 1) := by decide +kernel
theorem dX0_digitHere_20 : decode cX0_digitHere 20 = .ok (.bipush 48, 2) := by decide +kernel
theorem dX0_digitHere_22 : decode cX0_digitHere 22 = .ok (.if_icmp .lt 17, 3) := by decide +kernel
theorem dX0_digitHere_25 : decode cX0_digitHere 25 = .ok (.aload_n 0, 1) := by decide +kernel
theorem dX0_digitHere_26 : decode cX0_digitHere 26 = .ok (.getfield 9, 3) := by decide +kernel
theorem dX0_digitHere_29 : decode cX0_digitHere 29 = .ok (.aload_n 0, 1) := by decide +kernel
theorem dX0_digitHere_30 : decode cX0_digitHere 30 = .ok (.getfield 26, 3) := by decide +kernel
theorem dX0_digitHere_33 : decode cX0_digitHere 33 = .ok (.caload, 1) := by decide +kernel
theorem dX0_digitHere_34 : decode cX0_digitHere 34 = .ok (.bipush 57, 2) := by decide +kernel
theorem dX0_digitHere_36 : decode cX0_digitHere 36 = .ok (.if_icmp .le 5, 3) := by decide +kernel
theorem dX0_digitHere_39 : decode cX0_digitHere 39 = .ok (.iconst (-1), 1) := by decide +kernel
theorem dX0_digitHere_40 : decode cX0_digitHere 40 = .ok (.ireturn, 1) := by decide +kernel
theorem dX0_digitHere_41 : decode cX0_digitHere 41 = .ok (.aload_n 0, 1) := by decide +kernel
theorem dX0_digitHere_42 : decode cX0_digitHere 42 = .ok (.getfield 9, 3) := by decide +kernel
theorem dX0_digitHere_45 : decode cX0_digitHere 45 = .ok (.aload_n 0, 1) := by decide +kernel
theorem dX0_digitHere_46 : decode cX0_digitHere 46 = .ok (.getfield 26, 3) := by decide +kernel
theorem dX0_digitHere_49 : decode cX0_digitHere 49 = .ok (.caload, 1) := by decide +kernel
theorem dX0_digitHere_50 : decode cX0_digitHere 50 = .ok (.bipush 48, 2) := by decide +kernel
theorem dX0_digitHere_52 : decode cX0_digitHere 52 = .ok (.isub, 1) := by decide +kernel
theorem dX0_digitHere_53 : decode cX0_digitHere 53 = .ok (.ireturn, 1) := by decide +kernel
theorem dX1_init_0 : decode cX1_init 0 = .ok (.aload_n 0, 1) := by decide +kernel
theorem dX1_init_1 : decode cX1_init 1 = .ok (.invokespecial 3, 3) := by decide +kernel
theorem dX1_init_4 : decode cX1_init 4 = .ok (.aload_n 0, 1) := by decide +kernel
theorem dX1_init_5 : decode cX1_init 5 = .ok (.iconst 4, 1) := by decide +kernel
theorem dX1_init_6 : decode cX1_init 6 = .ok (.anewarray 9, 3) := by decide +kernel
theorem dX1_init_9 : decode cX1_init 9 = .ok (.putfield 11, 3) := by decide +kernel
theorem dX1_init_12 : decode cX1_init 12 = .ok (.iconst 0, 1) := by decide +kernel
theorem dX1_init_13 : decode cX1_init 13 = .ok (.istore_n 1, 1) := by decide +kernel
theorem dX1_init_14 : decode cX1_init 14 = .ok (.iload_n 1, 1) := by decide +kernel
theorem dX1_init_15 : decode cX1_init 15 = .ok (.iconst 4, 1) := by decide +kernel
theorem dX1_init_16 : decode cX1_init 16 = .ok (.if_icmp .ge 22, 3) := by decide +kernel
theorem dX1_init_19 : decode cX1_init 19 = .ok (.aload_n 0, 1) := by decide +kernel
theorem dX1_init_20 : decode cX1_init 20 = .ok (.getfield 11, 3) := by decide +kernel
theorem dX1_init_23 : decode cX1_init 23 = .ok (.iload_n 1, 1) := by decide +kernel
theorem dX1_init_24 : decode cX1_init 24 = .ok (.new 9, 3) := by decide +kernel
theorem dX1_init_27 : decode cX1_init 27 = .ok (.dup, 1) := by decide +kernel
theorem dX1_init_28 : decode cX1_init 28 = .ok (.invokespecial 17, 3) := by decide +kernel
theorem dX1_init_31 : decode cX1_init 31 = .ok (.aastore, 1) := by decide +kernel
theorem dX1_init_32 : decode cX1_init 32 = .ok (.iinc 1 1, 3) := by decide +kernel
theorem dX1_init_35 : decode cX1_init 35 = .ok (.goto (-21), 3) := by decide +kernel
theorem dX1_init_38 : decode cX1_init 38 = .ok (.return_, 1) := by decide +kernel
theorem dX1_push_0 : decode cX1_push 0 = .ok (.aload_n 0, 1) := by decide +kernel
theorem dX1_push_1 : decode cX1_push 1 = .ok (.getfield 18, 3) := by decide +kernel
theorem dX1_push_4 : decode cX1_push 4 = .ok (.iconst 4, 1) := by decide +kernel
theorem dX1_push_5 : decode cX1_push 5 = .ok (.if_icmp .lt 7, 3) := by decide +kernel
theorem dX1_push_8 : decode cX1_push 8 = .ok (.aload_n 0, 1) := by decide +kernel
theorem dX1_push_9 : decode cX1_push 9 = .ok (.invokevirtual 22, 3) := by decide +kernel
theorem dX1_push_12 : decode cX1_push 12 = .ok (.aload_n 0, 1) := by decide +kernel
theorem dX1_push_13 : decode cX1_push 13 = .ok (.getfield 11, 3) := by decide +kernel
theorem dX1_push_16 : decode cX1_push 16 = .ok (.aload_n 0, 1) := by decide +kernel
theorem dX1_push_17 : decode cX1_push 17 = .ok (.getfield 18, 3) := by decide +kernel
theorem dX1_push_20 : decode cX1_push 20 = .ok (.aaload, 1) := by decide +kernel
theorem dX1_push_21 : decode cX1_push 21 = .ok (.aload_n 1, 1) := by decide +kernel
theorem dX1_push_22 : decode cX1_push 22 = .ok (.invokevirtual 25, 3) := by decide +kernel
theorem dX1_push_25 : decode cX1_push 25 = .ok (.aload_n 0, 1) := by decide +kernel
theorem dX1_push_26 : decode cX1_push 26 = .ok (.dup, 1) := by decide +kernel
theorem dX1_push_27 : decode cX1_push 27 = .ok (.getfield 18, 3) := by decide +kernel
theorem dX1_push_30 : decode cX1_push 30 = .ok (.iconst 1, 1) := by decide +kernel
theorem dX1_push_31 : decode cX1_push 31 = .ok (.iadd, 1) := by decide +kernel
theorem dX1_push_32 : decode cX1_push 32 = .ok (.putfield 18, 3) := by decide +kernel
theorem dX1_push_35 : decode cX1_push 35 = .ok (.return_, 1) := by decide +kernel
theorem dX1_dropOldest_0 : decode cX1_dropOldest 0 = .ok (.aload_n 0, 1) := by decide +kernel
theorem dX1_dropOldest_1 : decode cX1_dropOldest 1 = .ok (.getfield 11, 3) := by decide +kernel
theorem dX1_dropOldest_4 : decode cX1_dropOldest 4 = .ok (.iconst 0, 1) := by decide +kernel
theorem dX1_dropOldest_5 : decode cX1_dropOldest 5 = .ok (.aaload, 1) := by decide +kernel
theorem dX1_dropOldest_6 : decode cX1_dropOldest 6 = .ok (.astore_n 1, 1) := by decide +kernel
theorem dX1_dropOldest_7 : decode cX1_dropOldest 7 = .ok (.iconst 1, 1) := by decide +kernel
theorem dX1_dropOldest_8 : decode cX1_dropOldest 8 = .ok (.istore_n 2, 1) := by decide +kernel
theorem dX1_dropOldest_9 : decode cX1_dropOldest 9 = .ok (.iload_n 2, 1) := by decide +kernel
theorem dX1_dropOldest_10 : decode cX1_dropOldest 10 = .ok (.iconst 4, 1) := by decide +kernel
theorem dX1_dropOldest_11 : decode cX1_dropOldest 11 = .ok (.if_icmp .ge 23, 3) := by decide +kernel
theorem dX1_dropOldest_14 : decode cX1_dropOldest 14 = .ok (.aload_n 0, 1) := by decide +kernel
theorem dX1_dropOldest_15 : decode cX1_dropOldest 15 = .ok (.getfield 11, 3) := by decide +kernel
theorem dX1_dropOldest_18 : decode cX1_dropOldest 18 = .ok (.iload_n 2, 1) := by decide +kernel
theorem dX1_dropOldest_19 : decode cX1_dropOldest 19 = .ok (.iconst 1, 1) := by decide +kernel
theorem dX1_dropOldest_20 : decode cX1_dropOldest 20 = .ok (.isub, 1) := by decide +kernel
theorem dX1_dropOldest_21 : decode cX1_dropOldest 21 = .ok (.aload_n 0, 1) := by decide +kernel
theorem dX1_dropOldest_22 : decode cX1_dropOldest 22 = .ok (.getfield 11, 3) := by decide +kernel
theorem dX1_dropOldest_25 : decode cX1_dropOldest 25 = .ok (.iload_n 2, 1) := by decide +kernel
theorem dX1_dropOldest_26 : decode cX1_dropOldest 26 = .ok (.aaload, 1) := by decide +kernel
theorem dX1_dropOldest_27 : decode cX1_dropOldest 27 = .ok (.aastore, 1) := by decide +kernel
theorem dX1_dropOldest_28 : decode cX1_dropOldest 28 = .ok (.iinc 2 1, 3) := by decide +kernel
theorem dX1_dropOldest_31 : decode cX1_dropOldest 31 = .ok (.goto (-22), 3) := by decide +kernel
theorem dX1_dropOldest_34 : decode cX1_dropOldest 34 = .ok (.aload_n 0, 1) := by decide +kernel
theorem dX1_dropOldest_35 : decode cX1_dropOldest 35 = .ok (.getfield 11, 3) := by decide +kernel
theorem dX1_dropOldest_38 : decode cX1_dropOldest 38 = .ok (.iconst 3, 1) := by decide +kernel
theorem dX1_dropOldest_39 : decode cX1_dropOldest 39 = .ok (.aload_n 1, 1) := by decide +kernel
theorem dX1_dropOldest_40 : decode cX1_dropOldest 40 = .ok (.aastore, 1) := by decide +kernel
theorem dX1_dropOldest_41 : decode cX1_dropOldest 41 = .ok (.aload_n 0, 1) := by decide +kernel
theorem dX1_dropOldest_42 : decode cX1_dropOldest 42 = .ok (.iconst 3, 1) := by decide +kernel
theorem dX1_dropOldest_43 : decode cX1_dropOldest 43 = .ok (.putfield 18, 3) := by decide +kernel
theorem dX1_dropOldest_46 : decode cX1_dropOldest 46 = .ok (.return_, 1) := by decide +kernel
theorem dX1_pop_0 : decode cX1_pop 0 = .ok (.aload_n 0, 1) := by decide +kernel
theorem dX1_pop_1 : decode cX1_pop 1 = .ok (.getfield 18, 3) := by decide +kernel
theorem dX1_pop_4 : decode cX1_pop 4 = .ok (.ifCond .ne 5, 3) := by decide +kernel
theorem dX1_pop_7 : decode cX1_pop 7 = .ok (.iconst 0, 1) := by decide +kernel
theorem dX1_pop_8 : decode cX1_pop 8 = .ok (.ireturn, 1) := by decide +kernel
theorem dX1_pop_9 : decode cX1_pop 9 = .ok (.aload_n 0, 1) := by decide +kernel
theorem dX1_pop_10 : decode cX1_pop 10 = .ok (.dup, 1) := by decide +kernel
theorem dX1_pop_11 : decode cX1_pop 11 = .ok (.getfield 18, 3) := by decide +kernel
theorem dX1_pop_14 : decode cX1_pop 14 = .ok (.iconst 1, 1) := by decide +kernel
theorem dX1_pop_15 : decode cX1_pop 15 = .ok (.isub, 1) := by decide +kernel
theorem dX1_pop_16 : decode cX1_pop 16 = .ok (.putfield 18, 3) := by decide +kernel
theorem dX1_pop_19 : decode cX1_pop 19 = .ok (.aload_n 1, 1) := by decide +kernel
theorem dX1_pop_20 : decode cX1_pop 20 = .ok (.aload_n 0, 1) := by decide +kernel
theorem dX1_pop_21 : decode cX1_pop 21 = .ok (.getfield 11, 3) := by decide +kernel
theorem dX1_pop_24 : decode cX1_pop 24 = .ok (.aload_n 0, 1) := by decide +kernel
theorem dX1_pop_25 : decode cX1_pop 25 = .ok (.getfield 18, 3) := by decide +kernel
theorem dX1_pop_28 : decode cX1_pop 28 = .ok (.aaload, 1) := by decide +kernel
theorem dX1_pop_29 : decode cX1_pop 29 = .ok (.invokevirtual 25, 3) := by decide +kernel
theorem dX1_pop_32 : decode cX1_pop 32 = .ok (.iconst 1, 1) := by decide +kernel
theorem dX1_pop_33 : decode cX1_pop 33 = .ok (.ireturn, 1) := by decide +kernel
theorem dX2_init_0 : decode cX2_init 0 = .ok (.aload_n 0, 1) := by decide +kernel
theorem dX2_init_1 : decode cX2_init 1 = .ok (.invokespecial 3, 3) := by decide +kernel
theorem dX2_init_4 : decode cX2_init 4 = .ok (.aload_n 0, 1) := by decide +kernel
theorem dX2_init_5 : decode cX2_init 5 = .ok (.bipush 64, 2) := by decide +kernel
theorem dX2_init_7 : decode cX2_init 7 = .ok (.newarray .int, 2) := by decide +kernel
theorem dX2_init_9 : decode cX2_init 9 = .ok (.putfield 9, 3) := by decide +kernel
theorem dX2_init_12 : decode cX2_init 12 = .ok (.aload_n 0, 1) := by decide +kernel
theorem dX2_init_13 : decode cX2_init 13 = .ok (.bipush 64, 2) := by decide +kernel
theorem dX2_init_15 : decode cX2_init 15 = .ok (.newarray .int, 2) := by decide +kernel
theorem dX2_init_17 : decode cX2_init 17 = .ok (.putfield 15, 3) := by decide +kernel
theorem dX2_init_20 : decode cX2_init 20 = .ok (.return_, 1) := by decide +kernel
theorem dX2_follow_0 : decode cX2_follow 0 = .ok (.iconst 0, 1) := by decide +kernel
theorem dX2_follow_1 : decode cX2_follow 1 = .ok (.istore_n 2, 1) := by decide +kernel
theorem dX2_follow_2 : decode cX2_follow 2 = .ok (.iload_n 2, 1) := by decide +kernel
theorem dX2_follow_3 : decode cX2_follow 3 = .ok (.bipush 64, 2) := by decide +kernel
theorem dX2_follow_5 : decode cX2_follow 5 = .ok (.if_icmp .ge 60, 3) := by decide +kernel
theorem dX2_follow_8 : decode cX2_follow 8 = .ok (.aload_n 1, 1) := by decide +kernel
theorem dX2_follow_9 : decode cX2_follow 9 = .ok (.iload_n 2, 1) := by decide +kernel
theorem dX2_follow_10 : decode cX2_follow 10 = .ok (.invokestatic 18, 3) := by decide +kernel
theorem dX2_follow_13 : decode cX2_follow 13 = .ok (.ifCond .ne 13, 3) := by decide +kernel
theorem dX2_follow_16 : decode cX2_follow 16 = .ok (.aload_n 0, 1) := by decide +kernel
theorem dX2_follow_17 : decode cX2_follow 17 = .ok (.getfield 9, 3) := by decide +kernel
theorem dX2_follow_20 : decode cX2_follow 20 = .ok (.iload_n 2, 1) := by decide +kernel
theorem dX2_follow_21 : decode cX2_follow 21 = .ok (.iconst 0, 1) := by decide +kernel
theorem dX2_follow_22 : decode cX2_follow 22 = .ok (.iastore, 1) := by decide +kernel
theorem dX2_follow_23 : decode cX2_follow 23 = .ok (.goto 36, 3) := by decide +kernel
theorem dX2_follow_26 : decode cX2_follow 26 = .ok (.iload_n 2, 1) := by decide +kernel
theorem dX2_follow_27 : decode cX2_follow 27 = .ok (.bipush 8, 2) := by decide +kernel
theorem dX2_follow_29 : decode cX2_follow 29 = .ok (.if_icmp .ge 13, 3) := by decide +kernel
theorem dX2_follow_32 : decode cX2_follow 32 = .ok (.aload_n 0, 1) := by decide +kernel
theorem dX2_follow_33 : decode cX2_follow 33 = .ok (.getfield 9, 3) := by decide +kernel
theorem dX2_follow_36 : decode cX2_follow 36 = .ok (.iload_n 2, 1) := by decide +kernel
theorem dX2_follow_37 : decode cX2_follow 37 = .ok (.iconst 1, 1) := by decide +kernel
theorem dX2_follow_38 : decode cX2_follow 38 = .ok (.iastore, 1) := by decide +kernel
theorem dX2_follow_39 : decode cX2_follow 39 = .ok (.goto 20, 3) := by decide +kernel
theorem dX2_follow_42 : decode cX2_follow 42 = .ok (.aload_n 0, 1) := by decide +kernel
theorem dX2_follow_43 : decode cX2_follow 43 = .ok (.getfield 9, 3) := by decide +kernel
theorem dX2_follow_46 : decode cX2_follow 46 = .ok (.iload_n 2, 1) := by decide +kernel
theorem dX2_follow_47 : decode cX2_follow 47 = .ok (.aload_n 0, 1) := by decide +kernel
theorem dX2_follow_48 : decode cX2_follow 48 = .ok (.getfield 9, 3) := by decide +kernel
theorem dX2_follow_51 : decode cX2_follow 51 = .ok (.iload_n 2, 1) := by decide +kernel
theorem dX2_follow_52 : decode cX2_follow 52 = .ok (.bipush 8, 2) := by decide +kernel
theorem dX2_follow_54 : decode cX2_follow 54 = .ok (.isub, 1) := by decide +kernel
theorem dX2_follow_55 : decode cX2_follow 55 = .ok (.invokestatic 22, 3) := by decide +kernel
theorem dX2_follow_58 : decode cX2_follow 58 = .ok (.iastore, 1) := by decide +kernel
theorem dX2_follow_59 : decode cX2_follow 59 = .ok (.iinc 2 1, 3) := by decide +kernel
theorem dX2_follow_62 : decode cX2_follow 62 = .ok (.goto (-60), 3) := by decide +kernel
theorem dX2_follow_65 : decode cX2_follow 65 = .ok (.bipush 63, 2) := by decide +kernel
theorem dX2_follow_67 : decode cX2_follow 67 = .ok (.istore_n 2, 1) := by decide +kernel
theorem dX2_follow_68 : decode cX2_follow 68 = .ok (.iload_n 2, 1) := by decide +kernel
theorem dX2_follow_69 : decode cX2_follow 69 = .ok (.ifCond .lt 60, 3) := by decide +kernel
theorem dX2_follow_72 : decode cX2_follow 72 = .ok (.aload_n 1, 1) := by decide +kernel
theorem dX2_follow_73 : decode cX2_follow 73 = .ok (.iload_n 2, 1) := by decide +kernel
theorem dX2_follow_74 : decode cX2_follow 74 = .ok (.invokestatic 18, 3) := by decide +kernel
theorem dX2_follow_77 : decode cX2_follow 77 = .ok (.ifCond .ne 13, 3) := by decide +kernel
theorem dX2_follow_80 : decode cX2_follow 80 = .ok (.aload_n 0, 1) := by decide +kernel
theorem dX2_follow_81 : decode cX2_follow 81 = .ok (.getfield 15, 3) := by decide +kernel
theorem dX2_follow_84 : decode cX2_follow 84 = .ok (.iload_n 2, 1) := by decide +kernel
theorem dX2_follow_85 : decode cX2_follow 85 = .ok (.iconst 0, 1) := by decide +kernel
theorem dX2_follow_86 : decode cX2_follow 86 = .ok (.iastore, 1) := by decide +kernel
theorem dX2_follow_87 : decode cX2_follow 87 = .ok (.goto 36, 3) := by decide +kernel
theorem dX2_follow_90 : decode cX2_follow 90 = .ok (.iload_n 2, 1) := by decide +kernel
theorem dX2_follow_91 : decode cX2_follow 91 = .ok (.bipush 56, 2) := by decide +kernel
theorem dX2_follow_93 : decode cX2_follow 93 = .ok (.if_icmp .lt 13, 3) := by decide +kernel
theorem dX2_follow_96 : decode cX2_follow 96 = .ok (.aload_n 0, 1) := by decide +kernel
theorem dX2_follow_97 : decode cX2_follow 97 = .ok (.getfield 15, 3) := by decide +kernel
theorem dX2_follow_100 : decode cX2_follow 100 = .ok (.iload_n 2, 1) := by decide +kernel
theorem dX2_follow_101 : decode cX2_follow 101 = .ok (.iconst 1, 1) := by decide +kernel
theorem dX2_follow_102 : decode cX2_follow 102 = .ok (.iastore, 1) := by decide +kernel
theorem dX2_follow_103 : decode cX2_follow 103 = .ok (.goto 20, 3) := by decide +kernel
theorem dX2_follow_106 : decode cX2_follow 106 = .ok (.aload_n 0, 1) := by decide +kernel
theorem dX2_follow_107 : decode cX2_follow 107 = .ok (.getfield 15, 3) := by decide +kernel
theorem dX2_follow_110 : decode cX2_follow 110 = .ok (.iload_n 2, 1) := by decide +kernel
theorem dX2_follow_111 : decode cX2_follow 111 = .ok (.aload_n 0, 1) := by decide +kernel
theorem dX2_follow_112 : decode cX2_follow 112 = .ok (.getfield 15, 3) := by decide +kernel
theorem dX2_follow_115 : decode cX2_follow 115 = .ok (.iload_n 2, 1) := by decide +kernel
theorem dX2_follow_116 : decode cX2_follow 116 = .ok (.bipush 8, 2) := by decide +kernel
theorem dX2_follow_118 : decode cX2_follow 118 = .ok (.iadd, 1) := by decide +kernel
theorem dX2_follow_119 : decode cX2_follow 119 = .ok (.invokestatic 22, 3) := by decide +kernel
theorem dX2_follow_122 : decode cX2_follow 122 = .ok (.iastore, 1) := by decide +kernel
theorem dX2_follow_123 : decode cX2_follow 123 = .ok (.iinc 2 (-1), 3) := by decide +kernel
theorem dX2_follow_126 : decode cX2_follow 126 = .ok (.goto (-58), 3) := by decide +kernel
theorem dX2_follow_129 : decode cX2_follow 129 = .ok (.aload_n 0, 1) := by decide +kernel
theorem dX2_follow_130 : decode cX2_follow 130 = .ok (.iconst 0, 1) := by decide +kernel
theorem dX2_follow_131 : decode cX2_follow 131 = .ok (.putfield 26, 3) := by decide +kernel
theorem dX2_follow_134 : decode cX2_follow 134 = .ok (.iconst 0, 1) := by decide +kernel
theorem dX2_follow_135 : decode cX2_follow 135 = .ok (.istore_n 2, 1) := by decide +kernel
theorem dX2_follow_136 : decode cX2_follow 136 = .ok (.iload_n 2, 1) := by decide +kernel
theorem dX2_follow_137 : decode cX2_follow 137 = .ok (.bipush 8, 2) := by decide +kernel
theorem dX2_follow_139 : decode cX2_follow 139 = .ok (.if_icmp .ge 24, 3) := by decide +kernel
theorem dX2_follow_142 : decode cX2_follow 142 = .ok (.aload_n 0, 1) := by decide +kernel
theorem dX2_follow_143 : decode cX2_follow 143 = .ok (.dup, 1) := by decide +kernel
theorem dX2_follow_144 : decode cX2_follow 144 = .ok (.getfield 26, 3) := by decide +kernel
theorem dX2_follow_147 : decode cX2_follow 147 = .ok (.aload_n 0, 1) := by decide +kernel
theorem dX2_follow_148 : decode cX2_follow 148 = .ok (.getfield 15, 3) := by decide +kernel
theorem dX2_follow_151 : decode cX2_follow 151 = .ok (.iload_n 2, 1) := by decide +kernel
theorem dX2_follow_152 : decode cX2_follow 152 = .ok (.iaload, 1) := by decide +kernel
theorem dX2_follow_153 : decode cX2_follow 153 = .ok (.iadd, 1) := by decide +kernel
theorem dX2_follow_154 : decode cX2_follow 154 = .ok (.putfield 26, 3) := by decide +kernel
theorem dX2_follow_157 : decode cX2_follow 157 = .ok (.iinc 2 1, 3) := by decide +kernel
theorem dX2_follow_160 : decode cX2_follow 160 = .ok (.goto (-24), 3) := by decide +kernel
theorem dX2_follow_163 : decode cX2_follow 163 = .ok (.return_, 1) := by decide +kernel
theorem dX2_isOpen_0 : decode cX2_isOpen 0 = .ok (.aload_n 0, 1) := by decide +kernel
theorem dX2_isOpen_1 : decode cX2_isOpen 1 = .ok (.iload_n 1, 1) := by decide +kernel
theorem dX2_isOpen_2 : decode cX2_isOpen 2 = .ok (.bipush 8, 2) := by decide +kernel
theorem dX2_isOpen_4 : decode cX2_isOpen 4 = .ok (.idiv, 1) := by decide +kernel
theorem dX2_isOpen_5 : decode cX2_isOpen 5 = .ok (.iaload, 1) := by decide +kernel
theorem dX2_isOpen_6 : decode cX2_isOpen 6 = .ok (.istore_n 2, 1) := by decide +kernel
theorem dX2_isOpen_7 : decode cX2_isOpen 7 = .ok (.iload_n 2, 1) := by decide +kernel
theorem dX2_isOpen_8 : decode cX2_isOpen 8 = .ok (.bipush (-5), 2) := by decide +kernel
theorem dX2_isOpen_10 : decode cX2_isOpen 10 = .ok (.if_icmp .eq 11, 3) := by decide +kernel
theorem dX2_isOpen_13 : decode cX2_isOpen 13 = .ok (.iload_n 2, 1) := by decide +kernel
theorem dX2_isOpen_14 : decode cX2_isOpen 14 = .ok (.iload_n 1, 1) := by decide +kernel
theorem dX2_isOpen_15 : decode cX2_isOpen 15 = .ok (.bipush 8, 2) := by decide +kernel
theorem dX2_isOpen_17 : decode cX2_isOpen 17 = .ok (.irem, 1) := by decide +kernel
theorem dX2_isOpen_18 : decode cX2_isOpen 18 = .ok (.if_icmp .ne 7, 3) := by decide +kernel
theorem dX2_isOpen_21 : decode cX2_isOpen 21 = .ok (.iconst 1, 1) := by decide +kernel
theorem dX2_isOpen_22 : decode cX2_isOpen 22 = .ok (.goto 4, 3) := by decide +kernel
theorem dX2_isOpen_25 : decode cX2_isOpen 25 = .ok (.iconst 0, 1) := by decide +kernel
theorem dX2_isOpen_26 : decode cX2_isOpen 26 = .ok (.ireturn, 1) := by decide +kernel
theorem dX2_around_0 : decode cX2_around 0 = .ok (.aload_n 0, 1) := by decide +kernel
theorem dX2_around_1 : decode cX2_around 1 = .ok (.iload_n 1, 1) := by decide +kernel
theorem dX2_around_2 : decode cX2_around 2 = .ok (.iaload, 1) := by decide +kernel
theorem dX2_around_3 : decode cX2_around 3 = .ok (.istore_n 2, 1) := by decide +kernel
theorem dX2_around_4 : decode cX2_around 4 = .ok (.iload_n 1, 1) := by decide +kernel
theorem dX2_around_5 : decode cX2_around 5 = .ok (.bipush 8, 2) := by decide +kernel
theorem dX2_around_7 : decode cX2_around 7 = .ok (.irem, 1) := by decide +kernel
theorem dX2_around_8 : decode cX2_around 8 = .ok (.ifCond .le 11, 3) := by decide +kernel
theorem dX2_around_11 : decode cX2_around 11 = .ok (.iload_n 2, 1) := by decide +kernel
theorem dX2_around_12 : decode cX2_around 12 = .ok (.aload_n 0, 1) := by decide +kernel
theorem dX2_around_13 : decode cX2_around 13 = .ok (.iload_n 1, 1) := by decide +kernel
theorem dX2_around_14 : decode cX2_around 14 = .ok (.iconst 1, 1) := by decide +kernel
theorem dX2_around_15 : decode cX2_around 15 = .ok (.isub, 1) := by decide +kernel
theorem dX2_around_16 : decode cX2_around 16 = .ok (.iaload, 1) := by decide +kernel
theorem dX2_around_17 : decode cX2_around 17 = .ok (.iadd, 1) := by decide +kernel
theorem dX2_around_18 : decode cX2_around 18 = .ok (.istore_n 2, 1) := by decide +kernel
theorem dX2_around_19 : decode cX2_around 19 = .ok (.iload_n 1, 1) := by decide +kernel
theorem dX2_around_20 : decode cX2_around 20 = .ok (.bipush 8, 2) := by decide +kernel
theorem dX2_around_22 : decode cX2_around 22 = .ok (.irem, 1) := by decide +kernel
theorem dX2_around_23 : decode cX2_around 23 = .ok (.bipush 7, 2) := by decide +kernel
theorem dX2_around_25 : decode cX2_around 25 = .ok (.if_icmp .ge 11, 3) := by decide +kernel
theorem dX2_around_28 : decode cX2_around 28 = .ok (.iload_n 2, 1) := by decide +kernel
theorem dX2_around_29 : decode cX2_around 29 = .ok (.aload_n 0, 1) := by decide +kernel
theorem dX2_around_30 : decode cX2_around 30 = .ok (.iload_n 1, 1) := by decide +kernel
theorem dX2_around_31 : decode cX2_around 31 = .ok (.iconst 1, 1) := by decide +kernel
theorem dX2_around_32 : decode cX2_around 32 = .ok (.iadd, 1) := by decide +kernel
theorem dX2_around_33 : decode cX2_around 33 = .ok (.iaload, 1) := by decide +kernel
theorem dX2_around_34 : decode cX2_around 34 = .ok (.iadd, 1) := by decide +kernel
theorem dX2_around_35 : decode cX2_around 35 = .ok (.istore_n 2, 1) := by decide +kernel
theorem dX2_around_36 : decode cX2_around 36 = .ok (.iload_n 2, 1) := by decide +kernel
theorem dX2_around_37 : decode cX2_around 37 = .ok (.ireturn, 1) := by decide +kernel
theorem dX2_through_0 : decode cX2_through 0 = .ok (.aload_n 0, 1) := by decide +kernel
theorem dX2_through_1 : decode cX2_through 1 = .ok (.getfield 9, 3) := by decide +kernel
theorem dX2_through_4 : decode cX2_through 4 = .ok (.iload_n 1, 1) := by decide +kernel
theorem dX2_through_5 : decode cX2_through 5 = .ok (.iaload, 1) := by decide +kernel
theorem dX2_through_6 : decode cX2_through 6 = .ok (.aload_n 0, 1) := by decide +kernel
theorem dX2_through_7 : decode cX2_through 7 = .ok (.getfield 15, 3) := by decide +kernel
theorem dX2_through_10 : decode cX2_through 10 = .ok (.iload_n 1, 1) := by decide +kernel
theorem dX2_through_11 : decode cX2_through 11 = .ok (.iaload, 1) := by decide +kernel
theorem dX2_through_12 : decode cX2_through 12 = .ok (.imul, 1) := by decide +kernel
theorem dX2_through_13 : decode cX2_through 13 = .ok (.ireturn, 1) := by decide +kernel
theorem dX2_within_0 : decode cX2_within 0 = .ok (.iload_n 1, 1) := by decide +kernel
theorem dX2_within_1 : decode cX2_within 1 = .ok (.iload_n 1, 1) := by decide +kernel
theorem dX2_within_2 : decode cX2_within 2 = .ok (.bipush 8, 2) := by decide +kernel
theorem dX2_within_4 : decode cX2_within 4 = .ok (.irem, 1) := by decide +kernel
theorem dX2_within_5 : decode cX2_within 5 = .ok (.isub, 1) := by decide +kernel
theorem dX2_within_6 : decode cX2_within 6 = .ok (.istore_n 3, 1) := by decide +kernel
theorem dX2_within_7 : decode cX2_within 7 = .ok (.iload_n 3, 1) := by decide +kernel
theorem dX2_within_8 : decode cX2_within 8 = .ok (.iload_n 1, 1) := by decide +kernel
theorem dX2_within_9 : decode cX2_within 9 = .ok (.iload_n 2, 1) := by decide +kernel
theorem dX2_within_10 : decode cX2_within 10 = .ok (.isub, 1) := by decide +kernel
theorem dX2_within_11 : decode cX2_within 11 = .ok (.invokestatic 30, 3) := by decide +kernel
theorem dX2_within_14 : decode cX2_within 14 = .ok (.istore 4, 2) := by decide +kernel
theorem dX2_within_16 : decode cX2_within 16 = .ok (.iload_n 3, 1) := by decide +kernel
theorem dX2_within_17 : decode cX2_within 17 = .ok (.bipush 8, 2) := by decide +kernel
theorem dX2_within_19 : decode cX2_within 19 = .ok (.iadd, 1) := by decide +kernel
theorem dX2_within_20 : decode cX2_within 20 = .ok (.iconst 1, 1) := by decide +kernel
theorem dX2_within_21 : decode cX2_within 21 = .ok (.isub, 1) := by decide +kernel
theorem dX2_within_22 : decode cX2_within 22 = .ok (.iload_n 1, 1) := by decide +kernel
theorem dX2_within_23 : decode cX2_within 23 = .ok (.iload_n 2, 1) := by decide +kernel
theorem dX2_within_24 : decode cX2_within 24 = .ok (.iadd, 1) := by decide +kernel
theorem dX2_within_25 : decode cX2_within 25 = .ok (.invokestatic 36, 3) := by decide +kernel
theorem dX2_within_28 : decode cX2_within 28 = .ok (.istore 5, 2) := by decide +kernel
theorem dX2_within_30 : decode cX2_within 30 = .ok (.iconst 0, 1) := by decide +kernel
theorem dX2_within_31 : decode cX2_within 31 = .ok (.istore 6, 2) := by decide +kernel
theorem dX2_within_33 : decode cX2_within 33 = .ok (.iload 4, 2) := by decide +kernel
theorem dX2_within_35 : decode cX2_within 35 = .ok (.istore 7, 2) := by decide +kernel
theorem dX2_within_37 : decode cX2_within 37 = .ok (.iload 7, 2) := by decide +kernel
theorem dX2_within_39 : decode cX2_within 39 = .ok (.iload 5, 2) := by decide +kernel
theorem dX2_within_41 : decode cX2_within 41 = .ok (.if_icmp .gt 20, 3) := by decide +kernel
theorem dX2_within_44 : decode cX2_within 44 = .ok (.iload 6, 2) := by decide +kernel
theorem dX2_within_46 : decode cX2_within 46 = .ok (.aload_n 0, 1) := by decide +kernel
theorem dX2_within_47 : decode cX2_within 47 = .ok (.iload 7, 2) := by decide +kernel
theorem dX2_within_49 : decode cX2_within 49 = .ok (.invokevirtual 39, 3) := by decide +kernel
theorem dX2_within_52 : decode cX2_within 52 = .ok (.iadd, 1) := by decide +kernel
theorem dX2_within_53 : decode cX2_within 53 = .ok (.istore 6, 2) := by decide +kernel
theorem dX2_within_55 : decode cX2_within 55 = .ok (.iinc 7 1, 3) := by decide +kernel
theorem dX2_within_58 : decode cX2_within 58 = .ok (.goto (-21), 3) := by decide +kernel
theorem dX2_within_61 : decode cX2_within 61 = .ok (.iload 6, 2) := by decide +kernel
theorem dX2_within_63 : decode cX2_within 63 = .ok (.ireturn, 1) := by decide +kernel
theorem dX2_leastColumn_0 : decode cX2_leastColumn 0 = .ok (.iconst 0, 1) := by decide +kernel
theorem dX2_leastColumn_1 : decode cX2_leastColumn 1 = .ok (.istore_n 2, 1) := by decide +kernel
theorem dX2_leastColumn_2 : decode cX2_leastColumn 2 = .ok (.iload_n 2, 1) := by decide +kernel
theorem dX2_leastColumn_3 : decode cX2_leastColumn 3 = .ok (.bipush 7, 2) := by decide +kernel
theorem dX2_leastColumn_5 : decode cX2_leastColumn 5 = .ok (.if_icmp .ge 22, 3) := by decide +kernel
theorem dX2_leastColumn_8 : decode cX2_leastColumn 8 = .ok (.aload_n 0, 1) := by decide +kernel
theorem dX2_leastColumn_9 : decode cX2_leastColumn 9 = .ok (.iload_n 1, 1) := by decide +kernel
theorem dX2_leastColumn_10 : decode cX2_leastColumn 10 = .ok (.bipush 8, 2) := by decide +kernel
theorem dX2_leastColumn_12 : decode cX2_leastColumn 12 = .ok (.imul, 1) := by decide +kernel
theorem dX2_leastColumn_13 : decode cX2_leastColumn 13 = .ok (.iload_n 2, 1) := by decide +kernel
theorem dX2_leastColumn_14 : decode cX2_leastColumn 14 = .ok (.iadd, 1) := by decide +kernel
theorem dX2_leastColumn_15 : decode cX2_leastColumn 15 = .ok (.invokevirtual 39, 3) := by decide +kernel
theorem dX2_leastColumn_18 : decode cX2_leastColumn 18 = .ok (.ifCond .ne 9, 3) := by decide +kernel
theorem dX2_leastColumn_21 : decode cX2_leastColumn 21 = .ok (.iinc 2 1, 3) := by decide +kernel
theorem dX2_leastColumn_24 : decode cX2_leastColumn 24 = .ok (.goto (-22), 3) := by decide +kernel
theorem dX2_leastColumn_27 : decode cX2_leastColumn 27 = .ok (.iload_n 2, 1) := by decide +kernel
theorem dX2_leastColumn_28 : decode cX2_leastColumn 28 = .ok (.ireturn, 1) := by decide +kernel
theorem dX2_greatestColumn_0 : decode cX2_greatestColumn 0 = .ok (.bipush 7, 2) := by decide +kernel
theorem dX2_greatestColumn_2 : decode cX2_greatestColumn 2 = .ok (.istore_n 2, 1) := by decide +kernel
theorem dX2_greatestColumn_3 : decode cX2_greatestColumn 3 = .ok (.iload_n 2, 1) := by decide +kernel
theorem dX2_greatestColumn_4 : decode cX2_greatestColumn 4 = .ok (.ifCond .le 22, 3) := by decide +kernel
theorem dX2_greatestColumn_7 : decode cX2_greatestColumn 7 = .ok (.aload_n 0, 1) := by decide +kernel
theorem dX2_greatestColumn_8 : decode cX2_greatestColumn 8 = .ok (.iload_n 1, 1) := by decide +kernel
theorem dX2_greatestColumn_9 : decode cX2_greatestColumn 9 = .ok (.bipush 8, 2) := by decide +kernel
theorem dX2_greatestColumn_11 : decode cX2_greatestColumn 11 = .ok (.imul, 1) := by decide +kernel
theorem dX2_greatestColumn_12 : decode cX2_greatestColumn 12 = .ok (.iload_n 2, 1) := by decide +kernel
theorem dX2_greatestColumn_13 : decode cX2_greatestColumn 13 = .ok (.iadd, 1) := by decide +kernel
theorem dX2_greatestColumn_14 : decode cX2_greatestColumn 14 = .ok (.invokevirtual 39, 3) := by decide +kernel
theorem dX2_greatestColumn_17 : decode cX2_greatestColumn 17 = .ok (.ifCond .ne 9, 3) := by decide +kernel
theorem dX2_greatestColumn_20 : decode cX2_greatestColumn 20 = .ok (.iinc 2 (-1), 3) := by decide +kernel
theorem dX2_greatestColumn_23 : decode cX2_greatestColumn 23 = .ok (.goto (-20), 3) := by decide +kernel
theorem dX2_greatestColumn_26 : decode cX2_greatestColumn 26 = .ok (.iload_n 2, 1) := by decide +kernel
theorem dX2_greatestColumn_27 : decode cX2_greatestColumn 27 = .ok (.ireturn, 1) := by decide +kernel
theorem dX2_mostOpenRow_0 : decode cX2_mostOpenRow 0 = .ok (.aload_n 0, 1) := by decide +kernel
theorem dX2_mostOpenRow_1 : decode cX2_mostOpenRow 1 = .ok (.getfield 26, 3) := by decide +kernel
theorem dX2_mostOpenRow_4 : decode cX2_mostOpenRow 4 = .ok (.iconst 1, 1) := by decide +kernel
theorem dX2_mostOpenRow_5 : decode cX2_mostOpenRow 5 = .ok (.if_icmp .gt 6, 3) := by decide +kernel
theorem dX2_mostOpenRow_8 : decode cX2_mostOpenRow 8 = .ok (.bipush (-5), 2) := by decide +kernel
theorem dX2_mostOpenRow_10 : decode cX2_mostOpenRow 10 = .ok (.ireturn, 1) := by decide +kernel
theorem dX2_mostOpenRow_11 : decode cX2_mostOpenRow 11 = .ok (.iconst 0, 1) := by decide +kernel
theorem dX2_mostOpenRow_12 : decode cX2_mostOpenRow 12 = .ok (.istore_n 1, 1) := by decide +kernel
theorem dX2_mostOpenRow_13 : decode cX2_mostOpenRow 13 = .ok (.iconst 1, 1) := by decide +kernel
theorem dX2_mostOpenRow_14 : decode cX2_mostOpenRow 14 = .ok (.istore_n 2, 1) := by decide +kernel
theorem dX2_mostOpenRow_15 : decode cX2_mostOpenRow 15 = .ok (.iload_n 2, 1) := by decide +kernel
theorem dX2_mostOpenRow_16 : decode cX2_mostOpenRow 16 = .ok (.bipush 8, 2) := by decide +kernel
theorem dX2_mostOpenRow_18 : decode cX2_mostOpenRow 18 = .ok (.if_icmp .ge 24, 3) := by decide +kernel
theorem dX2_mostOpenRow_21 : decode cX2_mostOpenRow 21 = .ok (.aload_n 0, 1) := by decide +kernel
theorem dX2_mostOpenRow_22 : decode cX2_mostOpenRow 22 = .ok (.iload_n 2, 1) := by decide +kernel
theorem dX2_mostOpenRow_23 : decode cX2_mostOpenRow 23 = .ok (.invokevirtual 43, 3) := by decide +kernel
theorem dX2_mostOpenRow_26 : decode cX2_mostOpenRow 26 = .ok (.aload_n 0, 1) := by decide +kernel
theorem dX2_mostOpenRow_27 : decode cX2_mostOpenRow 27 = .ok (.iload_n 1, 1) := by decide +kernel
theorem dX2_mostOpenRow_28 : decode cX2_mostOpenRow 28 = .ok (.invokevirtual 43, 3) := by decide +kernel
theorem dX2_mostOpenRow_31 : decode cX2_mostOpenRow 31 = .ok (.if_icmp .le 5, 3) := by decide +kernel
theorem dX2_mostOpenRow_34 : decode cX2_mostOpenRow 34 = .ok (.iload_n 2, 1) := by decide +kernel
theorem dX2_mostOpenRow_35 : decode cX2_mostOpenRow 35 = .ok (.istore_n 1, 1) := by decide +kernel
theorem dX2_mostOpenRow_36 : decode cX2_mostOpenRow 36 = .ok (.iinc 2 1, 3) := by decide +kernel
theorem dX2_mostOpenRow_39 : decode cX2_mostOpenRow 39 = .ok (.goto (-24), 3) := by decide +kernel
theorem dX2_mostOpenRow_42 : decode cX2_mostOpenRow 42 = .ok (.iload_n 1, 1) := by decide +kernel
theorem dX2_mostOpenRow_43 : decode cX2_mostOpenRow 43 = .ok (.ireturn, 1) := by decide +kernel
theorem dX2_openColumns_0 : decode cX2_openColumns 0 = .ok (.iconst 0, 1) := by decide +kernel
theorem dX2_openColumns_1 : decode cX2_openColumns 1 = .ok (.istore_n 2, 1) := by decide +kernel
theorem dX2_openColumns_2 : decode cX2_openColumns 2 = .ok (.iconst 0, 1) := by decide +kernel
theorem dX2_openColumns_3 : decode cX2_openColumns 3 = .ok (.istore_n 3, 1) := by decide +kernel
theorem dX2_openColumns_4 : decode cX2_openColumns 4 = .ok (.iload_n 3, 1) := by decide +kernel
theorem dX2_openColumns_5 : decode cX2_openColumns 5 = .ok (.bipush 8, 2) := by decide +kernel
theorem dX2_openColumns_7 : decode cX2_openColumns 7 = .ok (.if_icmp .ge 25, 3) := by decide +kernel
theorem dX2_openColumns_10 : decode cX2_openColumns 10 = .ok (.aload_n 0, 1) := by decide +kernel
theorem dX2_openColumns_11 : decode cX2_openColumns 11 = .ok (.iload_n 1, 1) := by decide +kernel
theorem dX2_openColumns_12 : decode cX2_openColumns 12 = .ok (.bipush 8, 2) := by decide +kernel
theorem dX2_openColumns_14 : decode cX2_openColumns 14 = .ok (.imul, 1) := by decide +kernel
theorem dX2_openColumns_15 : decode cX2_openColumns 15 = .ok (.iload_n 3, 1) := by decide +kernel
theorem dX2_openColumns_16 : decode cX2_openColumns 16 = .ok (.iadd, 1) := by decide +kernel
theorem dX2_openColumns_17 : decode cX2_openColumns 17 = .ok (.invokevirtual 39, 3) := by decide +kernel
theorem dX2_openColumns_20 : decode cX2_openColumns 20 = .ok (.ifCond .le 6, 3) := by decide +kernel
theorem dX2_openColumns_23 : decode cX2_openColumns 23 = .ok (.iinc 2 1, 3) := by decide +kernel
theorem dX2_openColumns_26 : decode cX2_openColumns 26 = .ok (.iinc 3 1, 3) := by decide +kernel
theorem dX2_openColumns_29 : decode cX2_openColumns 29 = .ok (.goto (-25), 3) := by decide +kernel
theorem dX2_openColumns_32 : decode cX2_openColumns 32 = .ok (.iload_n 2, 1) := by decide +kernel
theorem dX2_openColumns_33 : decode cX2_openColumns 33 = .ok (.ireturn, 1) := by decide +kernel
theorem dX3_init_0 : decode cX3_init 0 = .ok (.aload_n 0, 1) := by decide +kernel
theorem dX3_init_1 : decode cX3_init 1 = .ok (.invokespecial 3, 3) := by decide +kernel
theorem dX3_init_4 : decode cX3_init 4 = .ok (.aload_n 0, 1) := by decide +kernel
theorem dX3_init_5 : decode cX3_init 5 = .ok (.bipush 64, 2) := by decide +kernel
theorem dX3_init_7 : decode cX3_init 7 = .ok (.newarray .int, 2) := by decide +kernel
theorem dX3_init_9 : decode cX3_init 9 = .ok (.putfield 9, 3) := by decide +kernel
theorem dX3_init_12 : decode cX3_init 12 = .ok (.aload_n 0, 1) := by decide +kernel
theorem dX3_init_13 : decode cX3_init 13 = .ok (.bipush 64, 2) := by decide +kernel
theorem dX3_init_15 : decode cX3_init 15 = .ok (.newarray .boolean, 2) := by decide +kernel
theorem dX3_init_17 : decode cX3_init 17 = .ok (.putfield 15, 3) := by decide +kernel
theorem dX3_init_20 : decode cX3_init 20 = .ok (.aload_n 0, 1) := by decide +kernel
theorem dX3_init_21 : decode cX3_init 21 = .ok (.iconst 3, 1) := by decide +kernel
theorem dX3_init_22 : decode cX3_init 22 = .ok (.newarray .int, 2) := by decide +kernel
theorem dX3_init_24 : decode cX3_init 24 = .ok (.putfield 19, 3) := by decide +kernel
theorem dX3_init_27 : decode cX3_init 27 = .ok (.aload_n 0, 1) := by decide +kernel
theorem dX3_init_28 : decode cX3_init 28 = .ok (.iconst 3, 1) := by decide +kernel
theorem dX3_init_29 : decode cX3_init 29 = .ok (.newarray .int, 2) := by decide +kernel
theorem dX3_init_31 : decode cX3_init 31 = .ok (.putfield 22, 3) := by decide +kernel
theorem dX3_init_34 : decode cX3_init 34 = .ok (.aload_n 0, 1) := by decide +kernel
theorem dX3_init_35 : decode cX3_init 35 = .ok (.iconst 3, 1) := by decide +kernel
theorem dX3_init_36 : decode cX3_init 36 = .ok (.newarray .int, 2) := by decide +kernel
theorem dX3_init_38 : decode cX3_init 38 = .ok (.putfield 25, 3) := by decide +kernel
theorem dX3_init_41 : decode cX3_init 41 = .ok (.aload_n 0, 1) := by decide +kernel
theorem dX3_init_42 : decode cX3_init 42 = .ok (.iconst 3, 1) := by decide +kernel
theorem dX3_init_43 : decode cX3_init 43 = .ok (.newarray .int, 2) := by decide +kernel
theorem dX3_init_45 : decode cX3_init 45 = .ok (.putfield 28, 3) := by decide +kernel
theorem dX3_init_48 : decode cX3_init 48 = .ok (.aload_n 0, 1) := by decide +kernel
theorem dX3_init_49 : decode cX3_init 49 = .ok (.bipush 8, 2) := by decide +kernel
theorem dX3_init_51 : decode cX3_init 51 = .ok (.newarray .int, 2) := by decide +kernel
theorem dX3_init_53 : decode cX3_init 53 = .ok (.putfield 31, 3) := by decide +kernel
theorem dX3_init_56 : decode cX3_init 56 = .ok (.aload_n 0, 1) := by decide +kernel
theorem dX3_init_57 : decode cX3_init 57 = .ok (.iconst 3, 1) := by decide +kernel
theorem dX3_init_58 : decode cX3_init 58 = .ok (.newarray .int, 2) := by decide +kernel
theorem dX3_init_60 : decode cX3_init 60 = .ok (.putfield 34, 3) := by decide +kernel
theorem dX3_init_63 : decode cX3_init 63 = .ok (.iconst 0, 1) := by decide +kernel
theorem dX3_init_64 : decode cX3_init 64 = .ok (.istore_n 1, 1) := by decide +kernel
theorem dX3_init_65 : decode cX3_init 65 = .ok (.iload_n 1, 1) := by decide +kernel
theorem dX3_init_66 : decode cX3_init 66 = .ok (.iconst 3, 1) := by decide +kernel
theorem dX3_init_67 : decode cX3_init 67 = .ok (.if_icmp .ge 20, 3) := by decide +kernel
theorem dX3_init_70 : decode cX3_init 70 = .ok (.aload_n 0, 1) := by decide +kernel
theorem dX3_init_71 : decode cX3_init 71 = .ok (.getfield 34, 3) := by decide +kernel
theorem dX3_init_74 : decode cX3_init 74 = .ok (.iload_n 1, 1) := by decide +kernel
theorem dX3_init_75 : decode cX3_init 75 = .ok (.getstatic 37, 3) := by decide +kernel
theorem dX3_init_78 : decode cX3_init 78 = .ok (.iload_n 1, 1) := by decide +kernel
theorem dX3_init_79 : decode cX3_init 79 = .ok (.iaload, 1) := by decide +kernel
theorem dX3_init_80 : decode cX3_init 80 = .ok (.iastore, 1) := by decide +kernel
theorem dX3_init_81 : decode cX3_init 81 = .ok (.iinc 1 1, 3) := by decide +kernel
theorem dX3_init_84 : decode cX3_init 84 = .ok (.goto (-19), 3) := by decide +kernel
theorem dX3_init_87 : decode cX3_init 87 = .ok (.iconst 0, 1) := by decide +kernel
theorem dX3_init_88 : decode cX3_init 88 = .ok (.istore_n 1, 1) := by decide +kernel
theorem dX3_init_89 : decode cX3_init 89 = .ok (.iload_n 1, 1) := by decide +kernel
theorem dX3_init_90 : decode cX3_init 90 = .ok (.iconst 3, 1) := by decide +kernel
theorem dX3_init_91 : decode cX3_init 91 = .ok (.if_icmp .ge 28, 3) := by decide +kernel
theorem dX3_init_94 : decode cX3_init 94 = .ok (.aload_n 0, 1) := by decide +kernel
theorem dX3_init_95 : decode cX3_init 95 = .ok (.getfield 19, 3) := by decide +kernel
theorem dX3_init_98 : decode cX3_init 98 = .ok (.iload_n 1, 1) := by decide +kernel
theorem dX3_init_99 : decode cX3_init 99 = .ok (.iload_n 1, 1) := by decide +kernel
theorem dX3_init_100 : decode cX3_init 100 = .ok (.iastore, 1) := by decide +kernel
theorem dX3_init_101 : decode cX3_init 101 = .ok (.aload_n 0, 1) := by decide +kernel
theorem dX3_init_102 : decode cX3_init 102 = .ok (.getfield 22, 3) := by decide +kernel
theorem dX3_init_105 : decode cX3_init 105 = .ok (.iload_n 1, 1) := by decide +kernel
theorem dX3_init_106 : decode cX3_init 106 = .ok (.aload_n 0, 1) := by decide +kernel
theorem dX3_init_107 : decode cX3_init 107 = .ok (.getfield 34, 3) := by decide +kernel
theorem dX3_init_110 : decode cX3_init 110 = .ok (.iconst 0, 1) := by decide +kernel
theorem dX3_init_111 : decode cX3_init 111 = .ok (.iaload, 1) := by decide +kernel
theorem dX3_init_112 : decode cX3_init 112 = .ok (.iastore, 1) := by decide +kernel
theorem dX3_init_113 : decode cX3_init 113 = .ok (.iinc 1 1, 3) := by decide +kernel
theorem dX3_init_116 : decode cX3_init 116 = .ok (.goto (-27), 3) := by decide +kernel
theorem dX3_init_119 : decode cX3_init 119 = .ok (.iconst 0, 1) := by decide +kernel
theorem dX3_init_120 : decode cX3_init 120 = .ok (.istore_n 1, 1) := by decide +kernel
theorem dX3_init_121 : decode cX3_init 121 = .ok (.iload_n 1, 1) := by decide +kernel
theorem dX3_init_122 : decode cX3_init 122 = .ok (.bipush 8, 2) := by decide +kernel
theorem dX3_init_124 : decode cX3_init 124 = .ok (.if_icmp .ge 17, 3) := by decide +kernel
theorem dX3_init_127 : decode cX3_init 127 = .ok (.aload_n 0, 1) := by decide +kernel
theorem dX3_init_128 : decode cX3_init 128 = .ok (.getfield 31, 3) := by decide +kernel
theorem dX3_init_131 : decode cX3_init 131 = .ok (.iload_n 1, 1) := by decide +kernel
theorem dX3_init_132 : decode cX3_init 132 = .ok (.bipush (-5), 2) := by decide +kernel
theorem dX3_init_134 : decode cX3_init 134 = .ok (.iastore, 1) := by decide +kernel
theorem dX3_init_135 : decode cX3_init 135 = .ok (.iinc 1 1, 3) := by decide +kernel
theorem dX3_init_138 : decode cX3_init 138 = .ok (.goto (-17), 3) := by decide +kernel
theorem dX3_init_141 : decode cX3_init 141 = .ok (.return_, 1) := by decide +kernel
theorem dX3_copyFrom_0 : decode cX3_copyFrom 0 = .ok (.aload_n 1, 1) := by decide +kernel
theorem dX3_copyFrom_1 : decode cX3_copyFrom 1 = .ok (.getfield 9, 3) := by decide +kernel
theorem dX3_copyFrom_4 : decode cX3_copyFrom 4 = .ok (.iconst 0, 1) := by decide +kernel
theorem dX3_copyFrom_5 : decode cX3_copyFrom 5 = .ok (.aload_n 0, 1) := by decide +kernel
theorem dX3_copyFrom_6 : decode cX3_copyFrom 6 = .ok (.getfield 9, 3) := by decide +kernel
theorem dX3_copyFrom_9 : decode cX3_copyFrom 9 = .ok (.iconst 0, 1) := by decide +kernel
theorem dX3_copyFrom_10 : decode cX3_copyFrom 10 = .ok (.bipush 64, 2) := by decide +kernel
theorem dX3_copyFrom_12 : decode cX3_copyFrom 12 = .ok (.invokestatic 40, 3) := by decide +kernel
theorem dX3_copyFrom_15 : decode cX3_copyFrom 15 = .ok (.aload_n 1, 1) := by decide +kernel
theorem dX3_copyFrom_16 : decode cX3_copyFrom 16 = .ok (.getfield 15, 3) := by decide +kernel
theorem dX3_copyFrom_19 : decode cX3_copyFrom 19 = .ok (.iconst 0, 1) := by decide +kernel
theorem dX3_copyFrom_20 : decode cX3_copyFrom 20 = .ok (.aload_n 0, 1) := by decide +kernel
theorem dX3_copyFrom_21 : decode cX3_copyFrom 21 = .ok (.getfield 15, 3) := by decide +kernel
theorem dX3_copyFrom_24 : decode cX3_copyFrom 24 = .ok (.iconst 0, 1) := by decide +kernel
theorem dX3_copyFrom_25 : decode cX3_copyFrom 25 = .ok (.bipush 64, 2) := by decide +kernel
theorem dX3_copyFrom_27 : decode cX3_copyFrom 27 = .ok (.invokestatic 40, 3) := by decide +kernel
theorem dX3_copyFrom_30 : decode cX3_copyFrom 30 = .ok (.aload_n 0, 1) := by decide +kernel
theorem dX3_copyFrom_31 : decode cX3_copyFrom 31 = .ok (.aload_n 1, 1) := by decide +kernel
theorem dX3_copyFrom_32 : decode cX3_copyFrom 32 = .ok (.getfield 46, 3) := by decide +kernel
theorem dX3_copyFrom_35 : decode cX3_copyFrom 35 = .ok (.putfield 46, 3) := by decide +kernel
theorem dX3_copyFrom_38 : decode cX3_copyFrom 38 = .ok (.aload_n 1, 1) := by decide +kernel
theorem dX3_copyFrom_39 : decode cX3_copyFrom 39 = .ok (.getfield 19, 3) := by decide +kernel
theorem dX3_copyFrom_42 : decode cX3_copyFrom 42 = .ok (.iconst 0, 1) := by decide +kernel
theorem dX3_copyFrom_43 : decode cX3_copyFrom 43 = .ok (.aload_n 0, 1) := by decide +kernel
theorem dX3_copyFrom_44 : decode cX3_copyFrom 44 = .ok (.getfield 19, 3) := by decide +kernel
theorem dX3_copyFrom_47 : decode cX3_copyFrom 47 = .ok (.iconst 0, 1) := by decide +kernel
theorem dX3_copyFrom_48 : decode cX3_copyFrom 48 = .ok (.iconst 3, 1) := by decide +kernel
theorem dX3_copyFrom_49 : decode cX3_copyFrom 49 = .ok (.invokestatic 40, 3) := by decide +kernel
theorem dX3_copyFrom_52 : decode cX3_copyFrom 52 = .ok (.aload_n 1, 1) := by decide +kernel
theorem dX3_copyFrom_53 : decode cX3_copyFrom 53 = .ok (.getfield 22, 3) := by decide +kernel
theorem dX3_copyFrom_56 : decode cX3_copyFrom 56 = .ok (.iconst 0, 1) := by decide +kernel
theorem dX3_copyFrom_57 : decode cX3_copyFrom 57 = .ok (.aload_n 0, 1) := by decide +kernel
theorem dX3_copyFrom_58 : decode cX3_copyFrom 58 = .ok (.getfield 22, 3) := by decide +kernel
theorem dX3_copyFrom_61 : decode cX3_copyFrom 61 = .ok (.iconst 0, 1) := by decide +kernel
theorem dX3_copyFrom_62 : decode cX3_copyFrom 62 = .ok (.iconst 3, 1) := by decide +kernel
theorem dX3_copyFrom_63 : decode cX3_copyFrom 63 = .ok (.invokestatic 40, 3) := by decide +kernel
theorem dX3_copyFrom_66 : decode cX3_copyFrom 66 = .ok (.aload_n 1, 1) := by decide +kernel
theorem dX3_copyFrom_67 : decode cX3_copyFrom 67 = .ok (.getfield 25, 3) := by decide +kernel
theorem dX3_copyFrom_70 : decode cX3_copyFrom 70 = .ok (.iconst 0, 1) := by decide +kernel
theorem dX3_copyFrom_71 : decode cX3_copyFrom 71 = .ok (.aload_n 0, 1) := by decide +kernel
theorem dX3_copyFrom_72 : decode cX3_copyFrom 72 = .ok (.getfield 25, 3) := by decide +kernel
theorem dX3_copyFrom_75 : decode cX3_copyFrom 75 = .ok (.iconst 0, 1) := by decide +kernel
theorem dX3_copyFrom_76 : decode cX3_copyFrom 76 = .ok (.iconst 3, 1) := by decide +kernel
theorem dX3_copyFrom_77 : decode cX3_copyFrom 77 = .ok (.invokestatic 40, 3) := by decide +kernel
theorem dX3_copyFrom_80 : decode cX3_copyFrom 80 = .ok (.aload_n 1, 1) := by decide +kernel
theorem dX3_copyFrom_81 : decode cX3_copyFrom 81 = .ok (.getfield 28, 3) := by decide +kernel
theorem dX3_copyFrom_84 : decode cX3_copyFrom 84 = .ok (.iconst 0, 1) := by decide +kernel
theorem dX3_copyFrom_85 : decode cX3_copyFrom 85 = .ok (.aload_n 0, 1) := by decide +kernel
theorem dX3_copyFrom_86 : decode cX3_copyFrom 86 = .ok (.getfield 28, 3) := by decide +kernel
theorem dX3_copyFrom_89 : decode cX3_copyFrom 89 = .ok (.iconst 0, 1) := by decide +kernel
theorem dX3_copyFrom_90 : decode cX3_copyFrom 90 = .ok (.iconst 3, 1) := by decide +kernel
theorem dX3_copyFrom_91 : decode cX3_copyFrom 91 = .ok (.invokestatic 40, 3) := by decide +kernel
theorem dX3_copyFrom_94 : decode cX3_copyFrom 94 = .ok (.aload_n 1, 1) := by decide +kernel
theorem dX3_copyFrom_95 : decode cX3_copyFrom 95 = .ok (.getfield 31, 3) := by decide +kernel
theorem dX3_copyFrom_98 : decode cX3_copyFrom 98 = .ok (.iconst 0, 1) := by decide +kernel
theorem dX3_copyFrom_99 : decode cX3_copyFrom 99 = .ok (.aload_n 0, 1) := by decide +kernel
theorem dX3_copyFrom_100 : decode cX3_copyFrom 100 = .ok (.getfield 31, 3) := by decide +kernel
theorem dX3_copyFrom_103 : decode cX3_copyFrom 103 = .ok (.iconst 0, 1) := by decide +kernel
theorem dX3_copyFrom_104 : decode cX3_copyFrom 104 = .ok (.bipush 8, 2) := by decide +kernel
theorem dX3_copyFrom_106 : decode cX3_copyFrom 106 = .ok (.invokestatic 40, 3) := by decide +kernel
theorem dX3_copyFrom_109 : decode cX3_copyFrom 109 = .ok (.aload_n 1, 1) := by decide +kernel
theorem dX3_copyFrom_110 : decode cX3_copyFrom 110 = .ok (.getfield 34, 3) := by decide +kernel
theorem dX3_copyFrom_113 : decode cX3_copyFrom 113 = .ok (.iconst 0, 1) := by decide +kernel
theorem dX3_copyFrom_114 : decode cX3_copyFrom 114 = .ok (.aload_n 0, 1) := by decide +kernel
theorem dX3_copyFrom_115 : decode cX3_copyFrom 115 = .ok (.getfield 34, 3) := by decide +kernel
theorem dX3_copyFrom_118 : decode cX3_copyFrom 118 = .ok (.iconst 0, 1) := by decide +kernel
theorem dX3_copyFrom_119 : decode cX3_copyFrom 119 = .ok (.iconst 3, 1) := by decide +kernel
theorem dX3_copyFrom_120 : decode cX3_copyFrom 120 = .ok (.invokestatic 40, 3) := by decide +kernel
theorem dX3_copyFrom_123 : decode cX3_copyFrom 123 = .ok (.aload_n 0, 1) := by decide +kernel
theorem dX3_copyFrom_124 : decode cX3_copyFrom 124 = .ok (.aload_n 1, 1) := by decide +kernel
theorem dX3_copyFrom_125 : decode cX3_copyFrom 125 = .ok (.getfield 50, 3) := by decide +kernel
theorem dX3_copyFrom_128 : decode cX3_copyFrom 128 = .ok (.putfield 50, 3) := by decide +kernel
theorem dX3_copyFrom_131 : decode cX3_copyFrom 131 = .ok (.aload_n 0, 1) := by decide +kernel
theorem dX3_copyFrom_132 : decode cX3_copyFrom 132 = .ok (.aload_n 1, 1) := by decide +kernel
theorem dX3_copyFrom_133 : decode cX3_copyFrom 133 = .ok (.getfield 53, 3) := by decide +kernel
theorem dX3_copyFrom_136 : decode cX3_copyFrom 136 = .ok (.putfield 53, 3) := by decide +kernel
theorem dX3_copyFrom_139 : decode cX3_copyFrom 139 = .ok (.aload_n 0, 1) := by decide +kernel
theorem dX3_copyFrom_140 : decode cX3_copyFrom 140 = .ok (.aload_n 1, 1) := by decide +kernel
theorem dX3_copyFrom_141 : decode cX3_copyFrom 141 = .ok (.getfield 56, 3) := by decide +kernel
theorem dX3_copyFrom_144 : decode cX3_copyFrom 144 = .ok (.putfield 56, 3) := by decide +kernel
theorem dX3_copyFrom_147 : decode cX3_copyFrom 147 = .ok (.aload_n 0, 1) := by decide +kernel
theorem dX3_copyFrom_148 : decode cX3_copyFrom 148 = .ok (.aload_n 1, 1) := by decide +kernel
theorem dX3_copyFrom_149 : decode cX3_copyFrom 149 = .ok (.getfield 59, 3) := by decide +kernel
theorem dX3_copyFrom_152 : decode cX3_copyFrom 152 = .ok (.putfield 59, 3) := by decide +kernel
theorem dX3_copyFrom_155 : decode cX3_copyFrom 155 = .ok (.return_, 1) := by decide +kernel
theorem dX3_plant_0 : decode cX3_plant 0 = .ok (.iload_n 1, 1) := by decide +kernel
theorem dX3_plant_1 : decode cX3_plant 1 = .ok (.iconst 0, 1) := by decide +kernel
theorem dX3_plant_2 : decode cX3_plant 2 = .ok (.bipush 63, 2) := by decide +kernel
theorem dX3_plant_4 : decode cX3_plant 4 = .ok (.invokestatic 62, 3) := by decide +kernel
theorem dX3_plant_7 : decode cX3_plant 7 = .ok (.ifCond .ne 5, 3) := by decide +kernel
theorem dX3_plant_10 : decode cX3_plant 10 = .ok (.iconst (-1), 1) := by decide +kernel
theorem dX3_plant_11 : decode cX3_plant 11 = .ok (.ireturn, 1) := by decide +kernel
theorem dX3_plant_12 : decode cX3_plant 12 = .ok (.iload_n 2, 1) := by decide +kernel
theorem dX3_plant_13 : decode cX3_plant 13 = .ok (.iconst 0, 1) := by decide +kernel
theorem dX3_plant_14 : decode cX3_plant 14 = .ok (.bipush 99, 2) := by decide +kernel
theorem dX3_plant_16 : decode cX3_plant 16 = .ok (.invokestatic 62, 3) := by decide +kernel
theorem dX3_plant_19 : decode cX3_plant 19 = .ok (.ifCond .ne 6, 3) := by decide +kernel
theorem dX3_plant_22 : decode cX3_plant 22 = .ok (.bipush (-2), 2) := by decide +kernel
theorem dX3_plant_24 : decode cX3_plant 24 = .ok (.ireturn, 1) := by decide +kernel
theorem dX3_plant_25 : decode cX3_plant 25 = .ok (.aload_n 0, 1) := by decide +kernel
theorem dX3_plant_26 : decode cX3_plant 26 = .ok (.getfield 9, 3) := by decide +kernel
theorem dX3_plant_29 : decode cX3_plant 29 = .ok (.iload_n 1, 1) := by decide +kernel
theorem dX3_plant_30 : decode cX3_plant 30 = .ok (.iaload, 1) := by decide +kernel
theorem dX3_plant_31 : decode cX3_plant 31 = .ok (.istore_n 3, 1) := by decide +kernel
theorem dX3_plant_32 : decode cX3_plant 32 = .ok (.iload_n 3, 1) := by decide +kernel
theorem dX3_plant_33 : decode cX3_plant 33 = .ok (.iload_n 2, 1) := by decide +kernel
theorem dX3_plant_34 : decode cX3_plant 34 = .ok (.if_icmp .ne 6, 3) := by decide +kernel
theorem dX3_plant_37 : decode cX3_plant 37 = .ok (.bipush (-5), 2) := by decide +kernel
theorem dX3_plant_39 : decode cX3_plant 39 = .ok (.ireturn, 1) := by decide +kernel
theorem dX3_plant_40 : decode cX3_plant 40 = .ok (.aload_n 0, 1) := by decide +kernel
theorem dX3_plant_41 : decode cX3_plant 41 = .ok (.getfield 9, 3) := by decide +kernel
theorem dX3_plant_44 : decode cX3_plant 44 = .ok (.iload_n 1, 1) := by decide +kernel
theorem dX3_plant_45 : decode cX3_plant 45 = .ok (.iload_n 2, 1) := by decide +kernel
theorem dX3_plant_46 : decode cX3_plant 46 = .ok (.iastore, 1) := by decide +kernel
theorem dX3_plant_47 : decode cX3_plant 47 = .ok (.iload_n 3, 1) := by decide +kernel
theorem dX3_plant_48 : decode cX3_plant 48 = .ok (.ireturn, 1) := by decide +kernel
theorem dX3_getWet_0 : decode cX3_getWet 0 = .ok (.iload_n 1, 1) := by decide +kernel
theorem dX3_getWet_1 : decode cX3_getWet 1 = .ok (.iconst 1, 1) := by decide +kernel
theorem dX3_getWet_2 : decode cX3_getWet 2 = .ok (.bipush 9, 2) := by decide +kernel
theorem dX3_getWet_4 : decode cX3_getWet 4 = .ok (.invokestatic 62, 3) := by decide +kernel
theorem dX3_getWet_7 : decode cX3_getWet 7 = .ok (.ifCond .ne 6, 3) := by decide +kernel
theorem dX3_getWet_10 : decode cX3_getWet 10 = .ok (.bipush (-2), 2) := by decide +kernel
theorem dX3_getWet_12 : decode cX3_getWet 12 = .ok (.ireturn, 1) := by decide +kernel
theorem dX3_getWet_13 : decode cX3_getWet 13 = .ok (.aload_n 0, 1) := by decide +kernel
theorem dX3_getWet_14 : decode cX3_getWet 14 = .ok (.bipush 9, 2) := by decide +kernel
theorem dX3_getWet_16 : decode cX3_getWet 16 = .ok (.aload_n 0, 1) := by decide +kernel
theorem dX3_getWet_17 : decode cX3_getWet 17 = .ok (.getfield 46, 3) := by decide +kernel
theorem dX3_getWet_20 : decode cX3_getWet 20 = .ok (.iload_n 1, 1) := by decide +kernel
theorem dX3_getWet_21 : decode cX3_getWet 21 = .ok (.iadd, 1) := by decide +kernel
theorem dX3_getWet_22 : decode cX3_getWet 22 = .ok (.invokestatic 66, 3) := by decide +kernel
theorem dX3_getWet_25 : decode cX3_getWet 25 = .ok (.putfield 46, 3) := by decide +kernel
theorem dX3_getWet_28 : decode cX3_getWet 28 = .ok (.aload_n 0, 1) := by decide +kernel
theorem dX3_getWet_29 : decode cX3_getWet 29 = .ok (.getfield 46, 3) := by decide +kernel
theorem dX3_getWet_32 : decode cX3_getWet 32 = .ok (.bipush 9, 2) := by decide +kernel
theorem dX3_getWet_34 : decode cX3_getWet 34 = .ok (.if_icmp .ne 8, 3) := by decide +kernel
theorem dX3_getWet_37 : decode cX3_getWet 37 = .ok (.bipush 64, 2) := by decide +kernel
theorem dX3_getWet_39 : decode cX3_getWet 39 = .ok (.goto 4, 3) := by decide +kernel
theorem dX3_getWet_42 : decode cX3_getWet 42 = .ok (.iconst 0, 1) := by decide +kernel
theorem dX3_getWet_43 : decode cX3_getWet 43 = .ok (.ireturn, 1) := by decide +kernel
theorem dX3_passDays_0 : decode cX3_passDays 0 = .ok (.iload_n 1, 1) := by decide +kernel
theorem dX3_passDays_1 : decode cX3_passDays 1 = .ok (.iconst 1, 1) := by decide +kernel
theorem dX3_passDays_2 : decode cX3_passDays 2 = .ok (.bipush 99, 2) := by decide +kernel
theorem dX3_passDays_4 : decode cX3_passDays 4 = .ok (.invokestatic 62, 3) := by decide +kernel
theorem dX3_passDays_7 : decode cX3_passDays 7 = .ok (.ifCond .ne 6, 3) := by decide +kernel
theorem dX3_passDays_10 : decode cX3_passDays 10 = .ok (.bipush (-2), 2) := by decide +kernel
theorem dX3_passDays_12 : decode cX3_passDays 12 = .ok (.ireturn, 1) := by decide +kernel
theorem dX3_passDays_13 : decode cX3_passDays 13 = .ok (.aload_n 0, 1) := by decide +kernel
theorem dX3_passDays_14 : decode cX3_passDays 14 = .ok (.getfield 50, 3) := by decide +kernel
theorem dX3_passDays_17 : decode cX3_passDays 17 = .ok (.iload_n 1, 1) := by decide +kernel
theorem dX3_passDays_18 : decode cX3_passDays 18 = .ok (.iadd, 1) := by decide +kernel
theorem dX3_passDays_19 : decode cX3_passDays 19 = .ok (.sipush 9999, 3) := by decide +kernel
theorem dX3_passDays_22 : decode cX3_passDays 22 = .ok (.if_icmp .le 6, 3) := by decide +kernel
theorem dX3_passDays_25 : decode cX3_passDays 25 = .ok (.bipush (-3), 2) := by decide +kernel
theorem dX3_passDays_27 : decode cX3_passDays 27 = .ok (.ireturn, 1) := by decide +kernel
theorem dX3_passDays_28 : decode cX3_passDays 28 = .ok (.aload_n 0, 1) := by decide +kernel
theorem dX3_passDays_29 : decode cX3_passDays 29 = .ok (.dup, 1) := by decide +kernel
theorem dX3_passDays_30 : decode cX3_passDays 30 = .ok (.getfield 50, 3) := by decide +kernel
theorem dX3_passDays_33 : decode cX3_passDays 33 = .ok (.iload_n 1, 1) := by decide +kernel
theorem dX3_passDays_34 : decode cX3_passDays 34 = .ok (.iadd, 1) := by decide +kernel
theorem dX3_passDays_35 : decode cX3_passDays 35 = .ok (.putfield 50, 3) := by decide +kernel
theorem dX3_passDays_38 : decode cX3_passDays 38 = .ok (.aload_n 0, 1) := by decide +kernel
theorem dX3_passDays_39 : decode cX3_passDays 39 = .ok (.iconst 0, 1) := by decide +kernel
theorem dX3_passDays_40 : decode cX3_passDays 40 = .ok (.aload_n 0, 1) := by decide +kernel
theorem dX3_passDays_41 : decode cX3_passDays 41 = .ok (.getfield 46, 3) := by decide +kernel
theorem dX3_passDays_44 : decode cX3_passDays 44 = .ok (.iload_n 1, 1) := by decide +kernel
theorem dX3_passDays_45 : decode cX3_passDays 45 = .ok (.isub, 1) := by decide +kernel
theorem dX3_passDays_46 : decode cX3_passDays 46 = .ok (.invokestatic 72, 3) := by decide +kernel
theorem dX3_passDays_49 : decode cX3_passDays 49 = .ok (.putfield 46, 3) := by decide +kernel
theorem dX3_passDays_52 : decode cX3_passDays 52 = .ok (.iconst 0, 1) := by decide +kernel
theorem dX3_passDays_53 : decode cX3_passDays 53 = .ok (.istore_n 2, 1) := by decide +kernel
theorem dX3_passDays_54 : decode cX3_passDays 54 = .ok (.iload_n 2, 1) := by decide +kernel
theorem dX3_passDays_55 : decode cX3_passDays 55 = .ok (.iconst 3, 1) := by decide +kernel
theorem dX3_passDays_56 : decode cX3_passDays 56 = .ok (.if_icmp .ge 21, 3) := by decide +kernel
theorem dX3_passDays_59 : decode cX3_passDays 59 = .ok (.aload_n 0, 1) := by decide +kernel
theorem dX3_passDays_60 : decode cX3_passDays 60 = .ok (.getfield 22, 3) := by decide +kernel
theorem dX3_passDays_63 : decode cX3_passDays 63 = .ok (.iload_n 2, 1) := by decide +kernel
theorem dX3_passDays_64 : decode cX3_passDays 64 = .ok (.aload_n 0, 1) := by decide +kernel
theorem dX3_passDays_65 : decode cX3_passDays 65 = .ok (.getfield 34, 3) := by decide +kernel
theorem dX3_passDays_68 : decode cX3_passDays 68 = .ok (.iconst 0, 1) := by decide +kernel
theorem dX3_passDays_69 : decode cX3_passDays 69 = .ok (.iaload, 1) := by decide +kernel
theorem dX3_passDays_70 : decode cX3_passDays 70 = .ok (.iastore, 1) := by decide +kernel
theorem dX3_passDays_71 : decode cX3_passDays 71 = .ok (.iinc 2 1, 3) := by decide +kernel
theorem dX3_passDays_74 : decode cX3_passDays 74 = .ok (.goto (-20), 3) := by decide +kernel
theorem dX3_passDays_77 : decode cX3_passDays 77 = .ok (.aload_n 0, 1) := by decide +kernel
theorem dX3_passDays_78 : decode cX3_passDays 78 = .ok (.getfield 50, 3) := by decide +kernel
theorem dX3_passDays_81 : decode cX3_passDays 81 = .ok (.ireturn, 1) := by decide +kernel
theorem dX3_changeSetting_0 : decode cX3_changeSetting 0 = .ok (.iload_n 1, 1) := by decide +kernel
theorem dX3_changeSetting_1 : decode cX3_changeSetting 1 = .ok (.iconst 0, 1) := by decide +kernel
theorem dX3_changeSetting_2 : decode cX3_changeSetting 2 = .ok (.iconst 2, 1) := by decide +kernel
theorem dX3_changeSetting_3 : decode cX3_changeSetting 3 = .ok (.invokestatic 62, 3) := by decide +kernel
theorem dX3_changeSetting_6 : decode cX3_changeSetting 6 = .ok (.ifCond .ne 5, 3) := by decide +kernel
theorem dX3_changeSetting_9 : decode cX3_changeSetting 9 = .ok (.iconst (-1), 1) := by decide +kernel
theorem dX3_changeSetting_10 : decode cX3_changeSetting 10 = .ok (.ireturn, 1) := by decide +kernel
theorem dX3_changeSetting_11 : decode cX3_changeSetting 11 = .ok (.iload_n 2, 1) := by decide +kernel
theorem dX3_changeSetting_12 : decode cX3_changeSetting 12 = .ok (.getstatic 75, 3) := by decide +kernel
theorem dX3_changeSetting_15 : decode cX3_changeSetting 15 = .ok (.iload_n 1, 1) := by decide +kernel
theorem dX3_changeSetting_16 : decode cX3_changeSetting 16 = .ok (.iaload, 1) := by decide +kernel
theorem dX3_changeSetting_17 : decode cX3_changeSetting 17 = .ok (.getstatic 78, 3) := by decide +kernel
theorem dX3_changeSetting_20 : decode cX3_changeSetting 20 = .ok (.iload_n 1, 1) := by decide +kernel
theorem dX3_changeSetting_21 : decode cX3_changeSetting 21 = .ok (.iaload, 1) := by decide +kernel
theorem dX3_changeSetting_22 : decode cX3_changeSetting 22 = .ok (.invokestatic 62, 3) := by decide +kernel
theorem dX3_changeSetting_25 : decode cX3_changeSetting 25 = .ok (.ifCond .ne 6, 3) := by decide +kernel
theorem dX3_changeSetting_28 : decode cX3_changeSetting 28 = .ok (.bipush (-2), 2) := by decide +kernel
theorem dX3_changeSetting_30 : decode cX3_changeSetting 30 = .ok (.ireturn, 1) := by decide +kernel
theorem dX3_changeSetting_31 : decode cX3_changeSetting 31 = .ok (.aload_n 0, 1) := by decide +kernel
theorem dX3_changeSetting_32 : decode cX3_changeSetting 32 = .ok (.getfield 34, 3) := by decide +kernel
theorem dX3_changeSetting_35 : decode cX3_changeSetting 35 = .ok (.iload_n 1, 1) := by decide +kernel
theorem dX3_changeSetting_36 : decode cX3_changeSetting 36 = .ok (.iaload, 1) := by decide +kernel
theorem dX3_changeSetting_37 : decode cX3_changeSetting 37 = .ok (.istore_n 3, 1) := by decide +kernel
theorem dX3_changeSetting_38 : decode cX3_changeSetting 38 = .ok (.iload_n 3, 1) := by decide +kernel
theorem dX3_changeSetting_39 : decode cX3_changeSetting 39 = .ok (.iload_n 2, 1) := by decide +kernel
theorem dX3_changeSetting_40 : decode cX3_changeSetting 40 = .ok (.if_icmp .ne 6, 3) := by decide +kernel
theorem dX3_changeSetting_43 : decode cX3_changeSetting 43 = .ok (.bipush (-5), 2) := by decide +kernel
theorem dX3_changeSetting_45 : decode cX3_changeSetting 45 = .ok (.ireturn, 1) := by decide +kernel
theorem dX3_changeSetting_46 : decode cX3_changeSetting 46 = .ok (.aload_n 0, 1) := by decide +kernel
theorem dX3_changeSetting_47 : decode cX3_changeSetting 47 = .ok (.getfield 34, 3) := by decide +kernel
theorem dX3_changeSetting_50 : decode cX3_changeSetting 50 = .ok (.iload_n 1, 1) := by decide +kernel
theorem dX3_changeSetting_51 : decode cX3_changeSetting 51 = .ok (.iload_n 2, 1) := by decide +kernel
theorem dX3_changeSetting_52 : decode cX3_changeSetting 52 = .ok (.iastore, 1) := by decide +kernel
theorem dX3_changeSetting_53 : decode cX3_changeSetting 53 = .ok (.iload_n 3, 1) := by decide +kernel
theorem dX3_changeSetting_54 : decode cX3_changeSetting 54 = .ok (.ireturn, 1) := by decide +kernel
theorem dX3_sendCrew_0 : decode cX3_sendCrew 0 = .ok (.iload_n 1, 1) := by decide +kernel
theorem dX3_sendCrew_1 : decode cX3_sendCrew 1 = .ok (.iconst 0, 1) := by decide +kernel
theorem dX3_sendCrew_2 : decode cX3_sendCrew 2 = .ok (.iconst 2, 1) := by decide +kernel
theorem dX3_sendCrew_3 : decode cX3_sendCrew 3 = .ok (.invokestatic 62, 3) := by decide +kernel
theorem dX3_sendCrew_6 : decode cX3_sendCrew 6 = .ok (.ifCond .eq 13, 3) := by decide +kernel
theorem dX3_sendCrew_9 : decode cX3_sendCrew 9 = .ok (.iload_n 2, 1) := by decide +kernel
theorem dX3_sendCrew_10 : decode cX3_sendCrew 10 = .ok (.iconst 0, 1) := by decide +kernel
theorem dX3_sendCrew_11 : decode cX3_sendCrew 11 = .ok (.bipush 63, 2) := by decide +kernel
theorem dX3_sendCrew_13 : decode cX3_sendCrew 13 = .ok (.invokestatic 62, 3) := by decide +kernel
theorem dX3_sendCrew_16 : decode cX3_sendCrew 16 = .ok (.ifCond .ne 5, 3) := by decide +kernel
theorem dX3_sendCrew_19 : decode cX3_sendCrew 19 = .ok (.iconst (-1), 1) := by decide +kernel
theorem dX3_sendCrew_20 : decode cX3_sendCrew 20 = .ok (.ireturn, 1) := by decide +kernel
theorem dX3_sendCrew_21 : decode cX3_sendCrew 21 = .ok (.aload_n 0, 1) := by decide +kernel
theorem dX3_sendCrew_22 : decode cX3_sendCrew 22 = .ok (.iload_n 1, 1) := by decide +kernel
theorem dX3_sendCrew_23 : decode cX3_sendCrew 23 = .ok (.iload_n 2, 1) := by decide +kernel
theorem dX3_sendCrew_24 : decode cX3_sendCrew 24 = .ok (.invokevirtual 81, 3) := by decide +kernel
theorem dX3_sendCrew_27 : decode cX3_sendCrew 27 = .ok (.istore_n 3, 1) := by decide +kernel
theorem dX3_sendCrew_28 : decode cX3_sendCrew 28 = .ok (.iload_n 3, 1) := by decide +kernel
theorem dX3_sendCrew_29 : decode cX3_sendCrew 29 = .ok (.aload_n 0, 1) := by decide +kernel
theorem dX3_sendCrew_30 : decode cX3_sendCrew 30 = .ok (.getfield 22, 3) := by decide +kernel
theorem dX3_sendCrew_33 : decode cX3_sendCrew 33 = .ok (.iload_n 1, 1) := by decide +kernel
theorem dX3_sendCrew_34 : decode cX3_sendCrew 34 = .ok (.iaload, 1) := by decide +kernel
theorem dX3_sendCrew_35 : decode cX3_sendCrew 35 = .ok (.if_icmp .le 6, 3) := by decide +kernel
theorem dX3_sendCrew_38 : decode cX3_sendCrew 38 = .ok (.bipush (-4), 2) := by decide +kernel
theorem dX3_sendCrew_40 : decode cX3_sendCrew 40 = .ok (.ireturn, 1) := by decide +kernel
theorem dX3_sendCrew_41 : decode cX3_sendCrew 41 = .ok (.aload_n 0, 1) := by decide +kernel
theorem dX3_sendCrew_42 : decode cX3_sendCrew 42 = .ok (.getfield 19, 3) := by decide +kernel
theorem dX3_sendCrew_45 : decode cX3_sendCrew 45 = .ok (.iload_n 1, 1) := by decide +kernel
theorem dX3_sendCrew_46 : decode cX3_sendCrew 46 = .ok (.iaload, 1) := by decide +kernel
theorem dX3_sendCrew_47 : decode cX3_sendCrew 47 = .ok (.iload_n 2, 1) := by decide +kernel
theorem dX3_sendCrew_48 : decode cX3_sendCrew 48 = .ok (.if_icmp .ne 6, 3) := by decide +kernel
theorem dX3_sendCrew_51 : decode cX3_sendCrew 51 = .ok (.bipush (-5), 2) := by decide +kernel
theorem dX3_sendCrew_53 : decode cX3_sendCrew 53 = .ok (.ireturn, 1) := by decide +kernel
theorem dX3_sendCrew_54 : decode cX3_sendCrew 54 = .ok (.aload_n 0, 1) := by decide +kernel
theorem dX3_sendCrew_55 : decode cX3_sendCrew 55 = .ok (.getfield 19, 3) := by decide +kernel
theorem dX3_sendCrew_58 : decode cX3_sendCrew 58 = .ok (.iload_n 1, 1) := by decide +kernel
theorem dX3_sendCrew_59 : decode cX3_sendCrew 59 = .ok (.iload_n 2, 1) := by decide +kernel
theorem dX3_sendCrew_60 : decode cX3_sendCrew 60 = .ok (.iastore, 1) := by decide +kernel
theorem dX3_sendCrew_61 : decode cX3_sendCrew 61 = .ok (.aload_n 0, 1) := by decide +kernel
theorem dX3_sendCrew_62 : decode cX3_sendCrew 62 = .ok (.getfield 22, 3) := by decide +kernel
theorem dX3_sendCrew_65 : decode cX3_sendCrew 65 = .ok (.iload_n 1, 1) := by decide +kernel
theorem dX3_sendCrew_66 : decode cX3_sendCrew 66 = .ok (.dup2, 1) := by decide +kernel
theorem dX3_sendCrew_67 : decode cX3_sendCrew 67 = .ok (.iaload, 1) := by decide +kernel
theorem dX3_sendCrew_68 : decode cX3_sendCrew 68 = .ok (.iload_n 3, 1) := by decide +kernel
theorem dX3_sendCrew_69 : decode cX3_sendCrew 69 = .ok (.isub, 1) := by decide +kernel
theorem dX3_sendCrew_70 : decode cX3_sendCrew 70 = .ok (.iastore, 1) := by decide +kernel
theorem dX3_sendCrew_71 : decode cX3_sendCrew 71 = .ok (.aload_n 0, 1) := by decide +kernel
theorem dX3_sendCrew_72 : decode cX3_sendCrew 72 = .ok (.getfield 22, 3) := by decide +kernel
theorem dX3_sendCrew_75 : decode cX3_sendCrew 75 = .ok (.iload_n 1, 1) := by decide +kernel
theorem dX3_sendCrew_76 : decode cX3_sendCrew 76 = .ok (.iaload, 1) := by decide +kernel
theorem dX3_sendCrew_77 : decode cX3_sendCrew 77 = .ok (.ireturn, 1) := by decide +kernel
theorem dX3_fellHere_0 : decode cX3_fellHere 0 = .ok (.iload_n 1, 1) := by decide +kernel
theorem dX3_fellHere_1 : decode cX3_fellHere 1 = .ok (.iconst 0, 1) := by decide +kernel
theorem dX3_fellHere_2 : decode cX3_fellHere 2 = .ok (.iconst 2, 1) := by decide +kernel
theorem dX3_fellHere_3 : decode cX3_fellHere 3 = .ok (.invokestatic 62, 3) := by decide +kernel
theorem dX3_fellHere_6 : decode cX3_fellHere 6 = .ok (.ifCond .ne 5, 3) := by decide +kernel
theorem dX3_fellHere_9 : decode cX3_fellHere 9 = .ok (.iconst (-1), 1) := by decide +kernel
theorem dX3_fellHere_10 : decode cX3_fellHere 10 = .ok (.ireturn, 1) := by decide +kernel
theorem dX3_fellHere_11 : decode cX3_fellHere 11 = .ok (.aload_n 0, 1) := by decide +kernel
theorem dX3_fellHere_12 : decode cX3_fellHere 12 = .ok (.getfield 34, 3) := by decide +kernel
theorem dX3_fellHere_15 : decode cX3_fellHere 15 = .ok (.iconst 2, 1) := by decide +kernel
theorem dX3_fellHere_16 : decode cX3_fellHere 16 = .ok (.iaload, 1) := by decide +kernel
theorem dX3_fellHere_17 : decode cX3_fellHere 17 = .ok (.aload_n 0, 1) := by decide +kernel
theorem dX3_fellHere_18 : decode cX3_fellHere 18 = .ok (.getfield 22, 3) := by decide +kernel
theorem dX3_fellHere_21 : decode cX3_fellHere 21 = .ok (.iload_n 1, 1) := by decide +kernel
theorem dX3_fellHere_22 : decode cX3_fellHere 22 = .ok (.iaload, 1) := by decide +kernel
theorem dX3_fellHere_23 : decode cX3_fellHere 23 = .ok (.if_icmp .le 6, 3) := by decide +kernel
theorem dX3_fellHere_26 : decode cX3_fellHere 26 = .ok (.bipush (-4), 2) := by decide +kernel
theorem dX3_fellHere_28 : decode cX3_fellHere 28 = .ok (.ireturn, 1) := by decide +kernel
theorem dX3_fellHere_29 : decode cX3_fellHere 29 = .ok (.aload_n 0, 1) := by decide +kernel
theorem dX3_fellHere_30 : decode cX3_fellHere 30 = .ok (.getfield 19, 3) := by decide +kernel
theorem dX3_fellHere_33 : decode cX3_fellHere 33 = .ok (.iload_n 1, 1) := by decide +kernel
theorem dX3_fellHere_34 : decode cX3_fellHere 34 = .ok (.iaload, 1) := by decide +kernel
theorem dX3_fellHere_35 : decode cX3_fellHere 35 = .ok (.istore_n 2, 1) := by decide +kernel
theorem dX3_fellHere_36 : decode cX3_fellHere 36 = .ok (.aload_n 0, 1) := by decide +kernel
theorem dX3_fellHere_37 : decode cX3_fellHere 37 = .ok (.getfield 9, 3) := by decide +kernel
theorem dX3_fellHere_40 : decode cX3_fellHere 40 = .ok (.iload_n 2, 1) := by decide +kernel
theorem dX3_fellHere_41 : decode cX3_fellHere 41 = .ok (.iaload, 1) := by decide +kernel
theorem dX3_fellHere_42 : decode cX3_fellHere 42 = .ok (.istore_n 3, 1) := by decide +kernel
theorem dX3_fellHere_43 : decode cX3_fellHere 43 = .ok (.iload_n 3, 1) := by decide +kernel
theorem dX3_fellHere_44 : decode cX3_fellHere 44 = .ok (.ifCond .ne 6, 3) := by decide +kernel
theorem dX3_fellHere_47 : decode cX3_fellHere 47 = .ok (.bipush (-5), 2) := by decide +kernel
theorem dX3_fellHere_49 : decode cX3_fellHere 49 = .ok (.ireturn, 1) := by decide +kernel
theorem dX3_fellHere_50 : decode cX3_fellHere 50 = .ok (.aload_n 0, 1) := by decide +kernel
theorem dX3_fellHere_51 : decode cX3_fellHere 51 = .ok (.getfield 9, 3) := by decide +kernel
theorem dX3_fellHere_54 : decode cX3_fellHere 54 = .ok (.iload_n 2, 1) := by decide +kernel
theorem dX3_fellHere_55 : decode cX3_fellHere 55 = .ok (.iconst 0, 1) := by decide +kernel
theorem dX3_fellHere_56 : decode cX3_fellHere 56 = .ok (.iastore, 1) := by decide +kernel
theorem dX3_fellHere_57 : decode cX3_fellHere 57 = .ok (.aload_n 0, 1) := by decide +kernel
theorem dX3_fellHere_58 : decode cX3_fellHere 58 = .ok (.getfield 15, 3) := by decide +kernel
theorem dX3_fellHere_61 : decode cX3_fellHere 61 = .ok (.iload_n 2, 1) := by decide +kernel
theorem dX3_fellHere_62 : decode cX3_fellHere 62 = .ok (.iconst 1, 1) := by decide +kernel
theorem dX3_fellHere_63 : decode cX3_fellHere 63 = .ok (.bastore, 1) := by decide +kernel
theorem dX3_fellHere_64 : decode cX3_fellHere 64 = .ok (.aload_n 0, 1) := by decide +kernel
theorem dX3_fellHere_65 : decode cX3_fellHere 65 = .ok (.getfield 22, 3) := by decide +kernel
theorem dX3_fellHere_68 : decode cX3_fellHere 68 = .ok (.iload_n 1, 1) := by decide +kernel
theorem dX3_fellHere_69 : decode cX3_fellHere 69 = .ok (.dup2, 1) := by decide +kernel
theorem dX3_fellHere_70 : decode cX3_fellHere 70 = .ok (.iaload, 1) := by decide +kernel
theorem dX3_fellHere_71 : decode cX3_fellHere 71 = .ok (.aload_n 0, 1) := by decide +kernel
theorem dX3_fellHere_72 : decode cX3_fellHere 72 = .ok (.getfield 34, 3) := by decide +kernel
theorem dX3_fellHere_75 : decode cX3_fellHere 75 = .ok (.iconst 2, 1) := by decide +kernel
theorem dX3_fellHere_76 : decode cX3_fellHere 76 = .ok (.iaload, 1) := by decide +kernel
theorem dX3_fellHere_77 : decode cX3_fellHere 77 = .ok (.isub, 1) := by decide +kernel
theorem dX3_fellHere_78 : decode cX3_fellHere 78 = .ok (.iastore, 1) := by decide +kernel
theorem dX3_fellHere_79 : decode cX3_fellHere 79 = .ok (.aload_n 0, 1) := by decide +kernel
theorem dX3_fellHere_80 : decode cX3_fellHere 80 = .ok (.getfield 25, 3) := by decide +kernel
theorem dX3_fellHere_83 : decode cX3_fellHere 83 = .ok (.iload_n 1, 1) := by decide +kernel
theorem dX3_fellHere_84 : decode cX3_fellHere 84 = .ok (.dup2, 1) := by decide +kernel
theorem dX3_fellHere_85 : decode cX3_fellHere 85 = .ok (.iaload, 1) := by decide +kernel
theorem dX3_fellHere_86 : decode cX3_fellHere 86 = .ok (.iload_n 3, 1) := by decide +kernel
theorem dX3_fellHere_87 : decode cX3_fellHere 87 = .ok (.iadd, 1) := by decide +kernel
theorem dX3_fellHere_88 : decode cX3_fellHere 88 = .ok (.iastore, 1) := by decide +kernel
theorem dX3_fellHere_89 : decode cX3_fellHere 89 = .ok (.aload_n 0, 1) := by decide +kernel
theorem dX3_fellHere_90 : decode cX3_fellHere 90 = .ok (.getfield 28, 3) := by decide +kernel
theorem dX3_fellHere_93 : decode cX3_fellHere 93 = .ok (.iload_n 1, 1) := by decide +kernel
theorem dX3_fellHere_94 : decode cX3_fellHere 94 = .ok (.dup2, 1) := by decide +kernel
theorem dX3_fellHere_95 : decode cX3_fellHere 95 = .ok (.iaload, 1) := by decide +kernel
theorem dX3_fellHere_96 : decode cX3_fellHere 96 = .ok (.iconst 1, 1) := by decide +kernel
theorem dX3_fellHere_97 : decode cX3_fellHere 97 = .ok (.iadd, 1) := by decide +kernel
theorem dX3_fellHere_98 : decode cX3_fellHere 98 = .ok (.iastore, 1) := by decide +kernel
theorem dX3_fellHere_99 : decode cX3_fellHere 99 = .ok (.iload_n 3, 1) := by decide +kernel
theorem dX3_fellHere_100 : decode cX3_fellHere 100 = .ok (.ireturn, 1) := by decide +kernel
theorem dX3_tellColumn_0 : decode cX3_tellColumn 0 = .ok (.iload_n 2, 1) := by decide +kernel
theorem dX3_tellColumn_1 : decode cX3_tellColumn 1 = .ok (.iconst 0, 1) := by decide +kernel
theorem dX3_tellColumn_2 : decode cX3_tellColumn 2 = .ok (.bipush 7, 2) := by decide +kernel
theorem dX3_tellColumn_4 : decode cX3_tellColumn 4 = .ok (.invokestatic 62, 3) := by decide +kernel
theorem dX3_tellColumn_7 : decode cX3_tellColumn 7 = .ok (.ifCond .ne 5, 3) := by decide +kernel
theorem dX3_tellColumn_10 : decode cX3_tellColumn 10 = .ok (.iconst (-1), 1) := by decide +kernel
theorem dX3_tellColumn_11 : decode cX3_tellColumn 11 = .ok (.ireturn, 1) := by decide +kernel
theorem dX3_tellColumn_12 : decode cX3_tellColumn 12 = .ok (.iload_n 3, 1) := by decide +kernel
theorem dX3_tellColumn_13 : decode cX3_tellColumn 13 = .ok (.iconst 0, 1) := by decide +kernel
theorem dX3_tellColumn_14 : decode cX3_tellColumn 14 = .ok (.bipush 7, 2) := by decide +kernel
theorem dX3_tellColumn_16 : decode cX3_tellColumn 16 = .ok (.invokestatic 62, 3) := by decide +kernel
theorem dX3_tellColumn_19 : decode cX3_tellColumn 19 = .ok (.ifCond .ne 6, 3) := by decide +kernel
theorem dX3_tellColumn_22 : decode cX3_tellColumn 22 = .ok (.bipush (-2), 2) := by decide +kernel
theorem dX3_tellColumn_24 : decode cX3_tellColumn 24 = .ok (.ireturn, 1) := by decide +kernel
theorem dX3_tellColumn_25 : decode cX3_tellColumn 25 = .ok (.aload_n 1, 1) := by decide +kernel
theorem dX3_tellColumn_26 : decode cX3_tellColumn 26 = .ok (.iload_n 2, 1) := by decide +kernel
theorem dX3_tellColumn_27 : decode cX3_tellColumn 27 = .ok (.bipush 8, 2) := by decide +kernel
theorem dX3_tellColumn_29 : decode cX3_tellColumn 29 = .ok (.imul, 1) := by decide +kernel
theorem dX3_tellColumn_30 : decode cX3_tellColumn 30 = .ok (.iload_n 3, 1) := by decide +kernel
theorem dX3_tellColumn_31 : decode cX3_tellColumn 31 = .ok (.iadd, 1) := by decide +kernel
theorem dX3_tellColumn_32 : decode cX3_tellColumn 32 = .ok (.invokevirtual 84, 3) := by decide +kernel
theorem dX3_tellColumn_35 : decode cX3_tellColumn 35 = .ok (.istore 4, 2) := by decide +kernel
theorem dX3_tellColumn_37 : decode cX3_tellColumn 37 = .ok (.aload_n 0, 1) := by decide +kernel
theorem dX3_tellColumn_38 : decode cX3_tellColumn 38 = .ok (.getfield 31, 3) := by decide +kernel
theorem dX3_tellColumn_41 : decode cX3_tellColumn 41 = .ok (.iload_n 2, 1) := by decide +kernel
theorem dX3_tellColumn_42 : decode cX3_tellColumn 42 = .ok (.iaload, 1) := by decide +kernel
theorem dX3_tellColumn_43 : decode cX3_tellColumn 43 = .ok (.bipush (-5), 2) := by decide +kernel
theorem dX3_tellColumn_45 : decode cX3_tellColumn 45 = .ok (.if_icmp .ne 8, 3) := by decide +kernel
theorem dX3_tellColumn_48 : decode cX3_tellColumn 48 = .ok (.iload 4, 2) := by decide +kernel
theorem dX3_tellColumn_50 : decode cX3_tellColumn 50 = .ok (.ifCond .ne 6, 3) := by decide +kernel
theorem dX3_tellColumn_53 : decode cX3_tellColumn 53 = .ok (.bipush (-4), 2) := by decide +kernel
theorem dX3_tellColumn_55 : decode cX3_tellColumn 55 = .ok (.ireturn, 1) := by decide +kernel
theorem dX3_tellColumn_56 : decode cX3_tellColumn 56 = .ok (.aload_n 0, 1) := by decide +kernel
theorem dX3_tellColumn_57 : decode cX3_tellColumn 57 = .ok (.getfield 31, 3) := by decide +kernel
theorem dX3_tellColumn_60 : decode cX3_tellColumn 60 = .ok (.iload_n 2, 1) := by decide +kernel
theorem dX3_tellColumn_61 : decode cX3_tellColumn 61 = .ok (.iload_n 3, 1) := by decide +kernel
theorem dX3_tellColumn_62 : decode cX3_tellColumn 62 = .ok (.iastore, 1) := by decide +kernel
theorem dX3_tellColumn_63 : decode cX3_tellColumn 63 = .ok (.iload 4, 2) := by decide +kernel
theorem dX3_tellColumn_65 : decode cX3_tellColumn 65 = .ok (.ireturn, 1) := by decide +kernel
theorem dX3_untellColumn_0 : decode cX3_untellColumn 0 = .ok (.iload_n 2, 1) := by decide +kernel
theorem dX3_untellColumn_1 : decode cX3_untellColumn 1 = .ok (.iconst 0, 1) := by decide +kernel
theorem dX3_untellColumn_2 : decode cX3_untellColumn 2 = .ok (.bipush 7, 2) := by decide +kernel
theorem dX3_untellColumn_4 : decode cX3_untellColumn 4 = .ok (.invokestatic 62, 3) := by decide +kernel
theorem dX3_untellColumn_7 : decode cX3_untellColumn 7 = .ok (.ifCond .ne 5, 3) := by decide +kernel
theorem dX3_untellColumn_10 : decode cX3_untellColumn 10 = .ok (.iconst (-1), 1) := by decide +kernel
theorem dX3_untellColumn_11 : decode cX3_untellColumn 11 = .ok (.ireturn, 1) := by decide +kernel
theorem dX3_untellColumn_12 : decode cX3_untellColumn 12 = .ok (.aload_n 0, 1) := by decide +kernel
theorem dX3_untellColumn_13 : decode cX3_untellColumn 13 = .ok (.getfield 31, 3) := by decide +kernel
theorem dX3_untellColumn_16 : decode cX3_untellColumn 16 = .ok (.iload_n 2, 1) := by decide +kernel
theorem dX3_untellColumn_17 : decode cX3_untellColumn 17 = .ok (.iaload, 1) := by decide +kernel
theorem dX3_untellColumn_18 : decode cX3_untellColumn 18 = .ok (.bipush (-5), 2) := by decide +kernel
theorem dX3_untellColumn_20 : decode cX3_untellColumn 20 = .ok (.if_icmp .ne 6, 3) := by decide +kernel
theorem dX3_untellColumn_23 : decode cX3_untellColumn 23 = .ok (.bipush (-5), 2) := by decide +kernel
theorem dX3_untellColumn_25 : decode cX3_untellColumn 25 = .ok (.ireturn, 1) := by decide +kernel
theorem dX3_untellColumn_26 : decode cX3_untellColumn 26 = .ok (.aload_n 0, 1) := by decide +kernel
theorem dX3_untellColumn_27 : decode cX3_untellColumn 27 = .ok (.getfield 31, 3) := by decide +kernel
theorem dX3_untellColumn_30 : decode cX3_untellColumn 30 = .ok (.iload_n 2, 1) := by decide +kernel
theorem dX3_untellColumn_31 : decode cX3_untellColumn 31 = .ok (.bipush (-5), 2) := by decide +kernel
theorem dX3_untellColumn_33 : decode cX3_untellColumn 33 = .ok (.iastore, 1) := by decide +kernel
theorem dX3_untellColumn_34 : decode cX3_untellColumn 34 = .ok (.aload_n 1, 1) := by decide +kernel
theorem dX3_untellColumn_35 : decode cX3_untellColumn 35 = .ok (.aload_n 0, 1) := by decide +kernel
theorem dX3_untellColumn_36 : decode cX3_untellColumn 36 = .ok (.getfield 31, 3) := by decide +kernel
theorem dX3_untellColumn_39 : decode cX3_untellColumn 39 = .ok (.invokevirtual 90, 3) := by decide +kernel
theorem dX3_untellColumn_42 : decode cX3_untellColumn 42 = .ok (.aload_n 1, 1) := by decide +kernel
theorem dX3_untellColumn_43 : decode cX3_untellColumn 43 = .ok (.getfield 94, 3) := by decide +kernel
theorem dX3_untellColumn_46 : decode cX3_untellColumn 46 = .ok (.ireturn, 1) := by decide +kernel
theorem dX3_takeStorm_0 : decode cX3_takeStorm 0 = .ok (.aload_n 1, 1) := by decide +kernel
theorem dX3_takeStorm_1 : decode cX3_takeStorm 1 = .ok (.getfield 94, 3) := by decide +kernel
theorem dX3_takeStorm_4 : decode cX3_takeStorm 4 = .ok (.iconst 1, 1) := by decide +kernel
theorem dX3_takeStorm_5 : decode cX3_takeStorm 5 = .ok (.if_icmp .le 6, 3) := by decide +kernel
theorem dX3_takeStorm_8 : decode cX3_takeStorm 8 = .ok (.bipush (-4), 2) := by decide +kernel
theorem dX3_takeStorm_10 : decode cX3_takeStorm 10 = .ok (.ireturn, 1) := by decide +kernel
theorem dX3_takeStorm_11 : decode cX3_takeStorm 11 = .ok (.aload_n 0, 1) := by decide +kernel
theorem dX3_takeStorm_12 : decode cX3_takeStorm 12 = .ok (.dup, 1) := by decide +kernel
theorem dX3_takeStorm_13 : decode cX3_takeStorm 13 = .ok (.getfield 56, 3) := by decide +kernel
theorem dX3_takeStorm_16 : decode cX3_takeStorm 16 = .ok (.aload_n 0, 1) := by decide +kernel
theorem dX3_takeStorm_17 : decode cX3_takeStorm 17 = .ok (.aload_n 1, 1) := by decide +kernel
theorem dX3_takeStorm_18 : decode cX3_takeStorm 18 = .ok (.aload_n 0, 1) := by decide +kernel
theorem dX3_takeStorm_19 : decode cX3_takeStorm 19 = .ok (.aload_n 1, 1) := by decide +kernel
theorem dX3_takeStorm_20 : decode cX3_takeStorm 20 = .ok (.invokevirtual 97, 3) := by decide +kernel
theorem dX3_takeStorm_23 : decode cX3_takeStorm 23 = .ok (.invokevirtual 101, 3) := by decide +kernel
theorem dX3_takeStorm_26 : decode cX3_takeStorm 26 = .ok (.iadd, 1) := by decide +kernel
theorem dX3_takeStorm_27 : decode cX3_takeStorm 27 = .ok (.putfield 56, 3) := by decide +kernel
theorem dX3_takeStorm_30 : decode cX3_takeStorm 30 = .ok (.aload_n 0, 1) := by decide +kernel
theorem dX3_takeStorm_31 : decode cX3_takeStorm 31 = .ok (.aload_n 1, 1) := by decide +kernel
theorem dX3_takeStorm_32 : decode cX3_takeStorm 32 = .ok (.invokevirtual 105, 3) := by decide +kernel
theorem dX3_takeStorm_35 : decode cX3_takeStorm 35 = .ok (.istore_n 2, 1) := by decide +kernel
theorem dX3_takeStorm_36 : decode cX3_takeStorm 36 = .ok (.aload_n 0, 1) := by decide +kernel
theorem dX3_takeStorm_37 : decode cX3_takeStorm 37 = .ok (.dup, 1) := by decide +kernel
theorem dX3_takeStorm_38 : decode cX3_takeStorm 38 = .ok (.getfield 53, 3) := by decide +kernel
theorem dX3_takeStorm_41 : decode cX3_takeStorm 41 = .ok (.iload_n 2, 1) := by decide +kernel
theorem dX3_takeStorm_42 : decode cX3_takeStorm 42 = .ok (.iadd, 1) := by decide +kernel
theorem dX3_takeStorm_43 : decode cX3_takeStorm 43 = .ok (.putfield 53, 3) := by decide +kernel
theorem dX3_takeStorm_46 : decode cX3_takeStorm 46 = .ok (.aload_n 0, 1) := by decide +kernel
theorem dX3_takeStorm_47 : decode cX3_takeStorm 47 = .ok (.dup, 1) := by decide +kernel
theorem dX3_takeStorm_48 : decode cX3_takeStorm 48 = .ok (.getfield 59, 3) := by decide +kernel
theorem dX3_takeStorm_51 : decode cX3_takeStorm 51 = .ok (.iconst 1, 1) := by decide +kernel
theorem dX3_takeStorm_52 : decode cX3_takeStorm 52 = .ok (.iadd, 1) := by decide +kernel
theorem dX3_takeStorm_53 : decode cX3_takeStorm 53 = .ok (.putfield 59, 3) := by decide +kernel
theorem dX3_takeStorm_56 : decode cX3_takeStorm 56 = .ok (.iconst 0, 1) := by decide +kernel
theorem dX3_takeStorm_57 : decode cX3_takeStorm 57 = .ok (.istore_n 3, 1) := by decide +kernel
theorem dX3_takeStorm_58 : decode cX3_takeStorm 58 = .ok (.iload_n 3, 1) := by decide +kernel
theorem dX3_takeStorm_59 : decode cX3_takeStorm 59 = .ok (.bipush 64, 2) := by decide +kernel
theorem dX3_takeStorm_61 : decode cX3_takeStorm 61 = .ok (.if_icmp .ge 16, 3) := by decide +kernel
theorem dX3_takeStorm_64 : decode cX3_takeStorm 64 = .ok (.aload_n 0, 1) := by decide +kernel
theorem dX3_takeStorm_65 : decode cX3_takeStorm 65 = .ok (.getfield 15, 3) := by decide +kernel
theorem dX3_takeStorm_68 : decode cX3_takeStorm 68 = .ok (.iload_n 3, 1) := by decide +kernel
theorem dX3_takeStorm_69 : decode cX3_takeStorm 69 = .ok (.iconst 0, 1) := by decide +kernel
theorem dX3_takeStorm_70 : decode cX3_takeStorm 70 = .ok (.bastore, 1) := by decide +kernel
theorem dX3_takeStorm_71 : decode cX3_takeStorm 71 = .ok (.iinc 3 1, 3) := by decide +kernel
theorem dX3_takeStorm_74 : decode cX3_takeStorm 74 = .ok (.goto (-16), 3) := by decide +kernel
theorem dX3_takeStorm_77 : decode cX3_takeStorm 77 = .ok (.iconst 0, 1) := by decide +kernel
theorem dX3_takeStorm_78 : decode cX3_takeStorm 78 = .ok (.istore_n 3, 1) := by decide +kernel
theorem dX3_takeStorm_79 : decode cX3_takeStorm 79 = .ok (.iload_n 3, 1) := by decide +kernel
theorem dX3_takeStorm_80 : decode cX3_takeStorm 80 = .ok (.bipush 8, 2) := by decide +kernel
theorem dX3_takeStorm_82 : decode cX3_takeStorm 82 = .ok (.if_icmp .ge 17, 3) := by decide +kernel
theorem dX3_takeStorm_85 : decode cX3_takeStorm 85 = .ok (.aload_n 0, 1) := by decide +kernel
theorem dX3_takeStorm_86 : decode cX3_takeStorm 86 = .ok (.getfield 31, 3) := by decide +kernel
theorem dX3_takeStorm_89 : decode cX3_takeStorm 89 = .ok (.iload_n 3, 1) := by decide +kernel
theorem dX3_takeStorm_90 : decode cX3_takeStorm 90 = .ok (.bipush (-5), 2) := by decide +kernel
theorem dX3_takeStorm_92 : decode cX3_takeStorm 92 = .ok (.iastore, 1) := by decide +kernel
theorem dX3_takeStorm_93 : decode cX3_takeStorm 93 = .ok (.iinc 3 1, 3) := by decide +kernel
theorem dX3_takeStorm_96 : decode cX3_takeStorm 96 = .ok (.goto (-17), 3) := by decide +kernel
theorem dX3_takeStorm_99 : decode cX3_takeStorm 99 = .ok (.iload_n 2, 1) := by decide +kernel
theorem dX3_takeStorm_100 : decode cX3_takeStorm 100 = .ok (.ireturn, 1) := by decide +kernel
theorem dX3_felledInVain_0 : decode cX3_felledInVain 0 = .ok (.iconst 0, 1) := by decide +kernel
theorem dX3_felledInVain_1 : decode cX3_felledInVain 1 = .ok (.istore_n 2, 1) := by decide +kernel
theorem dX3_felledInVain_2 : decode cX3_felledInVain 2 = .ok (.iconst 0, 1) := by decide +kernel
theorem dX3_felledInVain_3 : decode cX3_felledInVain 3 = .ok (.istore_n 3, 1) := by decide +kernel
theorem dX3_felledInVain_4 : decode cX3_felledInVain 4 = .ok (.iload_n 3, 1) := by decide +kernel
theorem dX3_felledInVain_5 : decode cX3_felledInVain 5 = .ok (.bipush 64, 2) := by decide +kernel
theorem dX3_felledInVain_7 : decode cX3_felledInVain 7 = .ok (.if_icmp .ge 30, 3) := by decide +kernel
theorem dX3_felledInVain_10 : decode cX3_felledInVain 10 = .ok (.aload_n 0, 1) := by decide +kernel
theorem dX3_felledInVain_11 : decode cX3_felledInVain 11 = .ok (.getfield 15, 3) := by decide +kernel
theorem dX3_felledInVain_14 : decode cX3_felledInVain 14 = .ok (.iload_n 3, 1) := by decide +kernel
theorem dX3_felledInVain_15 : decode cX3_felledInVain 15 = .ok (.baload, 1) := by decide +kernel
theorem dX3_felledInVain_16 : decode cX3_felledInVain 16 = .ok (.ifCond .eq 15, 3) := by decide +kernel
theorem dX3_felledInVain_19 : decode cX3_felledInVain 19 = .ok (.aload_n 0, 1) := by decide +kernel
theorem dX3_felledInVain_20 : decode cX3_felledInVain 20 = .ok (.aload_n 1, 1) := by decide +kernel
theorem dX3_felledInVain_21 : decode cX3_felledInVain 21 = .ok (.iload_n 3, 1) := by decide +kernel
theorem dX3_felledInVain_22 : decode cX3_felledInVain 22 = .ok (.invokevirtual 108, 3) := by decide +kernel
theorem dX3_felledInVain_25 : decode cX3_felledInVain 25 = .ok (.ifCond .ne 6, 3) := by decide +kernel
theorem dX3_felledInVain_28 : decode cX3_felledInVain 28 = .ok (.iinc 2 1, 3) := by decide +kernel
theorem dX3_felledInVain_31 : decode cX3_felledInVain 31 = .ok (.iinc 3 1, 3) := by decide +kernel
theorem dX3_felledInVain_34 : decode cX3_felledInVain 34 = .ok (.goto (-30), 3) := by decide +kernel
theorem dX3_felledInVain_37 : decode cX3_felledInVain 37 = .ok (.iload_n 2, 1) := by decide +kernel
theorem dX3_felledInVain_38 : decode cX3_felledInVain 38 = .ok (.ireturn, 1) := by decide +kernel
theorem dX3_regret_0 : decode cX3_regret 0 = .ok (.iconst 0, 1) := by decide +kernel
theorem dX3_regret_1 : decode cX3_regret 1 = .ok (.istore_n 3, 1) := by decide +kernel
theorem dX3_regret_2 : decode cX3_regret 2 = .ok (.iload_n 2, 1) := by decide +kernel
theorem dX3_regret_3 : decode cX3_regret 3 = .ok (.istore 4, 2) := by decide +kernel
theorem dX3_regret_5 : decode cX3_regret 5 = .ok (.bipush 99, 2) := by decide +kernel
theorem dX3_regret_7 : decode cX3_regret 7 = .ok (.istore 5, 2) := by decide +kernel
theorem dX3_regret_9 : decode cX3_regret 9 = .ok (.iload 5, 2) := by decide +kernel
theorem dX3_regret_11 : decode cX3_regret 11 = .ok (.ifCond .le 60, 3) := by decide +kernel
theorem dX3_regret_14 : decode cX3_regret 14 = .ok (.iconst 0, 1) := by decide +kernel
theorem dX3_regret_15 : decode cX3_regret 15 = .ok (.istore 6, 2) := by decide +kernel
theorem dX3_regret_17 : decode cX3_regret 17 = .ok (.iload 6, 2) := by decide +kernel
theorem dX3_regret_19 : decode cX3_regret 19 = .ok (.bipush 64, 2) := by decide +kernel
theorem dX3_regret_21 : decode cX3_regret 21 = .ok (.if_icmp .ge 44, 3) := by decide +kernel
theorem dX3_regret_24 : decode cX3_regret 24 = .ok (.iload 4, 2) := by decide +kernel
theorem dX3_regret_26 : decode cX3_regret 26 = .ok (.ifCond .le 33, 3) := by decide +kernel
theorem dX3_regret_29 : decode cX3_regret 29 = .ok (.aload_n 0, 1) := by decide +kernel
theorem dX3_regret_30 : decode cX3_regret 30 = .ok (.getfield 9, 3) := by decide +kernel
theorem dX3_regret_33 : decode cX3_regret 33 = .ok (.iload 6, 2) := by decide +kernel
theorem dX3_regret_35 : decode cX3_regret 35 = .ok (.iaload, 1) := by decide +kernel
theorem dX3_regret_36 : decode cX3_regret 36 = .ok (.iload 5, 2) := by decide +kernel
theorem dX3_regret_38 : decode cX3_regret 38 = .ok (.if_icmp .ne 21, 3) := by decide +kernel
theorem dX3_regret_41 : decode cX3_regret 41 = .ok (.aload_n 0, 1) := by decide +kernel
theorem dX3_regret_42 : decode cX3_regret 42 = .ok (.aload_n 1, 1) := by decide +kernel
theorem dX3_regret_43 : decode cX3_regret 43 = .ok (.iload 6, 2) := by decide +kernel
theorem dX3_regret_45 : decode cX3_regret 45 = .ok (.invokevirtual 108, 3) := by decide +kernel
theorem dX3_regret_48 : decode cX3_regret 48 = .ok (.ifCond .eq 11, 3) := by decide +kernel
theorem dX3_regret_51 : decode cX3_regret 51 = .ok (.iload_n 3, 1) := by decide +kernel
theorem dX3_regret_52 : decode cX3_regret 52 = .ok (.iload 5, 2) := by decide +kernel
theorem dX3_regret_54 : decode cX3_regret 54 = .ok (.iadd, 1) := by decide +kernel
theorem dX3_regret_55 : decode cX3_regret 55 = .ok (.istore_n 3, 1) := by decide +kernel
theorem dX3_regret_56 : decode cX3_regret 56 = .ok (.iinc 4 (-1), 3) := by decide +kernel
theorem dX3_regret_59 : decode cX3_regret 59 = .ok (.iinc 6 1, 3) := by decide +kernel
theorem dX3_regret_62 : decode cX3_regret 62 = .ok (.goto (-45), 3) := by decide +kernel
theorem dX3_regret_65 : decode cX3_regret 65 = .ok (.iinc 5 (-1), 3) := by decide +kernel
theorem dX3_regret_68 : decode cX3_regret 68 = .ok (.goto (-59), 3) := by decide +kernel
theorem dX3_regret_71 : decode cX3_regret 71 = .ok (.iload_n 3, 1) := by decide +kernel
theorem dX3_regret_72 : decode cX3_regret 72 = .ok (.ireturn, 1) := by decide +kernel
theorem dX3_loseWorths_0 : decode cX3_loseWorths 0 = .ok (.iconst 0, 1) := by decide +kernel
theorem dX3_loseWorths_1 : decode cX3_loseWorths 1 = .ok (.istore_n 2, 1) := by decide +kernel
theorem dX3_loseWorths_2 : decode cX3_loseWorths 2 = .ok (.iconst 0, 1) := by decide +kernel
theorem dX3_loseWorths_3 : decode cX3_loseWorths 3 = .ok (.istore_n 3, 1) := by decide +kernel
theorem dX3_loseWorths_4 : decode cX3_loseWorths 4 = .ok (.iload_n 3, 1) := by decide +kernel
theorem dX3_loseWorths_5 : decode cX3_loseWorths 5 = .ok (.bipush 64, 2) := by decide +kernel
theorem dX3_loseWorths_7 : decode cX3_loseWorths 7 = .ok (.if_icmp .ge 34, 3) := by decide +kernel
theorem dX3_loseWorths_10 : decode cX3_loseWorths 10 = .ok (.aload_n 0, 1) := by decide +kernel
theorem dX3_loseWorths_11 : decode cX3_loseWorths 11 = .ok (.aload_n 1, 1) := by decide +kernel
theorem dX3_loseWorths_12 : decode cX3_loseWorths 12 = .ok (.iload_n 3, 1) := by decide +kernel
theorem dX3_loseWorths_13 : decode cX3_loseWorths 13 = .ok (.invokevirtual 108, 3) := by decide +kernel
theorem dX3_loseWorths_16 : decode cX3_loseWorths 16 = .ok (.ifCond .eq 19, 3) := by decide +kernel
theorem dX3_loseWorths_19 : decode cX3_loseWorths 19 = .ok (.iload_n 2, 1) := by decide +kernel
theorem dX3_loseWorths_20 : decode cX3_loseWorths 20 = .ok (.aload_n 0, 1) := by decide +kernel
theorem dX3_loseWorths_21 : decode cX3_loseWorths 21 = .ok (.getfield 9, 3) := by decide +kernel
theorem dX3_loseWorths_24 : decode cX3_loseWorths 24 = .ok (.iload_n 3, 1) := by decide +kernel
theorem dX3_loseWorths_25 : decode cX3_loseWorths 25 = .ok (.iaload, 1) := by decide +kernel
theorem dX3_loseWorths_26 : decode cX3_loseWorths 26 = .ok (.iadd, 1) := by decide +kernel
theorem dX3_loseWorths_27 : decode cX3_loseWorths 27 = .ok (.istore_n 2, 1) := by decide +kernel
theorem dX3_loseWorths_28 : decode cX3_loseWorths 28 = .ok (.aload_n 0, 1) := by decide +kernel
theorem dX3_loseWorths_29 : decode cX3_loseWorths 29 = .ok (.getfield 9, 3) := by decide +kernel
theorem dX3_loseWorths_32 : decode cX3_loseWorths 32 = .ok (.iload_n 3, 1) := by decide +kernel
theorem dX3_loseWorths_33 : decode cX3_loseWorths 33 = .ok (.iconst 0, 1) := by decide +kernel
theorem dX3_loseWorths_34 : decode cX3_loseWorths 34 = .ok (.iastore, 1) := by decide +kernel
theorem dX3_loseWorths_35 : decode cX3_loseWorths 35 = .ok (.iinc 3 1, 3) := by decide +kernel
theorem dX3_loseWorths_38 : decode cX3_loseWorths 38 = .ok (.goto (-34), 3) := by decide +kernel
theorem dX3_loseWorths_41 : decode cX3_loseWorths 41 = .ok (.iload_n 2, 1) := by decide +kernel
theorem dX3_loseWorths_42 : decode cX3_loseWorths 42 = .ok (.ireturn, 1) := by decide +kernel
theorem dX3_stepsTo_0 : decode cX3_stepsTo 0 = .ok (.aload_n 0, 1) := by decide +kernel
theorem dX3_stepsTo_1 : decode cX3_stepsTo 1 = .ok (.getfield 19, 3) := by decide +kernel
theorem dX3_stepsTo_4 : decode cX3_stepsTo 4 = .ok (.iload_n 1, 1) := by decide +kernel
theorem dX3_stepsTo_5 : decode cX3_stepsTo 5 = .ok (.iaload, 1) := by decide +kernel
theorem dX3_stepsTo_6 : decode cX3_stepsTo 6 = .ok (.istore_n 3, 1) := by decide +kernel
theorem dX3_stepsTo_7 : decode cX3_stepsTo 7 = .ok (.iload_n 3, 1) := by decide +kernel
theorem dX3_stepsTo_8 : decode cX3_stepsTo 8 = .ok (.bipush 8, 2) := by decide +kernel
theorem dX3_stepsTo_10 : decode cX3_stepsTo 10 = .ok (.idiv, 1) := by decide +kernel
theorem dX3_stepsTo_11 : decode cX3_stepsTo 11 = .ok (.iload_n 2, 1) := by decide +kernel
theorem dX3_stepsTo_12 : decode cX3_stepsTo 12 = .ok (.bipush 8, 2) := by decide +kernel
theorem dX3_stepsTo_14 : decode cX3_stepsTo 14 = .ok (.idiv, 1) := by decide +kernel
theorem dX3_stepsTo_15 : decode cX3_stepsTo 15 = .ok (.isub, 1) := by decide +kernel
theorem dX3_stepsTo_16 : decode cX3_stepsTo 16 = .ok (.invokestatic 112, 3) := by decide +kernel
theorem dX3_stepsTo_19 : decode cX3_stepsTo 19 = .ok (.istore 4, 2) := by decide +kernel
theorem dX3_stepsTo_21 : decode cX3_stepsTo 21 = .ok (.iload_n 3, 1) := by decide +kernel
theorem dX3_stepsTo_22 : decode cX3_stepsTo 22 = .ok (.bipush 8, 2) := by decide +kernel
theorem dX3_stepsTo_24 : decode cX3_stepsTo 24 = .ok (.irem, 1) := by decide +kernel
theorem dX3_stepsTo_25 : decode cX3_stepsTo 25 = .ok (.iload_n 2, 1) := by decide +kernel
theorem dX3_stepsTo_26 : decode cX3_stepsTo 26 = .ok (.bipush 8, 2) := by decide +kernel
theorem dX3_stepsTo_28 : decode cX3_stepsTo 28 = .ok (.irem, 1) := by decide +kernel
theorem dX3_stepsTo_29 : decode cX3_stepsTo 29 = .ok (.isub, 1) := by decide +kernel
theorem dX3_stepsTo_30 : decode cX3_stepsTo 30 = .ok (.invokestatic 112, 3) := by decide +kernel
theorem dX3_stepsTo_33 : decode cX3_stepsTo 33 = .ok (.istore 5, 2) := by decide +kernel
theorem dX3_stepsTo_35 : decode cX3_stepsTo 35 = .ok (.iload 4, 2) := by decide +kernel
theorem dX3_stepsTo_37 : decode cX3_stepsTo 37 = .ok (.iload 5, 2) := by decide +kernel
theorem dX3_stepsTo_39 : decode cX3_stepsTo 39 = .ok (.iadd, 1) := by decide +kernel
theorem dX3_stepsTo_40 : decode cX3_stepsTo 40 = .ok (.iconst 1, 1) := by decide +kernel
theorem dX3_stepsTo_41 : decode cX3_stepsTo 41 = .ok (.aload_n 0, 1) := by decide +kernel
theorem dX3_stepsTo_42 : decode cX3_stepsTo 42 = .ok (.getfield 46, 3) := by decide +kernel
theorem dX3_stepsTo_45 : decode cX3_stepsTo 45 = .ok (.iconst 3, 1) := by decide +kernel
theorem dX3_stepsTo_46 : decode cX3_stepsTo 46 = .ok (.idiv, 1) := by decide +kernel
theorem dX3_stepsTo_47 : decode cX3_stepsTo 47 = .ok (.iadd, 1) := by decide +kernel
theorem dX3_stepsTo_48 : decode cX3_stepsTo 48 = .ok (.imul, 1) := by decide +kernel
theorem dX3_stepsTo_49 : decode cX3_stepsTo 49 = .ok (.ireturn, 1) := by decide +kernel
theorem dX3_whyNot_0 : decode cX3_whyNot 0 = .ok (.aload_n 0, 1) := by decide +kernel
theorem dX3_whyNot_1 : decode cX3_whyNot 1 = .ok (.getfield 9, 3) := by decide +kernel
theorem dX3_whyNot_4 : decode cX3_whyNot 4 = .ok (.iload_n 2, 1) := by decide +kernel
theorem dX3_whyNot_5 : decode cX3_whyNot 5 = .ok (.iaload, 1) := by decide +kernel
theorem dX3_whyNot_6 : decode cX3_whyNot 6 = .ok (.ifCond .ne 5, 3) := by decide +kernel
theorem dX3_whyNot_9 : decode cX3_whyNot 9 = .ok (.iconst 1, 1) := by decide +kernel
theorem dX3_whyNot_10 : decode cX3_whyNot 10 = .ok (.ireturn, 1) := by decide +kernel
theorem dX3_whyNot_11 : decode cX3_whyNot 11 = .ok (.aload_n 0, 1) := by decide +kernel
theorem dX3_whyNot_12 : decode cX3_whyNot 12 = .ok (.getfield 22, 3) := by decide +kernel
theorem dX3_whyNot_15 : decode cX3_whyNot 15 = .ok (.iload_n 1, 1) := by decide +kernel
theorem dX3_whyNot_16 : decode cX3_whyNot 16 = .ok (.iaload, 1) := by decide +kernel
theorem dX3_whyNot_17 : decode cX3_whyNot 17 = .ok (.aload_n 0, 1) := by decide +kernel
theorem dX3_whyNot_18 : decode cX3_whyNot 18 = .ok (.iload_n 1, 1) := by decide +kernel
theorem dX3_whyNot_19 : decode cX3_whyNot 19 = .ok (.iload_n 2, 1) := by decide +kernel
theorem dX3_whyNot_20 : decode cX3_whyNot 20 = .ok (.invokevirtual 81, 3) := by decide +kernel
theorem dX3_whyNot_23 : decode cX3_whyNot 23 = .ok (.isub, 1) := by decide +kernel
theorem dX3_whyNot_24 : decode cX3_whyNot 24 = .ok (.istore_n 3, 1) := by decide +kernel
theorem dX3_whyNot_25 : decode cX3_whyNot 25 = .ok (.iload_n 3, 1) := by decide +kernel
theorem dX3_whyNot_26 : decode cX3_whyNot 26 = .ok (.ifCond .ge 5, 3) := by decide +kernel
theorem dX3_whyNot_29 : decode cX3_whyNot 29 = .ok (.iconst 2, 1) := by decide +kernel
theorem dX3_whyNot_30 : decode cX3_whyNot 30 = .ok (.ireturn, 1) := by decide +kernel
theorem dX3_whyNot_31 : decode cX3_whyNot 31 = .ok (.iload_n 3, 1) := by decide +kernel
theorem dX3_whyNot_32 : decode cX3_whyNot 32 = .ok (.aload_n 0, 1) := by decide +kernel
theorem dX3_whyNot_33 : decode cX3_whyNot 33 = .ok (.getfield 34, 3) := by decide +kernel
theorem dX3_whyNot_36 : decode cX3_whyNot 36 = .ok (.iconst 2, 1) := by decide +kernel
theorem dX3_whyNot_37 : decode cX3_whyNot 37 = .ok (.iaload, 1) := by decide +kernel
theorem dX3_whyNot_38 : decode cX3_whyNot 38 = .ok (.if_icmp .ge 7, 3) := by decide +kernel
theorem dX3_whyNot_41 : decode cX3_whyNot 41 = .ok (.iconst 3, 1) := by decide +kernel
theorem dX3_whyNot_42 : decode cX3_whyNot 42 = .ok (.goto 4, 3) := by decide +kernel
theorem dX3_whyNot_45 : decode cX3_whyNot 45 = .ok (.iconst 0, 1) := by decide +kernel
theorem dX3_whyNot_46 : decode cX3_whyNot 46 = .ok (.ireturn, 1) := by decide +kernel
theorem dX3_bestPlot_0 : decode cX3_bestPlot 0 = .ok (.bipush (-5), 2) := by decide +kernel
theorem dX3_bestPlot_2 : decode cX3_bestPlot 2 = .ok (.istore_n 3, 1) := by decide +kernel
theorem dX3_bestPlot_3 : decode cX3_bestPlot 3 = .ok (.iconst 0, 1) := by decide +kernel
theorem dX3_bestPlot_4 : decode cX3_bestPlot 4 = .ok (.istore 4, 2) := by decide +kernel
theorem dX3_bestPlot_6 : decode cX3_bestPlot 6 = .ok (.iload 4, 2) := by decide +kernel
theorem dX3_bestPlot_8 : decode cX3_bestPlot 8 = .ok (.bipush 64, 2) := by decide +kernel
theorem dX3_bestPlot_10 : decode cX3_bestPlot 10 = .ok (.if_icmp .ge 40, 3) := by decide +kernel
theorem dX3_bestPlot_13 : decode cX3_bestPlot 13 = .ok (.aload_n 0, 1) := by decide +kernel
theorem dX3_bestPlot_14 : decode cX3_bestPlot 14 = .ok (.iload_n 2, 1) := by decide +kernel
theorem dX3_bestPlot_15 : decode cX3_bestPlot 15 = .ok (.iload 4, 2) := by decide +kernel
theorem dX3_bestPlot_17 : decode cX3_bestPlot 17 = .ok (.invokevirtual 115, 3) := by decide +kernel
theorem dX3_bestPlot_20 : decode cX3_bestPlot 20 = .ok (.ifCond .ne 24, 3) := by decide +kernel
theorem dX3_bestPlot_23 : decode cX3_bestPlot 23 = .ok (.iload_n 3, 1) := by decide +kernel
theorem dX3_bestPlot_24 : decode cX3_bestPlot 24 = .ok (.bipush (-5), 2) := by decide +kernel
theorem dX3_bestPlot_26 : decode cX3_bestPlot 26 = .ok (.if_icmp .eq 15, 3) := by decide +kernel
theorem dX3_bestPlot_29 : decode cX3_bestPlot 29 = .ok (.aload_n 0, 1) := by decide +kernel
theorem dX3_bestPlot_30 : decode cX3_bestPlot 30 = .ok (.aload_n 1, 1) := by decide +kernel
theorem dX3_bestPlot_31 : decode cX3_bestPlot 31 = .ok (.iload_n 2, 1) := by decide +kernel
theorem dX3_bestPlot_32 : decode cX3_bestPlot 32 = .ok (.iload 4, 2) := by decide +kernel
theorem dX3_bestPlot_34 : decode cX3_bestPlot 34 = .ok (.iload_n 3, 1) := by decide +kernel
theorem dX3_bestPlot_35 : decode cX3_bestPlot 35 = .ok (.invokevirtual 118, 3) := by decide +kernel
theorem dX3_bestPlot_38 : decode cX3_bestPlot 38 = .ok (.ifCond .eq 6, 3) := by decide +kernel
theorem dX3_bestPlot_41 : decode cX3_bestPlot 41 = .ok (.iload 4, 2) := by decide +kernel
theorem dX3_bestPlot_43 : decode cX3_bestPlot 43 = .ok (.istore_n 3, 1) := by decide +kernel
theorem dX3_bestPlot_44 : decode cX3_bestPlot 44 = .ok (.iinc 4 1, 3) := by decide +kernel
theorem dX3_bestPlot_47 : decode cX3_bestPlot 47 = .ok (.goto (-41), 3) := by decide +kernel
theorem dX3_bestPlot_50 : decode cX3_bestPlot 50 = .ok (.iload_n 3, 1) := by decide +kernel
theorem dX3_bestPlot_51 : decode cX3_bestPlot 51 = .ok (.ireturn, 1) := by decide +kernel
theorem dX3_isBetter_0 : decode cX3_isBetter 0 = .ok (.aload_n 0, 1) := by decide +kernel
theorem dX3_isBetter_1 : decode cX3_isBetter 1 = .ok (.aload_n 1, 1) := by decide +kernel
theorem dX3_isBetter_2 : decode cX3_isBetter 2 = .ok (.iload_n 3, 1) := by decide +kernel
theorem dX3_isBetter_3 : decode cX3_isBetter 3 = .ok (.invokevirtual 122, 3) := by decide +kernel
theorem dX3_isBetter_6 : decode cX3_isBetter 6 = .ok (.aload_n 0, 1) := by decide +kernel
theorem dX3_isBetter_7 : decode cX3_isBetter 7 = .ok (.aload_n 1, 1) := by decide +kernel
theorem dX3_isBetter_8 : decode cX3_isBetter 8 = .ok (.iload 4, 2) := by decide +kernel
theorem dX3_isBetter_10 : decode cX3_isBetter 10 = .ok (.invokevirtual 122, 3) := by decide +kernel
theorem dX3_isBetter_13 : decode cX3_isBetter 13 = .ok (.isub, 1) := by decide +kernel
theorem dX3_isBetter_14 : decode cX3_isBetter 14 = .ok (.istore 5, 2) := by decide +kernel
theorem dX3_isBetter_16 : decode cX3_isBetter 16 = .ok (.iload 5, 2) := by decide +kernel
theorem dX3_isBetter_18 : decode cX3_isBetter 18 = .ok (.ifCond .eq 14, 3) := by decide +kernel
theorem dX3_isBetter_21 : decode cX3_isBetter 21 = .ok (.iload 5, 2) := by decide +kernel
theorem dX3_isBetter_23 : decode cX3_isBetter 23 = .ok (.ifCond .le 7, 3) := by decide +kernel
theorem dX3_isBetter_26 : decode cX3_isBetter 26 = .ok (.iconst 1, 1) := by decide +kernel
theorem dX3_isBetter_27 : decode cX3_isBetter 27 = .ok (.goto 4, 3) := by decide +kernel
theorem dX3_isBetter_30 : decode cX3_isBetter 30 = .ok (.iconst 0, 1) := by decide +kernel
theorem dX3_isBetter_31 : decode cX3_isBetter 31 = .ok (.ireturn, 1) := by decide +kernel
theorem dX3_isBetter_32 : decode cX3_isBetter 32 = .ok (.aload_n 0, 1) := by decide +kernel
theorem dX3_isBetter_33 : decode cX3_isBetter 33 = .ok (.getfield 9, 3) := by decide +kernel
theorem dX3_isBetter_36 : decode cX3_isBetter 36 = .ok (.iload_n 3, 1) := by decide +kernel
theorem dX3_isBetter_37 : decode cX3_isBetter 37 = .ok (.iaload, 1) := by decide +kernel
theorem dX3_isBetter_38 : decode cX3_isBetter 38 = .ok (.aload_n 0, 1) := by decide +kernel
theorem dX3_isBetter_39 : decode cX3_isBetter 39 = .ok (.getfield 9, 3) := by decide +kernel
theorem dX3_isBetter_42 : decode cX3_isBetter 42 = .ok (.iload 4, 2) := by decide +kernel
theorem dX3_isBetter_44 : decode cX3_isBetter 44 = .ok (.iaload, 1) := by decide +kernel
theorem dX3_isBetter_45 : decode cX3_isBetter 45 = .ok (.if_icmp .eq 25, 3) := by decide +kernel
theorem dX3_isBetter_48 : decode cX3_isBetter 48 = .ok (.aload_n 0, 1) := by decide +kernel
theorem dX3_isBetter_49 : decode cX3_isBetter 49 = .ok (.getfield 9, 3) := by decide +kernel
theorem dX3_isBetter_52 : decode cX3_isBetter 52 = .ok (.iload_n 3, 1) := by decide +kernel
theorem dX3_isBetter_53 : decode cX3_isBetter 53 = .ok (.iaload, 1) := by decide +kernel
theorem dX3_isBetter_54 : decode cX3_isBetter 54 = .ok (.aload_n 0, 1) := by decide +kernel
theorem dX3_isBetter_55 : decode cX3_isBetter 55 = .ok (.getfield 9, 3) := by decide +kernel
theorem dX3_isBetter_58 : decode cX3_isBetter 58 = .ok (.iload 4, 2) := by decide +kernel
theorem dX3_isBetter_60 : decode cX3_isBetter 60 = .ok (.iaload, 1) := by decide +kernel
theorem dX3_isBetter_61 : decode cX3_isBetter 61 = .ok (.if_icmp .le 7, 3) := by decide +kernel
theorem dX3_isBetter_64 : decode cX3_isBetter 64 = .ok (.iconst 1, 1) := by decide +kernel
theorem dX3_isBetter_65 : decode cX3_isBetter 65 = .ok (.goto 4, 3) := by decide +kernel
theorem dX3_isBetter_68 : decode cX3_isBetter 68 = .ok (.iconst 0, 1) := by decide +kernel
theorem dX3_isBetter_69 : decode cX3_isBetter 69 = .ok (.ireturn, 1) := by decide +kernel
theorem dX3_isBetter_70 : decode cX3_isBetter 70 = .ok (.aload_n 0, 1) := by decide +kernel
theorem dX3_isBetter_71 : decode cX3_isBetter 71 = .ok (.iload_n 2, 1) := by decide +kernel
theorem dX3_isBetter_72 : decode cX3_isBetter 72 = .ok (.iload_n 3, 1) := by decide +kernel
theorem dX3_isBetter_73 : decode cX3_isBetter 73 = .ok (.invokevirtual 81, 3) := by decide +kernel
theorem dX3_isBetter_76 : decode cX3_isBetter 76 = .ok (.aload_n 0, 1) := by decide +kernel
theorem dX3_isBetter_77 : decode cX3_isBetter 77 = .ok (.iload_n 2, 1) := by decide +kernel
theorem dX3_isBetter_78 : decode cX3_isBetter 78 = .ok (.iload 4, 2) := by decide +kernel
theorem dX3_isBetter_80 : decode cX3_isBetter 80 = .ok (.invokevirtual 81, 3) := by decide +kernel
theorem dX3_isBetter_83 : decode cX3_isBetter 83 = .ok (.if_icmp .ge 7, 3) := by decide +kernel
theorem dX3_isBetter_86 : decode cX3_isBetter 86 = .ok (.iconst 1, 1) := by decide +kernel
theorem dX3_isBetter_87 : decode cX3_isBetter 87 = .ok (.goto 4, 3) := by decide +kernel
theorem dX3_isBetter_90 : decode cX3_isBetter 90 = .ok (.iconst 0, 1) := by decide +kernel
theorem dX3_isBetter_91 : decode cX3_isBetter 91 = .ok (.ireturn, 1) := by decide +kernel
theorem dX3_hits_0 : decode cX3_hits 0 = .ok (.aload_n 1, 1) := by decide +kernel
theorem dX3_hits_1 : decode cX3_hits 1 = .ok (.iload_n 2, 1) := by decide +kernel
theorem dX3_hits_2 : decode cX3_hits 2 = .ok (.aload_n 0, 1) := by decide +kernel
theorem dX3_hits_3 : decode cX3_hits 3 = .ok (.getfield 34, 3) := by decide +kernel
theorem dX3_hits_6 : decode cX3_hits 6 = .ok (.iconst 1, 1) := by decide +kernel
theorem dX3_hits_7 : decode cX3_hits 7 = .ok (.iaload, 1) := by decide +kernel
theorem dX3_hits_8 : decode cX3_hits 8 = .ok (.invokevirtual 125, 3) := by decide +kernel
theorem dX3_hits_11 : decode cX3_hits 11 = .ok (.ireturn, 1) := by decide +kernel
theorem dX3_isEndangered_0 : decode cX3_isEndangered 0 = .ok (.aload_n 0, 1) := by decide +kernel
theorem dX3_isEndangered_1 : decode cX3_isEndangered 1 = .ok (.aload_n 1, 1) := by decide +kernel
theorem dX3_isEndangered_2 : decode cX3_isEndangered 2 = .ok (.iload_n 2, 1) := by decide +kernel
theorem dX3_isEndangered_3 : decode cX3_isEndangered 3 = .ok (.invokevirtual 128, 3) := by decide +kernel
theorem dX3_isEndangered_6 : decode cX3_isEndangered 6 = .ok (.ifCond .le 7, 3) := by decide +kernel
theorem dX3_isEndangered_9 : decode cX3_isEndangered 9 = .ok (.iconst 1, 1) := by decide +kernel
theorem dX3_isEndangered_10 : decode cX3_isEndangered 10 = .ok (.goto 4, 3) := by decide +kernel
theorem dX3_isEndangered_13 : decode cX3_isEndangered 13 = .ok (.iconst 0, 1) := by decide +kernel
theorem dX3_isEndangered_14 : decode cX3_isEndangered 14 = .ok (.ireturn, 1) := by decide +kernel
theorem dX3_isDoomed_0 : decode cX3_isDoomed 0 = .ok (.aload_n 0, 1) := by decide +kernel
theorem dX3_isDoomed_1 : decode cX3_isDoomed 1 = .ok (.aload_n 1, 1) := by decide +kernel
theorem dX3_isDoomed_2 : decode cX3_isDoomed 2 = .ok (.iload_n 2, 1) := by decide +kernel
theorem dX3_isDoomed_3 : decode cX3_isDoomed 3 = .ok (.invokevirtual 128, 3) := by decide +kernel
theorem dX3_isDoomed_6 : decode cX3_isDoomed 6 = .ok (.aload_n 1, 1) := by decide +kernel
theorem dX3_isDoomed_7 : decode cX3_isDoomed 7 = .ok (.getfield 94, 3) := by decide +kernel
theorem dX3_isDoomed_10 : decode cX3_isDoomed 10 = .ok (.if_icmp .ne 7, 3) := by decide +kernel
theorem dX3_isDoomed_13 : decode cX3_isDoomed 13 = .ok (.iconst 1, 1) := by decide +kernel
theorem dX3_isDoomed_14 : decode cX3_isDoomed 14 = .ok (.goto 4, 3) := by decide +kernel
theorem dX3_isDoomed_17 : decode cX3_isDoomed 17 = .ok (.iconst 0, 1) := by decide +kernel
theorem dX3_isDoomed_18 : decode cX3_isDoomed 18 = .ok (.ireturn, 1) := by decide +kernel
theorem dX3_standsToLose_0 : decode cX3_standsToLose 0 = .ok (.aload_n 1, 1) := by decide +kernel
theorem dX3_standsToLose_1 : decode cX3_standsToLose 1 = .ok (.getfield 94, 3) := by decide +kernel
theorem dX3_standsToLose_4 : decode cX3_standsToLose 4 = .ok (.ifCond .ne 5, 3) := by decide +kernel
theorem dX3_standsToLose_7 : decode cX3_standsToLose 7 = .ok (.iconst 0, 1) := by decide +kernel
theorem dX3_standsToLose_8 : decode cX3_standsToLose 8 = .ok (.ireturn, 1) := by decide +kernel
theorem dX3_standsToLose_9 : decode cX3_standsToLose 9 = .ok (.aload_n 0, 1) := by decide +kernel
theorem dX3_standsToLose_10 : decode cX3_standsToLose 10 = .ok (.getfield 9, 3) := by decide +kernel
theorem dX3_standsToLose_13 : decode cX3_standsToLose 13 = .ok (.iload_n 2, 1) := by decide +kernel
theorem dX3_standsToLose_14 : decode cX3_standsToLose 14 = .ok (.iaload, 1) := by decide +kernel
theorem dX3_standsToLose_15 : decode cX3_standsToLose 15 = .ok (.aload_n 0, 1) := by decide +kernel
theorem dX3_standsToLose_16 : decode cX3_standsToLose 16 = .ok (.aload_n 1, 1) := by decide +kernel
theorem dX3_standsToLose_17 : decode cX3_standsToLose 17 = .ok (.iload_n 2, 1) := by decide +kernel
theorem dX3_standsToLose_18 : decode cX3_standsToLose 18 = .ok (.invokevirtual 128, 3) := by decide +kernel
theorem dX3_standsToLose_21 : decode cX3_standsToLose 21 = .ok (.imul, 1) := by decide +kernel
theorem dX3_standsToLose_22 : decode cX3_standsToLose 22 = .ok (.aload_n 1, 1) := by decide +kernel
theorem dX3_standsToLose_23 : decode cX3_standsToLose 23 = .ok (.getfield 94, 3) := by decide +kernel
theorem dX3_standsToLose_26 : decode cX3_standsToLose 26 = .ok (.idiv, 1) := by decide +kernel
theorem dX3_standsToLose_27 : decode cX3_standsToLose 27 = .ok (.ireturn, 1) := by decide +kernel
theorem dX3_worthOfAll_0 : decode cX3_worthOfAll 0 = .ok (.iconst 0, 1) := by decide +kernel
theorem dX3_worthOfAll_1 : decode cX3_worthOfAll 1 = .ok (.istore_n 1, 1) := by decide +kernel
theorem dX3_worthOfAll_2 : decode cX3_worthOfAll 2 = .ok (.iconst 0, 1) := by decide +kernel
theorem dX3_worthOfAll_3 : decode cX3_worthOfAll 3 = .ok (.istore_n 2, 1) := by decide +kernel
theorem dX3_worthOfAll_4 : decode cX3_worthOfAll 4 = .ok (.iload_n 2, 1) := by decide +kernel
theorem dX3_worthOfAll_5 : decode cX3_worthOfAll 5 = .ok (.bipush 64, 2) := by decide +kernel
theorem dX3_worthOfAll_7 : decode cX3_worthOfAll 7 = .ok (.if_icmp .ge 18, 3) := by decide +kernel
theorem dX3_worthOfAll_10 : decode cX3_worthOfAll 10 = .ok (.iload_n 1, 1) := by decide +kernel
theorem dX3_worthOfAll_11 : decode cX3_worthOfAll 11 = .ok (.aload_n 0, 1) := by decide +kernel
theorem dX3_worthOfAll_12 : decode cX3_worthOfAll 12 = .ok (.getfield 9, 3) := by decide +kernel
theorem dX3_worthOfAll_15 : decode cX3_worthOfAll 15 = .ok (.iload_n 2, 1) := by decide +kernel
theorem dX3_worthOfAll_16 : decode cX3_worthOfAll 16 = .ok (.iaload, 1) := by decide +kernel
theorem dX3_worthOfAll_17 : decode cX3_worthOfAll 17 = .ok (.iadd, 1) := by decide +kernel
theorem dX3_worthOfAll_18 : decode cX3_worthOfAll 18 = .ok (.istore_n 1, 1) := by decide +kernel
theorem dX3_worthOfAll_19 : decode cX3_worthOfAll 19 = .ok (.iinc 2 1, 3) := by decide +kernel
theorem dX3_worthOfAll_22 : decode cX3_worthOfAll 22 = .ok (.goto (-18), 3) := by decide +kernel
theorem dX3_worthOfAll_25 : decode cX3_worthOfAll 25 = .ok (.iload_n 1, 1) := by decide +kernel
theorem dX3_worthOfAll_26 : decode cX3_worthOfAll 26 = .ok (.ireturn, 1) := by decide +kernel
theorem dX3_endangeredPlots_0 : decode cX3_endangeredPlots 0 = .ok (.iconst 0, 1) := by decide +kernel
theorem dX3_endangeredPlots_1 : decode cX3_endangeredPlots 1 = .ok (.istore_n 2, 1) := by decide +kernel
theorem dX3_endangeredPlots_2 : decode cX3_endangeredPlots 2 = .ok (.iconst 0, 1) := by decide +kernel
theorem dX3_endangeredPlots_3 : decode cX3_endangeredPlots 3 = .ok (.istore_n 3, 1) := by decide +kernel
theorem dX3_endangeredPlots_4 : decode cX3_endangeredPlots 4 = .ok (.iload_n 3, 1) := by decide +kernel
theorem dX3_endangeredPlots_5 : decode cX3_endangeredPlots 5 = .ok (.bipush 64, 2) := by decide +kernel
theorem dX3_endangeredPlots_7 : decode cX3_endangeredPlots 7 = .ok (.if_icmp .ge 21, 3) := by decide +kernel
theorem dX3_endangeredPlots_10 : decode cX3_endangeredPlots 10 = .ok (.aload_n 0, 1) := by decide +kernel
theorem dX3_endangeredPlots_11 : decode cX3_endangeredPlots 11 = .ok (.aload_n 1, 1) := by decide +kernel
theorem dX3_endangeredPlots_12 : decode cX3_endangeredPlots 12 = .ok (.iload_n 3, 1) := by decide +kernel
theorem dX3_endangeredPlots_13 : decode cX3_endangeredPlots 13 = .ok (.invokevirtual 108, 3) := by decide +kernel
theorem dX3_endangeredPlots_16 : decode cX3_endangeredPlots 16 = .ok (.ifCond .eq 6, 3) := by decide +kernel
theorem dX3_endangeredPlots_19 : decode cX3_endangeredPlots 19 = .ok (.iinc 2 1, 3) := by decide +kernel
theorem dX3_endangeredPlots_22 : decode cX3_endangeredPlots 22 = .ok (.iinc 3 1, 3) := by decide +kernel
theorem dX3_endangeredPlots_25 : decode cX3_endangeredPlots 25 = .ok (.goto (-21), 3) := by decide +kernel
theorem dX3_endangeredPlots_28 : decode cX3_endangeredPlots 28 = .ok (.iload_n 2, 1) := by decide +kernel
theorem dX3_endangeredPlots_29 : decode cX3_endangeredPlots 29 = .ok (.ireturn, 1) := by decide +kernel
theorem dX3_doomedPlots_0 : decode cX3_doomedPlots 0 = .ok (.iconst 0, 1) := by decide +kernel
theorem dX3_doomedPlots_1 : decode cX3_doomedPlots 1 = .ok (.istore_n 2, 1) := by decide +kernel
theorem dX3_doomedPlots_2 : decode cX3_doomedPlots 2 = .ok (.iconst 0, 1) := by decide +kernel
theorem dX3_doomedPlots_3 : decode cX3_doomedPlots 3 = .ok (.istore_n 3, 1) := by decide +kernel
theorem dX3_doomedPlots_4 : decode cX3_doomedPlots 4 = .ok (.iload_n 3, 1) := by decide +kernel
theorem dX3_doomedPlots_5 : decode cX3_doomedPlots 5 = .ok (.bipush 64, 2) := by decide +kernel
theorem dX3_doomedPlots_7 : decode cX3_doomedPlots 7 = .ok (.if_icmp .ge 21, 3) := by decide +kernel
theorem dX3_doomedPlots_10 : decode cX3_doomedPlots 10 = .ok (.aload_n 0, 1) := by decide +kernel
theorem dX3_doomedPlots_11 : decode cX3_doomedPlots 11 = .ok (.aload_n 1, 1) := by decide +kernel
theorem dX3_doomedPlots_12 : decode cX3_doomedPlots 12 = .ok (.iload_n 3, 1) := by decide +kernel
theorem dX3_doomedPlots_13 : decode cX3_doomedPlots 13 = .ok (.invokevirtual 131, 3) := by decide +kernel
theorem dX3_doomedPlots_16 : decode cX3_doomedPlots 16 = .ok (.ifCond .eq 6, 3) := by decide +kernel
theorem dX3_doomedPlots_19 : decode cX3_doomedPlots 19 = .ok (.iinc 2 1, 3) := by decide +kernel
theorem dX3_doomedPlots_22 : decode cX3_doomedPlots 22 = .ok (.iinc 3 1, 3) := by decide +kernel
theorem dX3_doomedPlots_25 : decode cX3_doomedPlots 25 = .ok (.goto (-21), 3) := by decide +kernel
theorem dX3_doomedPlots_28 : decode cX3_doomedPlots 28 = .ok (.iload_n 2, 1) := by decide +kernel
theorem dX3_doomedPlots_29 : decode cX3_doomedPlots 29 = .ok (.ireturn, 1) := by decide +kernel
theorem dX3_allStandToLose_0 : decode cX3_allStandToLose 0 = .ok (.iconst 0, 1) := by decide +kernel
theorem dX3_allStandToLose_1 : decode cX3_allStandToLose 1 = .ok (.istore_n 2, 1) := by decide +kernel
theorem dX3_allStandToLose_2 : decode cX3_allStandToLose 2 = .ok (.iconst 0, 1) := by decide +kernel
theorem dX3_allStandToLose_3 : decode cX3_allStandToLose 3 = .ok (.istore_n 3, 1) := by decide +kernel
theorem dX3_allStandToLose_4 : decode cX3_allStandToLose 4 = .ok (.iload_n 3, 1) := by decide +kernel
theorem dX3_allStandToLose_5 : decode cX3_allStandToLose 5 = .ok (.bipush 64, 2) := by decide +kernel
theorem dX3_allStandToLose_7 : decode cX3_allStandToLose 7 = .ok (.if_icmp .ge 18, 3) := by decide +kernel
theorem dX3_allStandToLose_10 : decode cX3_allStandToLose 10 = .ok (.iload_n 2, 1) := by decide +kernel
theorem dX3_allStandToLose_11 : decode cX3_allStandToLose 11 = .ok (.aload_n 0, 1) := by decide +kernel
theorem dX3_allStandToLose_12 : decode cX3_allStandToLose 12 = .ok (.aload_n 1, 1) := by decide +kernel
theorem dX3_allStandToLose_13 : decode cX3_allStandToLose 13 = .ok (.iload_n 3, 1) := by decide +kernel
theorem dX3_allStandToLose_14 : decode cX3_allStandToLose 14 = .ok (.invokevirtual 122, 3) := by decide +kernel
theorem dX3_allStandToLose_17 : decode cX3_allStandToLose 17 = .ok (.iadd, 1) := by decide +kernel
theorem dX3_allStandToLose_18 : decode cX3_allStandToLose 18 = .ok (.istore_n 2, 1) := by decide +kernel
theorem dX3_allStandToLose_19 : decode cX3_allStandToLose 19 = .ok (.iinc 3 1, 3) := by decide +kernel
theorem dX3_allStandToLose_22 : decode cX3_allStandToLose 22 = .ok (.goto (-18), 3) := by decide +kernel
theorem dX3_allStandToLose_25 : decode cX3_allStandToLose 25 = .ok (.iload_n 2, 1) := by decide +kernel
theorem dX3_allStandToLose_26 : decode cX3_allStandToLose 26 = .ok (.ireturn, 1) := by decide +kernel
theorem dX3_felledPlots_0 : decode cX3_felledPlots 0 = .ok (.iconst 0, 1) := by decide +kernel
theorem dX3_felledPlots_1 : decode cX3_felledPlots 1 = .ok (.istore_n 1, 1) := by decide +kernel
theorem dX3_felledPlots_2 : decode cX3_felledPlots 2 = .ok (.iconst 0, 1) := by decide +kernel
theorem dX3_felledPlots_3 : decode cX3_felledPlots 3 = .ok (.istore_n 2, 1) := by decide +kernel
theorem dX3_felledPlots_4 : decode cX3_felledPlots 4 = .ok (.iload_n 2, 1) := by decide +kernel
theorem dX3_felledPlots_5 : decode cX3_felledPlots 5 = .ok (.bipush 64, 2) := by decide +kernel
theorem dX3_felledPlots_7 : decode cX3_felledPlots 7 = .ok (.if_icmp .ge 21, 3) := by decide +kernel
theorem dX3_felledPlots_10 : decode cX3_felledPlots 10 = .ok (.aload_n 0, 1) := by decide +kernel
theorem dX3_felledPlots_11 : decode cX3_felledPlots 11 = .ok (.getfield 15, 3) := by decide +kernel
theorem dX3_felledPlots_14 : decode cX3_felledPlots 14 = .ok (.iload_n 2, 1) := by decide +kernel
theorem dX3_felledPlots_15 : decode cX3_felledPlots 15 = .ok (.baload, 1) := by decide +kernel
theorem dX3_felledPlots_16 : decode cX3_felledPlots 16 = .ok (.ifCond .eq 6, 3) := by decide +kernel
theorem dX3_felledPlots_19 : decode cX3_felledPlots 19 = .ok (.iinc 1 1, 3) := by decide +kernel
theorem dX3_felledPlots_22 : decode cX3_felledPlots 22 = .ok (.iinc 2 1, 3) := by decide +kernel
theorem dX3_felledPlots_25 : decode cX3_felledPlots 25 = .ok (.goto (-21), 3) := by decide +kernel
theorem dX3_felledPlots_28 : decode cX3_felledPlots 28 = .ok (.iload_n 1, 1) := by decide +kernel
theorem dX3_felledPlots_29 : decode cX3_felledPlots 29 = .ok (.ireturn, 1) := by decide +kernel
theorem dX3_hintsTold_0 : decode cX3_hintsTold 0 = .ok (.iconst 0, 1) := by decide +kernel
theorem dX3_hintsTold_1 : decode cX3_hintsTold 1 = .ok (.istore_n 1, 1) := by decide +kernel
theorem dX3_hintsTold_2 : decode cX3_hintsTold 2 = .ok (.iconst 0, 1) := by decide +kernel
theorem dX3_hintsTold_3 : decode cX3_hintsTold 3 = .ok (.istore_n 2, 1) := by decide +kernel
theorem dX3_hintsTold_4 : decode cX3_hintsTold 4 = .ok (.iload_n 2, 1) := by decide +kernel
theorem dX3_hintsTold_5 : decode cX3_hintsTold 5 = .ok (.bipush 8, 2) := by decide +kernel
theorem dX3_hintsTold_7 : decode cX3_hintsTold 7 = .ok (.if_icmp .ge 23, 3) := by decide +kernel
theorem dX3_hintsTold_10 : decode cX3_hintsTold 10 = .ok (.aload_n 0, 1) := by decide +kernel
theorem dX3_hintsTold_11 : decode cX3_hintsTold 11 = .ok (.getfield 31, 3) := by decide +kernel
theorem dX3_hintsTold_14 : decode cX3_hintsTold 14 = .ok (.iload_n 2, 1) := by decide +kernel
theorem dX3_hintsTold_15 : decode cX3_hintsTold 15 = .ok (.iaload, 1) := by decide +kernel
theorem dX3_hintsTold_16 : decode cX3_hintsTold 16 = .ok (.bipush (-5), 2) := by decide +kernel
theorem dX3_hintsTold_18 : decode cX3_hintsTold 18 = .ok (.if_icmp .eq 6, 3) := by decide +kernel
theorem dX3_hintsTold_21 : decode cX3_hintsTold 21 = .ok (.iinc 1 1, 3) := by decide +kernel
theorem dX3_hintsTold_24 : decode cX3_hintsTold 24 = .ok (.iinc 2 1, 3) := by decide +kernel
theorem dX3_hintsTold_27 : decode cX3_hintsTold 27 = .ok (.goto (-23), 3) := by decide +kernel
theorem dX3_hintsTold_30 : decode cX3_hintsTold 30 = .ok (.iload_n 1, 1) := by decide +kernel
theorem dX3_hintsTold_31 : decode cX3_hintsTold 31 = .ok (.ireturn, 1) := by decide +kernel
theorem dX3_savedByAll_0 : decode cX3_savedByAll 0 = .ok (.iconst 0, 1) := by decide +kernel
theorem dX3_savedByAll_1 : decode cX3_savedByAll 1 = .ok (.istore_n 1, 1) := by decide +kernel
theorem dX3_savedByAll_2 : decode cX3_savedByAll 2 = .ok (.iconst 0, 1) := by decide +kernel
theorem dX3_savedByAll_3 : decode cX3_savedByAll 3 = .ok (.istore_n 2, 1) := by decide +kernel
theorem dX3_savedByAll_4 : decode cX3_savedByAll 4 = .ok (.iload_n 2, 1) := by decide +kernel
theorem dX3_savedByAll_5 : decode cX3_savedByAll 5 = .ok (.iconst 3, 1) := by decide +kernel
theorem dX3_savedByAll_6 : decode cX3_savedByAll 6 = .ok (.if_icmp .ge 18, 3) := by decide +kernel
theorem dX3_savedByAll_9 : decode cX3_savedByAll 9 = .ok (.iload_n 1, 1) := by decide +kernel
theorem dX3_savedByAll_10 : decode cX3_savedByAll 10 = .ok (.aload_n 0, 1) := by decide +kernel
theorem dX3_savedByAll_11 : decode cX3_savedByAll 11 = .ok (.getfield 25, 3) := by decide +kernel
theorem dX3_savedByAll_14 : decode cX3_savedByAll 14 = .ok (.iload_n 2, 1) := by decide +kernel
theorem dX3_savedByAll_15 : decode cX3_savedByAll 15 = .ok (.iaload, 1) := by decide +kernel
theorem dX3_savedByAll_16 : decode cX3_savedByAll 16 = .ok (.iadd, 1) := by decide +kernel
theorem dX3_savedByAll_17 : decode cX3_savedByAll 17 = .ok (.istore_n 1, 1) := by decide +kernel
theorem dX3_savedByAll_18 : decode cX3_savedByAll 18 = .ok (.iinc 2 1, 3) := by decide +kernel
theorem dX3_savedByAll_21 : decode cX3_savedByAll 21 = .ok (.goto (-17), 3) := by decide +kernel
theorem dX3_savedByAll_24 : decode cX3_savedByAll 24 = .ok (.iload_n 1, 1) := by decide +kernel
theorem dX3_savedByAll_25 : decode cX3_savedByAll 25 = .ok (.ireturn, 1) := by decide +kernel
theorem dX4_init_0 : decode cX4_init 0 = .ok (.aload_n 0, 1) := by decide +kernel
theorem dX4_init_1 : decode cX4_init 1 = .ok (.invokespecial 1, 3) := by decide +kernel
theorem dX4_init_4 : decode cX4_init 4 = .ok (.aload_n 0, 1) := by decide +kernel
theorem dX4_init_5 : decode cX4_init 5 = .ok (.new 7, 3) := by decide +kernel
theorem dX4_init_8 : decode cX4_init 8 = .ok (.dup, 1) := by decide +kernel
theorem dX4_init_9 : decode cX4_init 9 = .ok (.invokespecial 9, 3) := by decide +kernel
theorem dX4_init_12 : decode cX4_init 12 = .ok (.putfield 10, 3) := by decide +kernel
theorem dX4_init_15 : decode cX4_init 15 = .ok (.aload_n 0, 1) := by decide +kernel
theorem dX4_init_16 : decode cX4_init 16 = .ok (.new 7, 3) := by decide +kernel
theorem dX4_init_19 : decode cX4_init 19 = .ok (.dup, 1) := by decide +kernel
theorem dX4_init_20 : decode cX4_init 20 = .ok (.invokespecial 9, 3) := by decide +kernel
theorem dX4_init_23 : decode cX4_init 23 = .ok (.putfield 16, 3) := by decide +kernel
theorem dX4_init_26 : decode cX4_init 26 = .ok (.aload_n 0, 1) := by decide +kernel
theorem dX4_init_27 : decode cX4_init 27 = .ok (.new 7, 3) := by decide +kernel
theorem dX4_init_30 : decode cX4_init 30 = .ok (.dup, 1) := by decide +kernel
theorem dX4_init_31 : decode cX4_init 31 = .ok (.invokespecial 9, 3) := by decide +kernel
theorem dX4_init_34 : decode cX4_init 34 = .ok (.putfield 19, 3) := by decide +kernel
theorem dX4_init_37 : decode cX4_init 37 = .ok (.aload_n 0, 1) := by decide +kernel
theorem dX4_init_38 : decode cX4_init 38 = .ok (.new 22, 3) := by decide +kernel
theorem dX4_init_41 : decode cX4_init 41 = .ok (.dup, 1) := by decide +kernel
theorem dX4_init_42 : decode cX4_init 42 = .ok (.invokespecial 24, 3) := by decide +kernel
theorem dX4_init_45 : decode cX4_init 45 = .ok (.putfield 25, 3) := by decide +kernel
theorem dX4_init_48 : decode cX4_init 48 = .ok (.aload_n 0, 1) := by decide +kernel
theorem dX4_init_49 : decode cX4_init 49 = .ok (.new 29, 3) := by decide +kernel
theorem dX4_init_52 : decode cX4_init 52 = .ok (.dup, 1) := by decide +kernel
theorem dX4_init_53 : decode cX4_init 53 = .ok (.invokespecial 31, 3) := by decide +kernel
theorem dX4_init_56 : decode cX4_init 56 = .ok (.putfield 32, 3) := by decide +kernel
theorem dX4_init_59 : decode cX4_init 59 = .ok (.aload_n 0, 1) := by decide +kernel
theorem dX4_init_60 : decode cX4_init 60 = .ok (.new 36, 3) := by decide +kernel
theorem dX4_init_63 : decode cX4_init 63 = .ok (.dup, 1) := by decide +kernel
theorem dX4_init_64 : decode cX4_init 64 = .ok (.invokespecial 38, 3) := by decide +kernel
theorem dX4_init_67 : decode cX4_init 67 = .ok (.putfield 39, 3) := by decide +kernel
theorem dX4_init_70 : decode cX4_init 70 = .ok (.return_, 1) := by decide +kernel
theorem dX4_grow_0 : decode cX4_grow 0 = .ok (.aload_n 0, 1) := by decide +kernel
theorem dX4_grow_1 : decode cX4_grow 1 = .ok (.getfield 16, 3) := by decide +kernel
theorem dX4_grow_4 : decode cX4_grow 4 = .ok (.aload_n 0, 1) := by decide +kernel
theorem dX4_grow_5 : decode cX4_grow 5 = .ok (.getfield 10, 3) := by decide +kernel
theorem dX4_grow_8 : decode cX4_grow 8 = .ok (.invokevirtual 43, 3) := by decide +kernel
theorem dX4_grow_11 : decode cX4_grow 11 = .ok (.aload_n 0, 1) := by decide +kernel
theorem dX4_grow_12 : decode cX4_grow 12 = .ok (.aload_n 0, 1) := by decide +kernel
theorem dX4_grow_13 : decode cX4_grow 13 = .ok (.getfield 10, 3) := by decide +kernel
theorem dX4_grow_16 : decode cX4_grow 16 = .ok (.iload_n 1, 1) := by decide +kernel
theorem dX4_grow_17 : decode cX4_grow 17 = .ok (.iload_n 2, 1) := by decide +kernel
theorem dX4_grow_18 : decode cX4_grow 18 = .ok (.invokevirtual 47, 3) := by decide +kernel
theorem dX4_grow_21 : decode cX4_grow 21 = .ok (.invokevirtual 51, 3) := by decide +kernel
theorem dX4_grow_24 : decode cX4_grow 24 = .ok (.ireturn, 1) := by decide +kernel
theorem dX4_rain_0 : decode cX4_rain 0 = .ok (.aload_n 0, 1) := by decide +kernel
theorem dX4_rain_1 : decode cX4_rain 1 = .ok (.getfield 16, 3) := by decide +kernel
theorem dX4_rain_4 : decode cX4_rain 4 = .ok (.aload_n 0, 1) := by decide +kernel
theorem dX4_rain_5 : decode cX4_rain 5 = .ok (.getfield 10, 3) := by decide +kernel
theorem dX4_rain_8 : decode cX4_rain 8 = .ok (.invokevirtual 43, 3) := by decide +kernel
theorem dX4_rain_11 : decode cX4_rain 11 = .ok (.aload_n 0, 1) := by decide +kernel
theorem dX4_rain_12 : decode cX4_rain 12 = .ok (.aload_n 0, 1) := by decide +kernel
theorem dX4_rain_13 : decode cX4_rain 13 = .ok (.getfield 10, 3) := by decide +kernel
theorem dX4_rain_16 : decode cX4_rain 16 = .ok (.iload_n 1, 1) := by decide +kernel
theorem dX4_rain_17 : decode cX4_rain 17 = .ok (.invokevirtual 55, 3) := by decide +kernel
theorem dX4_rain_20 : decode cX4_rain 20 = .ok (.invokevirtual 51, 3) := by decide +kernel
theorem dX4_rain_23 : decode cX4_rain 23 = .ok (.ireturn, 1) := by decide +kernel
theorem dX4_endDays_0 : decode cX4_endDays 0 = .ok (.aload_n 0, 1) := by decide +kernel
theorem dX4_endDays_1 : decode cX4_endDays 1 = .ok (.getfield 16, 3) := by decide +kernel
theorem dX4_endDays_4 : decode cX4_endDays 4 = .ok (.aload_n 0, 1) := by decide +kernel
theorem dX4_endDays_5 : decode cX4_endDays 5 = .ok (.getfield 10, 3) := by decide +kernel
theorem dX4_endDays_8 : decode cX4_endDays 8 = .ok (.invokevirtual 43, 3) := by decide +kernel
theorem dX4_endDays_11 : decode cX4_endDays 11 = .ok (.aload_n 0, 1) := by decide +kernel
theorem dX4_endDays_12 : decode cX4_endDays 12 = .ok (.aload_n 0, 1) := by decide +kernel
theorem dX4_endDays_13 : decode cX4_endDays 13 = .ok (.getfield 10, 3) := by decide +kernel
theorem dX4_endDays_16 : decode cX4_endDays 16 = .ok (.iload_n 1, 1) := by decide +kernel
theorem dX4_endDays_17 : decode cX4_endDays 17 = .ok (.invokevirtual 58, 3) := by decide +kernel
theorem dX4_endDays_20 : decode cX4_endDays 20 = .ok (.invokevirtual 51, 3) := by decide +kernel
theorem dX4_endDays_23 : decode cX4_endDays 23 = .ok (.ireturn, 1) := by decide +kernel
theorem dX4_set_0 : decode cX4_set 0 = .ok (.aload_n 0, 1) := by decide +kernel
theorem dX4_set_1 : decode cX4_set 1 = .ok (.getfield 16, 3) := by decide +kernel
theorem dX4_set_4 : decode cX4_set 4 = .ok (.aload_n 0, 1) := by decide +kernel
theorem dX4_set_5 : decode cX4_set 5 = .ok (.getfield 10, 3) := by decide +kernel
theorem dX4_set_8 : decode cX4_set 8 = .ok (.invokevirtual 43, 3) := by decide +kernel
theorem dX4_set_11 : decode cX4_set 11 = .ok (.aload_n 0, 1) := by decide +kernel
theorem dX4_set_12 : decode cX4_set 12 = .ok (.aload_n 0, 1) := by decide +kernel
theorem dX4_set_13 : decode cX4_set 13 = .ok (.getfield 10, 3) := by decide +kernel
theorem dX4_set_16 : decode cX4_set 16 = .ok (.iload_n 1, 1) := by decide +kernel
theorem dX4_set_17 : decode cX4_set 17 = .ok (.iload_n 2, 1) := by decide +kernel
theorem dX4_set_18 : decode cX4_set 18 = .ok (.invokevirtual 61, 3) := by decide +kernel
theorem dX4_set_21 : decode cX4_set 21 = .ok (.invokevirtual 51, 3) := by decide +kernel
theorem dX4_set_24 : decode cX4_set 24 = .ok (.ireturn, 1) := by decide +kernel
theorem dX4_go_0 : decode cX4_go 0 = .ok (.aload_n 0, 1) := by decide +kernel
theorem dX4_go_1 : decode cX4_go 1 = .ok (.getfield 16, 3) := by decide +kernel
theorem dX4_go_4 : decode cX4_go 4 = .ok (.aload_n 0, 1) := by decide +kernel
theorem dX4_go_5 : decode cX4_go 5 = .ok (.getfield 10, 3) := by decide +kernel
theorem dX4_go_8 : decode cX4_go 8 = .ok (.invokevirtual 43, 3) := by decide +kernel
theorem dX4_go_11 : decode cX4_go 11 = .ok (.aload_n 0, 1) := by decide +kernel
theorem dX4_go_12 : decode cX4_go 12 = .ok (.aload_n 0, 1) := by decide +kernel
theorem dX4_go_13 : decode cX4_go 13 = .ok (.getfield 10, 3) := by decide +kernel
theorem dX4_go_16 : decode cX4_go 16 = .ok (.iload_n 1, 1) := by decide +kernel
theorem dX4_go_17 : decode cX4_go 17 = .ok (.iload_n 2, 1) := by decide +kernel
theorem dX4_go_18 : decode cX4_go 18 = .ok (.invokevirtual 64, 3) := by decide +kernel
theorem dX4_go_21 : decode cX4_go 21 = .ok (.invokevirtual 51, 3) := by decide +kernel
theorem dX4_go_24 : decode cX4_go 24 = .ok (.ireturn, 1) := by decide +kernel
theorem dX4_fell_0 : decode cX4_fell 0 = .ok (.aload_n 0, 1) := by decide +kernel
theorem dX4_fell_1 : decode cX4_fell 1 = .ok (.getfield 16, 3) := by decide +kernel
theorem dX4_fell_4 : decode cX4_fell 4 = .ok (.aload_n 0, 1) := by decide +kernel
theorem dX4_fell_5 : decode cX4_fell 5 = .ok (.getfield 10, 3) := by decide +kernel
theorem dX4_fell_8 : decode cX4_fell 8 = .ok (.invokevirtual 43, 3) := by decide +kernel
theorem dX4_fell_11 : decode cX4_fell 11 = .ok (.aload_n 0, 1) := by decide +kernel
theorem dX4_fell_12 : decode cX4_fell 12 = .ok (.aload_n 0, 1) := by decide +kernel
theorem dX4_fell_13 : decode cX4_fell 13 = .ok (.getfield 10, 3) := by decide +kernel
theorem dX4_fell_16 : decode cX4_fell 16 = .ok (.iload_n 1, 1) := by decide +kernel
theorem dX4_fell_17 : decode cX4_fell 17 = .ok (.invokevirtual 67, 3) := by decide +kernel
theorem dX4_fell_20 : decode cX4_fell 20 = .ok (.invokevirtual 51, 3) := by decide +kernel
theorem dX4_fell_23 : decode cX4_fell 23 = .ok (.ireturn, 1) := by decide +kernel
theorem dX4_hint_0 : decode cX4_hint 0 = .ok (.aload_n 0, 1) := by decide +kernel
theorem dX4_hint_1 : decode cX4_hint 1 = .ok (.getfield 16, 3) := by decide +kernel
theorem dX4_hint_4 : decode cX4_hint 4 = .ok (.aload_n 0, 1) := by decide +kernel
theorem dX4_hint_5 : decode cX4_hint 5 = .ok (.getfield 10, 3) := by decide +kernel
theorem dX4_hint_8 : decode cX4_hint 8 = .ok (.invokevirtual 43, 3) := by decide +kernel
theorem dX4_hint_11 : decode cX4_hint 11 = .ok (.aload_n 0, 1) := by decide +kernel
theorem dX4_hint_12 : decode cX4_hint 12 = .ok (.aload_n 0, 1) := by decide +kernel
theorem dX4_hint_13 : decode cX4_hint 13 = .ok (.getfield 10, 3) := by decide +kernel
theorem dX4_hint_16 : decode cX4_hint 16 = .ok (.aload_n 0, 1) := by decide +kernel
theorem dX4_hint_17 : decode cX4_hint 17 = .ok (.invokevirtual 70, 3) := by decide +kernel
theorem dX4_hint_20 : decode cX4_hint 20 = .ok (.iload_n 1, 1) := by decide +kernel
theorem dX4_hint_21 : decode cX4_hint 21 = .ok (.iload_n 2, 1) := by decide +kernel
theorem dX4_hint_22 : decode cX4_hint 22 = .ok (.invokevirtual 74, 3) := by decide +kernel
theorem dX4_hint_25 : decode cX4_hint 25 = .ok (.invokevirtual 51, 3) := by decide +kernel
theorem dX4_hint_28 : decode cX4_hint 28 = .ok (.ireturn, 1) := by decide +kernel
theorem dX4_takeBack_0 : decode cX4_takeBack 0 = .ok (.aload_n 0, 1) := by decide +kernel
theorem dX4_takeBack_1 : decode cX4_takeBack 1 = .ok (.getfield 16, 3) := by decide +kernel
theorem dX4_takeBack_4 : decode cX4_takeBack 4 = .ok (.aload_n 0, 1) := by decide +kernel
theorem dX4_takeBack_5 : decode cX4_takeBack 5 = .ok (.getfield 10, 3) := by decide +kernel
theorem dX4_takeBack_8 : decode cX4_takeBack 8 = .ok (.invokevirtual 43, 3) := by decide +kernel
theorem dX4_takeBack_11 : decode cX4_takeBack 11 = .ok (.aload_n 0, 1) := by decide +kernel
theorem dX4_takeBack_12 : decode cX4_takeBack 12 = .ok (.aload_n 0, 1) := by decide +kernel
theorem dX4_takeBack_13 : decode cX4_takeBack 13 = .ok (.getfield 10, 3) := by decide +kernel
theorem dX4_takeBack_16 : decode cX4_takeBack 16 = .ok (.aload_n 0, 1) := by decide +kernel
theorem dX4_takeBack_17 : decode cX4_takeBack 17 = .ok (.getfield 32, 3) := by decide +kernel
theorem dX4_takeBack_20 : decode cX4_takeBack 20 = .ok (.iload_n 1, 1) := by decide +kernel
theorem dX4_takeBack_21 : decode cX4_takeBack 21 = .ok (.invokevirtual 78, 3) := by decide +kernel
theorem dX4_takeBack_24 : decode cX4_takeBack 24 = .ok (.invokevirtual 51, 3) := by decide +kernel
theorem dX4_takeBack_27 : decode cX4_takeBack 27 = .ok (.ireturn, 1) := by decide +kernel
theorem dX4_storm_0 : decode cX4_storm 0 = .ok (.aload_n 0, 1) := by decide +kernel
theorem dX4_storm_1 : decode cX4_storm 1 = .ok (.getfield 16, 3) := by decide +kernel
theorem dX4_storm_4 : decode cX4_storm 4 = .ok (.aload_n 0, 1) := by decide +kernel
theorem dX4_storm_5 : decode cX4_storm 5 = .ok (.getfield 10, 3) := by decide +kernel
theorem dX4_storm_8 : decode cX4_storm 8 = .ok (.invokevirtual 43, 3) := by decide +kernel
theorem dX4_storm_11 : decode cX4_storm 11 = .ok (.aload_n 0, 1) := by decide +kernel
theorem dX4_storm_12 : decode cX4_storm 12 = .ok (.aload_n 0, 1) := by decide +kernel
theorem dX4_storm_13 : decode cX4_storm 13 = .ok (.getfield 10, 3) := by decide +kernel
theorem dX4_storm_16 : decode cX4_storm 16 = .ok (.aload_n 0, 1) := by decide +kernel
theorem dX4_storm_17 : decode cX4_storm 17 = .ok (.invokevirtual 70, 3) := by decide +kernel
theorem dX4_storm_20 : decode cX4_storm 20 = .ok (.invokevirtual 82, 3) := by decide +kernel
theorem dX4_storm_23 : decode cX4_storm 23 = .ok (.invokevirtual 51, 3) := by decide +kernel
theorem dX4_storm_26 : decode cX4_storm 26 = .ok (.ireturn, 1) := by decide +kernel
theorem dX4_type_0 : decode cX4_type 0 = .ok (.aload_n 0, 1) := by decide +kernel
theorem dX4_type_1 : decode cX4_type 1 = .ok (.getfield 39, 3) := by decide +kernel
theorem dX4_type_4 : decode cX4_type 4 = .ok (.iload_n 1, 1) := by decide +kernel
theorem dX4_type_5 : decode cX4_type 5 = .ok (.invokevirtual 86, 3) := by decide +kernel
theorem dX4_type_8 : decode cX4_type 8 = .ok (.ireturn, 1) := by decide +kernel
theorem dX4_clearText_0 : decode cX4_clearText 0 = .ok (.aload_n 0, 1) := by decide +kernel
theorem dX4_clearText_1 : decode cX4_clearText 1 = .ok (.getfield 39, 3) := by decide +kernel
theorem dX4_clearText_4 : decode cX4_clearText 4 = .ok (.invokevirtual 90, 3) := by decide +kernel
theorem dX4_clearText_7 : decode cX4_clearText 7 = .ok (.ireturn, 1) := by decide +kernel
theorem dX4_perform_0 : decode cX4_perform 0 = .ok (.aload_n 0, 1) := by decide +kernel
theorem dX4_perform_1 : decode cX4_perform 1 = .ok (.getfield 39, 3) := by decide +kernel
theorem dX4_perform_4 : decode cX4_perform 4 = .ok (.invokevirtual 94, 3) := by decide +kernel
theorem dX4_perform_7 : decode cX4_perform 7 = .ok (.istore_n 1, 1) := by decide +kernel
theorem dX4_perform_8 : decode cX4_perform 8 = .ok (.iload_n 1, 1) := by decide +kernel
theorem dX4_perform_9 : decode cX4_perform 9 = .ok (.ifCond .ge 5, 3) := by decide +kernel
theorem dX4_perform_12 : decode cX4_perform 12 = .ok (.iload_n 1, 1) := by decide +kernel
theorem dX4_perform_13 : decode cX4_perform 13 = .ok (.ireturn, 1) := by decide +kernel
theorem dX4_perform_14 : decode cX4_perform 14 = .ok (.aload_n 0, 1) := by decide +kernel
theorem dX4_perform_15 : decode cX4_perform 15 = .ok (.getfield 16, 3) := by decide +kernel
theorem dX4_perform_18 : decode cX4_perform 18 = .ok (.aload_n 0, 1) := by decide +kernel
theorem dX4_perform_19 : decode cX4_perform 19 = .ok (.getfield 10, 3) := by decide +kernel
theorem dX4_perform_22 : decode cX4_perform 22 = .ok (.invokevirtual 43, 3) := by decide +kernel
theorem dX4_perform_25 : decode cX4_perform 25 = .ok (.aload_n 0, 1) := by decide +kernel
theorem dX4_perform_26 : decode cX4_perform 26 = .ok (.getfield 39, 3) := by decide +kernel
theorem dX4_perform_29 : decode cX4_perform 29 = .ok (.invokevirtual 97, 3) := by decide +kernel
theorem dX4_perform_32 : decode cX4_perform 32 = .ok (.iconst 0, 1) := by decide +kernel
theorem dX4_perform_33 : decode cX4_perform 33 = .ok (.istore_n 2, 1) := by decide +kernel
theorem dX4_perform_34 : decode cX4_perform 34 = .ok (.iload_n 2, 1) := by decide +kernel
theorem dX4_perform_35 : decode cX4_perform 35 = .ok (.iload_n 1, 1) := by decide +kernel
theorem dX4_perform_36 : decode cX4_perform 36 = .ok (.if_icmp .ge 52, 3) := by decide +kernel
theorem dX4_perform_39 : decode cX4_perform 39 = .ok (.aload_n 0, 1) := by decide +kernel
theorem dX4_perform_40 : decode cX4_perform 40 = .ok (.getfield 39, 3) := by decide +kernel
theorem dX4_perform_43 : decode cX4_perform 43 = .ok (.invokevirtual 100, 3) := by decide +kernel
theorem dX4_perform_46 : decode cX4_perform 46 = .ok (.aload_n 0, 1) := by decide +kernel
theorem dX4_perform_47 : decode cX4_perform 47 = .ok (.invokevirtual 103, 3) := by decide +kernel
theorem dX4_perform_50 : decode cX4_perform 50 = .ok (.istore_n 3, 1) := by decide +kernel
theorem dX4_perform_51 : decode cX4_perform 51 = .ok (.iload_n 3, 1) := by decide +kernel
theorem dX4_perform_52 : decode cX4_perform 52 = .ok (.invokestatic 106, 3) := by decide +kernel
theorem dX4_perform_55 : decode cX4_perform 55 = .ok (.ifCond .eq 27, 3) := by decide +kernel
theorem dX4_perform_58 : decode cX4_perform 58 = .ok (.aload_n 0, 1) := by decide +kernel
theorem dX4_perform_59 : decode cX4_perform 59 = .ok (.getfield 10, 3) := by decide +kernel
theorem dX4_perform_62 : decode cX4_perform 62 = .ok (.aload_n 0, 1) := by decide +kernel
theorem dX4_perform_63 : decode cX4_perform 63 = .ok (.getfield 16, 3) := by decide +kernel
theorem dX4_perform_66 : decode cX4_perform 66 = .ok (.invokevirtual 43, 3) := by decide +kernel
theorem dX4_perform_69 : decode cX4_perform 69 = .ok (.aload_n 0, 1) := by decide +kernel
theorem dX4_perform_70 : decode cX4_perform 70 = .ok (.iload_n 2, 1) := by decide +kernel
theorem dX4_perform_71 : decode cX4_perform 71 = .ok (.putfield 110, 3) := by decide +kernel
theorem dX4_perform_74 : decode cX4_perform 74 = .ok (.aload_n 0, 1) := by decide +kernel
theorem dX4_perform_75 : decode cX4_perform 75 = .ok (.iload_n 3, 1) := by decide +kernel
theorem dX4_perform_76 : decode cX4_perform 76 = .ok (.putfield 114, 3) := by decide +kernel
theorem dX4_perform_79 : decode cX4_perform 79 = .ok (.bipush (-4), 2) := by decide +kernel
theorem dX4_perform_81 : decode cX4_perform 81 = .ok (.ireturn, 1) := by decide +kernel
theorem dX4_perform_82 : decode cX4_perform 82 = .ok (.iinc 2 1, 3) := by decide +kernel
theorem dX4_perform_85 : decode cX4_perform 85 = .ok (.goto (-51), 3) := by decide +kernel
theorem dX4_perform_88 : decode cX4_perform 88 = .ok (.aload_n 0, 1) := by decide +kernel
theorem dX4_perform_89 : decode cX4_perform 89 = .ok (.iload_n 1, 1) := by decide +kernel
theorem dX4_perform_90 : decode cX4_perform 90 = .ok (.invokevirtual 51, 3) := by decide +kernel
theorem dX4_perform_93 : decode cX4_perform 93 = .ok (.ireturn, 1) := by decide +kernel
theorem dX4_stopped_0 : decode cX4_stopped 0 = .ok (.iload_n 1, 1) := by decide +kernel
theorem dX4_stopped_1 : decode cX4_stopped 1 = .ok (.iconst 0, 1) := by decide +kernel
theorem dX4_stopped_2 : decode cX4_stopped 2 = .ok (.iconst 1, 1) := by decide +kernel
theorem dX4_stopped_3 : decode cX4_stopped 3 = .ok (.invokestatic 117, 3) := by decide +kernel
theorem dX4_stopped_6 : decode cX4_stopped 6 = .ok (.ifCond .ne 6, 3) := by decide +kernel
theorem dX4_stopped_9 : decode cX4_stopped 9 = .ok (.bipush (-2), 2) := by decide +kernel
theorem dX4_stopped_11 : decode cX4_stopped 11 = .ok (.ireturn, 1) := by decide +kernel
theorem dX4_stopped_12 : decode cX4_stopped 12 = .ok (.aload_n 0, 1) := by decide +kernel
theorem dX4_stopped_13 : decode cX4_stopped 13 = .ok (.getfield 114, 3) := by decide +kernel
theorem dX4_stopped_16 : decode cX4_stopped 16 = .ok (.ifCond .ne 6, 3) := by decide +kernel
theorem dX4_stopped_19 : decode cX4_stopped 19 = .ok (.bipush (-5), 2) := by decide +kernel
theorem dX4_stopped_21 : decode cX4_stopped 21 = .ok (.ireturn, 1) := by decide +kernel
theorem dX4_stopped_22 : decode cX4_stopped 22 = .ok (.iload_n 1, 1) := by decide +kernel
theorem dX4_stopped_23 : decode cX4_stopped 23 = .ok (.ifCond .ne 10, 3) := by decide +kernel
theorem dX4_stopped_26 : decode cX4_stopped 26 = .ok (.aload_n 0, 1) := by decide +kernel
theorem dX4_stopped_27 : decode cX4_stopped 27 = .ok (.getfield 110, 3) := by decide +kernel
theorem dX4_stopped_30 : decode cX4_stopped 30 = .ok (.goto 7, 3) := by decide +kernel
theorem dX4_stopped_33 : decode cX4_stopped 33 = .ok (.aload_n 0, 1) := by decide +kernel
theorem dX4_stopped_34 : decode cX4_stopped 34 = .ok (.getfield 114, 3) := by decide +kernel
theorem dX4_stopped_37 : decode cX4_stopped 37 = .ok (.ireturn, 1) := by decide +kernel
theorem dX4_undo_0 : decode cX4_undo 0 = .ok (.aload_n 0, 1) := by decide +kernel
theorem dX4_undo_1 : decode cX4_undo 1 = .ok (.getfield 25, 3) := by decide +kernel
theorem dX4_undo_4 : decode cX4_undo 4 = .ok (.aload_n 0, 1) := by decide +kernel
theorem dX4_undo_5 : decode cX4_undo 5 = .ok (.getfield 10, 3) := by decide +kernel
theorem dX4_undo_8 : decode cX4_undo 8 = .ok (.invokevirtual 121, 3) := by decide +kernel
theorem dX4_undo_11 : decode cX4_undo 11 = .ok (.ifCond .eq 13, 3) := by decide +kernel
theorem dX4_undo_14 : decode cX4_undo 14 = .ok (.aload_n 0, 1) := by decide +kernel
theorem dX4_undo_15 : decode cX4_undo 15 = .ok (.getfield 25, 3) := by decide +kernel
theorem dX4_undo_18 : decode cX4_undo 18 = .ok (.getfield 125, 3) := by decide +kernel
theorem dX4_undo_21 : decode cX4_undo 21 = .ok (.goto 5, 3) := by decide +kernel
theorem dX4_undo_24 : decode cX4_undo 24 = .ok (.bipush (-5), 2) := by decide +kernel
theorem dX4_undo_26 : decode cX4_undo 26 = .ok (.ireturn, 1) := by decide +kernel
theorem dX4_keep_0 : decode cX4_keep 0 = .ok (.aload_n 0, 1) := by decide +kernel
theorem dX4_keep_1 : decode cX4_keep 1 = .ok (.getfield 19, 3) := by decide +kernel
theorem dX4_keep_4 : decode cX4_keep 4 = .ok (.aload_n 0, 1) := by decide +kernel
theorem dX4_keep_5 : decode cX4_keep 5 = .ok (.getfield 10, 3) := by decide +kernel
theorem dX4_keep_8 : decode cX4_keep 8 = .ok (.invokevirtual 43, 3) := by decide +kernel
theorem dX4_keep_11 : decode cX4_keep 11 = .ok (.aload_n 0, 1) := by decide +kernel
theorem dX4_keep_12 : decode cX4_keep 12 = .ok (.iconst 1, 1) := by decide +kernel
theorem dX4_keep_13 : decode cX4_keep 13 = .ok (.putfield 128, 3) := by decide +kernel
theorem dX4_keep_16 : decode cX4_keep 16 = .ok (.aload_n 0, 1) := by decide +kernel
theorem dX4_keep_17 : decode cX4_keep 17 = .ok (.getfield 10, 3) := by decide +kernel
theorem dX4_keep_20 : decode cX4_keep 20 = .ok (.getfield 132, 3) := by decide +kernel
theorem dX4_keep_23 : decode cX4_keep 23 = .ok (.ireturn, 1) := by decide +kernel
theorem dX4_restore_0 : decode cX4_restore 0 = .ok (.aload_n 0, 1) := by decide +kernel
theorem dX4_restore_1 : decode cX4_restore 1 = .ok (.getfield 128, 3) := by decide +kernel
theorem dX4_restore_4 : decode cX4_restore 4 = .ok (.ifCond .ne 6, 3) := by decide +kernel
theorem dX4_restore_7 : decode cX4_restore 7 = .ok (.bipush (-5), 2) := by decide +kernel
theorem dX4_restore_9 : decode cX4_restore 9 = .ok (.ireturn, 1) := by decide +kernel
theorem dX4_restore_10 : decode cX4_restore 10 = .ok (.aload_n 0, 1) := by decide +kernel
theorem dX4_restore_11 : decode cX4_restore 11 = .ok (.getfield 16, 3) := by decide +kernel
theorem dX4_restore_14 : decode cX4_restore 14 = .ok (.aload_n 0, 1) := by decide +kernel
theorem dX4_restore_15 : decode cX4_restore 15 = .ok (.getfield 10, 3) := by decide +kernel
theorem dX4_restore_18 : decode cX4_restore 18 = .ok (.invokevirtual 43, 3) := by decide +kernel
theorem dX4_restore_21 : decode cX4_restore 21 = .ok (.aload_n 0, 1) := by decide +kernel
theorem dX4_restore_22 : decode cX4_restore 22 = .ok (.getfield 10, 3) := by decide +kernel
theorem dX4_restore_25 : decode cX4_restore 25 = .ok (.aload_n 0, 1) := by decide +kernel
theorem dX4_restore_26 : decode cX4_restore 26 = .ok (.getfield 19, 3) := by decide +kernel
theorem dX4_restore_29 : decode cX4_restore 29 = .ok (.invokevirtual 43, 3) := by decide +kernel
theorem dX4_restore_32 : decode cX4_restore 32 = .ok (.aload_n 0, 1) := by decide +kernel
theorem dX4_restore_33 : decode cX4_restore 33 = .ok (.aload_n 0, 1) := by decide +kernel
theorem dX4_restore_34 : decode cX4_restore 34 = .ok (.getfield 10, 3) := by decide +kernel
theorem dX4_restore_37 : decode cX4_restore 37 = .ok (.getfield 132, 3) := by decide +kernel
theorem dX4_restore_40 : decode cX4_restore 40 = .ok (.invokevirtual 51, 3) := by decide +kernel
theorem dX4_restore_43 : decode cX4_restore 43 = .ok (.ireturn, 1) := by decide +kernel
theorem dX4_plot_0 : decode cX4_plot 0 = .ok (.iload_n 1, 1) := by decide +kernel
theorem dX4_plot_1 : decode cX4_plot 1 = .ok (.iconst 0, 1) := by decide +kernel
theorem dX4_plot_2 : decode cX4_plot 2 = .ok (.bipush 63, 2) := by decide +kernel
theorem dX4_plot_4 : decode cX4_plot 4 = .ok (.invokestatic 117, 3) := by decide +kernel
theorem dX4_plot_7 : decode cX4_plot 7 = .ok (.ifCond .ne 5, 3) := by decide +kernel
theorem dX4_plot_10 : decode cX4_plot 10 = .ok (.iconst (-1), 1) := by decide +kernel
theorem dX4_plot_11 : decode cX4_plot 11 = .ok (.ireturn, 1) := by decide +kernel
theorem dX4_plot_12 : decode cX4_plot 12 = .ok (.iload_n 2, 1) := by decide +kernel
theorem dX4_plot_13 : decode cX4_plot 13 = .ok (.tableswitch 147 0 6 #[43, 53, 61, 74, 95, 116, 129], 43) := by decide +kernel
theorem dX4_plot_56 : decode cX4_plot 56 = .ok (.aload_n 0, 1) := by decide +kernel
theorem dX4_plot_57 : decode cX4_plot 57 = .ok (.getfield 10, 3) := by decide +kernel
theorem dX4_plot_60 : decode cX4_plot 60 = .ok (.getfield 135, 3) := by decide +kernel
theorem dX4_plot_63 : decode cX4_plot 63 = .ok (.iload_n 1, 1) := by decide +kernel
theorem dX4_plot_64 : decode cX4_plot 64 = .ok (.iaload, 1) := by decide +kernel
theorem dX4_plot_65 : decode cX4_plot 65 = .ok (.ireturn, 1) := by decide +kernel
theorem dX4_plot_66 : decode cX4_plot 66 = .ok (.aload_n 0, 1) := by decide +kernel
theorem dX4_plot_67 : decode cX4_plot 67 = .ok (.getfield 10, 3) := by decide +kernel
theorem dX4_plot_70 : decode cX4_plot 70 = .ok (.getfield 139, 3) := by decide +kernel
theorem dX4_plot_73 : decode cX4_plot 73 = .ok (.ireturn, 1) := by decide +kernel
theorem dX4_plot_74 : decode cX4_plot 74 = .ok (.aload_n 0, 1) := by decide +kernel
theorem dX4_plot_75 : decode cX4_plot 75 = .ok (.getfield 10, 3) := by decide +kernel
theorem dX4_plot_78 : decode cX4_plot 78 = .ok (.aload_n 0, 1) := by decide +kernel
theorem dX4_plot_79 : decode cX4_plot 79 = .ok (.invokevirtual 70, 3) := by decide +kernel
theorem dX4_plot_82 : decode cX4_plot 82 = .ok (.iload_n 1, 1) := by decide +kernel
theorem dX4_plot_83 : decode cX4_plot 83 = .ok (.invokevirtual 142, 3) := by decide +kernel
theorem dX4_plot_86 : decode cX4_plot 86 = .ok (.ireturn, 1) := by decide +kernel
theorem dX4_plot_87 : decode cX4_plot 87 = .ok (.aload_n 0, 1) := by decide +kernel
theorem dX4_plot_88 : decode cX4_plot 88 = .ok (.getfield 10, 3) := by decide +kernel
theorem dX4_plot_91 : decode cX4_plot 91 = .ok (.aload_n 0, 1) := by decide +kernel
theorem dX4_plot_92 : decode cX4_plot 92 = .ok (.invokevirtual 70, 3) := by decide +kernel
theorem dX4_plot_95 : decode cX4_plot 95 = .ok (.iload_n 1, 1) := by decide +kernel
theorem dX4_plot_96 : decode cX4_plot 96 = .ok (.invokevirtual 145, 3) := by decide +kernel
theorem dX4_plot_99 : decode cX4_plot 99 = .ok (.ifCond .eq 7, 3) := by decide +kernel
theorem dX4_plot_102 : decode cX4_plot 102 = .ok (.iconst 1, 1) := by decide +kernel
theorem dX4_plot_103 : decode cX4_plot 103 = .ok (.goto 4, 3) := by decide +kernel
theorem dX4_plot_106 : decode cX4_plot 106 = .ok (.iconst 0, 1) := by decide +kernel
theorem dX4_plot_107 : decode cX4_plot 107 = .ok (.ireturn, 1) := by decide +kernel
theorem dX4_plot_108 : decode cX4_plot 108 = .ok (.aload_n 0, 1) := by decide +kernel
theorem dX4_plot_109 : decode cX4_plot 109 = .ok (.getfield 10, 3) := by decide +kernel
theorem dX4_plot_112 : decode cX4_plot 112 = .ok (.aload_n 0, 1) := by decide +kernel
theorem dX4_plot_113 : decode cX4_plot 113 = .ok (.invokevirtual 70, 3) := by decide +kernel
theorem dX4_plot_116 : decode cX4_plot 116 = .ok (.iload_n 1, 1) := by decide +kernel
theorem dX4_plot_117 : decode cX4_plot 117 = .ok (.invokevirtual 149, 3) := by decide +kernel
theorem dX4_plot_120 : decode cX4_plot 120 = .ok (.ifCond .eq 7, 3) := by decide +kernel
theorem dX4_plot_123 : decode cX4_plot 123 = .ok (.iconst 1, 1) := by decide +kernel
theorem dX4_plot_124 : decode cX4_plot 124 = .ok (.goto 4, 3) := by decide +kernel
theorem dX4_plot_127 : decode cX4_plot 127 = .ok (.iconst 0, 1) := by decide +kernel
theorem dX4_plot_128 : decode cX4_plot 128 = .ok (.ireturn, 1) := by decide +kernel
theorem dX4_plot_129 : decode cX4_plot 129 = .ok (.aload_n 0, 1) := by decide +kernel
theorem dX4_plot_130 : decode cX4_plot 130 = .ok (.getfield 10, 3) := by decide +kernel
theorem dX4_plot_133 : decode cX4_plot 133 = .ok (.aload_n 0, 1) := by decide +kernel
theorem dX4_plot_134 : decode cX4_plot 134 = .ok (.invokevirtual 70, 3) := by decide +kernel
theorem dX4_plot_137 : decode cX4_plot 137 = .ok (.iload_n 1, 1) := by decide +kernel
theorem dX4_plot_138 : decode cX4_plot 138 = .ok (.invokevirtual 152, 3) := by decide +kernel
theorem dX4_plot_141 : decode cX4_plot 141 = .ok (.ireturn, 1) := by decide +kernel
theorem dX4_plot_142 : decode cX4_plot 142 = .ok (.aload_n 0, 1) := by decide +kernel
theorem dX4_plot_143 : decode cX4_plot 143 = .ok (.getfield 10, 3) := by decide +kernel
theorem dX4_plot_146 : decode cX4_plot 146 = .ok (.getfield 155, 3) := by decide +kernel
theorem dX4_plot_149 : decode cX4_plot 149 = .ok (.iload_n 1, 1) := by decide +kernel
theorem dX4_plot_150 : decode cX4_plot 150 = .ok (.baload, 1) := by decide +kernel
theorem dX4_plot_151 : decode cX4_plot 151 = .ok (.ifCond .eq 7, 3) := by decide +kernel
theorem dX4_plot_154 : decode cX4_plot 154 = .ok (.iconst 1, 1) := by decide +kernel
theorem dX4_plot_155 : decode cX4_plot 155 = .ok (.goto 4, 3) := by decide +kernel
theorem dX4_plot_158 : decode cX4_plot 158 = .ok (.iconst 0, 1) := by decide +kernel
theorem dX4_plot_159 : decode cX4_plot 159 = .ok (.ireturn, 1) := by decide +kernel
theorem dX4_plot_160 : decode cX4_plot 160 = .ok (.bipush (-2), 2) := by decide +kernel
theorem dX4_plot_162 : decode cX4_plot 162 = .ok (.ireturn, 1) := by decide +kernel
theorem dX4_crew_0 : decode cX4_crew 0 = .ok (.iload_n 1, 1) := by decide +kernel
theorem dX4_crew_1 : decode cX4_crew 1 = .ok (.iconst 0, 1) := by decide +kernel
theorem dX4_crew_2 : decode cX4_crew 2 = .ok (.iconst 2, 1) := by decide +kernel
theorem dX4_crew_3 : decode cX4_crew 3 = .ok (.invokestatic 117, 3) := by decide +kernel
theorem dX4_crew_6 : decode cX4_crew 6 = .ok (.ifCond .ne 5, 3) := by decide +kernel
theorem dX4_crew_9 : decode cX4_crew 9 = .ok (.iconst (-1), 1) := by decide +kernel
theorem dX4_crew_10 : decode cX4_crew 10 = .ok (.ireturn, 1) := by decide +kernel
theorem dX4_crew_11 : decode cX4_crew 11 = .ok (.iload_n 2, 1) := by decide +kernel
theorem dX4_crew_12 : decode cX4_crew 12 = .ok (.tableswitch 72 0 3 #[32, 42, 52, 62], 32) := by decide +kernel
theorem dX4_crew_44 : decode cX4_crew 44 = .ok (.aload_n 0, 1) := by decide +kernel
theorem dX4_crew_45 : decode cX4_crew 45 = .ok (.getfield 10, 3) := by decide +kernel
theorem dX4_crew_48 : decode cX4_crew 48 = .ok (.getfield 159, 3) := by decide +kernel
theorem dX4_crew_51 : decode cX4_crew 51 = .ok (.iload_n 1, 1) := by decide +kernel
theorem dX4_crew_52 : decode cX4_crew 52 = .ok (.iaload, 1) := by decide +kernel
theorem dX4_crew_53 : decode cX4_crew 53 = .ok (.ireturn, 1) := by decide +kernel
theorem dX4_crew_54 : decode cX4_crew 54 = .ok (.aload_n 0, 1) := by decide +kernel
theorem dX4_crew_55 : decode cX4_crew 55 = .ok (.getfield 10, 3) := by decide +kernel
theorem dX4_crew_58 : decode cX4_crew 58 = .ok (.getfield 162, 3) := by decide +kernel
theorem dX4_crew_61 : decode cX4_crew 61 = .ok (.iload_n 1, 1) := by decide +kernel
theorem dX4_crew_62 : decode cX4_crew 62 = .ok (.iaload, 1) := by decide +kernel
theorem dX4_crew_63 : decode cX4_crew 63 = .ok (.ireturn, 1) := by decide +kernel
theorem dX4_crew_64 : decode cX4_crew 64 = .ok (.aload_n 0, 1) := by decide +kernel
theorem dX4_crew_65 : decode cX4_crew 65 = .ok (.getfield 10, 3) := by decide +kernel
theorem dX4_crew_68 : decode cX4_crew 68 = .ok (.getfield 165, 3) := by decide +kernel
theorem dX4_crew_71 : decode cX4_crew 71 = .ok (.iload_n 1, 1) := by decide +kernel
theorem dX4_crew_72 : decode cX4_crew 72 = .ok (.iaload, 1) := by decide +kernel
theorem dX4_crew_73 : decode cX4_crew 73 = .ok (.ireturn, 1) := by decide +kernel
theorem dX4_crew_74 : decode cX4_crew 74 = .ok (.aload_n 0, 1) := by decide +kernel
theorem dX4_crew_75 : decode cX4_crew 75 = .ok (.getfield 10, 3) := by decide +kernel
theorem dX4_crew_78 : decode cX4_crew 78 = .ok (.getfield 168, 3) := by decide +kernel
theorem dX4_crew_81 : decode cX4_crew 81 = .ok (.iload_n 1, 1) := by decide +kernel
theorem dX4_crew_82 : decode cX4_crew 82 = .ok (.iaload, 1) := by decide +kernel
theorem dX4_crew_83 : decode cX4_crew 83 = .ok (.ireturn, 1) := by decide +kernel
theorem dX4_crew_84 : decode cX4_crew 84 = .ok (.bipush (-2), 2) := by decide +kernel
theorem dX4_crew_86 : decode cX4_crew 86 = .ok (.ireturn, 1) := by decide +kernel
theorem dX4_row_0 : decode cX4_row 0 = .ok (.iload_n 1, 1) := by decide +kernel
theorem dX4_row_1 : decode cX4_row 1 = .ok (.iconst 0, 1) := by decide +kernel
theorem dX4_row_2 : decode cX4_row 2 = .ok (.bipush 7, 2) := by decide +kernel
theorem dX4_row_4 : decode cX4_row 4 = .ok (.invokestatic 117, 3) := by decide +kernel
theorem dX4_row_7 : decode cX4_row 7 = .ok (.ifCond .ne 5, 3) := by decide +kernel
theorem dX4_row_10 : decode cX4_row 10 = .ok (.iconst (-1), 1) := by decide +kernel
theorem dX4_row_11 : decode cX4_row 11 = .ok (.ireturn, 1) := by decide +kernel
theorem dX4_row_12 : decode cX4_row 12 = .ok (.iload_n 2, 1) := by decide +kernel
theorem dX4_row_13 : decode cX4_row 13 = .ok (.tableswitch 55 0 2 #[27, 37, 46], 27) := by decide +kernel
theorem dX4_row_40 : decode cX4_row 40 = .ok (.aload_n 0, 1) := by decide +kernel
theorem dX4_row_41 : decode cX4_row 41 = .ok (.getfield 10, 3) := by decide +kernel
theorem dX4_row_44 : decode cX4_row 44 = .ok (.getfield 171, 3) := by decide +kernel
theorem dX4_row_47 : decode cX4_row 47 = .ok (.iload_n 1, 1) := by decide +kernel
theorem dX4_row_48 : decode cX4_row 48 = .ok (.iaload, 1) := by decide +kernel
theorem dX4_row_49 : decode cX4_row 49 = .ok (.ireturn, 1) := by decide +kernel
theorem dX4_row_50 : decode cX4_row 50 = .ok (.aload_n 0, 1) := by decide +kernel
theorem dX4_row_51 : decode cX4_row 51 = .ok (.invokevirtual 70, 3) := by decide +kernel
theorem dX4_row_54 : decode cX4_row 54 = .ok (.iload_n 1, 1) := by decide +kernel
theorem dX4_row_55 : decode cX4_row 55 = .ok (.invokevirtual 174, 3) := by decide +kernel
theorem dX4_row_58 : decode cX4_row 58 = .ok (.ireturn, 1) := by decide +kernel
theorem dX4_row_59 : decode cX4_row 59 = .ok (.aload_n 0, 1) := by decide +kernel
theorem dX4_row_60 : decode cX4_row 60 = .ok (.invokevirtual 70, 3) := by decide +kernel
theorem dX4_row_63 : decode cX4_row 63 = .ok (.iload_n 1, 1) := by decide +kernel
theorem dX4_row_64 : decode cX4_row 64 = .ok (.invokevirtual 177, 3) := by decide +kernel
theorem dX4_row_67 : decode cX4_row 67 = .ok (.ireturn, 1) := by decide +kernel
theorem dX4_row_68 : decode cX4_row 68 = .ok (.bipush (-2), 2) := by decide +kernel
theorem dX4_row_70 : decode cX4_row 70 = .ok (.ireturn, 1) := by decide +kernel
theorem dX4_way_0 : decode cX4_way 0 = .ok (.iload_n 1, 1) := by decide +kernel
theorem dX4_way_1 : decode cX4_way 1 = .ok (.iconst 0, 1) := by decide +kernel
theorem dX4_way_2 : decode cX4_way 2 = .ok (.iconst 2, 1) := by decide +kernel
theorem dX4_way_3 : decode cX4_way 3 = .ok (.invokestatic 117, 3) := by decide +kernel
theorem dX4_way_6 : decode cX4_way 6 = .ok (.ifCond .eq 13, 3) := by decide +kernel
theorem dX4_way_9 : decode cX4_way 9 = .ok (.iload_n 2, 1) := by decide +kernel
theorem dX4_way_10 : decode cX4_way 10 = .ok (.iconst 0, 1) := by decide +kernel
theorem dX4_way_11 : decode cX4_way 11 = .ok (.bipush 63, 2) := by decide +kernel
theorem dX4_way_13 : decode cX4_way 13 = .ok (.invokestatic 117, 3) := by decide +kernel
theorem dX4_way_16 : decode cX4_way 16 = .ok (.ifCond .ne 5, 3) := by decide +kernel
theorem dX4_way_19 : decode cX4_way 19 = .ok (.iconst (-1), 1) := by decide +kernel
theorem dX4_way_20 : decode cX4_way 20 = .ok (.ireturn, 1) := by decide +kernel
theorem dX4_way_21 : decode cX4_way 21 = .ok (.aload_n 0, 1) := by decide +kernel
theorem dX4_way_22 : decode cX4_way 22 = .ok (.getfield 10, 3) := by decide +kernel
theorem dX4_way_25 : decode cX4_way 25 = .ok (.iload_n 1, 1) := by decide +kernel
theorem dX4_way_26 : decode cX4_way 26 = .ok (.iload_n 2, 1) := by decide +kernel
theorem dX4_way_27 : decode cX4_way 27 = .ok (.invokevirtual 180, 3) := by decide +kernel
theorem dX4_way_30 : decode cX4_way 30 = .ok (.ireturn, 1) := by decide +kernel
theorem dX4_reason_0 : decode cX4_reason 0 = .ok (.iload_n 1, 1) := by decide +kernel
theorem dX4_reason_1 : decode cX4_reason 1 = .ok (.iconst 0, 1) := by decide +kernel
theorem dX4_reason_2 : decode cX4_reason 2 = .ok (.iconst 2, 1) := by decide +kernel
theorem dX4_reason_3 : decode cX4_reason 3 = .ok (.invokestatic 117, 3) := by decide +kernel
theorem dX4_reason_6 : decode cX4_reason 6 = .ok (.ifCond .eq 13, 3) := by decide +kernel
theorem dX4_reason_9 : decode cX4_reason 9 = .ok (.iload_n 2, 1) := by decide +kernel
theorem dX4_reason_10 : decode cX4_reason 10 = .ok (.iconst 0, 1) := by decide +kernel
theorem dX4_reason_11 : decode cX4_reason 11 = .ok (.bipush 63, 2) := by decide +kernel
theorem dX4_reason_13 : decode cX4_reason 13 = .ok (.invokestatic 117, 3) := by decide +kernel
theorem dX4_reason_16 : decode cX4_reason 16 = .ok (.ifCond .ne 5, 3) := by decide +kernel
theorem dX4_reason_19 : decode cX4_reason 19 = .ok (.iconst (-1), 1) := by decide +kernel
theorem dX4_reason_20 : decode cX4_reason 20 = .ok (.ireturn, 1) := by decide +kernel
theorem dX4_reason_21 : decode cX4_reason 21 = .ok (.aload_n 0, 1) := by decide +kernel
theorem dX4_reason_22 : decode cX4_reason 22 = .ok (.getfield 10, 3) := by decide +kernel
theorem dX4_reason_25 : decode cX4_reason 25 = .ok (.iload_n 1, 1) := by decide +kernel
theorem dX4_reason_26 : decode cX4_reason 26 = .ok (.iload_n 2, 1) := by decide +kernel
theorem dX4_reason_27 : decode cX4_reason 27 = .ok (.invokevirtual 183, 3) := by decide +kernel
theorem dX4_reason_30 : decode cX4_reason 30 = .ok (.ireturn, 1) := by decide +kernel
theorem dX4_best_0 : decode cX4_best 0 = .ok (.iload_n 1, 1) := by decide +kernel
theorem dX4_best_1 : decode cX4_best 1 = .ok (.iconst 0, 1) := by decide +kernel
theorem dX4_best_2 : decode cX4_best 2 = .ok (.iconst 2, 1) := by decide +kernel
theorem dX4_best_3 : decode cX4_best 3 = .ok (.invokestatic 117, 3) := by decide +kernel
theorem dX4_best_6 : decode cX4_best 6 = .ok (.ifCond .ne 5, 3) := by decide +kernel
theorem dX4_best_9 : decode cX4_best 9 = .ok (.iconst (-1), 1) := by decide +kernel
theorem dX4_best_10 : decode cX4_best 10 = .ok (.ireturn, 1) := by decide +kernel
theorem dX4_best_11 : decode cX4_best 11 = .ok (.aload_n 0, 1) := by decide +kernel
theorem dX4_best_12 : decode cX4_best 12 = .ok (.getfield 10, 3) := by decide +kernel
theorem dX4_best_15 : decode cX4_best 15 = .ok (.aload_n 0, 1) := by decide +kernel
theorem dX4_best_16 : decode cX4_best 16 = .ok (.invokevirtual 70, 3) := by decide +kernel
theorem dX4_best_19 : decode cX4_best 19 = .ok (.iload_n 1, 1) := by decide +kernel
theorem dX4_best_20 : decode cX4_best 20 = .ok (.invokevirtual 186, 3) := by decide +kernel
theorem dX4_best_23 : decode cX4_best 23 = .ok (.ireturn, 1) := by decide +kernel
theorem dX4_openRow_0 : decode cX4_openRow 0 = .ok (.aload_n 0, 1) := by decide +kernel
theorem dX4_openRow_1 : decode cX4_openRow 1 = .ok (.invokevirtual 70, 3) := by decide +kernel
theorem dX4_openRow_4 : decode cX4_openRow 4 = .ok (.invokevirtual 189, 3) := by decide +kernel
theorem dX4_openRow_7 : decode cX4_openRow 7 = .ok (.ireturn, 1) := by decide +kernel
theorem dX4_ifTold_0 : decode cX4_ifTold 0 = .ok (.iload_n 1, 1) := by decide +kernel
theorem dX4_ifTold_1 : decode cX4_ifTold 1 = .ok (.iconst 0, 1) := by decide +kernel
theorem dX4_ifTold_2 : decode cX4_ifTold 2 = .ok (.bipush 7, 2) := by decide +kernel
theorem dX4_ifTold_4 : decode cX4_ifTold 4 = .ok (.invokestatic 117, 3) := by decide +kernel
theorem dX4_ifTold_7 : decode cX4_ifTold 7 = .ok (.ifCond .ne 5, 3) := by decide +kernel
theorem dX4_ifTold_10 : decode cX4_ifTold 10 = .ok (.iconst (-1), 1) := by decide +kernel
theorem dX4_ifTold_11 : decode cX4_ifTold 11 = .ok (.ireturn, 1) := by decide +kernel
theorem dX4_ifTold_12 : decode cX4_ifTold 12 = .ok (.iload_n 2, 1) := by decide +kernel
theorem dX4_ifTold_13 : decode cX4_ifTold 13 = .ok (.iconst 0, 1) := by decide +kernel
theorem dX4_ifTold_14 : decode cX4_ifTold 14 = .ok (.bipush 7, 2) := by decide +kernel
theorem dX4_ifTold_16 : decode cX4_ifTold 16 = .ok (.invokestatic 117, 3) := by decide +kernel
theorem dX4_ifTold_19 : decode cX4_ifTold 19 = .ok (.ifCond .ne 6, 3) := by decide +kernel
theorem dX4_ifTold_22 : decode cX4_ifTold 22 = .ok (.bipush (-2), 2) := by decide +kernel
theorem dX4_ifTold_24 : decode cX4_ifTold 24 = .ok (.ireturn, 1) := by decide +kernel
theorem dX4_ifTold_25 : decode cX4_ifTold 25 = .ok (.aload_n 0, 1) := by decide +kernel
theorem dX4_ifTold_26 : decode cX4_ifTold 26 = .ok (.invokevirtual 70, 3) := by decide +kernel
theorem dX4_ifTold_29 : decode cX4_ifTold 29 = .ok (.iload_n 1, 1) := by decide +kernel
theorem dX4_ifTold_30 : decode cX4_ifTold 30 = .ok (.bipush 8, 2) := by decide +kernel
theorem dX4_ifTold_32 : decode cX4_ifTold 32 = .ok (.imul, 1) := by decide +kernel
theorem dX4_ifTold_33 : decode cX4_ifTold 33 = .ok (.iload_n 2, 1) := by decide +kernel
theorem dX4_ifTold_34 : decode cX4_ifTold 34 = .ok (.iadd, 1) := by decide +kernel
theorem dX4_ifTold_35 : decode cX4_ifTold 35 = .ok (.invokevirtual 192, 3) := by decide +kernel
theorem dX4_ifTold_38 : decode cX4_ifTold 38 = .ok (.ireturn, 1) := by decide +kernel
theorem dX4_count_0 : decode cX4_count 0 = .ok (.iload_n 1, 1) := by decide +kernel
theorem dX4_count_1 : decode cX4_count 1 = .ok (.tableswitch 237 0 16 #[83, 91, 99, 111, 123, 135, 143, 151, 159, 167, 175, 183, 191, 201, 211, 221, 229], 83) := by decide +kernel
theorem dX4_count_84 : decode cX4_count 84 = .ok (.aload_n 0, 1) := by decide +kernel
theorem dX4_count_85 : decode cX4_count 85 = .ok (.getfield 10, 3) := by decide +kernel
theorem dX4_count_88 : decode cX4_count 88 = .ok (.getfield 132, 3) := by decide +kernel
theorem dX4_count_91 : decode cX4_count 91 = .ok (.ireturn, 1) := by decide +kernel
theorem dX4_count_92 : decode cX4_count 92 = .ok (.aload_n 0, 1) := by decide +kernel
theorem dX4_count_93 : decode cX4_count 93 = .ok (.getfield 10, 3) := by decide +kernel
theorem dX4_count_96 : decode cX4_count 96 = .ok (.invokevirtual 195, 3) := by decide +kernel
theorem dX4_count_99 : decode cX4_count 99 = .ok (.ireturn, 1) := by decide +kernel
theorem dX4_count_100 : decode cX4_count 100 = .ok (.aload_n 0, 1) := by decide +kernel
theorem dX4_count_101 : decode cX4_count 101 = .ok (.getfield 10, 3) := by decide +kernel
theorem dX4_count_104 : decode cX4_count 104 = .ok (.aload_n 0, 1) := by decide +kernel
theorem dX4_count_105 : decode cX4_count 105 = .ok (.invokevirtual 70, 3) := by decide +kernel
theorem dX4_count_108 : decode cX4_count 108 = .ok (.invokevirtual 198, 3) := by decide +kernel
theorem dX4_count_111 : decode cX4_count 111 = .ok (.ireturn, 1) := by decide +kernel
theorem dX4_count_112 : decode cX4_count 112 = .ok (.aload_n 0, 1) := by decide +kernel
theorem dX4_count_113 : decode cX4_count 113 = .ok (.getfield 10, 3) := by decide +kernel
theorem dX4_count_116 : decode cX4_count 116 = .ok (.aload_n 0, 1) := by decide +kernel
theorem dX4_count_117 : decode cX4_count 117 = .ok (.invokevirtual 70, 3) := by decide +kernel
theorem dX4_count_120 : decode cX4_count 120 = .ok (.invokevirtual 201, 3) := by decide +kernel
theorem dX4_count_123 : decode cX4_count 123 = .ok (.ireturn, 1) := by decide +kernel
theorem dX4_count_124 : decode cX4_count 124 = .ok (.aload_n 0, 1) := by decide +kernel
theorem dX4_count_125 : decode cX4_count 125 = .ok (.getfield 10, 3) := by decide +kernel
theorem dX4_count_128 : decode cX4_count 128 = .ok (.aload_n 0, 1) := by decide +kernel
theorem dX4_count_129 : decode cX4_count 129 = .ok (.invokevirtual 70, 3) := by decide +kernel
theorem dX4_count_132 : decode cX4_count 132 = .ok (.invokevirtual 204, 3) := by decide +kernel
theorem dX4_count_135 : decode cX4_count 135 = .ok (.ireturn, 1) := by decide +kernel
theorem dX4_count_136 : decode cX4_count 136 = .ok (.aload_n 0, 1) := by decide +kernel
theorem dX4_count_137 : decode cX4_count 137 = .ok (.invokevirtual 70, 3) := by decide +kernel
theorem dX4_count_140 : decode cX4_count 140 = .ok (.getfield 207, 3) := by decide +kernel
theorem dX4_count_143 : decode cX4_count 143 = .ok (.ireturn, 1) := by decide +kernel
theorem dX4_count_144 : decode cX4_count 144 = .ok (.aload_n 0, 1) := by decide +kernel
theorem dX4_count_145 : decode cX4_count 145 = .ok (.getfield 10, 3) := by decide +kernel
theorem dX4_count_148 : decode cX4_count 148 = .ok (.invokevirtual 210, 3) := by decide +kernel
theorem dX4_count_151 : decode cX4_count 151 = .ok (.ireturn, 1) := by decide +kernel
theorem dX4_count_152 : decode cX4_count 152 = .ok (.aload_n 0, 1) := by decide +kernel
theorem dX4_count_153 : decode cX4_count 153 = .ok (.getfield 10, 3) := by decide +kernel
theorem dX4_count_156 : decode cX4_count 156 = .ok (.invokevirtual 213, 3) := by decide +kernel
theorem dX4_count_159 : decode cX4_count 159 = .ok (.ireturn, 1) := by decide +kernel
theorem dX4_count_160 : decode cX4_count 160 = .ok (.aload_n 0, 1) := by decide +kernel
theorem dX4_count_161 : decode cX4_count 161 = .ok (.getfield 10, 3) := by decide +kernel
theorem dX4_count_164 : decode cX4_count 164 = .ok (.getfield 216, 3) := by decide +kernel
theorem dX4_count_167 : decode cX4_count 167 = .ok (.ireturn, 1) := by decide +kernel
theorem dX4_count_168 : decode cX4_count 168 = .ok (.aload_n 0, 1) := by decide +kernel
theorem dX4_count_169 : decode cX4_count 169 = .ok (.getfield 10, 3) := by decide +kernel
theorem dX4_count_172 : decode cX4_count 172 = .ok (.getfield 219, 3) := by decide +kernel
theorem dX4_count_175 : decode cX4_count 175 = .ok (.ireturn, 1) := by decide +kernel
theorem dX4_count_176 : decode cX4_count 176 = .ok (.aload_n 0, 1) := by decide +kernel
theorem dX4_count_177 : decode cX4_count 177 = .ok (.getfield 10, 3) := by decide +kernel
theorem dX4_count_180 : decode cX4_count 180 = .ok (.getfield 222, 3) := by decide +kernel
theorem dX4_count_183 : decode cX4_count 183 = .ok (.ireturn, 1) := by decide +kernel
theorem dX4_count_184 : decode cX4_count 184 = .ok (.aload_n 0, 1) := by decide +kernel
theorem dX4_count_185 : decode cX4_count 185 = .ok (.getfield 10, 3) := by decide +kernel
theorem dX4_count_188 : decode cX4_count 188 = .ok (.invokevirtual 225, 3) := by decide +kernel
theorem dX4_count_191 : decode cX4_count 191 = .ok (.ireturn, 1) := by decide +kernel
theorem dX4_count_192 : decode cX4_count 192 = .ok (.aload_n 0, 1) := by decide +kernel
theorem dX4_count_193 : decode cX4_count 193 = .ok (.getfield 10, 3) := by decide +kernel
theorem dX4_count_196 : decode cX4_count 196 = .ok (.getfield 228, 3) := by decide +kernel
theorem dX4_count_199 : decode cX4_count 199 = .ok (.iconst 0, 1) := by decide +kernel
theorem dX4_count_200 : decode cX4_count 200 = .ok (.iaload, 1) := by decide +kernel
theorem dX4_count_201 : decode cX4_count 201 = .ok (.ireturn, 1) := by decide +kernel
theorem dX4_count_202 : decode cX4_count 202 = .ok (.aload_n 0, 1) := by decide +kernel
theorem dX4_count_203 : decode cX4_count 203 = .ok (.getfield 10, 3) := by decide +kernel
theorem dX4_count_206 : decode cX4_count 206 = .ok (.getfield 228, 3) := by decide +kernel
theorem dX4_count_209 : decode cX4_count 209 = .ok (.iconst 1, 1) := by decide +kernel
theorem dX4_count_210 : decode cX4_count 210 = .ok (.iaload, 1) := by decide +kernel
theorem dX4_count_211 : decode cX4_count 211 = .ok (.ireturn, 1) := by decide +kernel
theorem dX4_count_212 : decode cX4_count 212 = .ok (.aload_n 0, 1) := by decide +kernel
theorem dX4_count_213 : decode cX4_count 213 = .ok (.getfield 10, 3) := by decide +kernel
theorem dX4_count_216 : decode cX4_count 216 = .ok (.getfield 228, 3) := by decide +kernel
theorem dX4_count_219 : decode cX4_count 219 = .ok (.iconst 2, 1) := by decide +kernel
theorem dX4_count_220 : decode cX4_count 220 = .ok (.iaload, 1) := by decide +kernel
theorem dX4_count_221 : decode cX4_count 221 = .ok (.ireturn, 1) := by decide +kernel
theorem dX4_count_222 : decode cX4_count 222 = .ok (.aload_n 0, 1) := by decide +kernel
theorem dX4_count_223 : decode cX4_count 223 = .ok (.getfield 25, 3) := by decide +kernel
theorem dX4_count_226 : decode cX4_count 226 = .ok (.getfield 125, 3) := by decide +kernel
theorem dX4_count_229 : decode cX4_count 229 = .ok (.ireturn, 1) := by decide +kernel
theorem dX4_count_230 : decode cX4_count 230 = .ok (.aload_n 0, 1) := by decide +kernel
theorem dX4_count_231 : decode cX4_count 231 = .ok (.getfield 39, 3) := by decide +kernel
theorem dX4_count_234 : decode cX4_count 234 = .ok (.getfield 231, 3) := by decide +kernel
theorem dX4_count_237 : decode cX4_count 237 = .ok (.ireturn, 1) := by decide +kernel
theorem dX4_count_238 : decode cX4_count 238 = .ok (.bipush (-2), 2) := by decide +kernel
theorem dX4_count_240 : decode cX4_count 240 = .ok (.ireturn, 1) := by decide +kernel
theorem dX4_isIn_0 : decode cX4_isIn 0 = .ok (.iload_n 0, 1) := by decide +kernel
theorem dX4_isIn_1 : decode cX4_isIn 1 = .ok (.iload_n 1, 1) := by decide +kernel
theorem dX4_isIn_2 : decode cX4_isIn 2 = .ok (.if_icmp .lt 12, 3) := by decide +kernel
theorem dX4_isIn_5 : decode cX4_isIn 5 = .ok (.iload_n 0, 1) := by decide +kernel
theorem dX4_isIn_6 : decode cX4_isIn 6 = .ok (.iload_n 2, 1) := by decide +kernel
theorem dX4_isIn_7 : decode cX4_isIn 7 = .ok (.if_icmp .gt 7, 3) := by decide +kernel
theorem dX4_isIn_10 : decode cX4_isIn 10 = .ok (.iconst 1, 1) := by decide +kernel
theorem dX4_isIn_11 : decode cX4_isIn 11 = .ok (.goto 4, 3) := by decide +kernel
theorem dX4_isIn_14 : decode cX4_isIn 14 = .ok (.iconst 0, 1) := by decide +kernel
theorem dX4_isIn_15 : decode cX4_isIn 15 = .ok (.ireturn, 1) := by decide +kernel
theorem dX4_isError_0 : decode cX4_isError 0 = .ok (.iload_n 0, 1) := by decide +kernel
theorem dX4_isError_1 : decode cX4_isError 1 = .ok (.ifCond .ge 13, 3) := by decide +kernel
theorem dX4_isError_4 : decode cX4_isError 4 = .ok (.iload_n 0, 1) := by decide +kernel
theorem dX4_isError_5 : decode cX4_isError 5 = .ok (.bipush (-5), 2) := by decide +kernel
theorem dX4_isError_7 : decode cX4_isError 7 = .ok (.if_icmp .eq 7, 3) := by decide +kernel
theorem dX4_isError_10 : decode cX4_isError 10 = .ok (.iconst 1, 1) := by decide +kernel
theorem dX4_isError_11 : decode cX4_isError 11 = .ok (.goto 4, 3) := by decide +kernel
theorem dX4_isError_14 : decode cX4_isError 14 = .ok (.iconst 0, 1) := by decide +kernel
theorem dX4_isError_15 : decode cX4_isError 15 = .ok (.ireturn, 1) := by decide +kernel
theorem dX4_recorded_0 : decode cX4_recorded 0 = .ok (.iload_n 1, 1) := by decide +kernel
theorem dX4_recorded_1 : decode cX4_recorded 1 = .ok (.ifCond .lt 14, 3) := by decide +kernel
theorem dX4_recorded_4 : decode cX4_recorded 4 = .ok (.aload_n 0, 1) := by decide +kernel
theorem dX4_recorded_5 : decode cX4_recorded 5 = .ok (.getfield 25, 3) := by decide +kernel
theorem dX4_recorded_8 : decode cX4_recorded 8 = .ok (.aload_n 0, 1) := by decide +kernel
theorem dX4_recorded_9 : decode cX4_recorded 9 = .ok (.getfield 16, 3) := by decide +kernel
theorem dX4_recorded_12 : decode cX4_recorded 12 = .ok (.invokevirtual 234, 3) := by decide +kernel
theorem dX4_recorded_15 : decode cX4_recorded 15 = .ok (.iload_n 1, 1) := by decide +kernel
theorem dX4_recorded_16 : decode cX4_recorded 16 = .ok (.ireturn, 1) := by decide +kernel
theorem dX4_pathsLeft_0 : decode cX4_pathsLeft 0 = .ok (.aload_n 0, 1) := by decide +kernel
theorem dX4_pathsLeft_1 : decode cX4_pathsLeft 1 = .ok (.getfield 32, 3) := by decide +kernel
theorem dX4_pathsLeft_4 : decode cX4_pathsLeft 4 = .ok (.aload_n 0, 1) := by decide +kernel
theorem dX4_pathsLeft_5 : decode cX4_pathsLeft 5 = .ok (.getfield 10, 3) := by decide +kernel
theorem dX4_pathsLeft_8 : decode cX4_pathsLeft 8 = .ok (.getfield 171, 3) := by decide +kernel
theorem dX4_pathsLeft_11 : decode cX4_pathsLeft 11 = .ok (.invokevirtual 237, 3) := by decide +kernel
theorem dX4_pathsLeft_14 : decode cX4_pathsLeft 14 = .ok (.aload_n 0, 1) := by decide +kernel
theorem dX4_pathsLeft_15 : decode cX4_pathsLeft 15 = .ok (.getfield 32, 3) := by decide +kernel
theorem dX4_pathsLeft_18 : decode cX4_pathsLeft 18 = .ok (.areturn, 1) := by decide +kernel
theorem dX4_doThing_0 : decode cX4_doThing 0 = .ok (.aload_n 0, 1) := by decide +kernel
theorem dX4_doThing_1 : decode cX4_doThing 1 = .ok (.getfield 39, 3) := by decide +kernel
theorem dX4_doThing_4 : decode cX4_doThing 4 = .ok (.getfield 241, 3) := by decide +kernel
theorem dX4_doThing_7 : decode cX4_doThing 7 = .ok (.istore_n 1, 1) := by decide +kernel
theorem dX4_doThing_8 : decode cX4_doThing 8 = .ok (.aload_n 0, 1) := by decide +kernel
theorem dX4_doThing_9 : decode cX4_doThing 9 = .ok (.getfield 39, 3) := by decide +kernel
theorem dX4_doThing_12 : decode cX4_doThing 12 = .ok (.getfield 244, 3) := by decide +kernel
theorem dX4_doThing_15 : decode cX4_doThing 15 = .ok (.istore_n 2, 1) := by decide +kernel
theorem dX4_doThing_16 : decode cX4_doThing 16 = .ok (.aload_n 0, 1) := by decide +kernel
theorem dX4_doThing_17 : decode cX4_doThing 17 = .ok (.getfield 39, 3) := by decide +kernel
theorem dX4_doThing_20 : decode cX4_doThing 20 = .ok (.getfield 247, 3) := by decide +kernel
theorem dX4_doThing_23 : decode cX4_doThing 23 = .ok (.bipush 116, 2) := by decide +kernel
theorem dX4_doThing_25 : decode cX4_doThing 25 = .ok (.if_icmp .ne 13, 3) := by decide +kernel
theorem dX4_doThing_28 : decode cX4_doThing 28 = .ok (.aload_n 0, 1) := by decide +kernel
theorem dX4_doThing_29 : decode cX4_doThing 29 = .ok (.getfield 10, 3) := by decide +kernel
theorem dX4_doThing_32 : decode cX4_doThing 32 = .ok (.iload_n 1, 1) := by decide +kernel
theorem dX4_doThing_33 : decode cX4_doThing 33 = .ok (.iload_n 2, 1) := by decide +kernel
theorem dX4_doThing_34 : decode cX4_doThing 34 = .ok (.invokevirtual 47, 3) := by decide +kernel
theorem dX4_doThing_37 : decode cX4_doThing 37 = .ok (.ireturn, 1) := by decide +kernel
theorem dX4_doThing_38 : decode cX4_doThing 38 = .ok (.aload_n 0, 1) := by decide +kernel
theorem dX4_doThing_39 : decode cX4_doThing 39 = .ok (.getfield 39, 3) := by decide +kernel
theorem dX4_doThing_42 : decode cX4_doThing 42 = .ok (.getfield 247, 3) := by decide +kernel
theorem dX4_doThing_45 : decode cX4_doThing 45 = .ok (.bipush 114, 2) := by decide +kernel
theorem dX4_doThing_47 : decode cX4_doThing 47 = .ok (.if_icmp .ne 12, 3) := by decide +kernel
theorem dX4_doThing_50 : decode cX4_doThing 50 = .ok (.aload_n 0, 1) := by decide +kernel
theorem dX4_doThing_51 : decode cX4_doThing 51 = .ok (.getfield 10, 3) := by decide +kernel
theorem dX4_doThing_54 : decode cX4_doThing 54 = .ok (.iload_n 1, 1) := by decide +kernel
theorem dX4_doThing_55 : decode cX4_doThing 55 = .ok (.invokevirtual 55, 3) := by decide +kernel
theorem dX4_doThing_58 : decode cX4_doThing 58 = .ok (.ireturn, 1) := by decide +kernel
theorem dX4_doThing_59 : decode cX4_doThing 59 = .ok (.aload_n 0, 1) := by decide +kernel
theorem dX4_doThing_60 : decode cX4_doThing 60 = .ok (.getfield 39, 3) := by decide +kernel
theorem dX4_doThing_63 : decode cX4_doThing 63 = .ok (.getfield 247, 3) := by decide +kernel
theorem dX4_doThing_66 : decode cX4_doThing 66 = .ok (.bipush 104, 2) := by decide +kernel
theorem dX4_doThing_68 : decode cX4_doThing 68 = .ok (.if_icmp .ne 17, 3) := by decide +kernel
theorem dX4_doThing_71 : decode cX4_doThing 71 = .ok (.aload_n 0, 1) := by decide +kernel
theorem dX4_doThing_72 : decode cX4_doThing 72 = .ok (.getfield 10, 3) := by decide +kernel
theorem dX4_doThing_75 : decode cX4_doThing 75 = .ok (.aload_n 0, 1) := by decide +kernel
theorem dX4_doThing_76 : decode cX4_doThing 76 = .ok (.invokevirtual 70, 3) := by decide +kernel
theorem dX4_doThing_79 : decode cX4_doThing 79 = .ok (.iload_n 1, 1) := by decide +kernel
theorem dX4_doThing_80 : decode cX4_doThing 80 = .ok (.iload_n 2, 1) := by decide +kernel
theorem dX4_doThing_81 : decode cX4_doThing 81 = .ok (.invokevirtual 74, 3) := by decide +kernel
theorem dX4_doThing_84 : decode cX4_doThing 84 = .ok (.ireturn, 1) := by decide +kernel
theorem dX4_doThing_85 : decode cX4_doThing 85 = .ok (.aload_n 0, 1) := by decide +kernel
theorem dX4_doThing_86 : decode cX4_doThing 86 = .ok (.getfield 39, 3) := by decide +kernel
theorem dX4_doThing_89 : decode cX4_doThing 89 = .ok (.getfield 247, 3) := by decide +kernel
theorem dX4_doThing_92 : decode cX4_doThing 92 = .ok (.bipush 103, 2) := by decide +kernel
theorem dX4_doThing_94 : decode cX4_doThing 94 = .ok (.if_icmp .ne 13, 3) := by decide +kernel
theorem dX4_doThing_97 : decode cX4_doThing 97 = .ok (.aload_n 0, 1) := by decide +kernel
theorem dX4_doThing_98 : decode cX4_doThing 98 = .ok (.getfield 10, 3) := by decide +kernel
theorem dX4_doThing_101 : decode cX4_doThing 101 = .ok (.iload_n 1, 1) := by decide +kernel
theorem dX4_doThing_102 : decode cX4_doThing 102 = .ok (.iload_n 2, 1) := by decide +kernel
theorem dX4_doThing_103 : decode cX4_doThing 103 = .ok (.invokevirtual 64, 3) := by decide +kernel
theorem dX4_doThing_106 : decode cX4_doThing 106 = .ok (.ireturn, 1) := by decide +kernel
theorem dX4_doThing_107 : decode cX4_doThing 107 = .ok (.aload_n 0, 1) := by decide +kernel
theorem dX4_doThing_108 : decode cX4_doThing 108 = .ok (.getfield 39, 3) := by decide +kernel
theorem dX4_doThing_111 : decode cX4_doThing 111 = .ok (.getfield 247, 3) := by decide +kernel
theorem dX4_doThing_114 : decode cX4_doThing 114 = .ok (.bipush 102, 2) := by decide +kernel
theorem dX4_doThing_116 : decode cX4_doThing 116 = .ok (.if_icmp .ne 12, 3) := by decide +kernel
theorem dX4_doThing_119 : decode cX4_doThing 119 = .ok (.aload_n 0, 1) := by decide +kernel
theorem dX4_doThing_120 : decode cX4_doThing 120 = .ok (.getfield 10, 3) := by decide +kernel
theorem dX4_doThing_123 : decode cX4_doThing 123 = .ok (.iload_n 1, 1) := by decide +kernel
theorem dX4_doThing_124 : decode cX4_doThing 124 = .ok (.invokevirtual 67, 3) := by decide +kernel
theorem dX4_doThing_127 : decode cX4_doThing 127 = .ok (.ireturn, 1) := by decide +kernel
theorem dX4_doThing_128 : decode cX4_doThing 128 = .ok (.aload_n 0, 1) := by decide +kernel
theorem dX4_doThing_129 : decode cX4_doThing 129 = .ok (.getfield 10, 3) := by decide +kernel
theorem dX4_doThing_132 : decode cX4_doThing 132 = .ok (.iload_n 1, 1) := by decide +kernel
theorem dX4_doThing_133 : decode cX4_doThing 133 = .ok (.invokevirtual 58, 3) := by decide +kernel
theorem dX4_doThing_136 : decode cX4_doThing 136 = .ok (.ireturn, 1) := by decide +kernel
theorem dX5_init_0 : decode cX5_init 0 = .ok (.aload_n 0, 1) := by decide +kernel
theorem dX5_init_1 : decode cX5_init 1 = .ok (.invokespecial 1, 3) := by decide +kernel
theorem dX5_init_4 : decode cX5_init 4 = .ok (.aload_n 0, 1) := by decide +kernel
theorem dX5_init_5 : decode cX5_init 5 = .ok (.sipush 220, 3) := by decide +kernel
theorem dX5_init_8 : decode cX5_init 8 = .ok (.newarray .int, 2) := by decide +kernel
theorem dX5_init_10 : decode cX5_init 10 = .ok (.putfield 7, 3) := by decide +kernel
theorem dX5_init_13 : decode cX5_init 13 = .ok (.aload_n 0, 1) := by decide +kernel
theorem dX5_init_14 : decode cX5_init 14 = .ok (.sipush 220, 3) := by decide +kernel
theorem dX5_init_17 : decode cX5_init 17 = .ok (.newarray .int, 2) := by decide +kernel
theorem dX5_init_19 : decode cX5_init 19 = .ok (.putfield 13, 3) := by decide +kernel
theorem dX5_init_22 : decode cX5_init 22 = .ok (.aload_n 0, 1) := by decide +kernel
theorem dX5_init_23 : decode cX5_init 23 = .ok (.sipush 880, 3) := by decide +kernel
theorem dX5_init_26 : decode cX5_init 26 = .ok (.newarray .int, 2) := by decide +kernel
theorem dX5_init_28 : decode cX5_init 28 = .ok (.putfield 16, 3) := by decide +kernel
theorem dX5_init_31 : decode cX5_init 31 = .ok (.aload_n 0, 1) := by decide +kernel
theorem dX5_init_32 : decode cX5_init 32 = .ok (.sipush 220, 3) := by decide +kernel
theorem dX5_init_35 : decode cX5_init 35 = .ok (.newarray .int, 2) := by decide +kernel
theorem dX5_init_37 : decode cX5_init 37 = .ok (.putfield 19, 3) := by decide +kernel
theorem dX5_init_40 : decode cX5_init 40 = .ok (.aload_n 0, 1) := by decide +kernel
theorem dX5_init_41 : decode cX5_init 41 = .ok (.bipush 60, 2) := by decide +kernel
theorem dX5_init_43 : decode cX5_init 43 = .ok (.newarray .int, 2) := by decide +kernel
theorem dX5_init_45 : decode cX5_init 45 = .ok (.putfield 22, 3) := by decide +kernel
theorem dX5_init_48 : decode cX5_init 48 = .ok (.aload_n 0, 1) := by decide +kernel
theorem dX5_init_49 : decode cX5_init 49 = .ok (.bipush 64, 2) := by decide +kernel
theorem dX5_init_51 : decode cX5_init 51 = .ok (.newarray .int, 2) := by decide +kernel
theorem dX5_init_53 : decode cX5_init 53 = .ok (.putfield 25, 3) := by decide +kernel
theorem dX5_init_56 : decode cX5_init 56 = .ok (.aload_n 0, 1) := by decide +kernel
theorem dX5_init_57 : decode cX5_init 57 = .ok (.bipush 64, 2) := by decide +kernel
theorem dX5_init_59 : decode cX5_init 59 = .ok (.newarray .int, 2) := by decide +kernel
theorem dX5_init_61 : decode cX5_init 61 = .ok (.putfield 28, 3) := by decide +kernel
theorem dX5_init_64 : decode cX5_init 64 = .ok (.aload_n 0, 1) := by decide +kernel
theorem dX5_init_65 : decode cX5_init 65 = .ok (.bipush 64, 2) := by decide +kernel
theorem dX5_init_67 : decode cX5_init 67 = .ok (.newarray .int, 2) := by decide +kernel
theorem dX5_init_69 : decode cX5_init 69 = .ok (.putfield 31, 3) := by decide +kernel
theorem dX5_init_72 : decode cX5_init 72 = .ok (.aload_n 0, 1) := by decide +kernel
theorem dX5_init_73 : decode cX5_init 73 = .ok (.bipush 64, 2) := by decide +kernel
theorem dX5_init_75 : decode cX5_init 75 = .ok (.newarray .int, 2) := by decide +kernel
theorem dX5_init_77 : decode cX5_init 77 = .ok (.putfield 34, 3) := by decide +kernel
theorem dX5_init_80 : decode cX5_init 80 = .ok (.aload_n 0, 1) := by decide +kernel
end
section
theorem dX5_init_81 : decode cX5_init 81 = .ok (.bipush 93, 2) := by decide +kernel
theorem dX5_init_83 : decode cX5_init 83 = .ok (.newarray .int, 2) := by decide +kernel
theorem dX5_init_85 : decode cX5_init 85 = .ok (.putfield 37, 3) := by decide +kernel
theorem dX5_init_88 : decode cX5_init 88 = .ok (.aload_n 0, 1) := by decide +kernel
theorem dX5_init_89 : decode cX5_init 89 = .ok (.getfield 7, 3) := by decide +kernel
theorem dX5_init_92 : decode cX5_init 92 = .ok (.iconst 0, 1) := by decide +kernel
theorem dX5_init_93 : decode cX5_init 93 = .ok (.bipush 8, 2) := by decide +kernel
theorem dX5_init_95 : decode cX5_init 95 = .ok (.iastore, 1) := by decide +kernel
theorem dX5_init_96 : decode cX5_init 96 = .ok (.aload_n 0, 1) := by decide +kernel
theorem dX5_init_97 : decode cX5_init 97 = .ok (.getfield 7, 3) := by decide +kernel
theorem dX5_init_100 : decode cX5_init 100 = .ok (.iconst 2, 1) := by decide +kernel
theorem dX5_init_101 : decode cX5_init 101 = .ok (.iconst 3, 1) := by decide +kernel
theorem dX5_init_102 : decode cX5_init 102 = .ok (.iastore, 1) := by decide +kernel
theorem dX5_init_103 : decode cX5_init 103 = .ok (.iconst 0, 1) := by decide +kernel
theorem dX5_init_104 : decode cX5_init 104 = .ok (.istore_n 1, 1) := by decide +kernel
theorem dX5_init_105 : decode cX5_init 105 = .ok (.iload_n 1, 1) := by decide +kernel
theorem dX5_init_106 : decode cX5_init 106 = .ok (.bipush 8, 2) := by decide +kernel
theorem dX5_init_108 : decode cX5_init 108 = .ok (.if_icmp .ge 20, 3) := by decide +kernel
theorem dX5_init_111 : decode cX5_init 111 = .ok (.aload_n 0, 1) := by decide +kernel
theorem dX5_init_112 : decode cX5_init 112 = .ok (.getfield 7, 3) := by decide +kernel
theorem dX5_init_115 : decode cX5_init 115 = .ok (.bipush 7, 2) := by decide +kernel
theorem dX5_init_117 : decode cX5_init 117 = .ok (.iload_n 1, 1) := by decide +kernel
theorem dX5_init_118 : decode cX5_init 118 = .ok (.iadd, 1) := by decide +kernel
theorem dX5_init_119 : decode cX5_init 119 = .ok (.bipush (-5), 2) := by decide +kernel
theorem dX5_init_121 : decode cX5_init 121 = .ok (.iastore, 1) := by decide +kernel
theorem dX5_init_122 : decode cX5_init 122 = .ok (.iinc 1 1, 3) := by decide +kernel
theorem dX5_init_125 : decode cX5_init 125 = .ok (.goto (-20), 3) := by decide +kernel
theorem dX5_init_128 : decode cX5_init 128 = .ok (.iconst 0, 1) := by decide +kernel
theorem dX5_init_129 : decode cX5_init 129 = .ok (.istore_n 1, 1) := by decide +kernel
theorem dX5_init_130 : decode cX5_init 130 = .ok (.iload_n 1, 1) := by decide +kernel
theorem dX5_init_131 : decode cX5_init 131 = .ok (.iconst 3, 1) := by decide +kernel
theorem dX5_init_132 : decode cX5_init 132 = .ok (.if_icmp .ge 16, 3) := by decide +kernel
theorem dX5_init_135 : decode cX5_init 135 = .ok (.aload_n 0, 1) := by decide +kernel
theorem dX5_init_136 : decode cX5_init 136 = .ok (.iload_n 1, 1) := by decide +kernel
theorem dX5_init_137 : decode cX5_init 137 = .ok (.iconst 0, 1) := by decide +kernel
theorem dX5_init_138 : decode cX5_init 138 = .ok (.iload_n 1, 1) := by decide +kernel
theorem dX5_init_139 : decode cX5_init 139 = .ok (.invokevirtual 40, 3) := by decide +kernel
theorem dX5_init_142 : decode cX5_init 142 = .ok (.iinc 1 1, 3) := by decide +kernel
theorem dX5_init_145 : decode cX5_init 145 = .ok (.goto (-15), 3) := by decide +kernel
theorem dX5_init_148 : decode cX5_init 148 = .ok (.aload_n 0, 1) := by decide +kernel
theorem dX5_init_149 : decode cX5_init 149 = .ok (.invokevirtual 44, 3) := by decide +kernel
theorem dX5_init_152 : decode cX5_init 152 = .ok (.return_, 1) := by decide +kernel
theorem dX5_in_0 : decode cX5_in 0 = .ok (.iload_n 0, 1) := by decide +kernel
theorem dX5_in_1 : decode cX5_in 1 = .ok (.iload_n 1, 1) := by decide +kernel
theorem dX5_in_2 : decode cX5_in 2 = .ok (.if_icmp .lt 12, 3) := by decide +kernel
theorem dX5_in_5 : decode cX5_in 5 = .ok (.iload_n 0, 1) := by decide +kernel
theorem dX5_in_6 : decode cX5_in 6 = .ok (.iload_n 2, 1) := by decide +kernel
theorem dX5_in_7 : decode cX5_in 7 = .ok (.if_icmp .gt 7, 3) := by decide +kernel
theorem dX5_in_10 : decode cX5_in 10 = .ok (.iconst 1, 1) := by decide +kernel
theorem dX5_in_11 : decode cX5_in 11 = .ok (.goto 4, 3) := by decide +kernel
theorem dX5_in_14 : decode cX5_in 14 = .ok (.iconst 0, 1) := by decide +kernel
theorem dX5_in_15 : decode cX5_in 15 = .ok (.ireturn, 1) := by decide +kernel
theorem dX5_isPlot_0 : decode cX5_isPlot 0 = .ok (.iload_n 0, 1) := by decide +kernel
theorem dX5_isPlot_1 : decode cX5_isPlot 1 = .ok (.iconst 0, 1) := by decide +kernel
theorem dX5_isPlot_2 : decode cX5_isPlot 2 = .ok (.bipush 63, 2) := by decide +kernel
theorem dX5_isPlot_4 : decode cX5_isPlot 4 = .ok (.invokestatic 47, 3) := by decide +kernel
theorem dX5_isPlot_7 : decode cX5_isPlot 7 = .ok (.ireturn, 1) := by decide +kernel
theorem dX5_isLine_0 : decode cX5_isLine 0 = .ok (.iload_n 0, 1) := by decide +kernel
theorem dX5_isLine_1 : decode cX5_isLine 1 = .ok (.iconst 0, 1) := by decide +kernel
theorem dX5_isLine_2 : decode cX5_isLine 2 = .ok (.bipush 7, 2) := by decide +kernel
theorem dX5_isLine_4 : decode cX5_isLine 4 = .ok (.invokestatic 47, 3) := by decide +kernel
theorem dX5_isLine_7 : decode cX5_isLine 7 = .ok (.ireturn, 1) := by decide +kernel
theorem dX5_isCrew_0 : decode cX5_isCrew 0 = .ok (.iload_n 0, 1) := by decide +kernel
theorem dX5_isCrew_1 : decode cX5_isCrew 1 = .ok (.iconst 0, 1) := by decide +kernel
theorem dX5_isCrew_2 : decode cX5_isCrew 2 = .ok (.iconst 2, 1) := by decide +kernel
theorem dX5_isCrew_3 : decode cX5_isCrew 3 = .ok (.invokestatic 47, 3) := by decide +kernel
theorem dX5_isCrew_6 : decode cX5_isCrew 6 = .ok (.ireturn, 1) := by decide +kernel
theorem dX5_of_0 : decode cX5_of 0 = .ok (.aload_n 0, 1) := by decide +kernel
theorem dX5_of_1 : decode cX5_of 1 = .ok (.getfield 7, 3) := by decide +kernel
theorem dX5_of_4 : decode cX5_of 4 = .ok (.bipush 15, 2) := by decide +kernel
theorem dX5_of_6 : decode cX5_of 6 = .ok (.iconst 4, 1) := by decide +kernel
theorem dX5_of_7 : decode cX5_of 7 = .ok (.iload_n 1, 1) := by decide +kernel
theorem dX5_of_8 : decode cX5_of 8 = .ok (.imul, 1) := by decide +kernel
theorem dX5_of_9 : decode cX5_of 9 = .ok (.iadd, 1) := by decide +kernel
theorem dX5_of_10 : decode cX5_of 10 = .ok (.iload_n 2, 1) := by decide +kernel
theorem dX5_of_11 : decode cX5_of 11 = .ok (.iadd, 1) := by decide +kernel
theorem dX5_of_12 : decode cX5_of 12 = .ok (.iaload, 1) := by decide +kernel
theorem dX5_of_13 : decode cX5_of 13 = .ok (.ireturn, 1) := by decide +kernel
theorem dX5_lay_0 : decode cX5_lay 0 = .ok (.aload_n 0, 1) := by decide +kernel
theorem dX5_lay_1 : decode cX5_lay 1 = .ok (.getfield 7, 3) := by decide +kernel
theorem dX5_lay_4 : decode cX5_lay 4 = .ok (.bipush 15, 2) := by decide +kernel
theorem dX5_lay_6 : decode cX5_lay 6 = .ok (.iconst 4, 1) := by decide +kernel
theorem dX5_lay_7 : decode cX5_lay 7 = .ok (.iload_n 1, 1) := by decide +kernel
theorem dX5_lay_8 : decode cX5_lay 8 = .ok (.imul, 1) := by decide +kernel
theorem dX5_lay_9 : decode cX5_lay 9 = .ok (.iadd, 1) := by decide +kernel
theorem dX5_lay_10 : decode cX5_lay 10 = .ok (.iload_n 2, 1) := by decide +kernel
theorem dX5_lay_11 : decode cX5_lay 11 = .ok (.iadd, 1) := by decide +kernel
theorem dX5_lay_12 : decode cX5_lay 12 = .ok (.iload_n 3, 1) := by decide +kernel
theorem dX5_lay_13 : decode cX5_lay 13 = .ok (.iastore, 1) := by decide +kernel
theorem dX5_lay_14 : decode cX5_lay 14 = .ok (.return_, 1) := by decide +kernel
theorem dX5_refresh_0 : decode cX5_refresh 0 = .ok (.iconst 0, 1) := by decide +kernel
theorem dX5_refresh_1 : decode cX5_refresh 1 = .ok (.istore_n 1, 1) := by decide +kernel
theorem dX5_refresh_2 : decode cX5_refresh 2 = .ok (.iload_n 1, 1) := by decide +kernel
theorem dX5_refresh_3 : decode cX5_refresh 3 = .ok (.iconst 3, 1) := by decide +kernel
theorem dX5_refresh_4 : decode cX5_refresh 4 = .ok (.if_icmp .ge 21, 3) := by decide +kernel
theorem dX5_refresh_7 : decode cX5_refresh 7 = .ok (.aload_n 0, 1) := by decide +kernel
theorem dX5_refresh_8 : decode cX5_refresh 8 = .ok (.iload_n 1, 1) := by decide +kernel
theorem dX5_refresh_9 : decode cX5_refresh 9 = .ok (.iconst 1, 1) := by decide +kernel
theorem dX5_refresh_10 : decode cX5_refresh 10 = .ok (.aload_n 0, 1) := by decide +kernel
theorem dX5_refresh_11 : decode cX5_refresh 11 = .ok (.getfield 7, 3) := by decide +kernel
theorem dX5_refresh_14 : decode cX5_refresh 14 = .ok (.iconst 0, 1) := by decide +kernel
theorem dX5_refresh_15 : decode cX5_refresh 15 = .ok (.iaload, 1) := by decide +kernel
theorem dX5_refresh_16 : decode cX5_refresh 16 = .ok (.invokevirtual 40, 3) := by decide +kernel
theorem dX5_refresh_19 : decode cX5_refresh 19 = .ok (.iinc 1 1, 3) := by decide +kernel
theorem dX5_refresh_22 : decode cX5_refresh 22 = .ok (.goto (-20), 3) := by decide +kernel
theorem dX5_refresh_25 : decode cX5_refresh 25 = .ok (.return_, 1) := by decide +kernel
theorem dX5_copyState_0 : decode cX5_copyState 0 = .ok (.iconst 0, 1) := by decide +kernel
theorem dX5_copyState_1 : decode cX5_copyState 1 = .ok (.istore 4, 2) := by decide +kernel
theorem dX5_copyState_3 : decode cX5_copyState 3 = .ok (.iload 4, 2) := by decide +kernel
theorem dX5_copyState_5 : decode cX5_copyState 5 = .ok (.sipush 220, 3) := by decide +kernel
theorem dX5_copyState_8 : decode cX5_copyState 8 = .ok (.if_icmp .ge 21, 3) := by decide +kernel
theorem dX5_copyState_11 : decode cX5_copyState 11 = .ok (.aload_n 2, 1) := by decide +kernel
theorem dX5_copyState_12 : decode cX5_copyState 12 = .ok (.iload_n 3, 1) := by decide +kernel
theorem dX5_copyState_13 : decode cX5_copyState 13 = .ok (.iload 4, 2) := by decide +kernel
theorem dX5_copyState_15 : decode cX5_copyState 15 = .ok (.iadd, 1) := by decide +kernel
theorem dX5_copyState_16 : decode cX5_copyState 16 = .ok (.aload_n 0, 1) := by decide +kernel
theorem dX5_copyState_17 : decode cX5_copyState 17 = .ok (.iload_n 1, 1) := by decide +kernel
theorem dX5_copyState_18 : decode cX5_copyState 18 = .ok (.iload 4, 2) := by decide +kernel
theorem dX5_copyState_20 : decode cX5_copyState 20 = .ok (.iadd, 1) := by decide +kernel
theorem dX5_copyState_21 : decode cX5_copyState 21 = .ok (.iaload, 1) := by decide +kernel
theorem dX5_copyState_22 : decode cX5_copyState 22 = .ok (.iastore, 1) := by decide +kernel
theorem dX5_copyState_23 : decode cX5_copyState 23 = .ok (.iinc 4 1, 3) := by decide +kernel
theorem dX5_copyState_26 : decode cX5_copyState 26 = .ok (.goto (-23), 3) := by decide +kernel
theorem dX5_copyState_29 : decode cX5_copyState 29 = .ok (.return_, 1) := by decide +kernel
theorem dX5_recordRow_0 : decode cX5_recordRow 0 = .ok (.aload_n 0, 1) := by decide +kernel
theorem dX5_recordRow_1 : decode cX5_recordRow 1 = .ok (.getfield 51, 3) := by decide +kernel
theorem dX5_recordRow_4 : decode cX5_recordRow 4 = .ok (.iconst 4, 1) := by decide +kernel
theorem dX5_recordRow_5 : decode cX5_recordRow 5 = .ok (.if_icmp .ne 44, 3) := by decide +kernel
theorem dX5_recordRow_8 : decode cX5_recordRow 8 = .ok (.iconst 0, 1) := by decide +kernel
theorem dX5_recordRow_9 : decode cX5_recordRow 9 = .ok (.istore_n 2, 1) := by decide +kernel
theorem dX5_recordRow_10 : decode cX5_recordRow 10 = .ok (.iload_n 2, 1) := by decide +kernel
theorem dX5_recordRow_11 : decode cX5_recordRow 11 = .ok (.sipush 660, 3) := by decide +kernel
theorem dX5_recordRow_14 : decode cX5_recordRow 14 = .ok (.if_icmp .ge 25, 3) := by decide +kernel
theorem dX5_recordRow_17 : decode cX5_recordRow 17 = .ok (.aload_n 0, 1) := by decide +kernel
theorem dX5_recordRow_18 : decode cX5_recordRow 18 = .ok (.getfield 16, 3) := by decide +kernel
theorem dX5_recordRow_21 : decode cX5_recordRow 21 = .ok (.iload_n 2, 1) := by decide +kernel
theorem dX5_recordRow_22 : decode cX5_recordRow 22 = .ok (.aload_n 0, 1) := by decide +kernel
theorem dX5_recordRow_23 : decode cX5_recordRow 23 = .ok (.getfield 16, 3) := by decide +kernel
theorem dX5_recordRow_26 : decode cX5_recordRow 26 = .ok (.iload_n 2, 1) := by decide +kernel
theorem dX5_recordRow_27 : decode cX5_recordRow 27 = .ok (.sipush 220, 3) := by decide +kernel
theorem dX5_recordRow_30 : decode cX5_recordRow 30 = .ok (.iadd, 1) := by decide +kernel
theorem dX5_recordRow_31 : decode cX5_recordRow 31 = .ok (.iaload, 1) := by decide +kernel
theorem dX5_recordRow_32 : decode cX5_recordRow 32 = .ok (.iastore, 1) := by decide +kernel
theorem dX5_recordRow_33 : decode cX5_recordRow 33 = .ok (.iinc 2 1, 3) := by decide +kernel
theorem dX5_recordRow_36 : decode cX5_recordRow 36 = .ok (.goto (-26), 3) := by decide +kernel
theorem dX5_recordRow_39 : decode cX5_recordRow 39 = .ok (.aload_n 0, 1) := by decide +kernel
theorem dX5_recordRow_40 : decode cX5_recordRow 40 = .ok (.dup, 1) := by decide +kernel
theorem dX5_recordRow_41 : decode cX5_recordRow 41 = .ok (.getfield 51, 3) := by decide +kernel
theorem dX5_recordRow_44 : decode cX5_recordRow 44 = .ok (.iconst 1, 1) := by decide +kernel
theorem dX5_recordRow_45 : decode cX5_recordRow 45 = .ok (.isub, 1) := by decide +kernel
theorem dX5_recordRow_46 : decode cX5_recordRow 46 = .ok (.putfield 51, 3) := by decide +kernel
theorem dX5_recordRow_49 : decode cX5_recordRow 49 = .ok (.aload_n 1, 1) := by decide +kernel
theorem dX5_recordRow_50 : decode cX5_recordRow 50 = .ok (.iconst 0, 1) := by decide +kernel
theorem dX5_recordRow_51 : decode cX5_recordRow 51 = .ok (.aload_n 0, 1) := by decide +kernel
theorem dX5_recordRow_52 : decode cX5_recordRow 52 = .ok (.getfield 16, 3) := by decide +kernel
theorem dX5_recordRow_55 : decode cX5_recordRow 55 = .ok (.sipush 220, 3) := by decide +kernel
theorem dX5_recordRow_58 : decode cX5_recordRow 58 = .ok (.aload_n 0, 1) := by decide +kernel
theorem dX5_recordRow_59 : decode cX5_recordRow 59 = .ok (.getfield 51, 3) := by decide +kernel
theorem dX5_recordRow_62 : decode cX5_recordRow 62 = .ok (.imul, 1) := by decide +kernel
theorem dX5_recordRow_63 : decode cX5_recordRow 63 = .ok (.invokestatic 55, 3) := by decide +kernel
theorem dX5_recordRow_66 : decode cX5_recordRow 66 = .ok (.aload_n 0, 1) := by decide +kernel
theorem dX5_recordRow_67 : decode cX5_recordRow 67 = .ok (.dup, 1) := by decide +kernel
theorem dX5_recordRow_68 : decode cX5_recordRow 68 = .ok (.getfield 51, 3) := by decide +kernel
theorem dX5_recordRow_71 : decode cX5_recordRow 71 = .ok (.iconst 1, 1) := by decide +kernel
theorem dX5_recordRow_72 : decode cX5_recordRow 72 = .ok (.iadd, 1) := by decide +kernel
theorem dX5_recordRow_73 : decode cX5_recordRow 73 = .ok (.putfield 51, 3) := by decide +kernel
theorem dX5_recordRow_76 : decode cX5_recordRow 76 = .ok (.return_, 1) := by decide +kernel
theorem dX5_record_0 : decode cX5_record 0 = .ok (.aload_n 0, 1) := by decide +kernel
theorem dX5_record_1 : decode cX5_record 1 = .ok (.aload_n 0, 1) := by decide +kernel
theorem dX5_record_2 : decode cX5_record 2 = .ok (.getfield 7, 3) := by decide +kernel
theorem dX5_record_5 : decode cX5_record 5 = .ok (.invokevirtual 59, 3) := by decide +kernel
theorem dX5_record_8 : decode cX5_record 8 = .ok (.return_, 1) := by decide +kernel
theorem dX5_undo_0 : decode cX5_undo 0 = .ok (.aload_n 0, 1) := by decide +kernel
theorem dX5_undo_1 : decode cX5_undo 1 = .ok (.getfield 51, 3) := by decide +kernel
theorem dX5_undo_4 : decode cX5_undo 4 = .ok (.ifCond .ne 6, 3) := by decide +kernel
theorem dX5_undo_7 : decode cX5_undo 7 = .ok (.bipush (-5), 2) := by decide +kernel
theorem dX5_undo_9 : decode cX5_undo 9 = .ok (.ireturn, 1) := by decide +kernel
theorem dX5_undo_10 : decode cX5_undo 10 = .ok (.aload_n 0, 1) := by decide +kernel
theorem dX5_undo_11 : decode cX5_undo 11 = .ok (.dup, 1) := by decide +kernel
theorem dX5_undo_12 : decode cX5_undo 12 = .ok (.getfield 51, 3) := by decide +kernel
theorem dX5_undo_15 : decode cX5_undo 15 = .ok (.iconst 1, 1) := by decide +kernel
theorem dX5_undo_16 : decode cX5_undo 16 = .ok (.isub, 1) := by decide +kernel
theorem dX5_undo_17 : decode cX5_undo 17 = .ok (.putfield 51, 3) := by decide +kernel
theorem dX5_undo_20 : decode cX5_undo 20 = .ok (.aload_n 0, 1) := by decide +kernel
theorem dX5_undo_21 : decode cX5_undo 21 = .ok (.getfield 16, 3) := by decide +kernel
theorem dX5_undo_24 : decode cX5_undo 24 = .ok (.sipush 220, 3) := by decide +kernel
theorem dX5_undo_27 : decode cX5_undo 27 = .ok (.aload_n 0, 1) := by decide +kernel
theorem dX5_undo_28 : decode cX5_undo 28 = .ok (.getfield 51, 3) := by decide +kernel
theorem dX5_undo_31 : decode cX5_undo 31 = .ok (.imul, 1) := by decide +kernel
theorem dX5_undo_32 : decode cX5_undo 32 = .ok (.aload_n 0, 1) := by decide +kernel
theorem dX5_undo_33 : decode cX5_undo 33 = .ok (.getfield 7, 3) := by decide +kernel
theorem dX5_undo_36 : decode cX5_undo 36 = .ok (.iconst 0, 1) := by decide +kernel
theorem dX5_undo_37 : decode cX5_undo 37 = .ok (.invokestatic 55, 3) := by decide +kernel
theorem dX5_undo_40 : decode cX5_undo 40 = .ok (.aload_n 0, 1) := by decide +kernel
theorem dX5_undo_41 : decode cX5_undo 41 = .ok (.getfield 51, 3) := by decide +kernel
theorem dX5_undo_44 : decode cX5_undo 44 = .ok (.ireturn, 1) := by decide +kernel
theorem dX5_keep_0 : decode cX5_keep 0 = .ok (.aload_n 0, 1) := by decide +kernel
theorem dX5_keep_1 : decode cX5_keep 1 = .ok (.getfield 7, 3) := by decide +kernel
theorem dX5_keep_4 : decode cX5_keep 4 = .ok (.iconst 0, 1) := by decide +kernel
theorem dX5_keep_5 : decode cX5_keep 5 = .ok (.aload_n 0, 1) := by decide +kernel
theorem dX5_keep_6 : decode cX5_keep 6 = .ok (.getfield 19, 3) := by decide +kernel
theorem dX5_keep_9 : decode cX5_keep 9 = .ok (.iconst 0, 1) := by decide +kernel
theorem dX5_keep_10 : decode cX5_keep 10 = .ok (.invokestatic 55, 3) := by decide +kernel
theorem dX5_keep_13 : decode cX5_keep 13 = .ok (.aload_n 0, 1) := by decide +kernel
theorem dX5_keep_14 : decode cX5_keep 14 = .ok (.iconst 1, 1) := by decide +kernel
theorem dX5_keep_15 : decode cX5_keep 15 = .ok (.putfield 63, 3) := by decide +kernel
theorem dX5_keep_18 : decode cX5_keep 18 = .ok (.aload_n 0, 1) := by decide +kernel
theorem dX5_keep_19 : decode cX5_keep 19 = .ok (.getfield 7, 3) := by decide +kernel
theorem dX5_keep_22 : decode cX5_keep 22 = .ok (.iconst 3, 1) := by decide +kernel
theorem dX5_keep_23 : decode cX5_keep 23 = .ok (.iaload, 1) := by decide +kernel
theorem dX5_keep_24 : decode cX5_keep 24 = .ok (.ireturn, 1) := by decide +kernel
theorem dX5_restore_0 : decode cX5_restore 0 = .ok (.aload_n 0, 1) := by decide +kernel
theorem dX5_restore_1 : decode cX5_restore 1 = .ok (.getfield 63, 3) := by decide +kernel
theorem dX5_restore_4 : decode cX5_restore 4 = .ok (.ifCond .ne 6, 3) := by decide +kernel
theorem dX5_restore_7 : decode cX5_restore 7 = .ok (.bipush (-5), 2) := by decide +kernel
theorem dX5_restore_9 : decode cX5_restore 9 = .ok (.ireturn, 1) := by decide +kernel
theorem dX5_restore_10 : decode cX5_restore 10 = .ok (.aload_n 0, 1) := by decide +kernel
theorem dX5_restore_11 : decode cX5_restore 11 = .ok (.invokevirtual 67, 3) := by decide +kernel
theorem dX5_restore_14 : decode cX5_restore 14 = .ok (.aload_n 0, 1) := by decide +kernel
theorem dX5_restore_15 : decode cX5_restore 15 = .ok (.getfield 19, 3) := by decide +kernel
theorem dX5_restore_18 : decode cX5_restore 18 = .ok (.iconst 0, 1) := by decide +kernel
theorem dX5_restore_19 : decode cX5_restore 19 = .ok (.aload_n 0, 1) := by decide +kernel
theorem dX5_restore_20 : decode cX5_restore 20 = .ok (.getfield 7, 3) := by decide +kernel
theorem dX5_restore_23 : decode cX5_restore 23 = .ok (.iconst 0, 1) := by decide +kernel
theorem dX5_restore_24 : decode cX5_restore 24 = .ok (.invokestatic 55, 3) := by decide +kernel
theorem dX5_restore_27 : decode cX5_restore 27 = .ok (.aload_n 0, 1) := by decide +kernel
theorem dX5_restore_28 : decode cX5_restore 28 = .ok (.getfield 7, 3) := by decide +kernel
theorem dX5_restore_31 : decode cX5_restore 31 = .ok (.iconst 3, 1) := by decide +kernel
theorem dX5_restore_32 : decode cX5_restore 32 = .ok (.iaload, 1) := by decide +kernel
theorem dX5_restore_33 : decode cX5_restore 33 = .ok (.ireturn, 1) := by decide +kernel
theorem dX5_isOpen_0 : decode cX5_isOpen 0 = .ok (.aload_n 0, 1) := by decide +kernel
theorem dX5_isOpen_1 : decode cX5_isOpen 1 = .ok (.getfield 7, 3) := by decide +kernel
theorem dX5_isOpen_4 : decode cX5_isOpen 4 = .ok (.bipush 7, 2) := by decide +kernel
theorem dX5_isOpen_6 : decode cX5_isOpen 6 = .ok (.iload_n 1, 1) := by decide +kernel
theorem dX5_isOpen_7 : decode cX5_isOpen 7 = .ok (.bipush 8, 2) := by decide +kernel
theorem dX5_isOpen_9 : decode cX5_isOpen 9 = .ok (.idiv, 1) := by decide +kernel
theorem dX5_isOpen_10 : decode cX5_isOpen 10 = .ok (.iadd, 1) := by decide +kernel
theorem dX5_isOpen_11 : decode cX5_isOpen 11 = .ok (.iaload, 1) := by decide +kernel
theorem dX5_isOpen_12 : decode cX5_isOpen 12 = .ok (.istore_n 2, 1) := by decide +kernel
theorem dX5_isOpen_13 : decode cX5_isOpen 13 = .ok (.iload_n 2, 1) := by decide +kernel
theorem dX5_isOpen_14 : decode cX5_isOpen 14 = .ok (.bipush (-5), 2) := by decide +kernel
theorem dX5_isOpen_16 : decode cX5_isOpen 16 = .ok (.if_icmp .eq 11, 3) := by decide +kernel
theorem dX5_isOpen_19 : decode cX5_isOpen 19 = .ok (.iload_n 2, 1) := by decide +kernel
theorem dX5_isOpen_20 : decode cX5_isOpen 20 = .ok (.iload_n 1, 1) := by decide +kernel
theorem dX5_isOpen_21 : decode cX5_isOpen 21 = .ok (.bipush 8, 2) := by decide +kernel
theorem dX5_isOpen_23 : decode cX5_isOpen 23 = .ok (.irem, 1) := by decide +kernel
theorem dX5_isOpen_24 : decode cX5_isOpen 24 = .ok (.if_icmp .ne 7, 3) := by decide +kernel
theorem dX5_isOpen_27 : decode cX5_isOpen 27 = .ok (.iconst 1, 1) := by decide +kernel
theorem dX5_isOpen_28 : decode cX5_isOpen 28 = .ok (.goto 4, 3) := by decide +kernel
theorem dX5_isOpen_31 : decode cX5_isOpen 31 = .ok (.iconst 0, 1) := by decide +kernel
theorem dX5_isOpen_32 : decode cX5_isOpen 32 = .ok (.ireturn, 1) := by decide +kernel
theorem dX5_beside_0 : decode cX5_beside 0 = .ok (.iload_n 1, 1) := by decide +kernel
theorem dX5_beside_1 : decode cX5_beside 1 = .ok (.bipush 8, 2) := by decide +kernel
theorem dX5_beside_3 : decode cX5_beside 3 = .ok (.irem, 1) := by decide +kernel
theorem dX5_beside_4 : decode cX5_beside 4 = .ok (.istore_n 2, 1) := by decide +kernel
theorem dX5_beside_5 : decode cX5_beside 5 = .ok (.aload_n 0, 1) := by decide +kernel
theorem dX5_beside_6 : decode cX5_beside 6 = .ok (.iload_n 1, 1) := by decide +kernel
theorem dX5_beside_7 : decode cX5_beside 7 = .ok (.iaload, 1) := by decide +kernel
theorem dX5_beside_8 : decode cX5_beside 8 = .ok (.iload_n 2, 1) := by decide +kernel
theorem dX5_beside_9 : decode cX5_beside 9 = .ok (.ifCond .le 11, 3) := by decide +kernel
theorem dX5_beside_12 : decode cX5_beside 12 = .ok (.aload_n 0, 1) := by decide +kernel
theorem dX5_beside_13 : decode cX5_beside 13 = .ok (.iload_n 1, 1) := by decide +kernel
theorem dX5_beside_14 : decode cX5_beside 14 = .ok (.iconst 1, 1) := by decide +kernel
theorem dX5_beside_15 : decode cX5_beside 15 = .ok (.isub, 1) := by decide +kernel
theorem dX5_beside_16 : decode cX5_beside 16 = .ok (.iaload, 1) := by decide +kernel
theorem dX5_beside_17 : decode cX5_beside 17 = .ok (.goto 4, 3) := by decide +kernel
theorem dX5_beside_20 : decode cX5_beside 20 = .ok (.iconst 0, 1) := by decide +kernel
theorem dX5_beside_21 : decode cX5_beside 21 = .ok (.iadd, 1) := by decide +kernel
theorem dX5_beside_22 : decode cX5_beside 22 = .ok (.iload_n 2, 1) := by decide +kernel
theorem dX5_beside_23 : decode cX5_beside 23 = .ok (.bipush 7, 2) := by decide +kernel
theorem dX5_beside_25 : decode cX5_beside 25 = .ok (.if_icmp .ge 11, 3) := by decide +kernel
theorem dX5_beside_28 : decode cX5_beside 28 = .ok (.aload_n 0, 1) := by decide +kernel
theorem dX5_beside_29 : decode cX5_beside 29 = .ok (.iload_n 1, 1) := by decide +kernel
theorem dX5_beside_30 : decode cX5_beside 30 = .ok (.iconst 1, 1) := by decide +kernel
theorem dX5_beside_31 : decode cX5_beside 31 = .ok (.iadd, 1) := by decide +kernel
theorem dX5_beside_32 : decode cX5_beside 32 = .ok (.iaload, 1) := by decide +kernel
theorem dX5_beside_33 : decode cX5_beside 33 = .ok (.goto 4, 3) := by decide +kernel
theorem dX5_beside_36 : decode cX5_beside 36 = .ok (.iconst 0, 1) := by decide +kernel
theorem dX5_beside_37 : decode cX5_beside 37 = .ok (.iadd, 1) := by decide +kernel
theorem dX5_beside_38 : decode cX5_beside 38 = .ok (.ireturn, 1) := by decide +kernel
theorem dX5_countPaths_0 : decode cX5_countPaths 0 = .ok (.iconst 0, 1) := by decide +kernel
theorem dX5_countPaths_1 : decode cX5_countPaths 1 = .ok (.istore_n 1, 1) := by decide +kernel
theorem dX5_countPaths_2 : decode cX5_countPaths 2 = .ok (.iload_n 1, 1) := by decide +kernel
theorem dX5_countPaths_3 : decode cX5_countPaths 3 = .ok (.bipush 64, 2) := by decide +kernel
theorem dX5_countPaths_5 : decode cX5_countPaths 5 = .ok (.if_icmp .ge 48, 3) := by decide +kernel
theorem dX5_countPaths_8 : decode cX5_countPaths 8 = .ok (.aload_n 0, 1) := by decide +kernel
theorem dX5_countPaths_9 : decode cX5_countPaths 9 = .ok (.getfield 25, 3) := by decide +kernel
theorem dX5_countPaths_12 : decode cX5_countPaths 12 = .ok (.iload_n 1, 1) := by decide +kernel
theorem dX5_countPaths_13 : decode cX5_countPaths 13 = .ok (.aload_n 0, 1) := by decide +kernel
theorem dX5_countPaths_14 : decode cX5_countPaths 14 = .ok (.iload_n 1, 1) := by decide +kernel
theorem dX5_countPaths_15 : decode cX5_countPaths 15 = .ok (.invokevirtual 70, 3) := by decide +kernel
theorem dX5_countPaths_18 : decode cX5_countPaths 18 = .ok (.ifCond .ne 7, 3) := by decide +kernel
theorem dX5_countPaths_21 : decode cX5_countPaths 21 = .ok (.iconst 0, 1) := by decide +kernel
theorem dX5_countPaths_22 : decode cX5_countPaths 22 = .ok (.goto 24, 3) := by decide +kernel
theorem dX5_countPaths_25 : decode cX5_countPaths 25 = .ok (.iload_n 1, 1) := by decide +kernel
theorem dX5_countPaths_26 : decode cX5_countPaths 26 = .ok (.bipush 8, 2) := by decide +kernel
theorem dX5_countPaths_28 : decode cX5_countPaths 28 = .ok (.if_icmp .ge 7, 3) := by decide +kernel
theorem dX5_countPaths_31 : decode cX5_countPaths 31 = .ok (.iconst 1, 1) := by decide +kernel
theorem dX5_countPaths_32 : decode cX5_countPaths 32 = .ok (.goto 14, 3) := by decide +kernel
theorem dX5_countPaths_35 : decode cX5_countPaths 35 = .ok (.aload_n 0, 1) := by decide +kernel
theorem dX5_countPaths_36 : decode cX5_countPaths 36 = .ok (.getfield 25, 3) := by decide +kernel
theorem dX5_countPaths_39 : decode cX5_countPaths 39 = .ok (.iload_n 1, 1) := by decide +kernel
theorem dX5_countPaths_40 : decode cX5_countPaths 40 = .ok (.bipush 8, 2) := by decide +kernel
theorem dX5_countPaths_42 : decode cX5_countPaths 42 = .ok (.isub, 1) := by decide +kernel
theorem dX5_countPaths_43 : decode cX5_countPaths 43 = .ok (.invokestatic 74, 3) := by decide +kernel
theorem dX5_countPaths_46 : decode cX5_countPaths 46 = .ok (.iastore, 1) := by decide +kernel
theorem dX5_countPaths_47 : decode cX5_countPaths 47 = .ok (.iinc 1 1, 3) := by decide +kernel
theorem dX5_countPaths_50 : decode cX5_countPaths 50 = .ok (.goto (-48), 3) := by decide +kernel
theorem dX5_countPaths_53 : decode cX5_countPaths 53 = .ok (.bipush 63, 2) := by decide +kernel
theorem dX5_countPaths_55 : decode cX5_countPaths 55 = .ok (.istore_n 1, 1) := by decide +kernel
theorem dX5_countPaths_56 : decode cX5_countPaths 56 = .ok (.iload_n 1, 1) := by decide +kernel
theorem dX5_countPaths_57 : decode cX5_countPaths 57 = .ok (.ifCond .lt 48, 3) := by decide +kernel
theorem dX5_countPaths_60 : decode cX5_countPaths 60 = .ok (.aload_n 0, 1) := by decide +kernel
theorem dX5_countPaths_61 : decode cX5_countPaths 61 = .ok (.getfield 28, 3) := by decide +kernel
theorem dX5_countPaths_64 : decode cX5_countPaths 64 = .ok (.iload_n 1, 1) := by decide +kernel
theorem dX5_countPaths_65 : decode cX5_countPaths 65 = .ok (.aload_n 0, 1) := by decide +kernel
theorem dX5_countPaths_66 : decode cX5_countPaths 66 = .ok (.iload_n 1, 1) := by decide +kernel
theorem dX5_countPaths_67 : decode cX5_countPaths 67 = .ok (.invokevirtual 70, 3) := by decide +kernel
theorem dX5_countPaths_70 : decode cX5_countPaths 70 = .ok (.ifCond .ne 7, 3) := by decide +kernel
theorem dX5_countPaths_73 : decode cX5_countPaths 73 = .ok (.iconst 0, 1) := by decide +kernel
theorem dX5_countPaths_74 : decode cX5_countPaths 74 = .ok (.goto 24, 3) := by decide +kernel
theorem dX5_countPaths_77 : decode cX5_countPaths 77 = .ok (.iload_n 1, 1) := by decide +kernel
theorem dX5_countPaths_78 : decode cX5_countPaths 78 = .ok (.bipush 56, 2) := by decide +kernel
theorem dX5_countPaths_80 : decode cX5_countPaths 80 = .ok (.if_icmp .lt 7, 3) := by decide +kernel
theorem dX5_countPaths_83 : decode cX5_countPaths 83 = .ok (.iconst 1, 1) := by decide +kernel
theorem dX5_countPaths_84 : decode cX5_countPaths 84 = .ok (.goto 14, 3) := by decide +kernel
theorem dX5_countPaths_87 : decode cX5_countPaths 87 = .ok (.aload_n 0, 1) := by decide +kernel
theorem dX5_countPaths_88 : decode cX5_countPaths 88 = .ok (.getfield 28, 3) := by decide +kernel
theorem dX5_countPaths_91 : decode cX5_countPaths 91 = .ok (.iload_n 1, 1) := by decide +kernel
theorem dX5_countPaths_92 : decode cX5_countPaths 92 = .ok (.bipush 8, 2) := by decide +kernel
theorem dX5_countPaths_94 : decode cX5_countPaths 94 = .ok (.iadd, 1) := by decide +kernel
theorem dX5_countPaths_95 : decode cX5_countPaths 95 = .ok (.invokestatic 74, 3) := by decide +kernel
theorem dX5_countPaths_98 : decode cX5_countPaths 98 = .ok (.iastore, 1) := by decide +kernel
theorem dX5_countPaths_99 : decode cX5_countPaths 99 = .ok (.iinc 1 (-1), 3) := by decide +kernel
theorem dX5_countPaths_102 : decode cX5_countPaths 102 = .ok (.goto (-46), 3) := by decide +kernel
theorem dX5_countPaths_105 : decode cX5_countPaths 105 = .ok (.return_, 1) := by decide +kernel
theorem dX5_allPaths_0 : decode cX5_allPaths 0 = .ok (.iconst 0, 1) := by decide +kernel
theorem dX5_allPaths_1 : decode cX5_allPaths 1 = .ok (.istore_n 1, 1) := by decide +kernel
theorem dX5_allPaths_2 : decode cX5_allPaths 2 = .ok (.iconst 0, 1) := by decide +kernel
theorem dX5_allPaths_3 : decode cX5_allPaths 3 = .ok (.istore_n 2, 1) := by decide +kernel
theorem dX5_allPaths_4 : decode cX5_allPaths 4 = .ok (.iload_n 2, 1) := by decide +kernel
theorem dX5_allPaths_5 : decode cX5_allPaths 5 = .ok (.bipush 8, 2) := by decide +kernel
theorem dX5_allPaths_7 : decode cX5_allPaths 7 = .ok (.if_icmp .ge 18, 3) := by decide +kernel
theorem dX5_allPaths_10 : decode cX5_allPaths 10 = .ok (.iload_n 1, 1) := by decide +kernel
theorem dX5_allPaths_11 : decode cX5_allPaths 11 = .ok (.aload_n 0, 1) := by decide +kernel
theorem dX5_allPaths_12 : decode cX5_allPaths 12 = .ok (.getfield 28, 3) := by decide +kernel
theorem dX5_allPaths_15 : decode cX5_allPaths 15 = .ok (.iload_n 2, 1) := by decide +kernel
theorem dX5_allPaths_16 : decode cX5_allPaths 16 = .ok (.iaload, 1) := by decide +kernel
theorem dX5_allPaths_17 : decode cX5_allPaths 17 = .ok (.iadd, 1) := by decide +kernel
theorem dX5_allPaths_18 : decode cX5_allPaths 18 = .ok (.istore_n 1, 1) := by decide +kernel
theorem dX5_allPaths_19 : decode cX5_allPaths 19 = .ok (.iinc 2 1, 3) := by decide +kernel
theorem dX5_allPaths_22 : decode cX5_allPaths 22 = .ok (.goto (-18), 3) := by decide +kernel
theorem dX5_allPaths_25 : decode cX5_allPaths 25 = .ok (.iload_n 1, 1) := by decide +kernel
theorem dX5_allPaths_26 : decode cX5_allPaths 26 = .ok (.ireturn, 1) := by decide +kernel
theorem dX5_paths_0 : decode cX5_paths 0 = .ok (.aload_n 0, 1) := by decide +kernel
theorem dX5_paths_1 : decode cX5_paths 1 = .ok (.invokevirtual 78, 3) := by decide +kernel
theorem dX5_paths_4 : decode cX5_paths 4 = .ok (.aload_n 0, 1) := by decide +kernel
theorem dX5_paths_5 : decode cX5_paths 5 = .ok (.invokevirtual 81, 3) := by decide +kernel
theorem dX5_paths_8 : decode cX5_paths 8 = .ok (.ireturn, 1) := by decide +kernel
theorem dX5_hits_0 : decode cX5_hits 0 = .ok (.iconst 0, 1) := by decide +kernel
theorem dX5_hits_1 : decode cX5_hits 1 = .ok (.istore_n 2, 1) := by decide +kernel
theorem dX5_hits_2 : decode cX5_hits 2 = .ok (.iconst 0, 1) := by decide +kernel
theorem dX5_hits_3 : decode cX5_hits 3 = .ok (.istore_n 3, 1) := by decide +kernel
theorem dX5_hits_4 : decode cX5_hits 4 = .ok (.iload_n 3, 1) := by decide +kernel
theorem dX5_hits_5 : decode cX5_hits 5 = .ok (.bipush 8, 2) := by decide +kernel
theorem dX5_hits_7 : decode cX5_hits 7 = .ok (.if_icmp .ge 67, 3) := by decide +kernel
theorem dX5_hits_10 : decode cX5_hits 10 = .ok (.iload_n 1, 1) := by decide +kernel
theorem dX5_hits_11 : decode cX5_hits 11 = .ok (.bipush 8, 2) := by decide +kernel
theorem dX5_hits_13 : decode cX5_hits 13 = .ok (.idiv, 1) := by decide +kernel
theorem dX5_hits_14 : decode cX5_hits 14 = .ok (.bipush 8, 2) := by decide +kernel
theorem dX5_hits_16 : decode cX5_hits 16 = .ok (.imul, 1) := by decide +kernel
theorem dX5_hits_17 : decode cX5_hits 17 = .ok (.iload_n 3, 1) := by decide +kernel
theorem dX5_hits_18 : decode cX5_hits 18 = .ok (.iadd, 1) := by decide +kernel
theorem dX5_hits_19 : decode cX5_hits 19 = .ok (.istore 4, 2) := by decide +kernel
theorem dX5_hits_21 : decode cX5_hits 21 = .ok (.iload_n 2, 1) := by decide +kernel
theorem dX5_hits_22 : decode cX5_hits 22 = .ok (.iload_n 3, 1) := by decide +kernel
theorem dX5_hits_23 : decode cX5_hits 23 = .ok (.iload_n 1, 1) := by decide +kernel
theorem dX5_hits_24 : decode cX5_hits 24 = .ok (.bipush 8, 2) := by decide +kernel
theorem dX5_hits_26 : decode cX5_hits 26 = .ok (.irem, 1) := by decide +kernel
theorem dX5_hits_27 : decode cX5_hits 27 = .ok (.isub, 1) := by decide +kernel
theorem dX5_hits_28 : decode cX5_hits 28 = .ok (.aload_n 0, 1) := by decide +kernel
theorem dX5_hits_29 : decode cX5_hits 29 = .ok (.getfield 7, 3) := by decide +kernel
theorem dX5_hits_32 : decode cX5_hits 32 = .ok (.iconst 1, 1) := by decide +kernel
theorem dX5_hits_33 : decode cX5_hits 33 = .ok (.iaload, 1) := by decide +kernel
theorem dX5_hits_34 : decode cX5_hits 34 = .ok (.ineg, 1) := by decide +kernel
theorem dX5_hits_35 : decode cX5_hits 35 = .ok (.aload_n 0, 1) := by decide +kernel
theorem dX5_hits_36 : decode cX5_hits 36 = .ok (.getfield 7, 3) := by decide +kernel
theorem dX5_hits_39 : decode cX5_hits 39 = .ok (.iconst 1, 1) := by decide +kernel
theorem dX5_hits_40 : decode cX5_hits 40 = .ok (.iaload, 1) := by decide +kernel
theorem dX5_hits_41 : decode cX5_hits 41 = .ok (.invokestatic 47, 3) := by decide +kernel
theorem dX5_hits_44 : decode cX5_hits 44 = .ok (.ifCond .eq 21, 3) := by decide +kernel
theorem dX5_hits_47 : decode cX5_hits 47 = .ok (.aload_n 0, 1) := by decide +kernel
theorem dX5_hits_48 : decode cX5_hits 48 = .ok (.getfield 25, 3) := by decide +kernel
theorem dX5_hits_51 : decode cX5_hits 51 = .ok (.iload 4, 2) := by decide +kernel
theorem dX5_hits_53 : decode cX5_hits 53 = .ok (.iaload, 1) := by decide +kernel
theorem dX5_hits_54 : decode cX5_hits 54 = .ok (.aload_n 0, 1) := by decide +kernel
theorem dX5_hits_55 : decode cX5_hits 55 = .ok (.getfield 28, 3) := by decide +kernel
theorem dX5_hits_58 : decode cX5_hits 58 = .ok (.iload 4, 2) := by decide +kernel
theorem dX5_hits_60 : decode cX5_hits 60 = .ok (.iaload, 1) := by decide +kernel
theorem dX5_hits_61 : decode cX5_hits 61 = .ok (.imul, 1) := by decide +kernel
theorem dX5_hits_62 : decode cX5_hits 62 = .ok (.goto 4, 3) := by decide +kernel
theorem dX5_hits_65 : decode cX5_hits 65 = .ok (.iconst 0, 1) := by decide +kernel
theorem dX5_hits_66 : decode cX5_hits 66 = .ok (.iadd, 1) := by decide +kernel
theorem dX5_hits_67 : decode cX5_hits 67 = .ok (.istore_n 2, 1) := by decide +kernel
theorem dX5_hits_68 : decode cX5_hits 68 = .ok (.iinc 3 1, 3) := by decide +kernel
theorem dX5_hits_71 : decode cX5_hits 71 = .ok (.goto (-67), 3) := by decide +kernel
theorem dX5_hits_74 : decode cX5_hits 74 = .ok (.iload_n 2, 1) := by decide +kernel
theorem dX5_hits_75 : decode cX5_hits 75 = .ok (.ireturn, 1) := by decide +kernel
theorem dX5_standsToLose_0 : decode cX5_standsToLose 0 = .ok (.aload_n 0, 1) := by decide +kernel
theorem dX5_standsToLose_1 : decode cX5_standsToLose 1 = .ok (.getfield 7, 3) := by decide +kernel
theorem dX5_standsToLose_4 : decode cX5_standsToLose 4 = .ok (.bipush 28, 2) := by decide +kernel
theorem dX5_standsToLose_6 : decode cX5_standsToLose 6 = .ok (.iload_n 1, 1) := by decide +kernel
theorem dX5_standsToLose_7 : decode cX5_standsToLose 7 = .ok (.iadd, 1) := by decide +kernel
theorem dX5_standsToLose_8 : decode cX5_standsToLose 8 = .ok (.iaload, 1) := by decide +kernel
theorem dX5_standsToLose_9 : decode cX5_standsToLose 9 = .ok (.i2l, 1) := by decide +kernel
theorem dX5_standsToLose_10 : decode cX5_standsToLose 10 = .ok (.aload_n 0, 1) := by decide +kernel
theorem dX5_standsToLose_11 : decode cX5_standsToLose 11 = .ok (.iload_n 1, 1) := by decide +kernel
theorem dX5_standsToLose_12 : decode cX5_standsToLose 12 = .ok (.invokevirtual 85, 3) := by decide +kernel
theorem dX5_standsToLose_15 : decode cX5_standsToLose 15 = .ok (.i2l, 1) := by decide +kernel
theorem dX5_standsToLose_16 : decode cX5_standsToLose 16 = .ok (.lmul, 1) := by decide +kernel
theorem dX5_standsToLose_17 : decode cX5_standsToLose 17 = .ok (.aload_n 0, 1) := by decide +kernel
theorem dX5_standsToLose_18 : decode cX5_standsToLose 18 = .ok (.invokevirtual 81, 3) := by decide +kernel
theorem dX5_standsToLose_21 : decode cX5_standsToLose 21 = .ok (.i2l, 1) := by decide +kernel
theorem dX5_standsToLose_22 : decode cX5_standsToLose 22 = .ok (.ldiv, 1) := by decide +kernel
theorem dX5_standsToLose_23 : decode cX5_standsToLose 23 = .ok (.l2i, 1) := by decide +kernel
theorem dX5_standsToLose_24 : decode cX5_standsToLose 24 = .ok (.ireturn, 1) := by decide +kernel
theorem dX5_enters_0 : decode cX5_enters 0 = .ok (.iconst 1, 1) := by decide +kernel
theorem dX5_enters_1 : decode cX5_enters 1 = .ok (.aload_n 0, 1) := by decide +kernel
theorem dX5_enters_2 : decode cX5_enters 2 = .ok (.getfield 7, 3) := by decide +kernel
theorem dX5_enters_5 : decode cX5_enters 5 = .ok (.bipush 92, 2) := by decide +kernel
theorem dX5_enters_7 : decode cX5_enters 7 = .ok (.iload_n 1, 1) := by decide +kernel
theorem dX5_enters_8 : decode cX5_enters 8 = .ok (.iadd, 1) := by decide +kernel
theorem dX5_enters_9 : decode cX5_enters 9 = .ok (.iaload, 1) := by decide +kernel
theorem dX5_enters_10 : decode cX5_enters 10 = .ok (.iconst 3, 1) := by decide +kernel
theorem dX5_enters_11 : decode cX5_enters 11 = .ok (.idiv, 1) := by decide +kernel
theorem dX5_enters_12 : decode cX5_enters 12 = .ok (.iadd, 1) := by decide +kernel
theorem dX5_enters_13 : decode cX5_enters 13 = .ok (.ireturn, 1) := by decide +kernel
theorem dX5_nearer_0 : decode cX5_nearer 0 = .ok (.aload_n 0, 1) := by decide +kernel
theorem dX5_nearer_1 : decode cX5_nearer 1 = .ok (.getfield 31, 3) := by decide +kernel
theorem dX5_nearer_4 : decode cX5_nearer 4 = .ok (.iload_n 2, 1) := by decide +kernel
theorem dX5_nearer_5 : decode cX5_nearer 5 = .ok (.iaload, 1) := by decide +kernel
theorem dX5_nearer_6 : decode cX5_nearer 6 = .ok (.aload_n 0, 1) := by decide +kernel
theorem dX5_nearer_7 : decode cX5_nearer 7 = .ok (.iload_n 1, 1) := by decide +kernel
theorem dX5_nearer_8 : decode cX5_nearer 8 = .ok (.invokevirtual 89, 3) := by decide +kernel
theorem dX5_nearer_11 : decode cX5_nearer 11 = .ok (.iadd, 1) := by decide +kernel
theorem dX5_nearer_12 : decode cX5_nearer 12 = .ok (.istore_n 3, 1) := by decide +kernel
theorem dX5_nearer_13 : decode cX5_nearer 13 = .ok (.iload_n 3, 1) := by decide +kernel
theorem dX5_nearer_14 : decode cX5_nearer 14 = .ok (.aload_n 0, 1) := by decide +kernel
theorem dX5_nearer_15 : decode cX5_nearer 15 = .ok (.getfield 31, 3) := by decide +kernel
theorem dX5_nearer_18 : decode cX5_nearer 18 = .ok (.iload_n 1, 1) := by decide +kernel
theorem dX5_nearer_19 : decode cX5_nearer 19 = .ok (.iaload, 1) := by decide +kernel
theorem dX5_nearer_20 : decode cX5_nearer 20 = .ok (.if_icmp .ge 7, 3) := by decide +kernel
theorem dX5_nearer_23 : decode cX5_nearer 23 = .ok (.iconst 1, 1) := by decide +kernel
theorem dX5_nearer_24 : decode cX5_nearer 24 = .ok (.goto 4, 3) := by decide +kernel
theorem dX5_nearer_27 : decode cX5_nearer 27 = .ok (.iconst 0, 1) := by decide +kernel
theorem dX5_nearer_28 : decode cX5_nearer 28 = .ok (.istore 4, 2) := by decide +kernel
theorem dX5_nearer_30 : decode cX5_nearer 30 = .ok (.aload_n 0, 1) := by decide +kernel
theorem dX5_nearer_31 : decode cX5_nearer 31 = .ok (.getfield 31, 3) := by decide +kernel
theorem dX5_nearer_34 : decode cX5_nearer 34 = .ok (.iload_n 1, 1) := by decide +kernel
theorem dX5_nearer_35 : decode cX5_nearer 35 = .ok (.iload 4, 2) := by decide +kernel
theorem dX5_nearer_37 : decode cX5_nearer 37 = .ok (.ifCond .eq 7, 3) := by decide +kernel
theorem dX5_nearer_40 : decode cX5_nearer 40 = .ok (.iload_n 3, 1) := by decide +kernel
theorem dX5_nearer_41 : decode cX5_nearer 41 = .ok (.goto 9, 3) := by decide +kernel
theorem dX5_nearer_44 : decode cX5_nearer 44 = .ok (.aload_n 0, 1) := by decide +kernel
theorem dX5_nearer_45 : decode cX5_nearer 45 = .ok (.getfield 31, 3) := by decide +kernel
theorem dX5_nearer_48 : decode cX5_nearer 48 = .ok (.iload_n 1, 1) := by decide +kernel
theorem dX5_nearer_49 : decode cX5_nearer 49 = .ok (.iaload, 1) := by decide +kernel
theorem dX5_nearer_50 : decode cX5_nearer 50 = .ok (.iastore, 1) := by decide +kernel
theorem dX5_nearer_51 : decode cX5_nearer 51 = .ok (.iload 4, 2) := by decide +kernel
theorem dX5_nearer_53 : decode cX5_nearer 53 = .ok (.ireturn, 1) := by decide +kernel
theorem dX5_getsNearer_0 : decode cX5_getsNearer 0 = .ok (.iload_n 1, 1) := by decide +kernel
theorem dX5_getsNearer_1 : decode cX5_getsNearer 1 = .ok (.bipush 8, 2) := by decide +kernel
theorem dX5_getsNearer_3 : decode cX5_getsNearer 3 = .ok (.irem, 1) := by decide +kernel
theorem dX5_getsNearer_4 : decode cX5_getsNearer 4 = .ok (.ifCond .le 18, 3) := by decide +kernel
theorem dX5_getsNearer_7 : decode cX5_getsNearer 7 = .ok (.aload_n 0, 1) := by decide +kernel
theorem dX5_getsNearer_8 : decode cX5_getsNearer 8 = .ok (.iload_n 1, 1) := by decide +kernel
theorem dX5_getsNearer_9 : decode cX5_getsNearer 9 = .ok (.iload_n 1, 1) := by decide +kernel
theorem dX5_getsNearer_10 : decode cX5_getsNearer 10 = .ok (.iconst 1, 1) := by decide +kernel
theorem dX5_getsNearer_11 : decode cX5_getsNearer 11 = .ok (.isub, 1) := by decide +kernel
theorem dX5_getsNearer_12 : decode cX5_getsNearer 12 = .ok (.invokevirtual 92, 3) := by decide +kernel
theorem dX5_getsNearer_15 : decode cX5_getsNearer 15 = .ok (.ifCond .eq 7, 3) := by decide +kernel
theorem dX5_getsNearer_18 : decode cX5_getsNearer 18 = .ok (.iconst 1, 1) := by decide +kernel
theorem dX5_getsNearer_19 : decode cX5_getsNearer 19 = .ok (.goto 4, 3) := by decide +kernel
theorem dX5_getsNearer_22 : decode cX5_getsNearer 22 = .ok (.iconst 0, 1) := by decide +kernel
theorem dX5_getsNearer_23 : decode cX5_getsNearer 23 = .ok (.istore_n 2, 1) := by decide +kernel
theorem dX5_getsNearer_24 : decode cX5_getsNearer 24 = .ok (.iload_n 1, 1) := by decide +kernel
theorem dX5_getsNearer_25 : decode cX5_getsNearer 25 = .ok (.bipush 8, 2) := by decide +kernel
theorem dX5_getsNearer_27 : decode cX5_getsNearer 27 = .ok (.irem, 1) := by decide +kernel
theorem dX5_getsNearer_28 : decode cX5_getsNearer 28 = .ok (.bipush 7, 2) := by decide +kernel
theorem dX5_getsNearer_30 : decode cX5_getsNearer 30 = .ok (.if_icmp .ge 18, 3) := by decide +kernel
theorem dX5_getsNearer_33 : decode cX5_getsNearer 33 = .ok (.aload_n 0, 1) := by decide +kernel
theorem dX5_getsNearer_34 : decode cX5_getsNearer 34 = .ok (.iload_n 1, 1) := by decide +kernel
theorem dX5_getsNearer_35 : decode cX5_getsNearer 35 = .ok (.iload_n 1, 1) := by decide +kernel
theorem dX5_getsNearer_36 : decode cX5_getsNearer 36 = .ok (.iconst 1, 1) := by decide +kernel
theorem dX5_getsNearer_37 : decode cX5_getsNearer 37 = .ok (.iadd, 1) := by decide +kernel
theorem dX5_getsNearer_38 : decode cX5_getsNearer 38 = .ok (.invokevirtual 92, 3) := by decide +kernel
theorem dX5_getsNearer_41 : decode cX5_getsNearer 41 = .ok (.ifCond .eq 7, 3) := by decide +kernel
theorem dX5_getsNearer_44 : decode cX5_getsNearer 44 = .ok (.iconst 1, 1) := by decide +kernel
theorem dX5_getsNearer_45 : decode cX5_getsNearer 45 = .ok (.goto 4, 3) := by decide +kernel
theorem dX5_getsNearer_48 : decode cX5_getsNearer 48 = .ok (.iconst 0, 1) := by decide +kernel
theorem dX5_getsNearer_49 : decode cX5_getsNearer 49 = .ok (.istore_n 3, 1) := by decide +kernel
theorem dX5_getsNearer_50 : decode cX5_getsNearer 50 = .ok (.iload_n 1, 1) := by decide +kernel
theorem dX5_getsNearer_51 : decode cX5_getsNearer 51 = .ok (.bipush 8, 2) := by decide +kernel
theorem dX5_getsNearer_53 : decode cX5_getsNearer 53 = .ok (.if_icmp .lt 19, 3) := by decide +kernel
theorem dX5_getsNearer_56 : decode cX5_getsNearer 56 = .ok (.aload_n 0, 1) := by decide +kernel
theorem dX5_getsNearer_57 : decode cX5_getsNearer 57 = .ok (.iload_n 1, 1) := by decide +kernel
theorem dX5_getsNearer_58 : decode cX5_getsNearer 58 = .ok (.iload_n 1, 1) := by decide +kernel
theorem dX5_getsNearer_59 : decode cX5_getsNearer 59 = .ok (.bipush 8, 2) := by decide +kernel
theorem dX5_getsNearer_61 : decode cX5_getsNearer 61 = .ok (.isub, 1) := by decide +kernel
theorem dX5_getsNearer_62 : decode cX5_getsNearer 62 = .ok (.invokevirtual 92, 3) := by decide +kernel
theorem dX5_getsNearer_65 : decode cX5_getsNearer 65 = .ok (.ifCond .eq 7, 3) := by decide +kernel
theorem dX5_getsNearer_68 : decode cX5_getsNearer 68 = .ok (.iconst 1, 1) := by decide +kernel
theorem dX5_getsNearer_69 : decode cX5_getsNearer 69 = .ok (.goto 4, 3) := by decide +kernel
theorem dX5_getsNearer_72 : decode cX5_getsNearer 72 = .ok (.iconst 0, 1) := by decide +kernel
theorem dX5_getsNearer_73 : decode cX5_getsNearer 73 = .ok (.istore 4, 2) := by decide +kernel
theorem dX5_getsNearer_75 : decode cX5_getsNearer 75 = .ok (.iload_n 1, 1) := by decide +kernel
theorem dX5_getsNearer_76 : decode cX5_getsNearer 76 = .ok (.bipush 56, 2) := by decide +kernel
theorem dX5_getsNearer_78 : decode cX5_getsNearer 78 = .ok (.if_icmp .ge 19, 3) := by decide +kernel
theorem dX5_getsNearer_81 : decode cX5_getsNearer 81 = .ok (.aload_n 0, 1) := by decide +kernel
theorem dX5_getsNearer_82 : decode cX5_getsNearer 82 = .ok (.iload_n 1, 1) := by decide +kernel
theorem dX5_getsNearer_83 : decode cX5_getsNearer 83 = .ok (.iload_n 1, 1) := by decide +kernel
theorem dX5_getsNearer_84 : decode cX5_getsNearer 84 = .ok (.bipush 8, 2) := by decide +kernel
theorem dX5_getsNearer_86 : decode cX5_getsNearer 86 = .ok (.iadd, 1) := by decide +kernel
theorem dX5_getsNearer_87 : decode cX5_getsNearer 87 = .ok (.invokevirtual 92, 3) := by decide +kernel
theorem dX5_getsNearer_90 : decode cX5_getsNearer 90 = .ok (.ifCond .eq 7, 3) := by decide +kernel
theorem dX5_getsNearer_93 : decode cX5_getsNearer 93 = .ok (.iconst 1, 1) := by decide +kernel
theorem dX5_getsNearer_94 : decode cX5_getsNearer 94 = .ok (.goto 4, 3) := by decide +kernel
theorem dX5_getsNearer_97 : decode cX5_getsNearer 97 = .ok (.iconst 0, 1) := by decide +kernel
theorem dX5_getsNearer_98 : decode cX5_getsNearer 98 = .ok (.istore 5, 2) := by decide +kernel
theorem dX5_getsNearer_100 : decode cX5_getsNearer 100 = .ok (.iload_n 2, 1) := by decide +kernel
theorem dX5_getsNearer_101 : decode cX5_getsNearer 101 = .ok (.ifCond .ne 17, 3) := by decide +kernel
theorem dX5_getsNearer_104 : decode cX5_getsNearer 104 = .ok (.iload_n 3, 1) := by decide +kernel
theorem dX5_getsNearer_105 : decode cX5_getsNearer 105 = .ok (.ifCond .ne 13, 3) := by decide +kernel
theorem dX5_getsNearer_108 : decode cX5_getsNearer 108 = .ok (.iload 4, 2) := by decide +kernel
theorem dX5_getsNearer_110 : decode cX5_getsNearer 110 = .ok (.ifCond .ne 8, 3) := by decide +kernel
theorem dX5_getsNearer_113 : decode cX5_getsNearer 113 = .ok (.iload 5, 2) := by decide +kernel
theorem dX5_getsNearer_115 : decode cX5_getsNearer 115 = .ok (.ifCond .eq 7, 3) := by decide +kernel
theorem dX5_getsNearer_118 : decode cX5_getsNearer 118 = .ok (.iconst 1, 1) := by decide +kernel
theorem dX5_getsNearer_119 : decode cX5_getsNearer 119 = .ok (.goto 4, 3) := by decide +kernel
theorem dX5_getsNearer_122 : decode cX5_getsNearer 122 = .ok (.iconst 0, 1) := by decide +kernel
theorem dX5_getsNearer_123 : decode cX5_getsNearer 123 = .ok (.ireturn, 1) := by decide +kernel
theorem dX5_measure_0 : decode cX5_measure 0 = .ok (.iconst 0, 1) := by decide +kernel
theorem dX5_measure_1 : decode cX5_measure 1 = .ok (.istore_n 2, 1) := by decide +kernel
theorem dX5_measure_2 : decode cX5_measure 2 = .ok (.iload_n 2, 1) := by decide +kernel
theorem dX5_measure_3 : decode cX5_measure 3 = .ok (.bipush 64, 2) := by decide +kernel
theorem dX5_measure_5 : decode cX5_measure 5 = .ok (.if_icmp .ge 26, 3) := by decide +kernel
theorem dX5_measure_8 : decode cX5_measure 8 = .ok (.aload_n 0, 1) := by decide +kernel
theorem dX5_measure_9 : decode cX5_measure 9 = .ok (.getfield 31, 3) := by decide +kernel
theorem dX5_measure_12 : decode cX5_measure 12 = .ok (.iload_n 2, 1) := by decide +kernel
theorem dX5_measure_13 : decode cX5_measure 13 = .ok (.iload_n 2, 1) := by decide +kernel
theorem dX5_measure_14 : decode cX5_measure 14 = .ok (.iload_n 1, 1) := by decide +kernel
theorem dX5_measure_15 : decode cX5_measure 15 = .ok (.if_icmp .ne 7, 3) := by decide +kernel
theorem dX5_measure_18 : decode cX5_measure 18 = .ok (.iconst 0, 1) := by decide +kernel
theorem dX5_measure_19 : decode cX5_measure 19 = .ok (.goto 5, 3) := by decide +kernel
theorem dX5_measure_22 : decode cX5_measure 22 = .ok (.ldc 96, 2) := by decide +kernel
theorem dX5_measure_24 : decode cX5_measure 24 = .ok (.iastore, 1) := by decide +kernel
theorem dX5_measure_25 : decode cX5_measure 25 = .ok (.iinc 2 1, 3) := by decide +kernel
theorem dX5_measure_28 : decode cX5_measure 28 = .ok (.goto (-26), 3) := by decide +kernel
theorem dX5_measure_31 : decode cX5_measure 31 = .ok (.iconst 1, 1) := by decide +kernel
theorem dX5_measure_32 : decode cX5_measure 32 = .ok (.istore_n 2, 1) := by decide +kernel
theorem dX5_measure_33 : decode cX5_measure 33 = .ok (.iload_n 2, 1) := by decide +kernel
theorem dX5_measure_34 : decode cX5_measure 34 = .ok (.ifCond .eq 40, 3) := by decide +kernel
theorem dX5_measure_37 : decode cX5_measure 37 = .ok (.iconst 0, 1) := by decide +kernel
theorem dX5_measure_38 : decode cX5_measure 38 = .ok (.istore_n 2, 1) := by decide +kernel
theorem dX5_measure_39 : decode cX5_measure 39 = .ok (.iconst 0, 1) := by decide +kernel
theorem dX5_measure_40 : decode cX5_measure 40 = .ok (.istore_n 3, 1) := by decide +kernel
theorem dX5_measure_41 : decode cX5_measure 41 = .ok (.iload_n 3, 1) := by decide +kernel
theorem dX5_measure_42 : decode cX5_measure 42 = .ok (.bipush 64, 2) := by decide +kernel
theorem dX5_measure_44 : decode cX5_measure 44 = .ok (.if_icmp .ge 27, 3) := by decide +kernel
theorem dX5_measure_47 : decode cX5_measure 47 = .ok (.aload_n 0, 1) := by decide +kernel
theorem dX5_measure_48 : decode cX5_measure 48 = .ok (.iload_n 3, 1) := by decide +kernel
theorem dX5_measure_49 : decode cX5_measure 49 = .ok (.invokevirtual 97, 3) := by decide +kernel
theorem dX5_measure_52 : decode cX5_measure 52 = .ok (.ifCond .ne 7, 3) := by decide +kernel
theorem dX5_measure_55 : decode cX5_measure 55 = .ok (.iload_n 2, 1) := by decide +kernel
theorem dX5_measure_56 : decode cX5_measure 56 = .ok (.ifCond .eq 7, 3) := by decide +kernel
theorem dX5_measure_59 : decode cX5_measure 59 = .ok (.iconst 1, 1) := by decide +kernel
theorem dX5_measure_60 : decode cX5_measure 60 = .ok (.goto 4, 3) := by decide +kernel
theorem dX5_measure_63 : decode cX5_measure 63 = .ok (.iconst 0, 1) := by decide +kernel
theorem dX5_measure_64 : decode cX5_measure 64 = .ok (.istore_n 2, 1) := by decide +kernel
theorem dX5_measure_65 : decode cX5_measure 65 = .ok (.iinc 3 1, 3) := by decide +kernel
theorem dX5_measure_68 : decode cX5_measure 68 = .ok (.goto (-27), 3) := by decide +kernel
theorem dX5_measure_71 : decode cX5_measure 71 = .ok (.goto (-38), 3) := by decide +kernel
theorem dX5_measure_74 : decode cX5_measure 74 = .ok (.return_, 1) := by decide +kernel
theorem dX5_whyNotGrow_0 : decode cX5_whyNotGrow 0 = .ok (.iload_n 1, 1) := by decide +kernel
theorem dX5_whyNotGrow_1 : decode cX5_whyNotGrow 1 = .ok (.invokestatic 100, 3) := by decide +kernel
theorem dX5_whyNotGrow_4 : decode cX5_whyNotGrow 4 = .ok (.ifCond .ne 7, 3) := by decide +kernel
theorem dX5_whyNotGrow_7 : decode cX5_whyNotGrow 7 = .ok (.iconst (-1), 1) := by decide +kernel
theorem dX5_whyNotGrow_8 : decode cX5_whyNotGrow 8 = .ok (.goto 19, 3) := by decide +kernel
theorem dX5_whyNotGrow_11 : decode cX5_whyNotGrow 11 = .ok (.iload_n 2, 1) := by decide +kernel
theorem dX5_whyNotGrow_12 : decode cX5_whyNotGrow 12 = .ok (.iconst 0, 1) := by decide +kernel
theorem dX5_whyNotGrow_13 : decode cX5_whyNotGrow 13 = .ok (.bipush 99, 2) := by decide +kernel
theorem dX5_whyNotGrow_15 : decode cX5_whyNotGrow 15 = .ok (.invokestatic 47, 3) := by decide +kernel
theorem dX5_whyNotGrow_18 : decode cX5_whyNotGrow 18 = .ok (.ifCond .eq 7, 3) := by decide +kernel
theorem dX5_whyNotGrow_21 : decode cX5_whyNotGrow 21 = .ok (.iconst 0, 1) := by decide +kernel
theorem dX5_whyNotGrow_22 : decode cX5_whyNotGrow 22 = .ok (.goto 5, 3) := by decide +kernel
theorem dX5_whyNotGrow_25 : decode cX5_whyNotGrow 25 = .ok (.bipush (-2), 2) := by decide +kernel
theorem dX5_whyNotGrow_27 : decode cX5_whyNotGrow 27 = .ok (.ireturn, 1) := by decide +kernel
theorem dX5_grow_0 : decode cX5_grow 0 = .ok (.aload_n 0, 1) := by decide +kernel
theorem dX5_grow_1 : decode cX5_grow 1 = .ok (.iload_n 1, 1) := by decide +kernel
theorem dX5_grow_2 : decode cX5_grow 2 = .ok (.iload_n 2, 1) := by decide +kernel
theorem dX5_grow_3 : decode cX5_grow 3 = .ok (.invokevirtual 103, 3) := by decide +kernel
theorem dX5_grow_6 : decode cX5_grow 6 = .ok (.istore_n 3, 1) := by decide +kernel
theorem dX5_grow_7 : decode cX5_grow 7 = .ok (.iload_n 3, 1) := by decide +kernel
theorem dX5_grow_8 : decode cX5_grow 8 = .ok (.ifCond .ge 5, 3) := by decide +kernel
theorem dX5_grow_11 : decode cX5_grow 11 = .ok (.iload_n 3, 1) := by decide +kernel
theorem dX5_grow_12 : decode cX5_grow 12 = .ok (.ireturn, 1) := by decide +kernel
theorem dX5_grow_13 : decode cX5_grow 13 = .ok (.aload_n 0, 1) := by decide +kernel
theorem dX5_grow_14 : decode cX5_grow 14 = .ok (.getfield 7, 3) := by decide +kernel
theorem dX5_grow_17 : decode cX5_grow 17 = .ok (.bipush 28, 2) := by decide +kernel
theorem dX5_grow_19 : decode cX5_grow 19 = .ok (.iload_n 1, 1) := by decide +kernel
theorem dX5_grow_20 : decode cX5_grow 20 = .ok (.iadd, 1) := by decide +kernel
theorem dX5_grow_21 : decode cX5_grow 21 = .ok (.iaload, 1) := by decide +kernel
theorem dX5_grow_22 : decode cX5_grow 22 = .ok (.istore 4, 2) := by decide +kernel
theorem dX5_grow_24 : decode cX5_grow 24 = .ok (.iload 4, 2) := by decide +kernel
theorem dX5_grow_26 : decode cX5_grow 26 = .ok (.iload_n 2, 1) := by decide +kernel
theorem dX5_grow_27 : decode cX5_grow 27 = .ok (.if_icmp .ne 6, 3) := by decide +kernel
theorem dX5_grow_30 : decode cX5_grow 30 = .ok (.bipush (-5), 2) := by decide +kernel
theorem dX5_grow_32 : decode cX5_grow 32 = .ok (.ireturn, 1) := by decide +kernel
theorem dX5_grow_33 : decode cX5_grow 33 = .ok (.aload_n 0, 1) := by decide +kernel
theorem dX5_grow_34 : decode cX5_grow 34 = .ok (.invokevirtual 67, 3) := by decide +kernel
theorem dX5_grow_37 : decode cX5_grow 37 = .ok (.aload_n 0, 1) := by decide +kernel
theorem dX5_grow_38 : decode cX5_grow 38 = .ok (.getfield 7, 3) := by decide +kernel
theorem dX5_grow_41 : decode cX5_grow 41 = .ok (.bipush 28, 2) := by decide +kernel
theorem dX5_grow_43 : decode cX5_grow 43 = .ok (.iload_n 1, 1) := by decide +kernel
theorem dX5_grow_44 : decode cX5_grow 44 = .ok (.iadd, 1) := by decide +kernel
theorem dX5_grow_45 : decode cX5_grow 45 = .ok (.iload_n 2, 1) := by decide +kernel
theorem dX5_grow_46 : decode cX5_grow 46 = .ok (.iastore, 1) := by decide +kernel
theorem dX5_grow_47 : decode cX5_grow 47 = .ok (.iload 4, 2) := by decide +kernel
theorem dX5_grow_49 : decode cX5_grow 49 = .ok (.ireturn, 1) := by decide +kernel
theorem dX5_rainNow_0 : decode cX5_rainNow 0 = .ok (.iconst 0, 1) := by decide +kernel
theorem dX5_rainNow_1 : decode cX5_rainNow 1 = .ok (.istore_n 2, 1) := by decide +kernel
theorem dX5_rainNow_2 : decode cX5_rainNow 2 = .ok (.iconst 0, 1) := by decide +kernel
theorem dX5_rainNow_3 : decode cX5_rainNow 3 = .ok (.istore_n 3, 1) := by decide +kernel
theorem dX5_rainNow_4 : decode cX5_rainNow 4 = .ok (.iload_n 3, 1) := by decide +kernel
theorem dX5_rainNow_5 : decode cX5_rainNow 5 = .ok (.bipush 64, 2) := by decide +kernel
theorem dX5_rainNow_7 : decode cX5_rainNow 7 = .ok (.if_icmp .ge 60, 3) := by decide +kernel
theorem dX5_rainNow_10 : decode cX5_rainNow 10 = .ok (.aload_n 0, 1) := by decide +kernel
theorem dX5_rainNow_11 : decode cX5_rainNow 11 = .ok (.getfield 7, 3) := by decide +kernel
theorem dX5_rainNow_14 : decode cX5_rainNow 14 = .ok (.bipush 92, 2) := by decide +kernel
theorem dX5_rainNow_16 : decode cX5_rainNow 16 = .ok (.iload_n 3, 1) := by decide +kernel
theorem dX5_rainNow_17 : decode cX5_rainNow 17 = .ok (.iadd, 1) := by decide +kernel
theorem dX5_rainNow_18 : decode cX5_rainNow 18 = .ok (.iaload, 1) := by decide +kernel
theorem dX5_rainNow_19 : decode cX5_rainNow 19 = .ok (.iload_n 1, 1) := by decide +kernel
theorem dX5_rainNow_20 : decode cX5_rainNow 20 = .ok (.iadd, 1) := by decide +kernel
theorem dX5_rainNow_21 : decode cX5_rainNow 21 = .ok (.istore 4, 2) := by decide +kernel
theorem dX5_rainNow_23 : decode cX5_rainNow 23 = .ok (.aload_n 0, 1) := by decide +kernel
theorem dX5_rainNow_24 : decode cX5_rainNow 24 = .ok (.getfield 7, 3) := by decide +kernel
theorem dX5_rainNow_27 : decode cX5_rainNow 27 = .ok (.bipush 92, 2) := by decide +kernel
theorem dX5_rainNow_29 : decode cX5_rainNow 29 = .ok (.iload_n 3, 1) := by decide +kernel
theorem dX5_rainNow_30 : decode cX5_rainNow 30 = .ok (.iadd, 1) := by decide +kernel
theorem dX5_rainNow_31 : decode cX5_rainNow 31 = .ok (.iload 4, 2) := by decide +kernel
theorem dX5_rainNow_33 : decode cX5_rainNow 33 = .ok (.bipush 9, 2) := by decide +kernel
theorem dX5_rainNow_35 : decode cX5_rainNow 35 = .ok (.if_icmp .le 8, 3) := by decide +kernel
theorem dX5_rainNow_38 : decode cX5_rainNow 38 = .ok (.bipush 9, 2) := by decide +kernel
theorem dX5_rainNow_40 : decode cX5_rainNow 40 = .ok (.goto 5, 3) := by decide +kernel
theorem dX5_rainNow_43 : decode cX5_rainNow 43 = .ok (.iload 4, 2) := by decide +kernel
theorem dX5_rainNow_45 : decode cX5_rainNow 45 = .ok (.iastore, 1) := by decide +kernel
theorem dX5_rainNow_46 : decode cX5_rainNow 46 = .ok (.iload_n 2, 1) := by decide +kernel
theorem dX5_rainNow_47 : decode cX5_rainNow 47 = .ok (.iload 4, 2) := by decide +kernel
theorem dX5_rainNow_49 : decode cX5_rainNow 49 = .ok (.bipush 8, 2) := by decide +kernel
theorem dX5_rainNow_51 : decode cX5_rainNow 51 = .ok (.if_icmp .le 7, 3) := by decide +kernel
theorem dX5_rainNow_54 : decode cX5_rainNow 54 = .ok (.iconst 1, 1) := by decide +kernel
theorem dX5_rainNow_55 : decode cX5_rainNow 55 = .ok (.goto 4, 3) := by decide +kernel
theorem dX5_rainNow_58 : decode cX5_rainNow 58 = .ok (.iconst 0, 1) := by decide +kernel
theorem dX5_rainNow_59 : decode cX5_rainNow 59 = .ok (.iadd, 1) := by decide +kernel
theorem dX5_rainNow_60 : decode cX5_rainNow 60 = .ok (.istore_n 2, 1) := by decide +kernel
theorem dX5_rainNow_61 : decode cX5_rainNow 61 = .ok (.iinc 3 1, 3) := by decide +kernel
theorem dX5_rainNow_64 : decode cX5_rainNow 64 = .ok (.goto (-60), 3) := by decide +kernel
theorem dX5_rainNow_67 : decode cX5_rainNow 67 = .ok (.iload_n 2, 1) := by decide +kernel
theorem dX5_rainNow_68 : decode cX5_rainNow 68 = .ok (.ireturn, 1) := by decide +kernel
theorem dX5_rain_0 : decode cX5_rain 0 = .ok (.iload_n 1, 1) := by decide +kernel
theorem dX5_rain_1 : decode cX5_rain 1 = .ok (.iconst 1, 1) := by decide +kernel
theorem dX5_rain_2 : decode cX5_rain 2 = .ok (.bipush 9, 2) := by decide +kernel
theorem dX5_rain_4 : decode cX5_rain 4 = .ok (.invokestatic 47, 3) := by decide +kernel
theorem dX5_rain_7 : decode cX5_rain 7 = .ok (.ifCond .ne 6, 3) := by decide +kernel
theorem dX5_rain_10 : decode cX5_rain 10 = .ok (.bipush (-2), 2) := by decide +kernel
theorem dX5_rain_12 : decode cX5_rain 12 = .ok (.ireturn, 1) := by decide +kernel
theorem dX5_rain_13 : decode cX5_rain 13 = .ok (.aload_n 0, 1) := by decide +kernel
theorem dX5_rain_14 : decode cX5_rain 14 = .ok (.invokevirtual 67, 3) := by decide +kernel
theorem dX5_rain_17 : decode cX5_rain 17 = .ok (.aload_n 0, 1) := by decide +kernel
theorem dX5_rain_18 : decode cX5_rain 18 = .ok (.iload_n 1, 1) := by decide +kernel
theorem dX5_rain_19 : decode cX5_rain 19 = .ok (.invokevirtual 107, 3) := by decide +kernel
theorem dX5_rain_22 : decode cX5_rain 22 = .ok (.ireturn, 1) := by decide +kernel
theorem dX5_whyNotEnd_0 : decode cX5_whyNotEnd 0 = .ok (.iload_n 1, 1) := by decide +kernel
theorem dX5_whyNotEnd_1 : decode cX5_whyNotEnd 1 = .ok (.iconst 1, 1) := by decide +kernel
theorem dX5_whyNotEnd_2 : decode cX5_whyNotEnd 2 = .ok (.bipush 99, 2) := by decide +kernel
theorem dX5_whyNotEnd_4 : decode cX5_whyNotEnd 4 = .ok (.invokestatic 47, 3) := by decide +kernel
theorem dX5_whyNotEnd_7 : decode cX5_whyNotEnd 7 = .ok (.ifCond .ne 8, 3) := by decide +kernel
theorem dX5_whyNotEnd_10 : decode cX5_whyNotEnd 10 = .ok (.bipush (-2), 2) := by decide +kernel
theorem dX5_whyNotEnd_12 : decode cX5_whyNotEnd 12 = .ok (.goto 23, 3) := by decide +kernel
theorem dX5_whyNotEnd_15 : decode cX5_whyNotEnd 15 = .ok (.aload_n 0, 1) := by decide +kernel
theorem dX5_whyNotEnd_16 : decode cX5_whyNotEnd 16 = .ok (.getfield 7, 3) := by decide +kernel
theorem dX5_whyNotEnd_19 : decode cX5_whyNotEnd 19 = .ok (.iconst 3, 1) := by decide +kernel
theorem dX5_whyNotEnd_20 : decode cX5_whyNotEnd 20 = .ok (.iaload, 1) := by decide +kernel
theorem dX5_whyNotEnd_21 : decode cX5_whyNotEnd 21 = .ok (.iload_n 1, 1) := by decide +kernel
theorem dX5_whyNotEnd_22 : decode cX5_whyNotEnd 22 = .ok (.iadd, 1) := by decide +kernel
theorem dX5_whyNotEnd_23 : decode cX5_whyNotEnd 23 = .ok (.sipush 9999, 3) := by decide +kernel
theorem dX5_whyNotEnd_26 : decode cX5_whyNotEnd 26 = .ok (.if_icmp .le 8, 3) := by decide +kernel
theorem dX5_whyNotEnd_29 : decode cX5_whyNotEnd 29 = .ok (.bipush (-3), 2) := by decide +kernel
theorem dX5_whyNotEnd_31 : decode cX5_whyNotEnd 31 = .ok (.goto 4, 3) := by decide +kernel
theorem dX5_whyNotEnd_34 : decode cX5_whyNotEnd 34 = .ok (.iconst 0, 1) := by decide +kernel
theorem dX5_whyNotEnd_35 : decode cX5_whyNotEnd 35 = .ok (.ireturn, 1) := by decide +kernel
theorem dX5_endNow_0 : decode cX5_endNow 0 = .ok (.iconst 0, 1) := by decide +kernel
theorem dX5_endNow_1 : decode cX5_endNow 1 = .ok (.istore_n 2, 1) := by decide +kernel
theorem dX5_endNow_2 : decode cX5_endNow 2 = .ok (.iload_n 2, 1) := by decide +kernel
theorem dX5_endNow_3 : decode cX5_endNow 3 = .ok (.bipush 64, 2) := by decide +kernel
theorem dX5_endNow_5 : decode cX5_endNow 5 = .ok (.if_icmp .ge 46, 3) := by decide +kernel
theorem dX5_endNow_8 : decode cX5_endNow 8 = .ok (.aload_n 0, 1) := by decide +kernel
theorem dX5_endNow_9 : decode cX5_endNow 9 = .ok (.getfield 7, 3) := by decide +kernel
theorem dX5_endNow_12 : decode cX5_endNow 12 = .ok (.bipush 92, 2) := by decide +kernel
theorem dX5_endNow_14 : decode cX5_endNow 14 = .ok (.iload_n 2, 1) := by decide +kernel
theorem dX5_endNow_15 : decode cX5_endNow 15 = .ok (.iadd, 1) := by decide +kernel
theorem dX5_endNow_16 : decode cX5_endNow 16 = .ok (.aload_n 0, 1) := by decide +kernel
theorem dX5_endNow_17 : decode cX5_endNow 17 = .ok (.getfield 7, 3) := by decide +kernel
theorem dX5_endNow_20 : decode cX5_endNow 20 = .ok (.bipush 92, 2) := by decide +kernel
theorem dX5_endNow_22 : decode cX5_endNow 22 = .ok (.iload_n 2, 1) := by decide +kernel
theorem dX5_endNow_23 : decode cX5_endNow 23 = .ok (.iadd, 1) := by decide +kernel
theorem dX5_endNow_24 : decode cX5_endNow 24 = .ok (.iaload, 1) := by decide +kernel
theorem dX5_endNow_25 : decode cX5_endNow 25 = .ok (.iload_n 1, 1) := by decide +kernel
theorem dX5_endNow_26 : decode cX5_endNow 26 = .ok (.if_icmp .le 17, 3) := by decide +kernel
theorem dX5_endNow_29 : decode cX5_endNow 29 = .ok (.aload_n 0, 1) := by decide +kernel
theorem dX5_endNow_30 : decode cX5_endNow 30 = .ok (.getfield 7, 3) := by decide +kernel
theorem dX5_endNow_33 : decode cX5_endNow 33 = .ok (.bipush 92, 2) := by decide +kernel
theorem dX5_endNow_35 : decode cX5_endNow 35 = .ok (.iload_n 2, 1) := by decide +kernel
theorem dX5_endNow_36 : decode cX5_endNow 36 = .ok (.iadd, 1) := by decide +kernel
theorem dX5_endNow_37 : decode cX5_endNow 37 = .ok (.iaload, 1) := by decide +kernel
theorem dX5_endNow_38 : decode cX5_endNow 38 = .ok (.iload_n 1, 1) := by decide +kernel
theorem dX5_endNow_39 : decode cX5_endNow 39 = .ok (.isub, 1) := by decide +kernel
theorem dX5_endNow_40 : decode cX5_endNow 40 = .ok (.goto 4, 3) := by decide +kernel
theorem dX5_endNow_43 : decode cX5_endNow 43 = .ok (.iconst 0, 1) := by decide +kernel
theorem dX5_endNow_44 : decode cX5_endNow 44 = .ok (.iastore, 1) := by decide +kernel
theorem dX5_endNow_45 : decode cX5_endNow 45 = .ok (.iinc 2 1, 3) := by decide +kernel
theorem dX5_endNow_48 : decode cX5_endNow 48 = .ok (.goto (-46), 3) := by decide +kernel
theorem dX5_endNow_51 : decode cX5_endNow 51 = .ok (.aload_n 0, 1) := by decide +kernel
theorem dX5_endNow_52 : decode cX5_endNow 52 = .ok (.getfield 7, 3) := by decide +kernel
theorem dX5_endNow_55 : decode cX5_endNow 55 = .ok (.iconst 3, 1) := by decide +kernel
theorem dX5_endNow_56 : decode cX5_endNow 56 = .ok (.dup2, 1) := by decide +kernel
theorem dX5_endNow_57 : decode cX5_endNow 57 = .ok (.iaload, 1) := by decide +kernel
theorem dX5_endNow_58 : decode cX5_endNow 58 = .ok (.iload_n 1, 1) := by decide +kernel
theorem dX5_endNow_59 : decode cX5_endNow 59 = .ok (.iadd, 1) := by decide +kernel
theorem dX5_endNow_60 : decode cX5_endNow 60 = .ok (.iastore, 1) := by decide +kernel
theorem dX5_endNow_61 : decode cX5_endNow 61 = .ok (.aload_n 0, 1) := by decide +kernel
theorem dX5_endNow_62 : decode cX5_endNow 62 = .ok (.invokevirtual 44, 3) := by decide +kernel
theorem dX5_endNow_65 : decode cX5_endNow 65 = .ok (.aload_n 0, 1) := by decide +kernel
theorem dX5_endNow_66 : decode cX5_endNow 66 = .ok (.getfield 7, 3) := by decide +kernel
theorem dX5_endNow_69 : decode cX5_endNow 69 = .ok (.iconst 3, 1) := by decide +kernel
theorem dX5_endNow_70 : decode cX5_endNow 70 = .ok (.iaload, 1) := by decide +kernel
theorem dX5_endNow_71 : decode cX5_endNow 71 = .ok (.ireturn, 1) := by decide +kernel
theorem dX5_endDays_0 : decode cX5_endDays 0 = .ok (.aload_n 0, 1) := by decide +kernel
theorem dX5_endDays_1 : decode cX5_endDays 1 = .ok (.iload_n 1, 1) := by decide +kernel
theorem dX5_endDays_2 : decode cX5_endDays 2 = .ok (.invokevirtual 110, 3) := by decide +kernel
theorem dX5_endDays_5 : decode cX5_endDays 5 = .ok (.istore_n 2, 1) := by decide +kernel
theorem dX5_endDays_6 : decode cX5_endDays 6 = .ok (.iload_n 2, 1) := by decide +kernel
theorem dX5_endDays_7 : decode cX5_endDays 7 = .ok (.ifCond .ge 5, 3) := by decide +kernel
theorem dX5_endDays_10 : decode cX5_endDays 10 = .ok (.iload_n 2, 1) := by decide +kernel
theorem dX5_endDays_11 : decode cX5_endDays 11 = .ok (.ireturn, 1) := by decide +kernel
theorem dX5_endDays_12 : decode cX5_endDays 12 = .ok (.aload_n 0, 1) := by decide +kernel
theorem dX5_endDays_13 : decode cX5_endDays 13 = .ok (.invokevirtual 67, 3) := by decide +kernel
theorem dX5_endDays_16 : decode cX5_endDays 16 = .ok (.aload_n 0, 1) := by decide +kernel
theorem dX5_endDays_17 : decode cX5_endDays 17 = .ok (.iload_n 1, 1) := by decide +kernel
theorem dX5_endDays_18 : decode cX5_endDays 18 = .ok (.invokevirtual 113, 3) := by decide +kernel
theorem dX5_endDays_21 : decode cX5_endDays 21 = .ok (.ireturn, 1) := by decide +kernel
theorem dX5_set_0 : decode cX5_set 0 = .ok (.iload_n 1, 1) := by decide +kernel
theorem dX5_set_1 : decode cX5_set 1 = .ok (.iconst 0, 1) := by decide +kernel
theorem dX5_set_2 : decode cX5_set 2 = .ok (.iconst 2, 1) := by decide +kernel
theorem dX5_set_3 : decode cX5_set 3 = .ok (.invokestatic 47, 3) := by decide +kernel
theorem dX5_set_6 : decode cX5_set 6 = .ok (.ifCond .ne 5, 3) := by decide +kernel
theorem dX5_set_9 : decode cX5_set 9 = .ok (.iconst (-1), 1) := by decide +kernel
theorem dX5_set_10 : decode cX5_set 10 = .ok (.ireturn, 1) := by decide +kernel
theorem dX5_set_11 : decode cX5_set 11 = .ok (.iload_n 2, 1) := by decide +kernel
theorem dX5_set_12 : decode cX5_set 12 = .ok (.iload_n 1, 1) := by decide +kernel
theorem dX5_set_13 : decode cX5_set 13 = .ok (.iconst 1, 1) := by decide +kernel
theorem dX5_set_14 : decode cX5_set 14 = .ok (.if_icmp .ne 7, 3) := by decide +kernel
theorem dX5_set_17 : decode cX5_set 17 = .ok (.iconst 0, 1) := by decide +kernel
theorem dX5_set_18 : decode cX5_set 18 = .ok (.goto 4, 3) := by decide +kernel
theorem dX5_set_21 : decode cX5_set 21 = .ok (.iconst 1, 1) := by decide +kernel
theorem dX5_set_22 : decode cX5_set 22 = .ok (.iload_n 1, 1) := by decide +kernel
theorem dX5_set_23 : decode cX5_set 23 = .ok (.ifCond .ne 8, 3) := by decide +kernel
theorem dX5_set_26 : decode cX5_set 26 = .ok (.bipush 30, 2) := by decide +kernel
theorem dX5_set_28 : decode cX5_set 28 = .ok (.goto 14, 3) := by decide +kernel
theorem dX5_set_31 : decode cX5_set 31 = .ok (.iload_n 1, 1) := by decide +kernel
theorem dX5_set_32 : decode cX5_set 32 = .ok (.iconst 1, 1) := by decide +kernel
theorem dX5_set_33 : decode cX5_set 33 = .ok (.if_icmp .ne 7, 3) := by decide +kernel
theorem dX5_set_36 : decode cX5_set 36 = .ok (.iconst 2, 1) := by decide +kernel
theorem dX5_set_37 : decode cX5_set 37 = .ok (.goto 5, 3) := by decide +kernel
theorem dX5_set_40 : decode cX5_set 40 = .ok (.bipush 9, 2) := by decide +kernel
theorem dX5_set_42 : decode cX5_set 42 = .ok (.invokestatic 47, 3) := by decide +kernel
theorem dX5_set_45 : decode cX5_set 45 = .ok (.ifCond .ne 6, 3) := by decide +kernel
theorem dX5_set_48 : decode cX5_set 48 = .ok (.bipush (-2), 2) := by decide +kernel
theorem dX5_set_50 : decode cX5_set 50 = .ok (.ireturn, 1) := by decide +kernel
theorem dX5_set_51 : decode cX5_set 51 = .ok (.aload_n 0, 1) := by decide +kernel
theorem dX5_set_52 : decode cX5_set 52 = .ok (.getfield 7, 3) := by decide +kernel
theorem dX5_set_55 : decode cX5_set 55 = .ok (.iload_n 1, 1) := by decide +kernel
theorem dX5_set_56 : decode cX5_set 56 = .ok (.iaload, 1) := by decide +kernel
theorem dX5_set_57 : decode cX5_set 57 = .ok (.istore_n 3, 1) := by decide +kernel
theorem dX5_set_58 : decode cX5_set 58 = .ok (.iload_n 3, 1) := by decide +kernel
theorem dX5_set_59 : decode cX5_set 59 = .ok (.iload_n 2, 1) := by decide +kernel
theorem dX5_set_60 : decode cX5_set 60 = .ok (.if_icmp .ne 6, 3) := by decide +kernel
theorem dX5_set_63 : decode cX5_set 63 = .ok (.bipush (-5), 2) := by decide +kernel
theorem dX5_set_65 : decode cX5_set 65 = .ok (.ireturn, 1) := by decide +kernel
theorem dX5_set_66 : decode cX5_set 66 = .ok (.aload_n 0, 1) := by decide +kernel
theorem dX5_set_67 : decode cX5_set 67 = .ok (.invokevirtual 67, 3) := by decide +kernel
theorem dX5_set_70 : decode cX5_set 70 = .ok (.aload_n 0, 1) := by decide +kernel
theorem dX5_set_71 : decode cX5_set 71 = .ok (.getfield 7, 3) := by decide +kernel
theorem dX5_set_74 : decode cX5_set 74 = .ok (.iload_n 1, 1) := by decide +kernel
theorem dX5_set_75 : decode cX5_set 75 = .ok (.iload_n 2, 1) := by decide +kernel
theorem dX5_set_76 : decode cX5_set 76 = .ok (.iastore, 1) := by decide +kernel
theorem dX5_set_77 : decode cX5_set 77 = .ok (.iload_n 3, 1) := by decide +kernel
theorem dX5_set_78 : decode cX5_set 78 = .ok (.ireturn, 1) := by decide +kernel
theorem dX5_wayOf_0 : decode cX5_wayOf 0 = .ok (.aload_n 0, 1) := by decide +kernel
theorem dX5_wayOf_1 : decode cX5_wayOf 1 = .ok (.aload_n 0, 1) := by decide +kernel
theorem dX5_wayOf_2 : decode cX5_wayOf 2 = .ok (.iload_n 1, 1) := by decide +kernel
theorem dX5_wayOf_3 : decode cX5_wayOf 3 = .ok (.iconst 0, 1) := by decide +kernel
theorem dX5_wayOf_4 : decode cX5_wayOf 4 = .ok (.invokevirtual 116, 3) := by decide +kernel
theorem dX5_wayOf_7 : decode cX5_wayOf 7 = .ok (.invokevirtual 119, 3) := by decide +kernel
theorem dX5_wayOf_10 : decode cX5_wayOf 10 = .ok (.aload_n 0, 1) := by decide +kernel
theorem dX5_wayOf_11 : decode cX5_wayOf 11 = .ok (.getfield 31, 3) := by decide +kernel
theorem dX5_wayOf_14 : decode cX5_wayOf 14 = .ok (.iload_n 2, 1) := by decide +kernel
theorem dX5_wayOf_15 : decode cX5_wayOf 15 = .ok (.iaload, 1) := by decide +kernel
theorem dX5_wayOf_16 : decode cX5_wayOf 16 = .ok (.ireturn, 1) := by decide +kernel
theorem dX5_whyNotGo_0 : decode cX5_whyNotGo 0 = .ok (.iload_n 1, 1) := by decide +kernel
theorem dX5_whyNotGo_1 : decode cX5_whyNotGo 1 = .ok (.invokestatic 123, 3) := by decide +kernel
theorem dX5_whyNotGo_4 : decode cX5_whyNotGo 4 = .ok (.ifCond .eq 10, 3) := by decide +kernel
theorem dX5_whyNotGo_7 : decode cX5_whyNotGo 7 = .ok (.iload_n 2, 1) := by decide +kernel
theorem dX5_whyNotGo_8 : decode cX5_whyNotGo 8 = .ok (.invokestatic 100, 3) := by decide +kernel
theorem dX5_whyNotGo_11 : decode cX5_whyNotGo 11 = .ok (.ifCond .ne 7, 3) := by decide +kernel
theorem dX5_whyNotGo_14 : decode cX5_whyNotGo 14 = .ok (.iconst (-1), 1) := by decide +kernel
theorem dX5_whyNotGo_15 : decode cX5_whyNotGo 15 = .ok (.goto 24, 3) := by decide +kernel
theorem dX5_whyNotGo_18 : decode cX5_whyNotGo 18 = .ok (.aload_n 0, 1) := by decide +kernel
theorem dX5_whyNotGo_19 : decode cX5_whyNotGo 19 = .ok (.iload_n 1, 1) := by decide +kernel
theorem dX5_whyNotGo_20 : decode cX5_whyNotGo 20 = .ok (.iload_n 2, 1) := by decide +kernel
theorem dX5_whyNotGo_21 : decode cX5_whyNotGo 21 = .ok (.invokevirtual 126, 3) := by decide +kernel
theorem dX5_whyNotGo_24 : decode cX5_whyNotGo 24 = .ok (.aload_n 0, 1) := by decide +kernel
theorem dX5_whyNotGo_25 : decode cX5_whyNotGo 25 = .ok (.iload_n 1, 1) := by decide +kernel
theorem dX5_whyNotGo_26 : decode cX5_whyNotGo 26 = .ok (.iconst 1, 1) := by decide +kernel
theorem dX5_whyNotGo_27 : decode cX5_whyNotGo 27 = .ok (.invokevirtual 116, 3) := by decide +kernel
theorem dX5_whyNotGo_30 : decode cX5_whyNotGo 30 = .ok (.if_icmp .le 8, 3) := by decide +kernel
theorem dX5_whyNotGo_33 : decode cX5_whyNotGo 33 = .ok (.bipush (-4), 2) := by decide +kernel
theorem dX5_whyNotGo_35 : decode cX5_whyNotGo 35 = .ok (.goto 4, 3) := by decide +kernel
theorem dX5_whyNotGo_38 : decode cX5_whyNotGo 38 = .ok (.iconst 0, 1) := by decide +kernel
theorem dX5_whyNotGo_39 : decode cX5_whyNotGo 39 = .ok (.ireturn, 1) := by decide +kernel
theorem dX5_goNow_0 : decode cX5_goNow 0 = .ok (.aload_n 0, 1) := by decide +kernel
theorem dX5_goNow_1 : decode cX5_goNow 1 = .ok (.iload_n 1, 1) := by decide +kernel
theorem dX5_goNow_2 : decode cX5_goNow 2 = .ok (.iconst 1, 1) := by decide +kernel
theorem dX5_goNow_3 : decode cX5_goNow 3 = .ok (.aload_n 0, 1) := by decide +kernel
theorem dX5_goNow_4 : decode cX5_goNow 4 = .ok (.iload_n 1, 1) := by decide +kernel
theorem dX5_goNow_5 : decode cX5_goNow 5 = .ok (.iconst 1, 1) := by decide +kernel
theorem dX5_goNow_6 : decode cX5_goNow 6 = .ok (.invokevirtual 116, 3) := by decide +kernel
theorem dX5_goNow_9 : decode cX5_goNow 9 = .ok (.aload_n 0, 1) := by decide +kernel
theorem dX5_goNow_10 : decode cX5_goNow 10 = .ok (.iload_n 1, 1) := by decide +kernel
theorem dX5_goNow_11 : decode cX5_goNow 11 = .ok (.iload_n 2, 1) := by decide +kernel
theorem dX5_goNow_12 : decode cX5_goNow 12 = .ok (.invokevirtual 126, 3) := by decide +kernel
theorem dX5_goNow_15 : decode cX5_goNow 15 = .ok (.isub, 1) := by decide +kernel
theorem dX5_goNow_16 : decode cX5_goNow 16 = .ok (.invokevirtual 40, 3) := by decide +kernel
theorem dX5_goNow_19 : decode cX5_goNow 19 = .ok (.aload_n 0, 1) := by decide +kernel
theorem dX5_goNow_20 : decode cX5_goNow 20 = .ok (.iload_n 1, 1) := by decide +kernel
theorem dX5_goNow_21 : decode cX5_goNow 21 = .ok (.iconst 0, 1) := by decide +kernel
theorem dX5_goNow_22 : decode cX5_goNow 22 = .ok (.iload_n 2, 1) := by decide +kernel
theorem dX5_goNow_23 : decode cX5_goNow 23 = .ok (.invokevirtual 40, 3) := by decide +kernel
theorem dX5_goNow_26 : decode cX5_goNow 26 = .ok (.return_, 1) := by decide +kernel
theorem dX5_go_0 : decode cX5_go 0 = .ok (.aload_n 0, 1) := by decide +kernel
theorem dX5_go_1 : decode cX5_go 1 = .ok (.iload_n 1, 1) := by decide +kernel
theorem dX5_go_2 : decode cX5_go 2 = .ok (.iload_n 2, 1) := by decide +kernel
theorem dX5_go_3 : decode cX5_go 3 = .ok (.invokevirtual 129, 3) := by decide +kernel
theorem dX5_go_6 : decode cX5_go 6 = .ok (.istore_n 3, 1) := by decide +kernel
theorem dX5_go_7 : decode cX5_go 7 = .ok (.iload_n 3, 1) := by decide +kernel
theorem dX5_go_8 : decode cX5_go 8 = .ok (.ifCond .ge 5, 3) := by decide +kernel
theorem dX5_go_11 : decode cX5_go 11 = .ok (.iload_n 3, 1) := by decide +kernel
theorem dX5_go_12 : decode cX5_go 12 = .ok (.ireturn, 1) := by decide +kernel
theorem dX5_go_13 : decode cX5_go 13 = .ok (.aload_n 0, 1) := by decide +kernel
theorem dX5_go_14 : decode cX5_go 14 = .ok (.iload_n 1, 1) := by decide +kernel
theorem dX5_go_15 : decode cX5_go 15 = .ok (.iconst 0, 1) := by decide +kernel
theorem dX5_go_16 : decode cX5_go 16 = .ok (.invokevirtual 116, 3) := by decide +kernel
theorem dX5_go_19 : decode cX5_go 19 = .ok (.iload_n 2, 1) := by decide +kernel
theorem dX5_go_20 : decode cX5_go 20 = .ok (.if_icmp .ne 6, 3) := by decide +kernel
theorem dX5_go_23 : decode cX5_go 23 = .ok (.bipush (-5), 2) := by decide +kernel
theorem dX5_go_25 : decode cX5_go 25 = .ok (.ireturn, 1) := by decide +kernel
theorem dX5_go_26 : decode cX5_go 26 = .ok (.aload_n 0, 1) := by decide +kernel
theorem dX5_go_27 : decode cX5_go 27 = .ok (.invokevirtual 67, 3) := by decide +kernel
theorem dX5_go_30 : decode cX5_go 30 = .ok (.aload_n 0, 1) := by decide +kernel
theorem dX5_go_31 : decode cX5_go 31 = .ok (.iload_n 1, 1) := by decide +kernel
theorem dX5_go_32 : decode cX5_go 32 = .ok (.iload_n 2, 1) := by decide +kernel
theorem dX5_go_33 : decode cX5_go 33 = .ok (.invokevirtual 132, 3) := by decide +kernel
theorem dX5_go_36 : decode cX5_go 36 = .ok (.aload_n 0, 1) := by decide +kernel
theorem dX5_go_37 : decode cX5_go 37 = .ok (.iload_n 1, 1) := by decide +kernel
theorem dX5_go_38 : decode cX5_go 38 = .ok (.iconst 1, 1) := by decide +kernel
theorem dX5_go_39 : decode cX5_go 39 = .ok (.invokevirtual 116, 3) := by decide +kernel
theorem dX5_go_42 : decode cX5_go 42 = .ok (.ireturn, 1) := by decide +kernel
theorem dX5_whyNotFell_0 : decode cX5_whyNotFell 0 = .ok (.iload_n 1, 1) := by decide +kernel
theorem dX5_whyNotFell_1 : decode cX5_whyNotFell 1 = .ok (.invokestatic 123, 3) := by decide +kernel
theorem dX5_whyNotFell_4 : decode cX5_whyNotFell 4 = .ok (.ifCond .ne 7, 3) := by decide +kernel
theorem dX5_whyNotFell_7 : decode cX5_whyNotFell 7 = .ok (.iconst (-1), 1) := by decide +kernel
theorem dX5_whyNotFell_8 : decode cX5_whyNotFell 8 = .ok (.goto 24, 3) := by decide +kernel
theorem dX5_whyNotFell_11 : decode cX5_whyNotFell 11 = .ok (.aload_n 0, 1) := by decide +kernel
theorem dX5_whyNotFell_12 : decode cX5_whyNotFell 12 = .ok (.iload_n 1, 1) := by decide +kernel
theorem dX5_whyNotFell_13 : decode cX5_whyNotFell 13 = .ok (.iconst 1, 1) := by decide +kernel
theorem dX5_whyNotFell_14 : decode cX5_whyNotFell 14 = .ok (.invokevirtual 116, 3) := by decide +kernel
theorem dX5_whyNotFell_17 : decode cX5_whyNotFell 17 = .ok (.aload_n 0, 1) := by decide +kernel
theorem dX5_whyNotFell_18 : decode cX5_whyNotFell 18 = .ok (.getfield 7, 3) := by decide +kernel
theorem dX5_whyNotFell_21 : decode cX5_whyNotFell 21 = .ok (.iconst 2, 1) := by decide +kernel
theorem dX5_whyNotFell_22 : decode cX5_whyNotFell 22 = .ok (.iaload, 1) := by decide +kernel
theorem dX5_whyNotFell_23 : decode cX5_whyNotFell 23 = .ok (.if_icmp .ge 8, 3) := by decide +kernel
theorem dX5_whyNotFell_26 : decode cX5_whyNotFell 26 = .ok (.bipush (-4), 2) := by decide +kernel
theorem dX5_whyNotFell_28 : decode cX5_whyNotFell 28 = .ok (.goto 4, 3) := by decide +kernel
theorem dX5_whyNotFell_31 : decode cX5_whyNotFell 31 = .ok (.iconst 0, 1) := by decide +kernel
theorem dX5_whyNotFell_32 : decode cX5_whyNotFell 32 = .ok (.ireturn, 1) := by decide +kernel
theorem dX5_fellNow_0 : decode cX5_fellNow 0 = .ok (.aload_n 0, 1) := by decide +kernel
theorem dX5_fellNow_1 : decode cX5_fellNow 1 = .ok (.iload_n 1, 1) := by decide +kernel
theorem dX5_fellNow_2 : decode cX5_fellNow 2 = .ok (.iconst 0, 1) := by decide +kernel
theorem dX5_fellNow_3 : decode cX5_fellNow 3 = .ok (.invokevirtual 116, 3) := by decide +kernel
theorem dX5_fellNow_6 : decode cX5_fellNow 6 = .ok (.istore_n 2, 1) := by decide +kernel
theorem dX5_fellNow_7 : decode cX5_fellNow 7 = .ok (.aload_n 0, 1) := by decide +kernel
theorem dX5_fellNow_8 : decode cX5_fellNow 8 = .ok (.getfield 7, 3) := by decide +kernel
theorem dX5_fellNow_11 : decode cX5_fellNow 11 = .ok (.bipush 28, 2) := by decide +kernel
theorem dX5_fellNow_13 : decode cX5_fellNow 13 = .ok (.iload_n 2, 1) := by decide +kernel
theorem dX5_fellNow_14 : decode cX5_fellNow 14 = .ok (.iadd, 1) := by decide +kernel
theorem dX5_fellNow_15 : decode cX5_fellNow 15 = .ok (.iaload, 1) := by decide +kernel
theorem dX5_fellNow_16 : decode cX5_fellNow 16 = .ok (.istore_n 3, 1) := by decide +kernel
theorem dX5_fellNow_17 : decode cX5_fellNow 17 = .ok (.iload_n 3, 1) := by decide +kernel
theorem dX5_fellNow_18 : decode cX5_fellNow 18 = .ok (.ifCond .le 71, 3) := by decide +kernel
theorem dX5_fellNow_21 : decode cX5_fellNow 21 = .ok (.aload_n 0, 1) := by decide +kernel
theorem dX5_fellNow_22 : decode cX5_fellNow 22 = .ok (.getfield 7, 3) := by decide +kernel
theorem dX5_fellNow_25 : decode cX5_fellNow 25 = .ok (.bipush 28, 2) := by decide +kernel
theorem dX5_fellNow_27 : decode cX5_fellNow 27 = .ok (.iload_n 2, 1) := by decide +kernel
theorem dX5_fellNow_28 : decode cX5_fellNow 28 = .ok (.iadd, 1) := by decide +kernel
theorem dX5_fellNow_29 : decode cX5_fellNow 29 = .ok (.iconst 0, 1) := by decide +kernel
theorem dX5_fellNow_30 : decode cX5_fellNow 30 = .ok (.iastore, 1) := by decide +kernel
theorem dX5_fellNow_31 : decode cX5_fellNow 31 = .ok (.aload_n 0, 1) := by decide +kernel
theorem dX5_fellNow_32 : decode cX5_fellNow 32 = .ok (.getfield 7, 3) := by decide +kernel
theorem dX5_fellNow_35 : decode cX5_fellNow 35 = .ok (.sipush 156, 3) := by decide +kernel
theorem dX5_fellNow_38 : decode cX5_fellNow 38 = .ok (.iload_n 2, 1) := by decide +kernel
theorem dX5_fellNow_39 : decode cX5_fellNow 39 = .ok (.iadd, 1) := by decide +kernel
theorem dX5_fellNow_40 : decode cX5_fellNow 40 = .ok (.iconst 1, 1) := by decide +kernel
theorem dX5_fellNow_41 : decode cX5_fellNow 41 = .ok (.iastore, 1) := by decide +kernel
theorem dX5_fellNow_42 : decode cX5_fellNow 42 = .ok (.aload_n 0, 1) := by decide +kernel
theorem dX5_fellNow_43 : decode cX5_fellNow 43 = .ok (.iload_n 1, 1) := by decide +kernel
theorem dX5_fellNow_44 : decode cX5_fellNow 44 = .ok (.iconst 1, 1) := by decide +kernel
theorem dX5_fellNow_45 : decode cX5_fellNow 45 = .ok (.aload_n 0, 1) := by decide +kernel
theorem dX5_fellNow_46 : decode cX5_fellNow 46 = .ok (.iload_n 1, 1) := by decide +kernel
theorem dX5_fellNow_47 : decode cX5_fellNow 47 = .ok (.iconst 1, 1) := by decide +kernel
theorem dX5_fellNow_48 : decode cX5_fellNow 48 = .ok (.invokevirtual 116, 3) := by decide +kernel
theorem dX5_fellNow_51 : decode cX5_fellNow 51 = .ok (.aload_n 0, 1) := by decide +kernel
theorem dX5_fellNow_52 : decode cX5_fellNow 52 = .ok (.getfield 7, 3) := by decide +kernel
theorem dX5_fellNow_55 : decode cX5_fellNow 55 = .ok (.iconst 2, 1) := by decide +kernel
theorem dX5_fellNow_56 : decode cX5_fellNow 56 = .ok (.iaload, 1) := by decide +kernel
theorem dX5_fellNow_57 : decode cX5_fellNow 57 = .ok (.isub, 1) := by decide +kernel
theorem dX5_fellNow_58 : decode cX5_fellNow 58 = .ok (.invokevirtual 40, 3) := by decide +kernel
theorem dX5_fellNow_61 : decode cX5_fellNow 61 = .ok (.aload_n 0, 1) := by decide +kernel
theorem dX5_fellNow_62 : decode cX5_fellNow 62 = .ok (.iload_n 1, 1) := by decide +kernel
theorem dX5_fellNow_63 : decode cX5_fellNow 63 = .ok (.iconst 2, 1) := by decide +kernel
theorem dX5_fellNow_64 : decode cX5_fellNow 64 = .ok (.aload_n 0, 1) := by decide +kernel
theorem dX5_fellNow_65 : decode cX5_fellNow 65 = .ok (.iload_n 1, 1) := by decide +kernel
theorem dX5_fellNow_66 : decode cX5_fellNow 66 = .ok (.iconst 2, 1) := by decide +kernel
theorem dX5_fellNow_67 : decode cX5_fellNow 67 = .ok (.invokevirtual 116, 3) := by decide +kernel
theorem dX5_fellNow_70 : decode cX5_fellNow 70 = .ok (.iload_n 3, 1) := by decide +kernel
theorem dX5_fellNow_71 : decode cX5_fellNow 71 = .ok (.iadd, 1) := by decide +kernel
theorem dX5_fellNow_72 : decode cX5_fellNow 72 = .ok (.invokevirtual 40, 3) := by decide +kernel
theorem dX5_fellNow_75 : decode cX5_fellNow 75 = .ok (.aload_n 0, 1) := by decide +kernel
theorem dX5_fellNow_76 : decode cX5_fellNow 76 = .ok (.iload_n 1, 1) := by decide +kernel
theorem dX5_fellNow_77 : decode cX5_fellNow 77 = .ok (.iconst 3, 1) := by decide +kernel
theorem dX5_fellNow_78 : decode cX5_fellNow 78 = .ok (.aload_n 0, 1) := by decide +kernel
theorem dX5_fellNow_79 : decode cX5_fellNow 79 = .ok (.iload_n 1, 1) := by decide +kernel
theorem dX5_fellNow_80 : decode cX5_fellNow 80 = .ok (.iconst 3, 1) := by decide +kernel
theorem dX5_fellNow_81 : decode cX5_fellNow 81 = .ok (.invokevirtual 116, 3) := by decide +kernel
theorem dX5_fellNow_84 : decode cX5_fellNow 84 = .ok (.iconst 1, 1) := by decide +kernel
theorem dX5_fellNow_85 : decode cX5_fellNow 85 = .ok (.iadd, 1) := by decide +kernel
theorem dX5_fellNow_86 : decode cX5_fellNow 86 = .ok (.invokevirtual 40, 3) := by decide +kernel
theorem dX5_fellNow_89 : decode cX5_fellNow 89 = .ok (.iload_n 3, 1) := by decide +kernel
theorem dX5_fellNow_90 : decode cX5_fellNow 90 = .ok (.ireturn, 1) := by decide +kernel
theorem dX5_fell_0 : decode cX5_fell 0 = .ok (.aload_n 0, 1) := by decide +kernel
theorem dX5_fell_1 : decode cX5_fell 1 = .ok (.iload_n 1, 1) := by decide +kernel
theorem dX5_fell_2 : decode cX5_fell 2 = .ok (.invokevirtual 136, 3) := by decide +kernel
theorem dX5_fell_5 : decode cX5_fell 5 = .ok (.istore_n 2, 1) := by decide +kernel
theorem dX5_fell_6 : decode cX5_fell 6 = .ok (.iload_n 2, 1) := by decide +kernel
theorem dX5_fell_7 : decode cX5_fell 7 = .ok (.ifCond .ge 5, 3) := by decide +kernel
theorem dX5_fell_10 : decode cX5_fell 10 = .ok (.iload_n 2, 1) := by decide +kernel
theorem dX5_fell_11 : decode cX5_fell 11 = .ok (.ireturn, 1) := by decide +kernel
theorem dX5_fell_12 : decode cX5_fell 12 = .ok (.aload_n 0, 1) := by decide +kernel
theorem dX5_fell_13 : decode cX5_fell 13 = .ok (.getfield 7, 3) := by decide +kernel
theorem dX5_fell_16 : decode cX5_fell 16 = .ok (.bipush 28, 2) := by decide +kernel
theorem dX5_fell_18 : decode cX5_fell 18 = .ok (.aload_n 0, 1) := by decide +kernel
theorem dX5_fell_19 : decode cX5_fell 19 = .ok (.iload_n 1, 1) := by decide +kernel
theorem dX5_fell_20 : decode cX5_fell 20 = .ok (.iconst 0, 1) := by decide +kernel
theorem dX5_fell_21 : decode cX5_fell 21 = .ok (.invokevirtual 116, 3) := by decide +kernel
theorem dX5_fell_24 : decode cX5_fell 24 = .ok (.iadd, 1) := by decide +kernel
theorem dX5_fell_25 : decode cX5_fell 25 = .ok (.iaload, 1) := by decide +kernel
theorem dX5_fell_26 : decode cX5_fell 26 = .ok (.ifCond .ne 6, 3) := by decide +kernel
theorem dX5_fell_29 : decode cX5_fell 29 = .ok (.bipush (-5), 2) := by decide +kernel
theorem dX5_fell_31 : decode cX5_fell 31 = .ok (.ireturn, 1) := by decide +kernel
theorem dX5_fell_32 : decode cX5_fell 32 = .ok (.aload_n 0, 1) := by decide +kernel
theorem dX5_fell_33 : decode cX5_fell 33 = .ok (.invokevirtual 67, 3) := by decide +kernel
theorem dX5_fell_36 : decode cX5_fell 36 = .ok (.aload_n 0, 1) := by decide +kernel
theorem dX5_fell_37 : decode cX5_fell 37 = .ok (.iload_n 1, 1) := by decide +kernel
theorem dX5_fell_38 : decode cX5_fell 38 = .ok (.invokevirtual 139, 3) := by decide +kernel
theorem dX5_fell_41 : decode cX5_fell 41 = .ok (.ireturn, 1) := by decide +kernel
theorem dX5_pathsAt_0 : decode cX5_pathsAt 0 = .ok (.aload_n 0, 1) := by decide +kernel
theorem dX5_pathsAt_1 : decode cX5_pathsAt 1 = .ok (.invokevirtual 78, 3) := by decide +kernel
theorem dX5_pathsAt_4 : decode cX5_pathsAt 4 = .ok (.aload_n 0, 1) := by decide +kernel
theorem dX5_pathsAt_5 : decode cX5_pathsAt 5 = .ok (.getfield 25, 3) := by decide +kernel
theorem dX5_pathsAt_8 : decode cX5_pathsAt 8 = .ok (.bipush 8, 2) := by decide +kernel
theorem dX5_pathsAt_10 : decode cX5_pathsAt 10 = .ok (.iload_n 1, 1) := by decide +kernel
theorem dX5_pathsAt_11 : decode cX5_pathsAt 11 = .ok (.imul, 1) := by decide +kernel
theorem dX5_pathsAt_12 : decode cX5_pathsAt 12 = .ok (.iload_n 2, 1) := by decide +kernel
theorem dX5_pathsAt_13 : decode cX5_pathsAt 13 = .ok (.iadd, 1) := by decide +kernel
theorem dX5_pathsAt_14 : decode cX5_pathsAt 14 = .ok (.iaload, 1) := by decide +kernel
theorem dX5_pathsAt_15 : decode cX5_pathsAt 15 = .ok (.aload_n 0, 1) := by decide +kernel
theorem dX5_pathsAt_16 : decode cX5_pathsAt 16 = .ok (.getfield 28, 3) := by decide +kernel
theorem dX5_pathsAt_19 : decode cX5_pathsAt 19 = .ok (.bipush 8, 2) := by decide +kernel
theorem dX5_pathsAt_21 : decode cX5_pathsAt 21 = .ok (.iload_n 1, 1) := by decide +kernel
theorem dX5_pathsAt_22 : decode cX5_pathsAt 22 = .ok (.imul, 1) := by decide +kernel
theorem dX5_pathsAt_23 : decode cX5_pathsAt 23 = .ok (.iload_n 2, 1) := by decide +kernel
theorem dX5_pathsAt_24 : decode cX5_pathsAt 24 = .ok (.iadd, 1) := by decide +kernel
theorem dX5_pathsAt_25 : decode cX5_pathsAt 25 = .ok (.iaload, 1) := by decide +kernel
theorem dX5_pathsAt_26 : decode cX5_pathsAt 26 = .ok (.imul, 1) := by decide +kernel
theorem dX5_pathsAt_27 : decode cX5_pathsAt 27 = .ok (.ireturn, 1) := by decide +kernel
theorem dX5_whyNotHint_0 : decode cX5_whyNotHint 0 = .ok (.iload_n 1, 1) := by decide +kernel
theorem dX5_whyNotHint_1 : decode cX5_whyNotHint 1 = .ok (.invokestatic 142, 3) := by decide +kernel
theorem dX5_whyNotHint_4 : decode cX5_whyNotHint 4 = .ok (.ifCond .ne 7, 3) := by decide +kernel
theorem dX5_whyNotHint_7 : decode cX5_whyNotHint 7 = .ok (.iconst (-1), 1) := by decide +kernel
theorem dX5_whyNotHint_8 : decode cX5_whyNotHint 8 = .ok (.goto 44, 3) := by decide +kernel
theorem dX5_whyNotHint_11 : decode cX5_whyNotHint 11 = .ok (.iload_n 2, 1) := by decide +kernel
theorem dX5_whyNotHint_12 : decode cX5_whyNotHint 12 = .ok (.invokestatic 142, 3) := by decide +kernel
theorem dX5_whyNotHint_15 : decode cX5_whyNotHint 15 = .ok (.ifCond .ne 8, 3) := by decide +kernel
theorem dX5_whyNotHint_18 : decode cX5_whyNotHint 18 = .ok (.bipush (-2), 2) := by decide +kernel
theorem dX5_whyNotHint_20 : decode cX5_whyNotHint 20 = .ok (.goto 32, 3) := by decide +kernel
theorem dX5_whyNotHint_23 : decode cX5_whyNotHint 23 = .ok (.aload_n 0, 1) := by decide +kernel
theorem dX5_whyNotHint_24 : decode cX5_whyNotHint 24 = .ok (.getfield 7, 3) := by decide +kernel
theorem dX5_whyNotHint_27 : decode cX5_whyNotHint 27 = .ok (.bipush 7, 2) := by decide +kernel
theorem dX5_whyNotHint_29 : decode cX5_whyNotHint 29 = .ok (.iload_n 1, 1) := by decide +kernel
theorem dX5_whyNotHint_30 : decode cX5_whyNotHint 30 = .ok (.iadd, 1) := by decide +kernel
theorem dX5_whyNotHint_31 : decode cX5_whyNotHint 31 = .ok (.iaload, 1) := by decide +kernel
theorem dX5_whyNotHint_32 : decode cX5_whyNotHint 32 = .ok (.bipush (-5), 2) := by decide +kernel
theorem dX5_whyNotHint_34 : decode cX5_whyNotHint 34 = .ok (.if_icmp .ne 12, 3) := by decide +kernel
theorem dX5_whyNotHint_37 : decode cX5_whyNotHint 37 = .ok (.aload_n 0, 1) := by decide +kernel
theorem dX5_whyNotHint_38 : decode cX5_whyNotHint 38 = .ok (.iload_n 1, 1) := by decide +kernel
theorem dX5_whyNotHint_39 : decode cX5_whyNotHint 39 = .ok (.iload_n 2, 1) := by decide +kernel
theorem dX5_whyNotHint_40 : decode cX5_whyNotHint 40 = .ok (.invokevirtual 145, 3) := by decide +kernel
theorem dX5_whyNotHint_43 : decode cX5_whyNotHint 43 = .ok (.ifCond .ne 8, 3) := by decide +kernel
theorem dX5_whyNotHint_46 : decode cX5_whyNotHint 46 = .ok (.bipush (-4), 2) := by decide +kernel
theorem dX5_whyNotHint_48 : decode cX5_whyNotHint 48 = .ok (.goto 4, 3) := by decide +kernel
theorem dX5_whyNotHint_51 : decode cX5_whyNotHint 51 = .ok (.iconst 0, 1) := by decide +kernel
theorem dX5_whyNotHint_52 : decode cX5_whyNotHint 52 = .ok (.ireturn, 1) := by decide +kernel
theorem dX5_hint_0 : decode cX5_hint 0 = .ok (.aload_n 0, 1) := by decide +kernel
theorem dX5_hint_1 : decode cX5_hint 1 = .ok (.iload_n 1, 1) := by decide +kernel
theorem dX5_hint_2 : decode cX5_hint 2 = .ok (.iload_n 2, 1) := by decide +kernel
theorem dX5_hint_3 : decode cX5_hint 3 = .ok (.invokevirtual 148, 3) := by decide +kernel
theorem dX5_hint_6 : decode cX5_hint 6 = .ok (.istore_n 3, 1) := by decide +kernel
theorem dX5_hint_7 : decode cX5_hint 7 = .ok (.iload_n 3, 1) := by decide +kernel
theorem dX5_hint_8 : decode cX5_hint 8 = .ok (.ifCond .ge 5, 3) := by decide +kernel
theorem dX5_hint_11 : decode cX5_hint 11 = .ok (.iload_n 3, 1) := by decide +kernel
theorem dX5_hint_12 : decode cX5_hint 12 = .ok (.ireturn, 1) := by decide +kernel
theorem dX5_hint_13 : decode cX5_hint 13 = .ok (.aload_n 0, 1) := by decide +kernel
theorem dX5_hint_14 : decode cX5_hint 14 = .ok (.invokevirtual 67, 3) := by decide +kernel
theorem dX5_hint_17 : decode cX5_hint 17 = .ok (.aload_n 0, 1) := by decide +kernel
theorem dX5_hint_18 : decode cX5_hint 18 = .ok (.getfield 7, 3) := by decide +kernel
theorem dX5_hint_21 : decode cX5_hint 21 = .ok (.bipush 7, 2) := by decide +kernel
theorem dX5_hint_23 : decode cX5_hint 23 = .ok (.iload_n 1, 1) := by decide +kernel
theorem dX5_hint_24 : decode cX5_hint 24 = .ok (.iadd, 1) := by decide +kernel
theorem dX5_hint_25 : decode cX5_hint 25 = .ok (.iload_n 2, 1) := by decide +kernel
theorem dX5_hint_26 : decode cX5_hint 26 = .ok (.iastore, 1) := by decide +kernel
theorem dX5_hint_27 : decode cX5_hint 27 = .ok (.aload_n 0, 1) := by decide +kernel
theorem dX5_hint_28 : decode cX5_hint 28 = .ok (.invokevirtual 151, 3) := by decide +kernel
theorem dX5_hint_31 : decode cX5_hint 31 = .ok (.ireturn, 1) := by decide +kernel
theorem dX5_takeBack_0 : decode cX5_takeBack 0 = .ok (.iload_n 1, 1) := by decide +kernel
theorem dX5_takeBack_1 : decode cX5_takeBack 1 = .ok (.invokestatic 142, 3) := by decide +kernel
theorem dX5_takeBack_4 : decode cX5_takeBack 4 = .ok (.ifCond .ne 5, 3) := by decide +kernel
theorem dX5_takeBack_7 : decode cX5_takeBack 7 = .ok (.iconst (-1), 1) := by decide +kernel
theorem dX5_takeBack_8 : decode cX5_takeBack 8 = .ok (.ireturn, 1) := by decide +kernel
theorem dX5_takeBack_9 : decode cX5_takeBack 9 = .ok (.aload_n 0, 1) := by decide +kernel
theorem dX5_takeBack_10 : decode cX5_takeBack 10 = .ok (.getfield 7, 3) := by decide +kernel
theorem dX5_takeBack_13 : decode cX5_takeBack 13 = .ok (.bipush 7, 2) := by decide +kernel
theorem dX5_takeBack_15 : decode cX5_takeBack 15 = .ok (.iload_n 1, 1) := by decide +kernel
theorem dX5_takeBack_16 : decode cX5_takeBack 16 = .ok (.iadd, 1) := by decide +kernel
theorem dX5_takeBack_17 : decode cX5_takeBack 17 = .ok (.iaload, 1) := by decide +kernel
theorem dX5_takeBack_18 : decode cX5_takeBack 18 = .ok (.bipush (-5), 2) := by decide +kernel
theorem dX5_takeBack_20 : decode cX5_takeBack 20 = .ok (.if_icmp .ne 6, 3) := by decide +kernel
theorem dX5_takeBack_23 : decode cX5_takeBack 23 = .ok (.bipush (-5), 2) := by decide +kernel
theorem dX5_takeBack_25 : decode cX5_takeBack 25 = .ok (.ireturn, 1) := by decide +kernel
theorem dX5_takeBack_26 : decode cX5_takeBack 26 = .ok (.aload_n 0, 1) := by decide +kernel
theorem dX5_takeBack_27 : decode cX5_takeBack 27 = .ok (.invokevirtual 67, 3) := by decide +kernel
theorem dX5_takeBack_30 : decode cX5_takeBack 30 = .ok (.aload_n 0, 1) := by decide +kernel
theorem dX5_takeBack_31 : decode cX5_takeBack 31 = .ok (.getfield 7, 3) := by decide +kernel
theorem dX5_takeBack_34 : decode cX5_takeBack 34 = .ok (.bipush 7, 2) := by decide +kernel
theorem dX5_takeBack_36 : decode cX5_takeBack 36 = .ok (.iload_n 1, 1) := by decide +kernel
theorem dX5_takeBack_37 : decode cX5_takeBack 37 = .ok (.iadd, 1) := by decide +kernel
theorem dX5_takeBack_38 : decode cX5_takeBack 38 = .ok (.bipush (-5), 2) := by decide +kernel
theorem dX5_takeBack_40 : decode cX5_takeBack 40 = .ok (.iastore, 1) := by decide +kernel
theorem dX5_takeBack_41 : decode cX5_takeBack 41 = .ok (.aload_n 0, 1) := by decide +kernel
theorem dX5_takeBack_42 : decode cX5_takeBack 42 = .ok (.invokevirtual 151, 3) := by decide +kernel
theorem dX5_takeBack_45 : decode cX5_takeBack 45 = .ok (.ireturn, 1) := by decide +kernel
theorem dX5_greatest_0 : decode cX5_greatest 0 = .ok (.iconst 0, 1) := by decide +kernel
theorem dX5_greatest_1 : decode cX5_greatest 1 = .ok (.istore_n 2, 1) := by decide +kernel
theorem dX5_greatest_2 : decode cX5_greatest 2 = .ok (.iconst 0, 1) := by decide +kernel
theorem dX5_greatest_3 : decode cX5_greatest 3 = .ok (.istore_n 3, 1) := by decide +kernel
theorem dX5_greatest_4 : decode cX5_greatest 4 = .ok (.iload_n 3, 1) := by decide +kernel
theorem dX5_greatest_5 : decode cX5_greatest 5 = .ok (.iload_n 1, 1) := by decide +kernel
theorem dX5_greatest_6 : decode cX5_greatest 6 = .ok (.if_icmp .ge 72, 3) := by decide +kernel
theorem dX5_greatest_9 : decode cX5_greatest 9 = .ok (.iconst 0, 1) := by decide +kernel
theorem dX5_greatest_10 : decode cX5_greatest 10 = .ok (.istore 4, 2) := by decide +kernel
theorem dX5_greatest_12 : decode cX5_greatest 12 = .ok (.iconst 0, 1) := by decide +kernel
theorem dX5_greatest_13 : decode cX5_greatest 13 = .ok (.istore 5, 2) := by decide +kernel
theorem dX5_greatest_15 : decode cX5_greatest 15 = .ok (.iload 5, 2) := by decide +kernel
theorem dX5_greatest_17 : decode cX5_greatest 17 = .ok (.bipush 64, 2) := by decide +kernel
theorem dX5_greatest_19 : decode cX5_greatest 19 = .ok (.if_icmp .ge 35, 3) := by decide +kernel
theorem dX5_greatest_22 : decode cX5_greatest 22 = .ok (.aload_n 0, 1) := by decide +kernel
theorem dX5_greatest_23 : decode cX5_greatest 23 = .ok (.getfield 34, 3) := by decide +kernel
theorem dX5_greatest_26 : decode cX5_greatest 26 = .ok (.iload 5, 2) := by decide +kernel
theorem dX5_greatest_28 : decode cX5_greatest 28 = .ok (.iaload, 1) := by decide +kernel
theorem dX5_greatest_29 : decode cX5_greatest 29 = .ok (.aload_n 0, 1) := by decide +kernel
theorem dX5_greatest_30 : decode cX5_greatest 30 = .ok (.getfield 34, 3) := by decide +kernel
theorem dX5_greatest_33 : decode cX5_greatest 33 = .ok (.iload 4, 2) := by decide +kernel
theorem dX5_greatest_35 : decode cX5_greatest 35 = .ok (.iaload, 1) := by decide +kernel
theorem dX5_greatest_36 : decode cX5_greatest 36 = .ok (.if_icmp .le 8, 3) := by decide +kernel
theorem dX5_greatest_39 : decode cX5_greatest 39 = .ok (.iload 5, 2) := by decide +kernel
theorem dX5_greatest_41 : decode cX5_greatest 41 = .ok (.goto 5, 3) := by decide +kernel
theorem dX5_greatest_44 : decode cX5_greatest 44 = .ok (.iload 4, 2) := by decide +kernel
theorem dX5_greatest_46 : decode cX5_greatest 46 = .ok (.istore 4, 2) := by decide +kernel
theorem dX5_greatest_48 : decode cX5_greatest 48 = .ok (.iinc 5 1, 3) := by decide +kernel
theorem dX5_greatest_51 : decode cX5_greatest 51 = .ok (.goto (-36), 3) := by decide +kernel
theorem dX5_greatest_54 : decode cX5_greatest 54 = .ok (.iload_n 2, 1) := by decide +kernel
theorem dX5_greatest_55 : decode cX5_greatest 55 = .ok (.aload_n 0, 1) := by decide +kernel
theorem dX5_greatest_56 : decode cX5_greatest 56 = .ok (.getfield 34, 3) := by decide +kernel
theorem dX5_greatest_59 : decode cX5_greatest 59 = .ok (.iload 4, 2) := by decide +kernel
theorem dX5_greatest_61 : decode cX5_greatest 61 = .ok (.iaload, 1) := by decide +kernel
theorem dX5_greatest_62 : decode cX5_greatest 62 = .ok (.iadd, 1) := by decide +kernel
theorem dX5_greatest_63 : decode cX5_greatest 63 = .ok (.istore_n 2, 1) := by decide +kernel
theorem dX5_greatest_64 : decode cX5_greatest 64 = .ok (.aload_n 0, 1) := by decide +kernel
theorem dX5_greatest_65 : decode cX5_greatest 65 = .ok (.getfield 34, 3) := by decide +kernel
theorem dX5_greatest_68 : decode cX5_greatest 68 = .ok (.iload 4, 2) := by decide +kernel
theorem dX5_greatest_70 : decode cX5_greatest 70 = .ok (.iconst 0, 1) := by decide +kernel
theorem dX5_greatest_71 : decode cX5_greatest 71 = .ok (.iastore, 1) := by decide +kernel
theorem dX5_greatest_72 : decode cX5_greatest 72 = .ok (.iinc 3 1, 3) := by decide +kernel
theorem dX5_greatest_75 : decode cX5_greatest 75 = .ok (.goto (-71), 3) := by decide +kernel
theorem dX5_greatest_78 : decode cX5_greatest 78 = .ok (.iload_n 2, 1) := by decide +kernel
theorem dX5_greatest_79 : decode cX5_greatest 79 = .ok (.ireturn, 1) := by decide +kernel
theorem dX5_storm_0 : decode cX5_storm 0 = .ok (.aload_n 0, 1) := by decide +kernel
theorem dX5_storm_1 : decode cX5_storm 1 = .ok (.invokevirtual 151, 3) := by decide +kernel
theorem dX5_storm_4 : decode cX5_storm 4 = .ok (.iconst 1, 1) := by decide +kernel
theorem dX5_storm_5 : decode cX5_storm 5 = .ok (.if_icmp .le 6, 3) := by decide +kernel
theorem dX5_storm_8 : decode cX5_storm 8 = .ok (.bipush (-4), 2) := by decide +kernel
theorem dX5_storm_10 : decode cX5_storm 10 = .ok (.ireturn, 1) := by decide +kernel
theorem dX5_storm_11 : decode cX5_storm 11 = .ok (.aload_n 0, 1) := by decide +kernel
theorem dX5_storm_12 : decode cX5_storm 12 = .ok (.invokevirtual 67, 3) := by decide +kernel
theorem dX5_storm_15 : decode cX5_storm 15 = .ok (.iconst 0, 1) := by decide +kernel
theorem dX5_storm_16 : decode cX5_storm 16 = .ok (.istore_n 1, 1) := by decide +kernel
theorem dX5_storm_17 : decode cX5_storm 17 = .ok (.iconst 0, 1) := by decide +kernel
theorem dX5_storm_18 : decode cX5_storm 18 = .ok (.istore_n 2, 1) := by decide +kernel
theorem dX5_storm_19 : decode cX5_storm 19 = .ok (.iconst 0, 1) := by decide +kernel
theorem dX5_storm_20 : decode cX5_storm 20 = .ok (.istore_n 3, 1) := by decide +kernel
theorem dX5_storm_21 : decode cX5_storm 21 = .ok (.iload_n 3, 1) := by decide +kernel
theorem dX5_storm_22 : decode cX5_storm 22 = .ok (.bipush 64, 2) := by decide +kernel
theorem dX5_storm_24 : decode cX5_storm 24 = .ok (.if_icmp .ge 79, 3) := by decide +kernel
theorem dX5_storm_27 : decode cX5_storm 27 = .ok (.aload_n 0, 1) := by decide +kernel
theorem dX5_storm_28 : decode cX5_storm 28 = .ok (.iload_n 3, 1) := by decide +kernel
theorem dX5_storm_29 : decode cX5_storm 29 = .ok (.invokevirtual 85, 3) := by decide +kernel
theorem dX5_storm_32 : decode cX5_storm 32 = .ok (.ifCond .le 7, 3) := by decide +kernel
theorem dX5_storm_35 : decode cX5_storm 35 = .ok (.iconst 1, 1) := by decide +kernel
theorem dX5_storm_36 : decode cX5_storm 36 = .ok (.goto 4, 3) := by decide +kernel
theorem dX5_storm_39 : decode cX5_storm 39 = .ok (.iconst 0, 1) := by decide +kernel
theorem dX5_storm_40 : decode cX5_storm 40 = .ok (.istore 4, 2) := by decide +kernel
theorem dX5_storm_42 : decode cX5_storm 42 = .ok (.aload_n 0, 1) := by decide +kernel
theorem dX5_storm_43 : decode cX5_storm 43 = .ok (.getfield 34, 3) := by decide +kernel
theorem dX5_storm_46 : decode cX5_storm 46 = .ok (.iload_n 3, 1) := by decide +kernel
theorem dX5_storm_47 : decode cX5_storm 47 = .ok (.iload 4, 2) := by decide +kernel
theorem dX5_storm_49 : decode cX5_storm 49 = .ok (.ifCond .eq 15, 3) := by decide +kernel
theorem dX5_storm_52 : decode cX5_storm 52 = .ok (.aload_n 0, 1) := by decide +kernel
theorem dX5_storm_53 : decode cX5_storm 53 = .ok (.getfield 7, 3) := by decide +kernel
theorem dX5_storm_56 : decode cX5_storm 56 = .ok (.bipush 28, 2) := by decide +kernel
theorem dX5_storm_58 : decode cX5_storm 58 = .ok (.iload_n 3, 1) := by decide +kernel
theorem dX5_storm_59 : decode cX5_storm 59 = .ok (.iadd, 1) := by decide +kernel
theorem dX5_storm_60 : decode cX5_storm 60 = .ok (.iaload, 1) := by decide +kernel
theorem dX5_storm_61 : decode cX5_storm 61 = .ok (.goto 4, 3) := by decide +kernel
theorem dX5_storm_64 : decode cX5_storm 64 = .ok (.iconst 0, 1) := by decide +kernel
theorem dX5_storm_65 : decode cX5_storm 65 = .ok (.iastore, 1) := by decide +kernel
theorem dX5_storm_66 : decode cX5_storm 66 = .ok (.iload_n 1, 1) := by decide +kernel
theorem dX5_storm_67 : decode cX5_storm 67 = .ok (.aload_n 0, 1) := by decide +kernel
theorem dX5_storm_68 : decode cX5_storm 68 = .ok (.getfield 34, 3) := by decide +kernel
theorem dX5_storm_71 : decode cX5_storm 71 = .ok (.iload_n 3, 1) := by decide +kernel
theorem dX5_storm_72 : decode cX5_storm 72 = .ok (.iaload, 1) := by decide +kernel
theorem dX5_storm_73 : decode cX5_storm 73 = .ok (.iadd, 1) := by decide +kernel
theorem dX5_storm_74 : decode cX5_storm 74 = .ok (.istore_n 1, 1) := by decide +kernel
theorem dX5_storm_75 : decode cX5_storm 75 = .ok (.iload_n 2, 1) := by decide +kernel
theorem dX5_storm_76 : decode cX5_storm 76 = .ok (.iload 4, 2) := by decide +kernel
theorem dX5_storm_78 : decode cX5_storm 78 = .ok (.ifCond .eq 7, 3) := by decide +kernel
theorem dX5_storm_81 : decode cX5_storm 81 = .ok (.iconst 0, 1) := by decide +kernel
theorem dX5_storm_82 : decode cX5_storm 82 = .ok (.goto 13, 3) := by decide +kernel
theorem dX5_storm_85 : decode cX5_storm 85 = .ok (.aload_n 0, 1) := by decide +kernel
theorem dX5_storm_86 : decode cX5_storm 86 = .ok (.getfield 7, 3) := by decide +kernel
theorem dX5_storm_89 : decode cX5_storm 89 = .ok (.sipush 156, 3) := by decide +kernel
theorem dX5_storm_92 : decode cX5_storm 92 = .ok (.iload_n 3, 1) := by decide +kernel
theorem dX5_storm_93 : decode cX5_storm 93 = .ok (.iadd, 1) := by decide +kernel
theorem dX5_storm_94 : decode cX5_storm 94 = .ok (.iaload, 1) := by decide +kernel
theorem dX5_storm_95 : decode cX5_storm 95 = .ok (.iadd, 1) := by decide +kernel
theorem dX5_storm_96 : decode cX5_storm 96 = .ok (.istore_n 2, 1) := by decide +kernel
theorem dX5_storm_97 : decode cX5_storm 97 = .ok (.iinc 3 1, 3) := by decide +kernel
theorem dX5_storm_100 : decode cX5_storm 100 = .ok (.goto (-79), 3) := by decide +kernel
theorem dX5_storm_103 : decode cX5_storm 103 = .ok (.iconst 0, 1) := by decide +kernel
theorem dX5_storm_104 : decode cX5_storm 104 = .ok (.istore_n 3, 1) := by decide +kernel
theorem dX5_storm_105 : decode cX5_storm 105 = .ok (.iload_n 3, 1) := by decide +kernel
theorem dX5_storm_106 : decode cX5_storm 106 = .ok (.bipush 64, 2) := by decide +kernel
theorem dX5_storm_108 : decode cX5_storm 108 = .ok (.if_icmp .ge 38, 3) := by decide +kernel
theorem dX5_storm_111 : decode cX5_storm 111 = .ok (.aload_n 0, 1) := by decide +kernel
theorem dX5_storm_112 : decode cX5_storm 112 = .ok (.getfield 7, 3) := by decide +kernel
theorem dX5_storm_115 : decode cX5_storm 115 = .ok (.bipush 28, 2) := by decide +kernel
theorem dX5_storm_117 : decode cX5_storm 117 = .ok (.iload_n 3, 1) := by decide +kernel
theorem dX5_storm_118 : decode cX5_storm 118 = .ok (.iadd, 1) := by decide +kernel
theorem dX5_storm_119 : decode cX5_storm 119 = .ok (.dup2, 1) := by decide +kernel
theorem dX5_storm_120 : decode cX5_storm 120 = .ok (.iaload, 1) := by decide +kernel
theorem dX5_storm_121 : decode cX5_storm 121 = .ok (.aload_n 0, 1) := by decide +kernel
theorem dX5_storm_122 : decode cX5_storm 122 = .ok (.getfield 34, 3) := by decide +kernel
theorem dX5_storm_125 : decode cX5_storm 125 = .ok (.iload_n 3, 1) := by decide +kernel
theorem dX5_storm_126 : decode cX5_storm 126 = .ok (.iaload, 1) := by decide +kernel
theorem dX5_storm_127 : decode cX5_storm 127 = .ok (.isub, 1) := by decide +kernel
theorem dX5_storm_128 : decode cX5_storm 128 = .ok (.iastore, 1) := by decide +kernel
theorem dX5_storm_129 : decode cX5_storm 129 = .ok (.aload_n 0, 1) := by decide +kernel
theorem dX5_storm_130 : decode cX5_storm 130 = .ok (.getfield 7, 3) := by decide +kernel
theorem dX5_storm_133 : decode cX5_storm 133 = .ok (.sipush 156, 3) := by decide +kernel
theorem dX5_storm_136 : decode cX5_storm 136 = .ok (.iload_n 3, 1) := by decide +kernel
theorem dX5_storm_137 : decode cX5_storm 137 = .ok (.iadd, 1) := by decide +kernel
theorem dX5_storm_138 : decode cX5_storm 138 = .ok (.iconst 0, 1) := by decide +kernel
theorem dX5_storm_139 : decode cX5_storm 139 = .ok (.iastore, 1) := by decide +kernel
theorem dX5_storm_140 : decode cX5_storm 140 = .ok (.iinc 3 1, 3) := by decide +kernel
theorem dX5_storm_143 : decode cX5_storm 143 = .ok (.goto (-38), 3) := by decide +kernel
theorem dX5_storm_146 : decode cX5_storm 146 = .ok (.iconst 0, 1) := by decide +kernel
theorem dX5_storm_147 : decode cX5_storm 147 = .ok (.istore_n 3, 1) := by decide +kernel
theorem dX5_storm_148 : decode cX5_storm 148 = .ok (.iload_n 3, 1) := by decide +kernel
theorem dX5_storm_149 : decode cX5_storm 149 = .ok (.bipush 8, 2) := by decide +kernel
theorem dX5_storm_151 : decode cX5_storm 151 = .ok (.if_icmp .ge 20, 3) := by decide +kernel
theorem dX5_storm_154 : decode cX5_storm 154 = .ok (.aload_n 0, 1) := by decide +kernel
theorem dX5_storm_155 : decode cX5_storm 155 = .ok (.getfield 7, 3) := by decide +kernel
theorem dX5_storm_158 : decode cX5_storm 158 = .ok (.bipush 7, 2) := by decide +kernel
theorem dX5_storm_160 : decode cX5_storm 160 = .ok (.iload_n 3, 1) := by decide +kernel
theorem dX5_storm_161 : decode cX5_storm 161 = .ok (.iadd, 1) := by decide +kernel
theorem dX5_storm_162 : decode cX5_storm 162 = .ok (.bipush (-5), 2) := by decide +kernel
theorem dX5_storm_164 : decode cX5_storm 164 = .ok (.iastore, 1) := by decide +kernel
theorem dX5_storm_165 : decode cX5_storm 165 = .ok (.iinc 3 1, 3) := by decide +kernel
theorem dX5_storm_168 : decode cX5_storm 168 = .ok (.goto (-20), 3) := by decide +kernel
theorem dX5_storm_171 : decode cX5_storm 171 = .ok (.aload_n 0, 1) := by decide +kernel
theorem dX5_storm_172 : decode cX5_storm 172 = .ok (.getfield 7, 3) := by decide +kernel
theorem dX5_storm_175 : decode cX5_storm 175 = .ok (.iconst 4, 1) := by decide +kernel
theorem dX5_storm_176 : decode cX5_storm 176 = .ok (.dup2, 1) := by decide +kernel
theorem dX5_storm_177 : decode cX5_storm 177 = .ok (.iaload, 1) := by decide +kernel
theorem dX5_storm_178 : decode cX5_storm 178 = .ok (.iload_n 1, 1) := by decide +kernel
theorem dX5_storm_179 : decode cX5_storm 179 = .ok (.iadd, 1) := by decide +kernel
theorem dX5_storm_180 : decode cX5_storm 180 = .ok (.iastore, 1) := by decide +kernel
theorem dX5_storm_181 : decode cX5_storm 181 = .ok (.aload_n 0, 1) := by decide +kernel
theorem dX5_storm_182 : decode cX5_storm 182 = .ok (.getfield 7, 3) := by decide +kernel
theorem dX5_storm_185 : decode cX5_storm 185 = .ok (.iconst 5, 1) := by decide +kernel
theorem dX5_storm_186 : decode cX5_storm 186 = .ok (.dup2, 1) := by decide +kernel
theorem dX5_storm_187 : decode cX5_storm 187 = .ok (.iaload, 1) := by decide +kernel
theorem dX5_storm_188 : decode cX5_storm 188 = .ok (.aload_n 0, 1) := by decide +kernel
theorem dX5_storm_189 : decode cX5_storm 189 = .ok (.iload_n 2, 1) := by decide +kernel
theorem dX5_storm_190 : decode cX5_storm 190 = .ok (.invokevirtual 154, 3) := by decide +kernel
theorem dX5_storm_193 : decode cX5_storm 193 = .ok (.iadd, 1) := by decide +kernel
theorem dX5_storm_194 : decode cX5_storm 194 = .ok (.iastore, 1) := by decide +kernel
theorem dX5_storm_195 : decode cX5_storm 195 = .ok (.aload_n 0, 1) := by decide +kernel
theorem dX5_storm_196 : decode cX5_storm 196 = .ok (.getfield 7, 3) := by decide +kernel
theorem dX5_storm_199 : decode cX5_storm 199 = .ok (.bipush 6, 2) := by decide +kernel
theorem dX5_storm_201 : decode cX5_storm 201 = .ok (.dup2, 1) := by decide +kernel
theorem dX5_storm_202 : decode cX5_storm 202 = .ok (.iaload, 1) := by decide +kernel
theorem dX5_storm_203 : decode cX5_storm 203 = .ok (.iconst 1, 1) := by decide +kernel
theorem dX5_storm_204 : decode cX5_storm 204 = .ok (.iadd, 1) := by decide +kernel
theorem dX5_storm_205 : decode cX5_storm 205 = .ok (.iastore, 1) := by decide +kernel
theorem dX5_storm_206 : decode cX5_storm 206 = .ok (.iload_n 1, 1) := by decide +kernel
theorem dX5_storm_207 : decode cX5_storm 207 = .ok (.ireturn, 1) := by decide +kernel
theorem dX5_type_0 : decode cX5_type 0 = .ok (.aload_n 0, 1) := by decide +kernel
theorem dX5_type_1 : decode cX5_type 1 = .ok (.getfield 157, 3) := by decide +kernel
theorem dX5_type_4 : decode cX5_type 4 = .ok (.bipush 60, 2) := by decide +kernel
theorem dX5_type_6 : decode cX5_type 6 = .ok (.if_icmp .ne 6, 3) := by decide +kernel
theorem dX5_type_9 : decode cX5_type 9 = .ok (.bipush (-3), 2) := by decide +kernel
theorem dX5_type_11 : decode cX5_type 11 = .ok (.ireturn, 1) := by decide +kernel
theorem dX5_type_12 : decode cX5_type 12 = .ok (.aload_n 0, 1) := by decide +kernel
theorem dX5_type_13 : decode cX5_type 13 = .ok (.getfield 22, 3) := by decide +kernel
theorem dX5_type_16 : decode cX5_type 16 = .ok (.aload_n 0, 1) := by decide +kernel
theorem dX5_type_17 : decode cX5_type 17 = .ok (.getfield 157, 3) := by decide +kernel
theorem dX5_type_20 : decode cX5_type 20 = .ok (.iload_n 1, 1) := by decide +kernel
theorem dX5_type_21 : decode cX5_type 21 = .ok (.iastore, 1) := by decide +kernel
theorem dX5_type_22 : decode cX5_type 22 = .ok (.aload_n 0, 1) := by decide +kernel
theorem dX5_type_23 : decode cX5_type 23 = .ok (.dup, 1) := by decide +kernel
theorem dX5_type_24 : decode cX5_type 24 = .ok (.getfield 157, 3) := by decide +kernel
theorem dX5_type_27 : decode cX5_type 27 = .ok (.iconst 1, 1) := by decide +kernel
theorem dX5_type_28 : decode cX5_type 28 = .ok (.iadd, 1) := by decide +kernel
theorem dX5_type_29 : decode cX5_type 29 = .ok (.putfield 157, 3) := by decide +kernel
theorem dX5_type_32 : decode cX5_type 32 = .ok (.aload_n 0, 1) := by decide +kernel
theorem dX5_type_33 : decode cX5_type 33 = .ok (.getfield 157, 3) := by decide +kernel
theorem dX5_type_36 : decode cX5_type 36 = .ok (.ireturn, 1) := by decide +kernel
theorem dX5_clearText_0 : decode cX5_clearText 0 = .ok (.aload_n 0, 1) := by decide +kernel
theorem dX5_clearText_1 : decode cX5_clearText 1 = .ok (.getfield 157, 3) := by decide +kernel
theorem dX5_clearText_4 : decode cX5_clearText 4 = .ok (.istore_n 1, 1) := by decide +kernel
theorem dX5_clearText_5 : decode cX5_clearText 5 = .ok (.aload_n 0, 1) := by decide +kernel
theorem dX5_clearText_6 : decode cX5_clearText 6 = .ok (.iconst 0, 1) := by decide +kernel
theorem dX5_clearText_7 : decode cX5_clearText 7 = .ok (.putfield 157, 3) := by decide +kernel
theorem dX5_clearText_10 : decode cX5_clearText 10 = .ok (.iload_n 1, 1) := by decide +kernel
theorem dX5_clearText_11 : decode cX5_clearText 11 = .ok (.ireturn, 1) := by decide +kernel
theorem dX5_sees_0 : decode cX5_sees 0 = .ok (.aload_n 0, 1) := by decide +kernel
theorem dX5_sees_1 : decode cX5_sees 1 = .ok (.getfield 160, 3) := by decide +kernel
theorem dX5_sees_4 : decode cX5_sees 4 = .ok (.aload_n 0, 1) := by decide +kernel
theorem dX5_sees_5 : decode cX5_sees 5 = .ok (.getfield 157, 3) := by decide +kernel
theorem dX5_sees_8 : decode cX5_sees 8 = .ok (.if_icmp .ge 24, 3) := by decide +kernel
theorem dX5_sees_11 : decode cX5_sees 11 = .ok (.aload_n 0, 1) := by decide +kernel
theorem dX5_sees_12 : decode cX5_sees 12 = .ok (.getfield 22, 3) := by decide +kernel
theorem dX5_sees_15 : decode cX5_sees 15 = .ok (.aload_n 0, 1) := by decide +kernel
theorem dX5_sees_16 : decode cX5_sees 16 = .ok (.getfield 160, 3) := by decide +kernel
theorem dX5_sees_19 : decode cX5_sees 19 = .ok (.iaload, 1) := by decide +kernel
theorem dX5_sees_20 : decode cX5_sees 20 = .ok (.iload_n 1, 1) := by decide +kernel
theorem dX5_sees_21 : decode cX5_sees 21 = .ok (.iload_n 2, 1) := by decide +kernel
theorem dX5_sees_22 : decode cX5_sees 22 = .ok (.invokestatic 47, 3) := by decide +kernel
theorem dX5_sees_25 : decode cX5_sees 25 = .ok (.ifCond .eq 7, 3) := by decide +kernel
theorem dX5_sees_28 : decode cX5_sees 28 = .ok (.iconst 1, 1) := by decide +kernel
theorem dX5_sees_29 : decode cX5_sees 29 = .ok (.goto 4, 3) := by decide +kernel
theorem dX5_sees_32 : decode cX5_sees 32 = .ok (.iconst 0, 1) := by decide +kernel
theorem dX5_sees_33 : decode cX5_sees 33 = .ok (.ireturn, 1) := by decide +kernel
theorem dX5_takes_0 : decode cX5_takes 0 = .ok (.aload_n 0, 1) := by decide +kernel
theorem dX5_takes_1 : decode cX5_takes 1 = .ok (.iload_n 1, 1) := by decide +kernel
theorem dX5_takes_2 : decode cX5_takes 2 = .ok (.iload_n 1, 1) := by decide +kernel
theorem dX5_takes_3 : decode cX5_takes 3 = .ok (.invokevirtual 163, 3) := by decide +kernel
theorem dX5_takes_6 : decode cX5_takes 6 = .ok (.istore_n 2, 1) := by decide +kernel
theorem dX5_takes_7 : decode cX5_takes 7 = .ok (.aload_n 0, 1) := by decide +kernel
theorem dX5_takes_8 : decode cX5_takes 8 = .ok (.dup, 1) := by decide +kernel
theorem dX5_takes_9 : decode cX5_takes 9 = .ok (.getfield 160, 3) := by decide +kernel
theorem dX5_takes_12 : decode cX5_takes 12 = .ok (.iload_n 2, 1) := by decide +kernel
theorem dX5_takes_13 : decode cX5_takes 13 = .ok (.ifCond .eq 7, 3) := by decide +kernel
theorem dX5_takes_16 : decode cX5_takes 16 = .ok (.iconst 1, 1) := by decide +kernel
theorem dX5_takes_17 : decode cX5_takes 17 = .ok (.goto 4, 3) := by decide +kernel
theorem dX5_takes_20 : decode cX5_takes 20 = .ok (.iconst 0, 1) := by decide +kernel
theorem dX5_takes_21 : decode cX5_takes 21 = .ok (.iadd, 1) := by decide +kernel
theorem dX5_takes_22 : decode cX5_takes 22 = .ok (.putfield 160, 3) := by decide +kernel
theorem dX5_takes_25 : decode cX5_takes 25 = .ok (.iload_n 2, 1) := by decide +kernel
theorem dX5_takes_26 : decode cX5_takes 26 = .ok (.ireturn, 1) := by decide +kernel
theorem dX5_number_0 : decode cX5_number 0 = .ok (.aload_n 0, 1) := by decide +kernel
theorem dX5_number_1 : decode cX5_number 1 = .ok (.bipush 48, 2) := by decide +kernel
theorem dX5_number_3 : decode cX5_number 3 = .ok (.iload_n 1, 1) := by decide +kernel
theorem dX5_number_4 : decode cX5_number 4 = .ok (.iadd, 1) := by decide +kernel
theorem dX5_number_5 : decode cX5_number 5 = .ok (.iload_n 2, 1) := by decide +kernel
theorem dX5_number_6 : decode cX5_number 6 = .ok (.bipush 9, 2) := by decide +kernel
theorem dX5_number_8 : decode cX5_number 8 = .ok (.if_icmp .ge 10, 3) := by decide +kernel
theorem dX5_number_11 : decode cX5_number 11 = .ok (.bipush 48, 2) := by decide +kernel
theorem dX5_number_13 : decode cX5_number 13 = .ok (.iload_n 2, 1) := by decide +kernel
theorem dX5_number_14 : decode cX5_number 14 = .ok (.iadd, 1) := by decide +kernel
theorem dX5_number_15 : decode cX5_number 15 = .ok (.goto 5, 3) := by decide +kernel
theorem dX5_number_18 : decode cX5_number 18 = .ok (.bipush 57, 2) := by decide +kernel
theorem dX5_number_20 : decode cX5_number 20 = .ok (.invokevirtual 163, 3) := by decide +kernel
theorem dX5_number_23 : decode cX5_number 23 = .ok (.ifCond .ne 6, 3) := by decide +kernel
theorem dX5_number_26 : decode cX5_number 26 = .ok (.bipush (-5), 2) := by decide +kernel
theorem dX5_number_28 : decode cX5_number 28 = .ok (.ireturn, 1) := by decide +kernel
theorem dX5_number_29 : decode cX5_number 29 = .ok (.aload_n 0, 1) := by decide +kernel
theorem dX5_number_30 : decode cX5_number 30 = .ok (.getfield 22, 3) := by decide +kernel
theorem dX5_number_33 : decode cX5_number 33 = .ok (.aload_n 0, 1) := by decide +kernel
theorem dX5_number_34 : decode cX5_number 34 = .ok (.getfield 160, 3) := by decide +kernel
theorem dX5_number_37 : decode cX5_number 37 = .ok (.iaload, 1) := by decide +kernel
theorem dX5_number_38 : decode cX5_number 38 = .ok (.bipush 48, 2) := by decide +kernel
theorem dX5_number_40 : decode cX5_number 40 = .ok (.isub, 1) := by decide +kernel
theorem dX5_number_41 : decode cX5_number 41 = .ok (.istore_n 3, 1) := by decide +kernel
theorem dX5_number_42 : decode cX5_number 42 = .ok (.aload_n 0, 1) := by decide +kernel
theorem dX5_number_43 : decode cX5_number 43 = .ok (.dup, 1) := by decide +kernel
theorem dX5_number_44 : decode cX5_number 44 = .ok (.getfield 160, 3) := by decide +kernel
theorem dX5_number_47 : decode cX5_number 47 = .ok (.iconst 1, 1) := by decide +kernel
theorem dX5_number_48 : decode cX5_number 48 = .ok (.iadd, 1) := by decide +kernel
theorem dX5_number_49 : decode cX5_number 49 = .ok (.putfield 160, 3) := by decide +kernel
theorem dX5_number_52 : decode cX5_number 52 = .ok (.iload_n 3, 1) := by decide +kernel
theorem dX5_number_53 : decode cX5_number 53 = .ok (.ifCond .le 66, 3) := by decide +kernel
theorem dX5_number_56 : decode cX5_number 56 = .ok (.aload_n 0, 1) := by decide +kernel
theorem dX5_number_57 : decode cX5_number 57 = .ok (.bipush 48, 2) := by decide +kernel
theorem dX5_number_59 : decode cX5_number 59 = .ok (.bipush 57, 2) := by decide +kernel
theorem dX5_number_61 : decode cX5_number 61 = .ok (.invokevirtual 163, 3) := by decide +kernel
theorem dX5_number_64 : decode cX5_number 64 = .ok (.ifCond .eq 55, 3) := by decide +kernel
theorem dX5_number_67 : decode cX5_number 67 = .ok (.bipush 10, 2) := by decide +kernel
theorem dX5_number_69 : decode cX5_number 69 = .ok (.iload_n 3, 1) := by decide +kernel
theorem dX5_number_70 : decode cX5_number 70 = .ok (.imul, 1) := by decide +kernel
theorem dX5_number_71 : decode cX5_number 71 = .ok (.aload_n 0, 1) := by decide +kernel
theorem dX5_number_72 : decode cX5_number 72 = .ok (.getfield 22, 3) := by decide +kernel
theorem dX5_number_75 : decode cX5_number 75 = .ok (.aload_n 0, 1) := by decide +kernel
theorem dX5_number_76 : decode cX5_number 76 = .ok (.getfield 160, 3) := by decide +kernel
theorem dX5_number_79 : decode cX5_number 79 = .ok (.iaload, 1) := by decide +kernel
theorem dX5_number_80 : decode cX5_number 80 = .ok (.iadd, 1) := by decide +kernel
theorem dX5_number_81 : decode cX5_number 81 = .ok (.bipush 48, 2) := by decide +kernel
theorem dX5_number_83 : decode cX5_number 83 = .ok (.isub, 1) := by decide +kernel
theorem dX5_number_84 : decode cX5_number 84 = .ok (.iload_n 2, 1) := by decide +kernel
theorem dX5_number_85 : decode cX5_number 85 = .ok (.if_icmp .gt 34, 3) := by decide +kernel
theorem dX5_number_88 : decode cX5_number 88 = .ok (.bipush 10, 2) := by decide +kernel
theorem dX5_number_90 : decode cX5_number 90 = .ok (.iload_n 3, 1) := by decide +kernel
theorem dX5_number_91 : decode cX5_number 91 = .ok (.imul, 1) := by decide +kernel
theorem dX5_number_92 : decode cX5_number 92 = .ok (.aload_n 0, 1) := by decide +kernel
theorem dX5_number_93 : decode cX5_number 93 = .ok (.getfield 22, 3) := by decide +kernel
theorem dX5_number_96 : decode cX5_number 96 = .ok (.aload_n 0, 1) := by decide +kernel
theorem dX5_number_97 : decode cX5_number 97 = .ok (.getfield 160, 3) := by decide +kernel
theorem dX5_number_100 : decode cX5_number 100 = .ok (.iaload, 1) := by decide +kernel
theorem dX5_number_101 : decode cX5_number 101 = .ok (.iadd, 1) := by decide +kernel
theorem dX5_number_102 : decode cX5_number 102 = .ok (.bipush 48, 2) := by decide +kernel
theorem dX5_number_104 : decode cX5_number 104 = .ok (.isub, 1) := by decide +kernel
theorem dX5_number_105 : decode cX5_number 105 = .ok (.istore_n 3, 1) := by decide +kernel
theorem dX5_number_106 : decode cX5_number 106 = .ok (.aload_n 0, 1) := by decide +kernel
theorem dX5_number_107 : decode cX5_number 107 = .ok (.dup, 1) := by decide +kernel
theorem dX5_number_108 : decode cX5_number 108 = .ok (.getfield 160, 3) := by decide +kernel
theorem dX5_number_111 : decode cX5_number 111 = .ok (.iconst 1, 1) := by decide +kernel
theorem dX5_number_112 : decode cX5_number 112 = .ok (.iadd, 1) := by decide +kernel
theorem dX5_number_113 : decode cX5_number 113 = .ok (.putfield 160, 3) := by decide +kernel
theorem dX5_number_116 : decode cX5_number 116 = .ok (.goto (-64), 3) := by decide +kernel
theorem dX5_number_119 : decode cX5_number 119 = .ok (.iload_n 3, 1) := by decide +kernel
theorem dX5_number_120 : decode cX5_number 120 = .ok (.ireturn, 1) := by decide +kernel
theorem dX5_second_0 : decode cX5_second 0 = .ok (.iload_n 1, 1) := by decide +kernel
theorem dX5_second_1 : decode cX5_second 1 = .ok (.bipush (-5), 2) := by decide +kernel
theorem dX5_second_3 : decode cX5_second 3 = .ok (.if_icmp .eq 20, 3) := by decide +kernel
theorem dX5_second_6 : decode cX5_second 6 = .ok (.aload_n 0, 1) := by decide +kernel
theorem dX5_second_7 : decode cX5_second 7 = .ok (.iload_n 2, 1) := by decide +kernel
theorem dX5_second_8 : decode cX5_second 8 = .ok (.invokevirtual 166, 3) := by decide +kernel
theorem dX5_second_11 : decode cX5_second 11 = .ok (.ifCond .eq 12, 3) := by decide +kernel
theorem dX5_second_14 : decode cX5_second 14 = .ok (.aload_n 0, 1) := by decide +kernel
theorem dX5_second_15 : decode cX5_second 15 = .ok (.iconst 0, 1) := by decide +kernel
theorem dX5_second_16 : decode cX5_second 16 = .ok (.iload_n 3, 1) := by decide +kernel
theorem dX5_second_17 : decode cX5_second 17 = .ok (.invokevirtual 169, 3) := by decide +kernel
theorem dX5_second_20 : decode cX5_second 20 = .ok (.goto 5, 3) := by decide +kernel
theorem dX5_second_23 : decode cX5_second 23 = .ok (.bipush (-5), 2) := by decide +kernel
theorem dX5_second_25 : decode cX5_second 25 = .ok (.ireturn, 1) := by decide +kernel
theorem dX5_readThing_0 : decode cX5_readThing 0 = .ok (.aload_n 0, 1) := by decide +kernel
theorem dX5_readThing_1 : decode cX5_readThing 1 = .ok (.getfield 160, 3) := by decide +kernel
theorem dX5_readThing_4 : decode cX5_readThing 4 = .ok (.aload_n 0, 1) := by decide +kernel
theorem dX5_readThing_5 : decode cX5_readThing 5 = .ok (.getfield 157, 3) := by decide +kernel
theorem dX5_readThing_8 : decode cX5_readThing 8 = .ok (.if_icmp .ge 15, 3) := by decide +kernel
theorem dX5_readThing_11 : decode cX5_readThing 11 = .ok (.aload_n 0, 1) := by decide +kernel
theorem dX5_readThing_12 : decode cX5_readThing 12 = .ok (.getfield 22, 3) := by decide +kernel
theorem dX5_readThing_15 : decode cX5_readThing 15 = .ok (.aload_n 0, 1) := by decide +kernel
theorem dX5_readThing_16 : decode cX5_readThing 16 = .ok (.getfield 160, 3) := by decide +kernel
theorem dX5_readThing_19 : decode cX5_readThing 19 = .ok (.iaload, 1) := by decide +kernel
theorem dX5_readThing_20 : decode cX5_readThing 20 = .ok (.goto 4, 3) := by decide +kernel
theorem dX5_readThing_23 : decode cX5_readThing 23 = .ok (.iconst 0, 1) := by decide +kernel
theorem dX5_readThing_24 : decode cX5_readThing 24 = .ok (.istore_n 1, 1) := by decide +kernel
theorem dX5_readThing_25 : decode cX5_readThing 25 = .ok (.iload_n 1, 1) := by decide +kernel
theorem dX5_readThing_26 : decode cX5_readThing 26 = .ok (.bipush 116, 2) := by decide +kernel
theorem dX5_readThing_28 : decode cX5_readThing 28 = .ok (.if_icmp .eq 35, 3) := by decide +kernel
theorem dX5_readThing_31 : decode cX5_readThing 31 = .ok (.iload_n 1, 1) := by decide +kernel
theorem dX5_readThing_32 : decode cX5_readThing 32 = .ok (.bipush 114, 2) := by decide +kernel
theorem dX5_readThing_34 : decode cX5_readThing 34 = .ok (.if_icmp .eq 29, 3) := by decide +kernel
theorem dX5_readThing_37 : decode cX5_readThing 37 = .ok (.iload_n 1, 1) := by decide +kernel
theorem dX5_readThing_38 : decode cX5_readThing 38 = .ok (.bipush 104, 2) := by decide +kernel
theorem dX5_readThing_40 : decode cX5_readThing 40 = .ok (.if_icmp .eq 23, 3) := by decide +kernel
theorem dX5_readThing_43 : decode cX5_readThing 43 = .ok (.iload_n 1, 1) := by decide +kernel
theorem dX5_readThing_44 : decode cX5_readThing 44 = .ok (.bipush 103, 2) := by decide +kernel
theorem dX5_readThing_46 : decode cX5_readThing 46 = .ok (.if_icmp .eq 17, 3) := by decide +kernel
theorem dX5_readThing_49 : decode cX5_readThing 49 = .ok (.iload_n 1, 1) := by decide +kernel
theorem dX5_readThing_50 : decode cX5_readThing 50 = .ok (.bipush 102, 2) := by decide +kernel
theorem dX5_readThing_52 : decode cX5_readThing 52 = .ok (.if_icmp .eq 11, 3) := by decide +kernel
theorem dX5_readThing_55 : decode cX5_readThing 55 = .ok (.iload_n 1, 1) := by decide +kernel
theorem dX5_readThing_56 : decode cX5_readThing 56 = .ok (.bipush 46, 2) := by decide +kernel
theorem dX5_readThing_58 : decode cX5_readThing 58 = .ok (.if_icmp .eq 5, 3) := by decide +kernel
theorem dX5_readThing_61 : decode cX5_readThing 61 = .ok (.iconst 0, 1) := by decide +kernel
theorem dX5_readThing_62 : decode cX5_readThing 62 = .ok (.ireturn, 1) := by decide +kernel
theorem dX5_readThing_63 : decode cX5_readThing 63 = .ok (.aload_n 0, 1) := by decide +kernel
theorem dX5_readThing_64 : decode cX5_readThing 64 = .ok (.dup, 1) := by decide +kernel
theorem dX5_readThing_65 : decode cX5_readThing 65 = .ok (.getfield 160, 3) := by decide +kernel
theorem dX5_readThing_68 : decode cX5_readThing 68 = .ok (.iconst 1, 1) := by decide +kernel
theorem dX5_readThing_69 : decode cX5_readThing 69 = .ok (.iadd, 1) := by decide +kernel
theorem dX5_readThing_70 : decode cX5_readThing 70 = .ok (.putfield 160, 3) := by decide +kernel
theorem dX5_readThing_73 : decode cX5_readThing 73 = .ok (.iconst 0, 1) := by decide +kernel
theorem dX5_readThing_74 : decode cX5_readThing 74 = .ok (.istore_n 3, 1) := by decide +kernel
theorem dX5_readThing_75 : decode cX5_readThing 75 = .ok (.iload_n 1, 1) := by decide +kernel
theorem dX5_readThing_76 : decode cX5_readThing 76 = .ok (.tableswitch 159 102 116 #[149, 129, 108, 159, 159, 159, 159, 159, 159, 159, 159, 159, 97, 159, 76], 76) := by decide +kernel
theorem dX5_readThing_152 : decode cX5_readThing 152 = .ok (.aload_n 0, 1) := by decide +kernel
theorem dX5_readThing_153 : decode cX5_readThing 153 = .ok (.iconst 0, 1) := by decide +kernel
theorem dX5_readThing_154 : decode cX5_readThing 154 = .ok (.bipush 63, 2) := by decide +kernel
theorem dX5_readThing_156 : decode cX5_readThing 156 = .ok (.invokevirtual 169, 3) := by decide +kernel
theorem dX5_readThing_159 : decode cX5_readThing 159 = .ok (.istore_n 2, 1) := by decide +kernel
theorem dX5_readThing_160 : decode cX5_readThing 160 = .ok (.aload_n 0, 1) := by decide +kernel
theorem dX5_readThing_161 : decode cX5_readThing 161 = .ok (.iload_n 2, 1) := by decide +kernel
theorem dX5_readThing_162 : decode cX5_readThing 162 = .ok (.bipush 61, 2) := by decide +kernel
theorem dX5_readThing_164 : decode cX5_readThing 164 = .ok (.bipush 99, 2) := by decide +kernel
theorem dX5_readThing_166 : decode cX5_readThing 166 = .ok (.invokevirtual 172, 3) := by decide +kernel
theorem dX5_readThing_169 : decode cX5_readThing 169 = .ok (.istore_n 3, 1) := by decide +kernel
theorem dX5_readThing_170 : decode cX5_readThing 170 = .ok (.goto 73, 3) := by decide +kernel
theorem dX5_readThing_173 : decode cX5_readThing 173 = .ok (.aload_n 0, 1) := by decide +kernel
theorem dX5_readThing_174 : decode cX5_readThing 174 = .ok (.iconst 1, 1) := by decide +kernel
theorem dX5_readThing_175 : decode cX5_readThing 175 = .ok (.bipush 9, 2) := by decide +kernel
theorem dX5_readThing_177 : decode cX5_readThing 177 = .ok (.invokevirtual 169, 3) := by decide +kernel
theorem dX5_readThing_180 : decode cX5_readThing 180 = .ok (.istore_n 2, 1) := by decide +kernel
theorem dX5_readThing_181 : decode cX5_readThing 181 = .ok (.goto 62, 3) := by decide +kernel
theorem dX5_readThing_184 : decode cX5_readThing 184 = .ok (.aload_n 0, 1) := by decide +kernel
theorem dX5_readThing_185 : decode cX5_readThing 185 = .ok (.iconst 0, 1) := by decide +kernel
theorem dX5_readThing_186 : decode cX5_readThing 186 = .ok (.bipush 7, 2) := by decide +kernel
theorem dX5_readThing_188 : decode cX5_readThing 188 = .ok (.invokevirtual 169, 3) := by decide +kernel
theorem dX5_readThing_191 : decode cX5_readThing 191 = .ok (.istore_n 2, 1) := by decide +kernel
theorem dX5_readThing_192 : decode cX5_readThing 192 = .ok (.aload_n 0, 1) := by decide +kernel
theorem dX5_readThing_193 : decode cX5_readThing 193 = .ok (.iload_n 2, 1) := by decide +kernel
theorem dX5_readThing_194 : decode cX5_readThing 194 = .ok (.bipush 58, 2) := by decide +kernel
theorem dX5_readThing_196 : decode cX5_readThing 196 = .ok (.bipush 7, 2) := by decide +kernel
theorem dX5_readThing_198 : decode cX5_readThing 198 = .ok (.invokevirtual 172, 3) := by decide +kernel
theorem dX5_readThing_201 : decode cX5_readThing 201 = .ok (.istore_n 3, 1) := by decide +kernel
theorem dX5_readThing_202 : decode cX5_readThing 202 = .ok (.goto 41, 3) := by decide +kernel
theorem dX5_readThing_205 : decode cX5_readThing 205 = .ok (.aload_n 0, 1) := by decide +kernel
theorem dX5_readThing_206 : decode cX5_readThing 206 = .ok (.iconst 0, 1) := by decide +kernel
theorem dX5_readThing_207 : decode cX5_readThing 207 = .ok (.iconst 2, 1) := by decide +kernel
theorem dX5_readThing_208 : decode cX5_readThing 208 = .ok (.invokevirtual 169, 3) := by decide +kernel
theorem dX5_readThing_211 : decode cX5_readThing 211 = .ok (.istore_n 2, 1) := by decide +kernel
theorem dX5_readThing_212 : decode cX5_readThing 212 = .ok (.aload_n 0, 1) := by decide +kernel
theorem dX5_readThing_213 : decode cX5_readThing 213 = .ok (.iload_n 2, 1) := by decide +kernel
theorem dX5_readThing_214 : decode cX5_readThing 214 = .ok (.bipush 62, 2) := by decide +kernel
theorem dX5_readThing_216 : decode cX5_readThing 216 = .ok (.bipush 63, 2) := by decide +kernel
theorem dX5_readThing_218 : decode cX5_readThing 218 = .ok (.invokevirtual 172, 3) := by decide +kernel
theorem dX5_readThing_221 : decode cX5_readThing 221 = .ok (.istore_n 3, 1) := by decide +kernel
theorem dX5_readThing_222 : decode cX5_readThing 222 = .ok (.goto 21, 3) := by decide +kernel
theorem dX5_readThing_225 : decode cX5_readThing 225 = .ok (.aload_n 0, 1) := by decide +kernel
theorem dX5_readThing_226 : decode cX5_readThing 226 = .ok (.iconst 0, 1) := by decide +kernel
theorem dX5_readThing_227 : decode cX5_readThing 227 = .ok (.iconst 2, 1) := by decide +kernel
theorem dX5_readThing_228 : decode cX5_readThing 228 = .ok (.invokevirtual 169, 3) := by decide +kernel
theorem dX5_readThing_231 : decode cX5_readThing 231 = .ok (.istore_n 2, 1) := by decide +kernel
theorem dX5_readThing_232 : decode cX5_readThing 232 = .ok (.goto 11, 3) := by decide +kernel
theorem dX5_readThing_235 : decode cX5_readThing 235 = .ok (.aload_n 0, 1) := by decide +kernel
theorem dX5_readThing_236 : decode cX5_readThing 236 = .ok (.iconst 1, 1) := by decide +kernel
theorem dX5_readThing_237 : decode cX5_readThing 237 = .ok (.bipush 99, 2) := by decide +kernel
theorem dX5_readThing_239 : decode cX5_readThing 239 = .ok (.invokevirtual 169, 3) := by decide +kernel
theorem dX5_readThing_242 : decode cX5_readThing 242 = .ok (.istore_n 2, 1) := by decide +kernel
theorem dX5_readThing_243 : decode cX5_readThing 243 = .ok (.aload_n 0, 1) := by decide +kernel
theorem dX5_readThing_244 : decode cX5_readThing 244 = .ok (.getfield 37, 3) := by decide +kernel
theorem dX5_readThing_247 : decode cX5_readThing 247 = .ok (.iconst 3, 1) := by decide +kernel
theorem dX5_readThing_248 : decode cX5_readThing 248 = .ok (.aload_n 0, 1) := by decide +kernel
theorem dX5_readThing_249 : decode cX5_readThing 249 = .ok (.getfield 176, 3) := by decide +kernel
theorem dX5_readThing_252 : decode cX5_readThing 252 = .ok (.imul, 1) := by decide +kernel
theorem dX5_readThing_253 : decode cX5_readThing 253 = .ok (.iload_n 1, 1) := by decide +kernel
theorem dX5_readThing_254 : decode cX5_readThing 254 = .ok (.iastore, 1) := by decide +kernel
theorem dX5_readThing_255 : decode cX5_readThing 255 = .ok (.aload_n 0, 1) := by decide +kernel
theorem dX5_readThing_256 : decode cX5_readThing 256 = .ok (.getfield 37, 3) := by decide +kernel
theorem dX5_readThing_259 : decode cX5_readThing 259 = .ok (.iconst 3, 1) := by decide +kernel
theorem dX5_readThing_260 : decode cX5_readThing 260 = .ok (.aload_n 0, 1) := by decide +kernel
theorem dX5_readThing_261 : decode cX5_readThing 261 = .ok (.getfield 176, 3) := by decide +kernel
theorem dX5_readThing_264 : decode cX5_readThing 264 = .ok (.imul, 1) := by decide +kernel
theorem dX5_readThing_265 : decode cX5_readThing 265 = .ok (.iconst 1, 1) := by decide +kernel
theorem dX5_readThing_266 : decode cX5_readThing 266 = .ok (.iadd, 1) := by decide +kernel
theorem dX5_readThing_267 : decode cX5_readThing 267 = .ok (.iload_n 2, 1) := by decide +kernel
theorem dX5_readThing_268 : decode cX5_readThing 268 = .ok (.iastore, 1) := by decide +kernel
theorem dX5_readThing_269 : decode cX5_readThing 269 = .ok (.aload_n 0, 1) := by decide +kernel
theorem dX5_readThing_270 : decode cX5_readThing 270 = .ok (.getfield 37, 3) := by decide +kernel
theorem dX5_readThing_273 : decode cX5_readThing 273 = .ok (.iconst 3, 1) := by decide +kernel
theorem dX5_readThing_274 : decode cX5_readThing 274 = .ok (.aload_n 0, 1) := by decide +kernel
theorem dX5_readThing_275 : decode cX5_readThing 275 = .ok (.getfield 176, 3) := by decide +kernel
theorem dX5_readThing_278 : decode cX5_readThing 278 = .ok (.imul, 1) := by decide +kernel
theorem dX5_readThing_279 : decode cX5_readThing 279 = .ok (.iconst 2, 1) := by decide +kernel
theorem dX5_readThing_280 : decode cX5_readThing 280 = .ok (.iadd, 1) := by decide +kernel
theorem dX5_readThing_281 : decode cX5_readThing 281 = .ok (.iload_n 3, 1) := by decide +kernel
theorem dX5_readThing_282 : decode cX5_readThing 282 = .ok (.iastore, 1) := by decide +kernel
theorem dX5_readThing_283 : decode cX5_readThing 283 = .ok (.aload_n 0, 1) := by decide +kernel
theorem dX5_readThing_284 : decode cX5_readThing 284 = .ok (.dup, 1) := by decide +kernel
theorem dX5_readThing_285 : decode cX5_readThing 285 = .ok (.getfield 176, 3) := by decide +kernel
theorem dX5_readThing_288 : decode cX5_readThing 288 = .ok (.iconst 1, 1) := by decide +kernel
theorem dX5_readThing_289 : decode cX5_readThing 289 = .ok (.iadd, 1) := by decide +kernel
theorem dX5_readThing_290 : decode cX5_readThing 290 = .ok (.putfield 176, 3) := by decide +kernel
theorem dX5_readThing_293 : decode cX5_readThing 293 = .ok (.iload_n 2, 1) := by decide +kernel
theorem dX5_readThing_294 : decode cX5_readThing 294 = .ok (.bipush (-5), 2) := by decide +kernel
theorem dX5_readThing_296 : decode cX5_readThing 296 = .ok (.if_icmp .eq 13, 3) := by decide +kernel
theorem dX5_readThing_299 : decode cX5_readThing 299 = .ok (.iload_n 3, 1) := by decide +kernel
theorem dX5_readThing_300 : decode cX5_readThing 300 = .ok (.bipush (-5), 2) := by decide +kernel
theorem dX5_readThing_302 : decode cX5_readThing 302 = .ok (.if_icmp .eq 7, 3) := by decide +kernel
theorem dX5_readThing_305 : decode cX5_readThing 305 = .ok (.iconst 1, 1) := by decide +kernel
theorem dX5_readThing_306 : decode cX5_readThing 306 = .ok (.goto 4, 3) := by decide +kernel
theorem dX5_readThing_309 : decode cX5_readThing 309 = .ok (.iconst 0, 1) := by decide +kernel
theorem dX5_readThing_310 : decode cX5_readThing 310 = .ok (.ireturn, 1) := by decide +kernel
theorem dX5_readText_0 : decode cX5_readText 0 = .ok (.aload_n 0, 1) := by decide +kernel
theorem dX5_readText_1 : decode cX5_readText 1 = .ok (.iconst 0, 1) := by decide +kernel
theorem dX5_readText_2 : decode cX5_readText 2 = .ok (.putfield 160, 3) := by decide +kernel
theorem dX5_readText_5 : decode cX5_readText 5 = .ok (.aload_n 0, 1) := by decide +kernel
theorem dX5_readText_6 : decode cX5_readText 6 = .ok (.iconst 0, 1) := by decide +kernel
theorem dX5_readText_7 : decode cX5_readText 7 = .ok (.putfield 176, 3) := by decide +kernel
theorem dX5_readText_10 : decode cX5_readText 10 = .ok (.aload_n 0, 1) := by decide +kernel
theorem dX5_readText_11 : decode cX5_readText 11 = .ok (.invokevirtual 179, 3) := by decide +kernel
theorem dX5_readText_14 : decode cX5_readText 14 = .ok (.istore_n 1, 1) := by decide +kernel
theorem dX5_readText_15 : decode cX5_readText 15 = .ok (.iload_n 1, 1) := by decide +kernel
theorem dX5_readText_16 : decode cX5_readText 16 = .ok (.ifCond .eq 39, 3) := by decide +kernel
theorem dX5_readText_19 : decode cX5_readText 19 = .ok (.aload_n 0, 1) := by decide +kernel
theorem dX5_readText_20 : decode cX5_readText 20 = .ok (.getfield 160, 3) := by decide +kernel
theorem dX5_readText_23 : decode cX5_readText 23 = .ok (.aload_n 0, 1) := by decide +kernel
theorem dX5_readText_24 : decode cX5_readText 24 = .ok (.getfield 157, 3) := by decide +kernel
theorem dX5_readText_27 : decode cX5_readText 27 = .ok (.if_icmp .ge 28, 3) := by decide +kernel
theorem dX5_readText_30 : decode cX5_readText 30 = .ok (.aload_n 0, 1) := by decide +kernel
theorem dX5_readText_31 : decode cX5_readText 31 = .ok (.bipush 59, 2) := by decide +kernel
theorem dX5_readText_33 : decode cX5_readText 33 = .ok (.invokevirtual 166, 3) := by decide +kernel
theorem dX5_readText_36 : decode cX5_readText 36 = .ok (.ifCond .eq 14, 3) := by decide +kernel
theorem dX5_readText_39 : decode cX5_readText 39 = .ok (.aload_n 0, 1) := by decide +kernel
theorem dX5_readText_40 : decode cX5_readText 40 = .ok (.invokevirtual 179, 3) := by decide +kernel
theorem dX5_readText_43 : decode cX5_readText 43 = .ok (.ifCond .eq 7, 3) := by decide +kernel
theorem dX5_readText_46 : decode cX5_readText 46 = .ok (.iconst 1, 1) := by decide +kernel
theorem dX5_readText_47 : decode cX5_readText 47 = .ok (.goto 4, 3) := by decide +kernel
theorem dX5_readText_50 : decode cX5_readText 50 = .ok (.iconst 0, 1) := by decide +kernel
theorem dX5_readText_51 : decode cX5_readText 51 = .ok (.istore_n 1, 1) := by decide +kernel
theorem dX5_readText_52 : decode cX5_readText 52 = .ok (.goto (-37), 3) := by decide +kernel
theorem dX5_readText_55 : decode cX5_readText 55 = .ok (.iload_n 1, 1) := by decide +kernel
theorem dX5_readText_56 : decode cX5_readText 56 = .ok (.ireturn, 1) := by decide +kernel
theorem dX5_whyNot_0 : decode cX5_whyNot 0 = .ok (.aload_n 0, 1) := by decide +kernel
theorem dX5_whyNot_1 : decode cX5_whyNot 1 = .ok (.getfield 37, 3) := by decide +kernel
theorem dX5_whyNot_4 : decode cX5_whyNot 4 = .ok (.iconst 3, 1) := by decide +kernel
theorem dX5_whyNot_5 : decode cX5_whyNot 5 = .ok (.iload_n 1, 1) := by decide +kernel
theorem dX5_whyNot_6 : decode cX5_whyNot 6 = .ok (.imul, 1) := by decide +kernel
theorem dX5_whyNot_7 : decode cX5_whyNot 7 = .ok (.iconst 1, 1) := by decide +kernel
theorem dX5_whyNot_8 : decode cX5_whyNot 8 = .ok (.iadd, 1) := by decide +kernel
theorem dX5_whyNot_9 : decode cX5_whyNot 9 = .ok (.iaload, 1) := by decide +kernel
theorem dX5_whyNot_10 : decode cX5_whyNot 10 = .ok (.istore_n 2, 1) := by decide +kernel
theorem dX5_whyNot_11 : decode cX5_whyNot 11 = .ok (.aload_n 0, 1) := by decide +kernel
theorem dX5_whyNot_12 : decode cX5_whyNot 12 = .ok (.getfield 37, 3) := by decide +kernel
theorem dX5_whyNot_15 : decode cX5_whyNot 15 = .ok (.iconst 3, 1) := by decide +kernel
theorem dX5_whyNot_16 : decode cX5_whyNot 16 = .ok (.iload_n 1, 1) := by decide +kernel
theorem dX5_whyNot_17 : decode cX5_whyNot 17 = .ok (.imul, 1) := by decide +kernel
theorem dX5_whyNot_18 : decode cX5_whyNot 18 = .ok (.iconst 2, 1) := by decide +kernel
theorem dX5_whyNot_19 : decode cX5_whyNot 19 = .ok (.iadd, 1) := by decide +kernel
theorem dX5_whyNot_20 : decode cX5_whyNot 20 = .ok (.iaload, 1) := by decide +kernel
theorem dX5_whyNot_21 : decode cX5_whyNot 21 = .ok (.istore_n 3, 1) := by decide +kernel
theorem dX5_whyNot_22 : decode cX5_whyNot 22 = .ok (.aload_n 0, 1) := by decide +kernel
theorem dX5_whyNot_23 : decode cX5_whyNot 23 = .ok (.getfield 37, 3) := by decide +kernel
theorem dX5_whyNot_26 : decode cX5_whyNot 26 = .ok (.iconst 3, 1) := by decide +kernel
theorem dX5_whyNot_27 : decode cX5_whyNot 27 = .ok (.iload_n 1, 1) := by decide +kernel
theorem dX5_whyNot_28 : decode cX5_whyNot 28 = .ok (.imul, 1) := by decide +kernel
theorem dX5_whyNot_29 : decode cX5_whyNot 29 = .ok (.iaload, 1) := by decide +kernel
theorem dX5_whyNot_30 : decode cX5_whyNot 30 = .ok (.lookupswitch 68 #[(46, 62), (102, 56), (103, 49), (104, 42)], 42) := by decide +kernel
theorem dX5_whyNot_72 : decode cX5_whyNot 72 = .ok (.aload_n 0, 1) := by decide +kernel
theorem dX5_whyNot_73 : decode cX5_whyNot 73 = .ok (.iload_n 2, 1) := by decide +kernel
theorem dX5_whyNot_74 : decode cX5_whyNot 74 = .ok (.iload_n 3, 1) := by decide +kernel
theorem dX5_whyNot_75 : decode cX5_whyNot 75 = .ok (.invokevirtual 148, 3) := by decide +kernel
theorem dX5_whyNot_78 : decode cX5_whyNot 78 = .ok (.ireturn, 1) := by decide +kernel
theorem dX5_whyNot_79 : decode cX5_whyNot 79 = .ok (.aload_n 0, 1) := by decide +kernel
theorem dX5_whyNot_80 : decode cX5_whyNot 80 = .ok (.iload_n 2, 1) := by decide +kernel
theorem dX5_whyNot_81 : decode cX5_whyNot 81 = .ok (.iload_n 3, 1) := by decide +kernel
theorem dX5_whyNot_82 : decode cX5_whyNot 82 = .ok (.invokevirtual 129, 3) := by decide +kernel
theorem dX5_whyNot_85 : decode cX5_whyNot 85 = .ok (.ireturn, 1) := by decide +kernel
theorem dX5_whyNot_86 : decode cX5_whyNot 86 = .ok (.aload_n 0, 1) := by decide +kernel
theorem dX5_whyNot_87 : decode cX5_whyNot 87 = .ok (.iload_n 2, 1) := by decide +kernel
theorem dX5_whyNot_88 : decode cX5_whyNot 88 = .ok (.invokevirtual 136, 3) := by decide +kernel
theorem dX5_whyNot_91 : decode cX5_whyNot 91 = .ok (.ireturn, 1) := by decide +kernel
theorem dX5_whyNot_92 : decode cX5_whyNot 92 = .ok (.aload_n 0, 1) := by decide +kernel
theorem dX5_whyNot_93 : decode cX5_whyNot 93 = .ok (.iload_n 2, 1) := by decide +kernel
theorem dX5_whyNot_94 : decode cX5_whyNot 94 = .ok (.invokevirtual 110, 3) := by decide +kernel
theorem dX5_whyNot_97 : decode cX5_whyNot 97 = .ok (.ireturn, 1) := by decide +kernel
theorem dX5_whyNot_98 : decode cX5_whyNot 98 = .ok (.iconst 0, 1) := by decide +kernel
theorem dX5_whyNot_99 : decode cX5_whyNot 99 = .ok (.ireturn, 1) := by decide +kernel
theorem dX5_doThing_0 : decode cX5_doThing 0 = .ok (.aload_n 0, 1) := by decide +kernel
theorem dX5_doThing_1 : decode cX5_doThing 1 = .ok (.getfield 37, 3) := by decide +kernel
theorem dX5_doThing_4 : decode cX5_doThing 4 = .ok (.iconst 3, 1) := by decide +kernel
theorem dX5_doThing_5 : decode cX5_doThing 5 = .ok (.iload_n 1, 1) := by decide +kernel
theorem dX5_doThing_6 : decode cX5_doThing 6 = .ok (.imul, 1) := by decide +kernel
theorem dX5_doThing_7 : decode cX5_doThing 7 = .ok (.iconst 1, 1) := by decide +kernel
theorem dX5_doThing_8 : decode cX5_doThing 8 = .ok (.iadd, 1) := by decide +kernel
theorem dX5_doThing_9 : decode cX5_doThing 9 = .ok (.iaload, 1) := by decide +kernel
theorem dX5_doThing_10 : decode cX5_doThing 10 = .ok (.istore_n 2, 1) := by decide +kernel
theorem dX5_doThing_11 : decode cX5_doThing 11 = .ok (.aload_n 0, 1) := by decide +kernel
theorem dX5_doThing_12 : decode cX5_doThing 12 = .ok (.getfield 37, 3) := by decide +kernel
theorem dX5_doThing_15 : decode cX5_doThing 15 = .ok (.iconst 3, 1) := by decide +kernel
theorem dX5_doThing_16 : decode cX5_doThing 16 = .ok (.iload_n 1, 1) := by decide +kernel
theorem dX5_doThing_17 : decode cX5_doThing 17 = .ok (.imul, 1) := by decide +kernel
theorem dX5_doThing_18 : decode cX5_doThing 18 = .ok (.iconst 2, 1) := by decide +kernel
theorem dX5_doThing_19 : decode cX5_doThing 19 = .ok (.iadd, 1) := by decide +kernel
theorem dX5_doThing_20 : decode cX5_doThing 20 = .ok (.iaload, 1) := by decide +kernel
theorem dX5_doThing_21 : decode cX5_doThing 21 = .ok (.istore_n 3, 1) := by decide +kernel
theorem dX5_doThing_22 : decode cX5_doThing 22 = .ok (.aload_n 0, 1) := by decide +kernel
theorem dX5_doThing_23 : decode cX5_doThing 23 = .ok (.getfield 37, 3) := by decide +kernel
theorem dX5_doThing_26 : decode cX5_doThing 26 = .ok (.iconst 3, 1) := by decide +kernel
theorem dX5_doThing_27 : decode cX5_doThing 27 = .ok (.iload_n 1, 1) := by decide +kernel
theorem dX5_doThing_28 : decode cX5_doThing 28 = .ok (.imul, 1) := by decide +kernel
theorem dX5_doThing_29 : decode cX5_doThing 29 = .ok (.iaload, 1) := by decide +kernel
theorem dX5_doThing_30 : decode cX5_doThing 30 = .ok (.tableswitch 127 102 116 #[118, 109, 96, 127, 127, 127, 127, 127, 127, 127, 127, 127, 87, 127, 74], 74) := by decide +kernel
theorem dX5_doThing_104 : decode cX5_doThing 104 = .ok (.aload_n 0, 1) := by decide +kernel
theorem dX5_doThing_105 : decode cX5_doThing 105 = .ok (.getfield 7, 3) := by decide +kernel
theorem dX5_doThing_108 : decode cX5_doThing 108 = .ok (.bipush 28, 2) := by decide +kernel
theorem dX5_doThing_110 : decode cX5_doThing 110 = .ok (.iload_n 2, 1) := by decide +kernel
theorem dX5_doThing_111 : decode cX5_doThing 111 = .ok (.iadd, 1) := by decide +kernel
theorem dX5_doThing_112 : decode cX5_doThing 112 = .ok (.iload_n 3, 1) := by decide +kernel
theorem dX5_doThing_113 : decode cX5_doThing 113 = .ok (.iastore, 1) := by decide +kernel
theorem dX5_doThing_114 : decode cX5_doThing 114 = .ok (.goto 49, 3) := by decide +kernel
theorem dX5_doThing_117 : decode cX5_doThing 117 = .ok (.aload_n 0, 1) := by decide +kernel
theorem dX5_doThing_118 : decode cX5_doThing 118 = .ok (.iload_n 2, 1) := by decide +kernel
theorem dX5_doThing_119 : decode cX5_doThing 119 = .ok (.invokevirtual 107, 3) := by decide +kernel
theorem dX5_doThing_122 : decode cX5_doThing 122 = .ok (.pop, 1) := by decide +kernel
theorem dX5_doThing_123 : decode cX5_doThing 123 = .ok (.goto 40, 3) := by decide +kernel
theorem dX5_doThing_126 : decode cX5_doThing 126 = .ok (.aload_n 0, 1) := by decide +kernel
theorem dX5_doThing_127 : decode cX5_doThing 127 = .ok (.getfield 7, 3) := by decide +kernel
theorem dX5_doThing_130 : decode cX5_doThing 130 = .ok (.bipush 7, 2) := by decide +kernel
theorem dX5_doThing_132 : decode cX5_doThing 132 = .ok (.iload_n 2, 1) := by decide +kernel
theorem dX5_doThing_133 : decode cX5_doThing 133 = .ok (.iadd, 1) := by decide +kernel
theorem dX5_doThing_134 : decode cX5_doThing 134 = .ok (.iload_n 3, 1) := by decide +kernel
theorem dX5_doThing_135 : decode cX5_doThing 135 = .ok (.iastore, 1) := by decide +kernel
theorem dX5_doThing_136 : decode cX5_doThing 136 = .ok (.goto 27, 3) := by decide +kernel
theorem dX5_doThing_139 : decode cX5_doThing 139 = .ok (.aload_n 0, 1) := by decide +kernel
theorem dX5_doThing_140 : decode cX5_doThing 140 = .ok (.iload_n 2, 1) := by decide +kernel
theorem dX5_doThing_141 : decode cX5_doThing 141 = .ok (.iload_n 3, 1) := by decide +kernel
theorem dX5_doThing_142 : decode cX5_doThing 142 = .ok (.invokevirtual 132, 3) := by decide +kernel
theorem dX5_doThing_145 : decode cX5_doThing 145 = .ok (.goto 18, 3) := by decide +kernel
theorem dX5_doThing_148 : decode cX5_doThing 148 = .ok (.aload_n 0, 1) := by decide +kernel
theorem dX5_doThing_149 : decode cX5_doThing 149 = .ok (.iload_n 2, 1) := by decide +kernel
theorem dX5_doThing_150 : decode cX5_doThing 150 = .ok (.invokevirtual 139, 3) := by decide +kernel
theorem dX5_doThing_153 : decode cX5_doThing 153 = .ok (.pop, 1) := by decide +kernel
theorem dX5_doThing_154 : decode cX5_doThing 154 = .ok (.goto 9, 3) := by decide +kernel
theorem dX5_doThing_157 : decode cX5_doThing 157 = .ok (.aload_n 0, 1) := by decide +kernel
theorem dX5_doThing_158 : decode cX5_doThing 158 = .ok (.iload_n 2, 1) := by decide +kernel
theorem dX5_doThing_159 : decode cX5_doThing 159 = .ok (.invokevirtual 113, 3) := by decide +kernel
theorem dX5_doThing_162 : decode cX5_doThing 162 = .ok (.pop, 1) := by decide +kernel
theorem dX5_doThing_163 : decode cX5_doThing 163 = .ok (.return_, 1) := by decide +kernel
theorem dX5_perform_0 : decode cX5_perform 0 = .ok (.aload_n 0, 1) := by decide +kernel
theorem dX5_perform_1 : decode cX5_perform 1 = .ok (.invokevirtual 183, 3) := by decide +kernel
theorem dX5_perform_4 : decode cX5_perform 4 = .ok (.ifCond .ne 11, 3) := by decide +kernel
theorem dX5_perform_7 : decode cX5_perform 7 = .ok (.bipush (-100), 2) := by decide +kernel
theorem dX5_perform_9 : decode cX5_perform 9 = .ok (.aload_n 0, 1) := by decide +kernel
theorem dX5_perform_10 : decode cX5_perform 10 = .ok (.getfield 160, 3) := by decide +kernel
theorem dX5_perform_13 : decode cX5_perform 13 = .ok (.isub, 1) := by decide +kernel
theorem dX5_perform_14 : decode cX5_perform 14 = .ok (.ireturn, 1) := by decide +kernel
theorem dX5_perform_15 : decode cX5_perform 15 = .ok (.aload_n 0, 1) := by decide +kernel
theorem dX5_perform_16 : decode cX5_perform 16 = .ok (.getfield 7, 3) := by decide +kernel
theorem dX5_perform_19 : decode cX5_perform 19 = .ok (.iconst 0, 1) := by decide +kernel
theorem dX5_perform_20 : decode cX5_perform 20 = .ok (.aload_n 0, 1) := by decide +kernel
theorem dX5_perform_21 : decode cX5_perform 21 = .ok (.getfield 13, 3) := by decide +kernel
theorem dX5_perform_24 : decode cX5_perform 24 = .ok (.iconst 0, 1) := by decide +kernel
theorem dX5_perform_25 : decode cX5_perform 25 = .ok (.invokestatic 55, 3) := by decide +kernel
theorem dX5_perform_28 : decode cX5_perform 28 = .ok (.iconst 0, 1) := by decide +kernel
theorem dX5_perform_29 : decode cX5_perform 29 = .ok (.istore_n 1, 1) := by decide +kernel
theorem dX5_perform_30 : decode cX5_perform 30 = .ok (.iload_n 1, 1) := by decide +kernel
theorem dX5_perform_31 : decode cX5_perform 31 = .ok (.aload_n 0, 1) := by decide +kernel
theorem dX5_perform_32 : decode cX5_perform 32 = .ok (.getfield 176, 3) := by decide +kernel
theorem dX5_perform_35 : decode cX5_perform 35 = .ok (.if_icmp .ge 50, 3) := by decide +kernel
theorem dX5_perform_38 : decode cX5_perform 38 = .ok (.aload_n 0, 1) := by decide +kernel
theorem dX5_perform_39 : decode cX5_perform 39 = .ok (.iload_n 1, 1) := by decide +kernel
theorem dX5_perform_40 : decode cX5_perform 40 = .ok (.invokevirtual 186, 3) := by decide +kernel
theorem dX5_perform_43 : decode cX5_perform 43 = .ok (.istore_n 2, 1) := by decide +kernel
theorem dX5_perform_44 : decode cX5_perform 44 = .ok (.iload_n 2, 1) := by decide +kernel
theorem dX5_perform_45 : decode cX5_perform 45 = .ok (.ifCond .ge 29, 3) := by decide +kernel
theorem dX5_perform_48 : decode cX5_perform 48 = .ok (.aload_n 0, 1) := by decide +kernel
theorem dX5_perform_49 : decode cX5_perform 49 = .ok (.getfield 13, 3) := by decide +kernel
theorem dX5_perform_52 : decode cX5_perform 52 = .ok (.iconst 0, 1) := by decide +kernel
theorem dX5_perform_53 : decode cX5_perform 53 = .ok (.aload_n 0, 1) := by decide +kernel
theorem dX5_perform_54 : decode cX5_perform 54 = .ok (.getfield 7, 3) := by decide +kernel
theorem dX5_perform_57 : decode cX5_perform 57 = .ok (.iconst 0, 1) := by decide +kernel
theorem dX5_perform_58 : decode cX5_perform 58 = .ok (.invokestatic 55, 3) := by decide +kernel
theorem dX5_perform_61 : decode cX5_perform 61 = .ok (.aload_n 0, 1) := by decide +kernel
theorem dX5_perform_62 : decode cX5_perform 62 = .ok (.iload_n 1, 1) := by decide +kernel
theorem dX5_perform_63 : decode cX5_perform 63 = .ok (.putfield 189, 3) := by decide +kernel
theorem dX5_perform_66 : decode cX5_perform 66 = .ok (.aload_n 0, 1) := by decide +kernel
theorem dX5_perform_67 : decode cX5_perform 67 = .ok (.iload_n 2, 1) := by decide +kernel
theorem dX5_perform_68 : decode cX5_perform 68 = .ok (.putfield 192, 3) := by decide +kernel
theorem dX5_perform_71 : decode cX5_perform 71 = .ok (.bipush (-4), 2) := by decide +kernel
theorem dX5_perform_73 : decode cX5_perform 73 = .ok (.ireturn, 1) := by decide +kernel
theorem dX5_perform_74 : decode cX5_perform 74 = .ok (.aload_n 0, 1) := by decide +kernel
theorem dX5_perform_75 : decode cX5_perform 75 = .ok (.iload_n 1, 1) := by decide +kernel
theorem dX5_perform_76 : decode cX5_perform 76 = .ok (.invokevirtual 195, 3) := by decide +kernel
theorem dX5_perform_79 : decode cX5_perform 79 = .ok (.iinc 1 1, 3) := by decide +kernel
theorem dX5_perform_82 : decode cX5_perform 82 = .ok (.goto (-52), 3) := by decide +kernel
theorem dX5_perform_85 : decode cX5_perform 85 = .ok (.aload_n 0, 1) := by decide +kernel
theorem dX5_perform_86 : decode cX5_perform 86 = .ok (.aload_n 0, 1) := by decide +kernel
theorem dX5_perform_87 : decode cX5_perform 87 = .ok (.getfield 13, 3) := by decide +kernel
theorem dX5_perform_90 : decode cX5_perform 90 = .ok (.invokevirtual 59, 3) := by decide +kernel
theorem dX5_perform_93 : decode cX5_perform 93 = .ok (.aload_n 0, 1) := by decide +kernel
theorem dX5_perform_94 : decode cX5_perform 94 = .ok (.getfield 176, 3) := by decide +kernel
theorem dX5_perform_97 : decode cX5_perform 97 = .ok (.ireturn, 1) := by decide +kernel
theorem dX5_stopped_0 : decode cX5_stopped 0 = .ok (.iload_n 1, 1) := by decide +kernel
theorem dX5_stopped_1 : decode cX5_stopped 1 = .ok (.iconst 0, 1) := by decide +kernel
theorem dX5_stopped_2 : decode cX5_stopped 2 = .ok (.iconst 1, 1) := by decide +kernel
theorem dX5_stopped_3 : decode cX5_stopped 3 = .ok (.invokestatic 47, 3) := by decide +kernel
theorem dX5_stopped_6 : decode cX5_stopped 6 = .ok (.ifCond .ne 6, 3) := by decide +kernel
theorem dX5_stopped_9 : decode cX5_stopped 9 = .ok (.bipush (-2), 2) := by decide +kernel
theorem dX5_stopped_11 : decode cX5_stopped 11 = .ok (.ireturn, 1) := by decide +kernel
theorem dX5_stopped_12 : decode cX5_stopped 12 = .ok (.aload_n 0, 1) := by decide +kernel
theorem dX5_stopped_13 : decode cX5_stopped 13 = .ok (.getfield 192, 3) := by decide +kernel
theorem dX5_stopped_16 : decode cX5_stopped 16 = .ok (.ifCond .ne 8, 3) := by decide +kernel
theorem dX5_stopped_19 : decode cX5_stopped 19 = .ok (.bipush (-5), 2) := by decide +kernel
theorem dX5_stopped_21 : decode cX5_stopped 21 = .ok (.goto 18, 3) := by decide +kernel
theorem dX5_stopped_24 : decode cX5_stopped 24 = .ok (.iload_n 1, 1) := by decide +kernel
theorem dX5_stopped_25 : decode cX5_stopped 25 = .ok (.ifCond .ne 10, 3) := by decide +kernel
theorem dX5_stopped_28 : decode cX5_stopped 28 = .ok (.aload_n 0, 1) := by decide +kernel
theorem dX5_stopped_29 : decode cX5_stopped 29 = .ok (.getfield 189, 3) := by decide +kernel
theorem dX5_stopped_32 : decode cX5_stopped 32 = .ok (.goto 7, 3) := by decide +kernel
theorem dX5_stopped_35 : decode cX5_stopped 35 = .ok (.aload_n 0, 1) := by decide +kernel
theorem dX5_stopped_36 : decode cX5_stopped 36 = .ok (.getfield 192, 3) := by decide +kernel
theorem dX5_stopped_39 : decode cX5_stopped 39 = .ok (.ireturn, 1) := by decide +kernel
theorem dX5_plot_0 : decode cX5_plot 0 = .ok (.iload_n 1, 1) := by decide +kernel
theorem dX5_plot_1 : decode cX5_plot 1 = .ok (.invokestatic 100, 3) := by decide +kernel
theorem dX5_plot_4 : decode cX5_plot 4 = .ok (.ifCond .ne 5, 3) := by decide +kernel
theorem dX5_plot_7 : decode cX5_plot 7 = .ok (.iconst (-1), 1) := by decide +kernel
theorem dX5_plot_8 : decode cX5_plot 8 = .ok (.ireturn, 1) := by decide +kernel
theorem dX5_plot_9 : decode cX5_plot 9 = .ok (.aload_n 0, 1) := by decide +kernel
theorem dX5_plot_10 : decode cX5_plot 10 = .ok (.invokevirtual 78, 3) := by decide +kernel
theorem dX5_plot_13 : decode cX5_plot 13 = .ok (.iload_n 2, 1) := by decide +kernel
theorem dX5_plot_14 : decode cX5_plot 14 = .ok (.tableswitch 117 0 6 #[42, 52, 62, 68, 82, 100, 106], 42) := by decide +kernel
theorem dX5_plot_56 : decode cX5_plot 56 = .ok (.aload_n 0, 1) := by decide +kernel
theorem dX5_plot_57 : decode cX5_plot 57 = .ok (.getfield 7, 3) := by decide +kernel
theorem dX5_plot_60 : decode cX5_plot 60 = .ok (.bipush 28, 2) := by decide +kernel
theorem dX5_plot_62 : decode cX5_plot 62 = .ok (.iload_n 1, 1) := by decide +kernel
theorem dX5_plot_63 : decode cX5_plot 63 = .ok (.iadd, 1) := by decide +kernel
theorem dX5_plot_64 : decode cX5_plot 64 = .ok (.iaload, 1) := by decide +kernel
theorem dX5_plot_65 : decode cX5_plot 65 = .ok (.ireturn, 1) := by decide +kernel
theorem dX5_plot_66 : decode cX5_plot 66 = .ok (.aload_n 0, 1) := by decide +kernel
theorem dX5_plot_67 : decode cX5_plot 67 = .ok (.getfield 7, 3) := by decide +kernel
theorem dX5_plot_70 : decode cX5_plot 70 = .ok (.bipush 92, 2) := by decide +kernel
theorem dX5_plot_72 : decode cX5_plot 72 = .ok (.iload_n 1, 1) := by decide +kernel
theorem dX5_plot_73 : decode cX5_plot 73 = .ok (.iadd, 1) := by decide +kernel
theorem dX5_plot_74 : decode cX5_plot 74 = .ok (.iaload, 1) := by decide +kernel
theorem dX5_plot_75 : decode cX5_plot 75 = .ok (.ireturn, 1) := by decide +kernel
theorem dX5_plot_76 : decode cX5_plot 76 = .ok (.aload_n 0, 1) := by decide +kernel
theorem dX5_plot_77 : decode cX5_plot 77 = .ok (.iload_n 1, 1) := by decide +kernel
theorem dX5_plot_78 : decode cX5_plot 78 = .ok (.invokevirtual 85, 3) := by decide +kernel
theorem dX5_plot_81 : decode cX5_plot 81 = .ok (.ireturn, 1) := by decide +kernel
theorem dX5_plot_82 : decode cX5_plot 82 = .ok (.aload_n 0, 1) := by decide +kernel
theorem dX5_plot_83 : decode cX5_plot 83 = .ok (.iload_n 1, 1) := by decide +kernel
theorem dX5_plot_84 : decode cX5_plot 84 = .ok (.invokevirtual 85, 3) := by decide +kernel
theorem dX5_plot_87 : decode cX5_plot 87 = .ok (.ifCond .le 7, 3) := by decide +kernel
theorem dX5_plot_90 : decode cX5_plot 90 = .ok (.iconst 1, 1) := by decide +kernel
theorem dX5_plot_91 : decode cX5_plot 91 = .ok (.goto 4, 3) := by decide +kernel
theorem dX5_plot_94 : decode cX5_plot 94 = .ok (.iconst 0, 1) := by decide +kernel
theorem dX5_plot_95 : decode cX5_plot 95 = .ok (.ireturn, 1) := by decide +kernel
theorem dX5_plot_96 : decode cX5_plot 96 = .ok (.aload_n 0, 1) := by decide +kernel
theorem dX5_plot_97 : decode cX5_plot 97 = .ok (.iload_n 1, 1) := by decide +kernel
theorem dX5_plot_98 : decode cX5_plot 98 = .ok (.invokevirtual 85, 3) := by decide +kernel
theorem dX5_plot_101 : decode cX5_plot 101 = .ok (.aload_n 0, 1) := by decide +kernel
theorem dX5_plot_102 : decode cX5_plot 102 = .ok (.invokevirtual 81, 3) := by decide +kernel
theorem dX5_plot_105 : decode cX5_plot 105 = .ok (.if_icmp .ne 7, 3) := by decide +kernel
theorem dX5_plot_108 : decode cX5_plot 108 = .ok (.iconst 1, 1) := by decide +kernel
theorem dX5_plot_109 : decode cX5_plot 109 = .ok (.goto 4, 3) := by decide +kernel
theorem dX5_plot_112 : decode cX5_plot 112 = .ok (.iconst 0, 1) := by decide +kernel
theorem dX5_plot_113 : decode cX5_plot 113 = .ok (.ireturn, 1) := by decide +kernel
theorem dX5_plot_114 : decode cX5_plot 114 = .ok (.aload_n 0, 1) := by decide +kernel
theorem dX5_plot_115 : decode cX5_plot 115 = .ok (.iload_n 1, 1) := by decide +kernel
theorem dX5_plot_116 : decode cX5_plot 116 = .ok (.invokevirtual 198, 3) := by decide +kernel
theorem dX5_plot_119 : decode cX5_plot 119 = .ok (.ireturn, 1) := by decide +kernel
theorem dX5_plot_120 : decode cX5_plot 120 = .ok (.aload_n 0, 1) := by decide +kernel
theorem dX5_plot_121 : decode cX5_plot 121 = .ok (.getfield 7, 3) := by decide +kernel
theorem dX5_plot_124 : decode cX5_plot 124 = .ok (.sipush 156, 3) := by decide +kernel
theorem dX5_plot_127 : decode cX5_plot 127 = .ok (.iload_n 1, 1) := by decide +kernel
theorem dX5_plot_128 : decode cX5_plot 128 = .ok (.iadd, 1) := by decide +kernel
theorem dX5_plot_129 : decode cX5_plot 129 = .ok (.iaload, 1) := by decide +kernel
theorem dX5_plot_130 : decode cX5_plot 130 = .ok (.ireturn, 1) := by decide +kernel
theorem dX5_plot_131 : decode cX5_plot 131 = .ok (.bipush (-2), 2) := by decide +kernel
theorem dX5_plot_133 : decode cX5_plot 133 = .ok (.ireturn, 1) := by decide +kernel
theorem dX5_crew_0 : decode cX5_crew 0 = .ok (.iload_n 1, 1) := by decide +kernel
theorem dX5_crew_1 : decode cX5_crew 1 = .ok (.invokestatic 123, 3) := by decide +kernel
theorem dX5_crew_4 : decode cX5_crew 4 = .ok (.ifCond .ne 5, 3) := by decide +kernel
theorem dX5_crew_7 : decode cX5_crew 7 = .ok (.iconst (-1), 1) := by decide +kernel
theorem dX5_crew_8 : decode cX5_crew 8 = .ok (.ireturn, 1) := by decide +kernel
theorem dX5_crew_9 : decode cX5_crew 9 = .ok (.iload_n 2, 1) := by decide +kernel
theorem dX5_crew_10 : decode cX5_crew 10 = .ok (.iconst 0, 1) := by decide +kernel
theorem dX5_crew_11 : decode cX5_crew 11 = .ok (.iconst 3, 1) := by decide +kernel
theorem dX5_crew_12 : decode cX5_crew 12 = .ok (.invokestatic 47, 3) := by decide +kernel
theorem dX5_crew_15 : decode cX5_crew 15 = .ok (.ifCond .eq 12, 3) := by decide +kernel
theorem dX5_crew_18 : decode cX5_crew 18 = .ok (.aload_n 0, 1) := by decide +kernel
theorem dX5_crew_19 : decode cX5_crew 19 = .ok (.iload_n 1, 1) := by decide +kernel
theorem dX5_crew_20 : decode cX5_crew 20 = .ok (.iload_n 2, 1) := by decide +kernel
theorem dX5_crew_21 : decode cX5_crew 21 = .ok (.invokevirtual 116, 3) := by decide +kernel
theorem dX5_crew_24 : decode cX5_crew 24 = .ok (.goto 5, 3) := by decide +kernel
theorem dX5_crew_27 : decode cX5_crew 27 = .ok (.bipush (-2), 2) := by decide +kernel
theorem dX5_crew_29 : decode cX5_crew 29 = .ok (.ireturn, 1) := by decide +kernel
theorem dX5_columns_0 : decode cX5_columns 0 = .ok (.iconst 0, 1) := by decide +kernel
theorem dX5_columns_1 : decode cX5_columns 1 = .ok (.istore_n 3, 1) := by decide +kernel
theorem dX5_columns_2 : decode cX5_columns 2 = .ok (.bipush (-5), 2) := by decide +kernel
theorem dX5_columns_4 : decode cX5_columns 4 = .ok (.istore 4, 2) := by decide +kernel
theorem dX5_columns_6 : decode cX5_columns 6 = .ok (.bipush (-5), 2) := by decide +kernel
theorem dX5_columns_8 : decode cX5_columns 8 = .ok (.istore 5, 2) := by decide +kernel
theorem dX5_columns_10 : decode cX5_columns 10 = .ok (.iconst 0, 1) := by decide +kernel
theorem dX5_columns_11 : decode cX5_columns 11 = .ok (.istore 6, 2) := by decide +kernel
theorem dX5_columns_13 : decode cX5_columns 13 = .ok (.iload 6, 2) := by decide +kernel
theorem dX5_columns_15 : decode cX5_columns 15 = .ok (.bipush 8, 2) := by decide +kernel
theorem dX5_columns_17 : decode cX5_columns 17 = .ok (.if_icmp .ge 94, 3) := by decide +kernel
theorem dX5_columns_20 : decode cX5_columns 20 = .ok (.aload_n 0, 1) := by decide +kernel
theorem dX5_columns_21 : decode cX5_columns 21 = .ok (.getfield 25, 3) := by decide +kernel
theorem dX5_columns_24 : decode cX5_columns 24 = .ok (.bipush 8, 2) := by decide +kernel
theorem dX5_columns_26 : decode cX5_columns 26 = .ok (.iload_n 1, 1) := by decide +kernel
theorem dX5_columns_27 : decode cX5_columns 27 = .ok (.imul, 1) := by decide +kernel
theorem dX5_columns_28 : decode cX5_columns 28 = .ok (.iload 6, 2) := by decide +kernel
theorem dX5_columns_30 : decode cX5_columns 30 = .ok (.iadd, 1) := by decide +kernel
theorem dX5_columns_31 : decode cX5_columns 31 = .ok (.iaload, 1) := by decide +kernel
theorem dX5_columns_32 : decode cX5_columns 32 = .ok (.ifCond .le 22, 3) := by decide +kernel
theorem dX5_columns_35 : decode cX5_columns 35 = .ok (.aload_n 0, 1) := by decide +kernel
theorem dX5_columns_36 : decode cX5_columns 36 = .ok (.getfield 28, 3) := by decide +kernel
theorem dX5_columns_39 : decode cX5_columns 39 = .ok (.bipush 8, 2) := by decide +kernel
theorem dX5_columns_41 : decode cX5_columns 41 = .ok (.iload_n 1, 1) := by decide +kernel
theorem dX5_columns_42 : decode cX5_columns 42 = .ok (.imul, 1) := by decide +kernel
theorem dX5_columns_43 : decode cX5_columns 43 = .ok (.iload 6, 2) := by decide +kernel
theorem dX5_columns_45 : decode cX5_columns 45 = .ok (.iadd, 1) := by decide +kernel
theorem dX5_columns_46 : decode cX5_columns 46 = .ok (.iaload, 1) := by decide +kernel
theorem dX5_columns_47 : decode cX5_columns 47 = .ok (.ifCond .le 7, 3) := by decide +kernel
theorem dX5_columns_50 : decode cX5_columns 50 = .ok (.iconst 1, 1) := by decide +kernel
theorem dX5_columns_51 : decode cX5_columns 51 = .ok (.goto 4, 3) := by decide +kernel
theorem dX5_columns_54 : decode cX5_columns 54 = .ok (.iconst 0, 1) := by decide +kernel
theorem dX5_columns_55 : decode cX5_columns 55 = .ok (.istore 7, 2) := by decide +kernel
theorem dX5_columns_57 : decode cX5_columns 57 = .ok (.iload_n 3, 1) := by decide +kernel
theorem dX5_columns_58 : decode cX5_columns 58 = .ok (.iload 7, 2) := by decide +kernel
theorem dX5_columns_60 : decode cX5_columns 60 = .ok (.ifCond .eq 7, 3) := by decide +kernel
theorem dX5_columns_63 : decode cX5_columns 63 = .ok (.iconst 1, 1) := by decide +kernel
theorem dX5_columns_64 : decode cX5_columns 64 = .ok (.goto 4, 3) := by decide +kernel
theorem dX5_columns_67 : decode cX5_columns 67 = .ok (.iconst 0, 1) := by decide +kernel
theorem dX5_columns_68 : decode cX5_columns 68 = .ok (.iadd, 1) := by decide +kernel
theorem dX5_columns_69 : decode cX5_columns 69 = .ok (.istore_n 3, 1) := by decide +kernel
theorem dX5_columns_70 : decode cX5_columns 70 = .ok (.iload 7, 2) := by decide +kernel
theorem dX5_columns_72 : decode cX5_columns 72 = .ok (.ifCond .eq 15, 3) := by decide +kernel
theorem dX5_columns_75 : decode cX5_columns 75 = .ok (.iload 4, 2) := by decide +kernel
theorem dX5_columns_77 : decode cX5_columns 77 = .ok (.bipush (-5), 2) := by decide +kernel
theorem dX5_columns_79 : decode cX5_columns 79 = .ok (.if_icmp .ne 8, 3) := by decide +kernel
theorem dX5_columns_82 : decode cX5_columns 82 = .ok (.iload 6, 2) := by decide +kernel
theorem dX5_columns_84 : decode cX5_columns 84 = .ok (.goto 5, 3) := by decide +kernel
theorem dX5_columns_87 : decode cX5_columns 87 = .ok (.iload 4, 2) := by decide +kernel
theorem dX5_columns_89 : decode cX5_columns 89 = .ok (.istore 4, 2) := by decide +kernel
theorem dX5_columns_91 : decode cX5_columns 91 = .ok (.iload 7, 2) := by decide +kernel
theorem dX5_columns_93 : decode cX5_columns 93 = .ok (.ifCond .eq 8, 3) := by decide +kernel
theorem dX5_columns_96 : decode cX5_columns 96 = .ok (.iload 6, 2) := by decide +kernel
theorem dX5_columns_98 : decode cX5_columns 98 = .ok (.goto 5, 3) := by decide +kernel
theorem dX5_columns_101 : decode cX5_columns 101 = .ok (.iload 5, 2) := by decide +kernel
theorem dX5_columns_103 : decode cX5_columns 103 = .ok (.istore 5, 2) := by decide +kernel
theorem dX5_columns_105 : decode cX5_columns 105 = .ok (.iinc 6 1, 3) := by decide +kernel
theorem dX5_columns_108 : decode cX5_columns 108 = .ok (.goto (-95), 3) := by decide +kernel
theorem dX5_columns_111 : decode cX5_columns 111 = .ok (.iload_n 2, 1) := by decide +kernel
theorem dX5_columns_112 : decode cX5_columns 112 = .ok (.ifCond .ne 7, 3) := by decide +kernel
theorem dX5_columns_115 : decode cX5_columns 115 = .ok (.iload_n 3, 1) := by decide +kernel
theorem dX5_columns_116 : decode cX5_columns 116 = .ok (.goto 15, 3) := by decide +kernel
theorem dX5_columns_119 : decode cX5_columns 119 = .ok (.iload_n 2, 1) := by decide +kernel
theorem dX5_columns_120 : decode cX5_columns 120 = .ok (.iconst 1, 1) := by decide +kernel
theorem dX5_columns_121 : decode cX5_columns 121 = .ok (.if_icmp .ne 8, 3) := by decide +kernel
theorem dX5_columns_124 : decode cX5_columns 124 = .ok (.iload 4, 2) := by decide +kernel
theorem dX5_columns_126 : decode cX5_columns 126 = .ok (.goto 5, 3) := by decide +kernel
theorem dX5_columns_129 : decode cX5_columns 129 = .ok (.iload 5, 2) := by decide +kernel
theorem dX5_columns_131 : decode cX5_columns 131 = .ok (.ireturn, 1) := by decide +kernel
theorem dX5_row_0 : decode cX5_row 0 = .ok (.iload_n 1, 1) := by decide +kernel
theorem dX5_row_1 : decode cX5_row 1 = .ok (.invokestatic 142, 3) := by decide +kernel
theorem dX5_row_4 : decode cX5_row 4 = .ok (.ifCond .ne 5, 3) := by decide +kernel
theorem dX5_row_7 : decode cX5_row 7 = .ok (.iconst (-1), 1) := by decide +kernel
theorem dX5_row_8 : decode cX5_row 8 = .ok (.ireturn, 1) := by decide +kernel
theorem dX5_row_9 : decode cX5_row 9 = .ok (.iload_n 2, 1) := by decide +kernel
theorem dX5_row_10 : decode cX5_row 10 = .ok (.iconst 0, 1) := by decide +kernel
theorem dX5_row_11 : decode cX5_row 11 = .ok (.iconst 2, 1) := by decide +kernel
theorem dX5_row_12 : decode cX5_row 12 = .ok (.invokestatic 47, 3) := by decide +kernel
theorem dX5_row_15 : decode cX5_row 15 = .ok (.ifCond .ne 6, 3) := by decide +kernel
theorem dX5_row_18 : decode cX5_row 18 = .ok (.bipush (-2), 2) := by decide +kernel
theorem dX5_row_20 : decode cX5_row 20 = .ok (.ireturn, 1) := by decide +kernel
theorem dX5_row_21 : decode cX5_row 21 = .ok (.aload_n 0, 1) := by decide +kernel
theorem dX5_row_22 : decode cX5_row 22 = .ok (.invokevirtual 78, 3) := by decide +kernel
theorem dX5_row_25 : decode cX5_row 25 = .ok (.iload_n 2, 1) := by decide +kernel
theorem dX5_row_26 : decode cX5_row 26 = .ok (.ifCond .ne 15, 3) := by decide +kernel
theorem dX5_row_29 : decode cX5_row 29 = .ok (.aload_n 0, 1) := by decide +kernel
theorem dX5_row_30 : decode cX5_row 30 = .ok (.getfield 7, 3) := by decide +kernel
theorem dX5_row_33 : decode cX5_row 33 = .ok (.bipush 7, 2) := by decide +kernel
theorem dX5_row_35 : decode cX5_row 35 = .ok (.iload_n 1, 1) := by decide +kernel
theorem dX5_row_36 : decode cX5_row 36 = .ok (.iadd, 1) := by decide +kernel
theorem dX5_row_37 : decode cX5_row 37 = .ok (.iaload, 1) := by decide +kernel
theorem dX5_row_38 : decode cX5_row 38 = .ok (.goto 9, 3) := by decide +kernel
theorem dX5_row_41 : decode cX5_row 41 = .ok (.aload_n 0, 1) := by decide +kernel
theorem dX5_row_42 : decode cX5_row 42 = .ok (.iload_n 1, 1) := by decide +kernel
theorem dX5_row_43 : decode cX5_row 43 = .ok (.iload_n 2, 1) := by decide +kernel
theorem dX5_row_44 : decode cX5_row 44 = .ok (.invokevirtual 201, 3) := by decide +kernel
theorem dX5_row_47 : decode cX5_row 47 = .ok (.ireturn, 1) := by decide +kernel
theorem dX5_way_0 : decode cX5_way 0 = .ok (.iload_n 1, 1) := by decide +kernel
theorem dX5_way_1 : decode cX5_way 1 = .ok (.invokestatic 123, 3) := by decide +kernel
theorem dX5_way_4 : decode cX5_way 4 = .ok (.ifCond .eq 19, 3) := by decide +kernel
theorem dX5_way_7 : decode cX5_way 7 = .ok (.iload_n 2, 1) := by decide +kernel
theorem dX5_way_8 : decode cX5_way 8 = .ok (.invokestatic 100, 3) := by decide +kernel
theorem dX5_way_11 : decode cX5_way 11 = .ok (.ifCond .eq 12, 3) := by decide +kernel
theorem dX5_way_14 : decode cX5_way 14 = .ok (.aload_n 0, 1) := by decide +kernel
theorem dX5_way_15 : decode cX5_way 15 = .ok (.iload_n 1, 1) := by decide +kernel
theorem dX5_way_16 : decode cX5_way 16 = .ok (.iload_n 2, 1) := by decide +kernel
theorem dX5_way_17 : decode cX5_way 17 = .ok (.invokevirtual 126, 3) := by decide +kernel
theorem dX5_way_20 : decode cX5_way 20 = .ok (.goto 4, 3) := by decide +kernel
theorem dX5_way_23 : decode cX5_way 23 = .ok (.iconst (-1), 1) := by decide +kernel
theorem dX5_way_24 : decode cX5_way 24 = .ok (.ireturn, 1) := by decide +kernel
theorem dX5_why_0 : decode cX5_why 0 = .ok (.aload_n 0, 1) := by decide +kernel
theorem dX5_why_1 : decode cX5_why 1 = .ok (.iload_n 1, 1) := by decide +kernel
theorem dX5_why_2 : decode cX5_why 2 = .ok (.iconst 1, 1) := by decide +kernel
theorem dX5_why_3 : decode cX5_why 3 = .ok (.invokevirtual 116, 3) := by decide +kernel
theorem dX5_why_6 : decode cX5_why 6 = .ok (.aload_n 0, 1) := by decide +kernel
theorem dX5_why_7 : decode cX5_why 7 = .ok (.getfield 31, 3) := by decide +kernel
theorem dX5_why_10 : decode cX5_why 10 = .ok (.iload_n 2, 1) := by decide +kernel
theorem dX5_why_11 : decode cX5_why 11 = .ok (.iaload, 1) := by decide +kernel
theorem dX5_why_12 : decode cX5_why 12 = .ok (.isub, 1) := by decide +kernel
theorem dX5_why_13 : decode cX5_why 13 = .ok (.istore_n 3, 1) := by decide +kernel
theorem dX5_why_14 : decode cX5_why 14 = .ok (.aload_n 0, 1) := by decide +kernel
theorem dX5_why_15 : decode cX5_why 15 = .ok (.getfield 7, 3) := by decide +kernel
theorem dX5_why_18 : decode cX5_why 18 = .ok (.bipush 28, 2) := by decide +kernel
theorem dX5_why_20 : decode cX5_why 20 = .ok (.iload_n 2, 1) := by decide +kernel
theorem dX5_why_21 : decode cX5_why 21 = .ok (.iadd, 1) := by decide +kernel
theorem dX5_why_22 : decode cX5_why 22 = .ok (.iaload, 1) := by decide +kernel
theorem dX5_why_23 : decode cX5_why 23 = .ok (.ifCond .ne 7, 3) := by decide +kernel
theorem dX5_why_26 : decode cX5_why 26 = .ok (.iconst 1, 1) := by decide +kernel
theorem dX5_why_27 : decode cX5_why 27 = .ok (.goto 26, 3) := by decide +kernel
theorem dX5_why_30 : decode cX5_why 30 = .ok (.iload_n 3, 1) := by decide +kernel
theorem dX5_why_31 : decode cX5_why 31 = .ok (.ifCond .ge 7, 3) := by decide +kernel
theorem dX5_why_34 : decode cX5_why 34 = .ok (.iconst 2, 1) := by decide +kernel
theorem dX5_why_35 : decode cX5_why 35 = .ok (.goto 18, 3) := by decide +kernel
theorem dX5_why_38 : decode cX5_why 38 = .ok (.iload_n 3, 1) := by decide +kernel
theorem dX5_why_39 : decode cX5_why 39 = .ok (.aload_n 0, 1) := by decide +kernel
theorem dX5_why_40 : decode cX5_why 40 = .ok (.getfield 7, 3) := by decide +kernel
theorem dX5_why_43 : decode cX5_why 43 = .ok (.iconst 2, 1) := by decide +kernel
theorem dX5_why_44 : decode cX5_why 44 = .ok (.iaload, 1) := by decide +kernel
theorem dX5_why_45 : decode cX5_why 45 = .ok (.if_icmp .ge 7, 3) := by decide +kernel
theorem dX5_why_48 : decode cX5_why 48 = .ok (.iconst 3, 1) := by decide +kernel
theorem dX5_why_49 : decode cX5_why 49 = .ok (.goto 4, 3) := by decide +kernel
theorem dX5_why_52 : decode cX5_why 52 = .ok (.iconst 0, 1) := by decide +kernel
theorem dX5_why_53 : decode cX5_why 53 = .ok (.ireturn, 1) := by decide +kernel
theorem dX5_reason_0 : decode cX5_reason 0 = .ok (.iload_n 1, 1) := by decide +kernel
theorem dX5_reason_1 : decode cX5_reason 1 = .ok (.invokestatic 123, 3) := by decide +kernel
theorem dX5_reason_4 : decode cX5_reason 4 = .ok (.ifCond .eq 10, 3) := by decide +kernel
theorem dX5_reason_7 : decode cX5_reason 7 = .ok (.iload_n 2, 1) := by decide +kernel
theorem dX5_reason_8 : decode cX5_reason 8 = .ok (.invokestatic 100, 3) := by decide +kernel
theorem dX5_reason_11 : decode cX5_reason 11 = .ok (.ifCond .ne 5, 3) := by decide +kernel
theorem dX5_reason_14 : decode cX5_reason 14 = .ok (.iconst (-1), 1) := by decide +kernel
theorem dX5_reason_15 : decode cX5_reason 15 = .ok (.ireturn, 1) := by decide +kernel
theorem dX5_reason_16 : decode cX5_reason 16 = .ok (.aload_n 0, 1) := by decide +kernel
theorem dX5_reason_17 : decode cX5_reason 17 = .ok (.aload_n 0, 1) := by decide +kernel
theorem dX5_reason_18 : decode cX5_reason 18 = .ok (.iload_n 1, 1) := by decide +kernel
theorem dX5_reason_19 : decode cX5_reason 19 = .ok (.iconst 0, 1) := by decide +kernel
theorem dX5_reason_20 : decode cX5_reason 20 = .ok (.invokevirtual 116, 3) := by decide +kernel
theorem dX5_reason_23 : decode cX5_reason 23 = .ok (.invokevirtual 119, 3) := by decide +kernel
theorem dX5_reason_26 : decode cX5_reason 26 = .ok (.aload_n 0, 1) := by decide +kernel
theorem dX5_reason_27 : decode cX5_reason 27 = .ok (.iload_n 1, 1) := by decide +kernel
theorem dX5_reason_28 : decode cX5_reason 28 = .ok (.iload_n 2, 1) := by decide +kernel
theorem dX5_reason_29 : decode cX5_reason 29 = .ok (.invokevirtual 204, 3) := by decide +kernel
theorem dX5_reason_32 : decode cX5_reason 32 = .ok (.ireturn, 1) := by decide +kernel
theorem dX5_isBetter_0 : decode cX5_isBetter 0 = .ok (.aload_n 0, 1) := by decide +kernel
theorem dX5_isBetter_1 : decode cX5_isBetter 1 = .ok (.iload_n 1, 1) := by decide +kernel
theorem dX5_isBetter_2 : decode cX5_isBetter 2 = .ok (.invokevirtual 198, 3) := by decide +kernel
theorem dX5_isBetter_5 : decode cX5_isBetter 5 = .ok (.aload_n 0, 1) := by decide +kernel
theorem dX5_isBetter_6 : decode cX5_isBetter 6 = .ok (.iload_n 2, 1) := by decide +kernel
theorem dX5_isBetter_7 : decode cX5_isBetter 7 = .ok (.invokevirtual 198, 3) := by decide +kernel
theorem dX5_isBetter_10 : decode cX5_isBetter 10 = .ok (.isub, 1) := by decide +kernel
theorem dX5_isBetter_11 : decode cX5_isBetter 11 = .ok (.istore_n 3, 1) := by decide +kernel
theorem dX5_isBetter_12 : decode cX5_isBetter 12 = .ok (.iload_n 3, 1) := by decide +kernel
theorem dX5_isBetter_13 : decode cX5_isBetter 13 = .ok (.ifCond .ne 25, 3) := by decide +kernel
theorem dX5_isBetter_16 : decode cX5_isBetter 16 = .ok (.aload_n 0, 1) := by decide +kernel
theorem dX5_isBetter_17 : decode cX5_isBetter 17 = .ok (.getfield 7, 3) := by decide +kernel
theorem dX5_isBetter_20 : decode cX5_isBetter 20 = .ok (.bipush 28, 2) := by decide +kernel
theorem dX5_isBetter_22 : decode cX5_isBetter 22 = .ok (.iload_n 1, 1) := by decide +kernel
theorem dX5_isBetter_23 : decode cX5_isBetter 23 = .ok (.iadd, 1) := by decide +kernel
theorem dX5_isBetter_24 : decode cX5_isBetter 24 = .ok (.iaload, 1) := by decide +kernel
theorem dX5_isBetter_25 : decode cX5_isBetter 25 = .ok (.aload_n 0, 1) := by decide +kernel
theorem dX5_isBetter_26 : decode cX5_isBetter 26 = .ok (.getfield 7, 3) := by decide +kernel
theorem dX5_isBetter_29 : decode cX5_isBetter 29 = .ok (.bipush 28, 2) := by decide +kernel
theorem dX5_isBetter_31 : decode cX5_isBetter 31 = .ok (.iload_n 2, 1) := by decide +kernel
theorem dX5_isBetter_32 : decode cX5_isBetter 32 = .ok (.iadd, 1) := by decide +kernel
theorem dX5_isBetter_33 : decode cX5_isBetter 33 = .ok (.iaload, 1) := by decide +kernel
theorem dX5_isBetter_34 : decode cX5_isBetter 34 = .ok (.isub, 1) := by decide +kernel
theorem dX5_isBetter_35 : decode cX5_isBetter 35 = .ok (.goto 4, 3) := by decide +kernel
theorem dX5_isBetter_38 : decode cX5_isBetter 38 = .ok (.iload_n 3, 1) := by decide +kernel
theorem dX5_isBetter_39 : decode cX5_isBetter 39 = .ok (.istore_n 3, 1) := by decide +kernel
theorem dX5_isBetter_40 : decode cX5_isBetter 40 = .ok (.iload_n 3, 1) := by decide +kernel
theorem dX5_isBetter_41 : decode cX5_isBetter 41 = .ok (.ifCond .ne 19, 3) := by decide +kernel
theorem dX5_isBetter_44 : decode cX5_isBetter 44 = .ok (.aload_n 0, 1) := by decide +kernel
theorem dX5_isBetter_45 : decode cX5_isBetter 45 = .ok (.getfield 31, 3) := by decide +kernel
theorem dX5_isBetter_48 : decode cX5_isBetter 48 = .ok (.iload_n 2, 1) := by decide +kernel
theorem dX5_isBetter_49 : decode cX5_isBetter 49 = .ok (.iaload, 1) := by decide +kernel
theorem dX5_isBetter_50 : decode cX5_isBetter 50 = .ok (.aload_n 0, 1) := by decide +kernel
theorem dX5_isBetter_51 : decode cX5_isBetter 51 = .ok (.getfield 31, 3) := by decide +kernel
theorem dX5_isBetter_54 : decode cX5_isBetter 54 = .ok (.iload_n 1, 1) := by decide +kernel
theorem dX5_isBetter_55 : decode cX5_isBetter 55 = .ok (.iaload, 1) := by decide +kernel
theorem dX5_isBetter_56 : decode cX5_isBetter 56 = .ok (.isub, 1) := by decide +kernel
theorem dX5_isBetter_57 : decode cX5_isBetter 57 = .ok (.goto 4, 3) := by decide +kernel
theorem dX5_isBetter_60 : decode cX5_isBetter 60 = .ok (.iload_n 3, 1) := by decide +kernel
theorem dX5_isBetter_61 : decode cX5_isBetter 61 = .ok (.istore_n 3, 1) := by decide +kernel
theorem dX5_isBetter_62 : decode cX5_isBetter 62 = .ok (.iload_n 3, 1) := by decide +kernel
theorem dX5_isBetter_63 : decode cX5_isBetter 63 = .ok (.ifCond .le 7, 3) := by decide +kernel
theorem dX5_isBetter_66 : decode cX5_isBetter 66 = .ok (.iconst 1, 1) := by decide +kernel
theorem dX5_isBetter_67 : decode cX5_isBetter 67 = .ok (.goto 4, 3) := by decide +kernel
theorem dX5_isBetter_70 : decode cX5_isBetter 70 = .ok (.iconst 0, 1) := by decide +kernel
theorem dX5_isBetter_71 : decode cX5_isBetter 71 = .ok (.ireturn, 1) := by decide +kernel
theorem dX5_best_0 : decode cX5_best 0 = .ok (.iload_n 1, 1) := by decide +kernel
theorem dX5_best_1 : decode cX5_best 1 = .ok (.invokestatic 123, 3) := by decide +kernel
theorem dX5_best_4 : decode cX5_best 4 = .ok (.ifCond .ne 5, 3) := by decide +kernel
theorem dX5_best_7 : decode cX5_best 7 = .ok (.iconst (-1), 1) := by decide +kernel
theorem dX5_best_8 : decode cX5_best 8 = .ok (.ireturn, 1) := by decide +kernel
theorem dX5_best_9 : decode cX5_best 9 = .ok (.aload_n 0, 1) := by decide +kernel
theorem dX5_best_10 : decode cX5_best 10 = .ok (.aload_n 0, 1) := by decide +kernel
theorem dX5_best_11 : decode cX5_best 11 = .ok (.iload_n 1, 1) := by decide +kernel
theorem dX5_best_12 : decode cX5_best 12 = .ok (.iconst 0, 1) := by decide +kernel
theorem dX5_best_13 : decode cX5_best 13 = .ok (.invokevirtual 116, 3) := by decide +kernel
theorem dX5_best_16 : decode cX5_best 16 = .ok (.invokevirtual 119, 3) := by decide +kernel
theorem dX5_best_19 : decode cX5_best 19 = .ok (.aload_n 0, 1) := by decide +kernel
theorem dX5_best_20 : decode cX5_best 20 = .ok (.invokevirtual 78, 3) := by decide +kernel
theorem dX5_best_23 : decode cX5_best 23 = .ok (.bipush (-5), 2) := by decide +kernel
theorem dX5_best_25 : decode cX5_best 25 = .ok (.istore_n 2, 1) := by decide +kernel
theorem dX5_best_26 : decode cX5_best 26 = .ok (.iconst 0, 1) := by decide +kernel
theorem dX5_best_27 : decode cX5_best 27 = .ok (.istore_n 3, 1) := by decide +kernel
theorem dX5_best_28 : decode cX5_best 28 = .ok (.iload_n 3, 1) := by decide +kernel
theorem dX5_best_29 : decode cX5_best 29 = .ok (.bipush 64, 2) := by decide +kernel
theorem dX5_best_31 : decode cX5_best 31 = .ok (.if_icmp .ge 51, 3) := by decide +kernel
theorem dX5_best_34 : decode cX5_best 34 = .ok (.aload_n 0, 1) := by decide +kernel
theorem dX5_best_35 : decode cX5_best 35 = .ok (.iload_n 1, 1) := by decide +kernel
theorem dX5_best_36 : decode cX5_best 36 = .ok (.iload_n 3, 1) := by decide +kernel
theorem dX5_best_37 : decode cX5_best 37 = .ok (.invokevirtual 204, 3) := by decide +kernel
theorem dX5_best_40 : decode cX5_best 40 = .ok (.ifCond .ne 7, 3) := by decide +kernel
theorem dX5_best_43 : decode cX5_best 43 = .ok (.iconst 1, 1) := by decide +kernel
theorem dX5_best_44 : decode cX5_best 44 = .ok (.goto 4, 3) := by decide +kernel
theorem dX5_best_47 : decode cX5_best 47 = .ok (.iconst 0, 1) := by decide +kernel
theorem dX5_best_48 : decode cX5_best 48 = .ok (.istore 4, 2) := by decide +kernel
theorem dX5_best_50 : decode cX5_best 50 = .ok (.iload 4, 2) := by decide +kernel
theorem dX5_best_52 : decode cX5_best 52 = .ok (.ifCond .eq 22, 3) := by decide +kernel
theorem dX5_best_55 : decode cX5_best 55 = .ok (.iload_n 2, 1) := by decide +kernel
theorem dX5_best_56 : decode cX5_best 56 = .ok (.bipush (-5), 2) := by decide +kernel
theorem dX5_best_58 : decode cX5_best 58 = .ok (.if_icmp .eq 12, 3) := by decide +kernel
theorem dX5_best_61 : decode cX5_best 61 = .ok (.aload_n 0, 1) := by decide +kernel
theorem dX5_best_62 : decode cX5_best 62 = .ok (.iload_n 3, 1) := by decide +kernel
theorem dX5_best_63 : decode cX5_best 63 = .ok (.iload_n 2, 1) := by decide +kernel
theorem dX5_best_64 : decode cX5_best 64 = .ok (.invokevirtual 207, 3) := by decide +kernel
theorem dX5_best_67 : decode cX5_best 67 = .ok (.ifCond .eq 7, 3) := by decide +kernel
theorem dX5_best_70 : decode cX5_best 70 = .ok (.iload_n 3, 1) := by decide +kernel
theorem dX5_best_71 : decode cX5_best 71 = .ok (.goto 4, 3) := by decide +kernel
theorem dX5_best_74 : decode cX5_best 74 = .ok (.iload_n 2, 1) := by decide +kernel
theorem dX5_best_75 : decode cX5_best 75 = .ok (.istore_n 2, 1) := by decide +kernel
theorem dX5_best_76 : decode cX5_best 76 = .ok (.iinc 3 1, 3) := by decide +kernel
theorem dX5_best_79 : decode cX5_best 79 = .ok (.goto (-51), 3) := by decide +kernel
theorem dX5_best_82 : decode cX5_best 82 = .ok (.iload_n 2, 1) := by decide +kernel
theorem dX5_best_83 : decode cX5_best 83 = .ok (.ireturn, 1) := by decide +kernel
theorem dX5_openRow_0 : decode cX5_openRow 0 = .ok (.aload_n 0, 1) := by decide +kernel
theorem dX5_openRow_1 : decode cX5_openRow 1 = .ok (.invokevirtual 151, 3) := by decide +kernel
theorem dX5_openRow_4 : decode cX5_openRow 4 = .ok (.iconst 1, 1) := by decide +kernel
theorem dX5_openRow_5 : decode cX5_openRow 5 = .ok (.if_icmp .ne 6, 3) := by decide +kernel
theorem dX5_openRow_8 : decode cX5_openRow 8 = .ok (.bipush (-5), 2) := by decide +kernel
theorem dX5_openRow_10 : decode cX5_openRow 10 = .ok (.ireturn, 1) := by decide +kernel
theorem dX5_openRow_11 : decode cX5_openRow 11 = .ok (.iconst 0, 1) := by decide +kernel
theorem dX5_openRow_12 : decode cX5_openRow 12 = .ok (.istore_n 1, 1) := by decide +kernel
theorem dX5_openRow_13 : decode cX5_openRow 13 = .ok (.iconst 1, 1) := by decide +kernel
theorem dX5_openRow_14 : decode cX5_openRow 14 = .ok (.istore_n 2, 1) := by decide +kernel
theorem dX5_openRow_15 : decode cX5_openRow 15 = .ok (.iload_n 2, 1) := by decide +kernel
theorem dX5_openRow_16 : decode cX5_openRow 16 = .ok (.bipush 8, 2) := by decide +kernel
theorem dX5_openRow_18 : decode cX5_openRow 18 = .ok (.if_icmp .ge 30, 3) := by decide +kernel
theorem dX5_openRow_21 : decode cX5_openRow 21 = .ok (.aload_n 0, 1) := by decide +kernel
theorem dX5_openRow_22 : decode cX5_openRow 22 = .ok (.iload_n 2, 1) := by decide +kernel
theorem dX5_openRow_23 : decode cX5_openRow 23 = .ok (.iconst 0, 1) := by decide +kernel
theorem dX5_openRow_24 : decode cX5_openRow 24 = .ok (.invokevirtual 201, 3) := by decide +kernel
theorem dX5_openRow_27 : decode cX5_openRow 27 = .ok (.aload_n 0, 1) := by decide +kernel
theorem dX5_openRow_28 : decode cX5_openRow 28 = .ok (.iload_n 1, 1) := by decide +kernel
theorem dX5_openRow_29 : decode cX5_openRow 29 = .ok (.iconst 0, 1) := by decide +kernel
theorem dX5_openRow_30 : decode cX5_openRow 30 = .ok (.invokevirtual 201, 3) := by decide +kernel
theorem dX5_openRow_33 : decode cX5_openRow 33 = .ok (.if_icmp .le 7, 3) := by decide +kernel
theorem dX5_openRow_36 : decode cX5_openRow 36 = .ok (.iload_n 2, 1) := by decide +kernel
theorem dX5_openRow_37 : decode cX5_openRow 37 = .ok (.goto 4, 3) := by decide +kernel
theorem dX5_openRow_40 : decode cX5_openRow 40 = .ok (.iload_n 1, 1) := by decide +kernel
theorem dX5_openRow_41 : decode cX5_openRow 41 = .ok (.istore_n 1, 1) := by decide +kernel
theorem dX5_openRow_42 : decode cX5_openRow 42 = .ok (.iinc 2 1, 3) := by decide +kernel
theorem dX5_openRow_45 : decode cX5_openRow 45 = .ok (.goto (-30), 3) := by decide +kernel
theorem dX5_openRow_48 : decode cX5_openRow 48 = .ok (.iload_n 1, 1) := by decide +kernel
theorem dX5_openRow_49 : decode cX5_openRow 49 = .ok (.ireturn, 1) := by decide +kernel
theorem dX5_ifTold_0 : decode cX5_ifTold 0 = .ok (.iload_n 1, 1) := by decide +kernel
theorem dX5_ifTold_1 : decode cX5_ifTold 1 = .ok (.invokestatic 142, 3) := by decide +kernel
theorem dX5_ifTold_4 : decode cX5_ifTold 4 = .ok (.ifCond .ne 7, 3) := by decide +kernel
theorem dX5_ifTold_7 : decode cX5_ifTold 7 = .ok (.iconst (-1), 1) := by decide +kernel
theorem dX5_ifTold_8 : decode cX5_ifTold 8 = .ok (.goto 21, 3) := by decide +kernel
theorem dX5_ifTold_11 : decode cX5_ifTold 11 = .ok (.iload_n 2, 1) := by decide +kernel
theorem dX5_ifTold_12 : decode cX5_ifTold 12 = .ok (.invokestatic 142, 3) := by decide +kernel
theorem dX5_ifTold_15 : decode cX5_ifTold 15 = .ok (.ifCond .eq 12, 3) := by decide +kernel
theorem dX5_ifTold_18 : decode cX5_ifTold 18 = .ok (.aload_n 0, 1) := by decide +kernel
theorem dX5_ifTold_19 : decode cX5_ifTold 19 = .ok (.iload_n 1, 1) := by decide +kernel
theorem dX5_ifTold_20 : decode cX5_ifTold 20 = .ok (.iload_n 2, 1) := by decide +kernel
theorem dX5_ifTold_21 : decode cX5_ifTold 21 = .ok (.invokevirtual 145, 3) := by decide +kernel
theorem dX5_ifTold_24 : decode cX5_ifTold 24 = .ok (.goto 5, 3) := by decide +kernel
theorem dX5_ifTold_27 : decode cX5_ifTold 27 = .ok (.bipush (-2), 2) := by decide +kernel
theorem dX5_ifTold_29 : decode cX5_ifTold 29 = .ok (.ireturn, 1) := by decide +kernel
theorem dX5_sum_0 : decode cX5_sum 0 = .ok (.iconst 0, 1) := by decide +kernel
theorem dX5_sum_1 : decode cX5_sum 1 = .ok (.istore_n 3, 1) := by decide +kernel
theorem dX5_sum_2 : decode cX5_sum 2 = .ok (.iconst 0, 1) := by decide +kernel
theorem dX5_sum_3 : decode cX5_sum 3 = .ok (.istore 4, 2) := by decide +kernel
theorem dX5_sum_5 : decode cX5_sum 5 = .ok (.iload 4, 2) := by decide +kernel
theorem dX5_sum_7 : decode cX5_sum 7 = .ok (.iload_n 2, 1) := by decide +kernel
theorem dX5_sum_8 : decode cX5_sum 8 = .ok (.if_icmp .ge 21, 3) := by decide +kernel
theorem dX5_sum_11 : decode cX5_sum 11 = .ok (.iload_n 3, 1) := by decide +kernel
theorem dX5_sum_12 : decode cX5_sum 12 = .ok (.aload_n 0, 1) := by decide +kernel
theorem dX5_sum_13 : decode cX5_sum 13 = .ok (.getfield 7, 3) := by decide +kernel
theorem dX5_sum_16 : decode cX5_sum 16 = .ok (.iload_n 1, 1) := by decide +kernel
theorem dX5_sum_17 : decode cX5_sum 17 = .ok (.iload 4, 2) := by decide +kernel
theorem dX5_sum_19 : decode cX5_sum 19 = .ok (.iadd, 1) := by decide +kernel
theorem dX5_sum_20 : decode cX5_sum 20 = .ok (.iaload, 1) := by decide +kernel
theorem dX5_sum_21 : decode cX5_sum 21 = .ok (.iadd, 1) := by decide +kernel
theorem dX5_sum_22 : decode cX5_sum 22 = .ok (.istore_n 3, 1) := by decide +kernel
theorem dX5_sum_23 : decode cX5_sum 23 = .ok (.iinc 4 1, 3) := by decide +kernel
theorem dX5_sum_26 : decode cX5_sum 26 = .ok (.goto (-21), 3) := by decide +kernel
theorem dX5_sum_29 : decode cX5_sum 29 = .ok (.iload_n 3, 1) := by decide +kernel
theorem dX5_sum_30 : decode cX5_sum 30 = .ok (.ireturn, 1) := by decide +kernel
theorem dX5_plotsHit_0 : decode cX5_plotsHit 0 = .ok (.iconst 0, 1) := by decide +kernel
theorem dX5_plotsHit_1 : decode cX5_plotsHit 1 = .ok (.istore_n 2, 1) := by decide +kernel
theorem dX5_plotsHit_2 : decode cX5_plotsHit 2 = .ok (.iconst 0, 1) := by decide +kernel
theorem dX5_plotsHit_3 : decode cX5_plotsHit 3 = .ok (.istore_n 3, 1) := by decide +kernel
theorem dX5_plotsHit_4 : decode cX5_plotsHit 4 = .ok (.iload_n 3, 1) := by decide +kernel
theorem dX5_plotsHit_5 : decode cX5_plotsHit 5 = .ok (.bipush 64, 2) := by decide +kernel
theorem dX5_plotsHit_7 : decode cX5_plotsHit 7 = .ok (.if_icmp .ge 49, 3) := by decide +kernel
theorem dX5_plotsHit_10 : decode cX5_plotsHit 10 = .ok (.iload_n 2, 1) := by decide +kernel
theorem dX5_plotsHit_11 : decode cX5_plotsHit 11 = .ok (.iload_n 1, 1) := by decide +kernel
theorem dX5_plotsHit_12 : decode cX5_plotsHit 12 = .ok (.ifCond .eq 23, 3) := by decide +kernel
theorem dX5_plotsHit_15 : decode cX5_plotsHit 15 = .ok (.aload_n 0, 1) := by decide +kernel
theorem dX5_plotsHit_16 : decode cX5_plotsHit 16 = .ok (.iload_n 3, 1) := by decide +kernel
theorem dX5_plotsHit_17 : decode cX5_plotsHit 17 = .ok (.invokevirtual 85, 3) := by decide +kernel
theorem dX5_plotsHit_20 : decode cX5_plotsHit 20 = .ok (.aload_n 0, 1) := by decide +kernel
theorem dX5_plotsHit_21 : decode cX5_plotsHit 21 = .ok (.invokevirtual 81, 3) := by decide +kernel
theorem dX5_plotsHit_24 : decode cX5_plotsHit 24 = .ok (.if_icmp .ne 7, 3) := by decide +kernel
theorem dX5_plotsHit_27 : decode cX5_plotsHit 27 = .ok (.iconst 1, 1) := by decide +kernel
theorem dX5_plotsHit_28 : decode cX5_plotsHit 28 = .ok (.goto 20, 3) := by decide +kernel
theorem dX5_plotsHit_31 : decode cX5_plotsHit 31 = .ok (.iconst 0, 1) := by decide +kernel
theorem dX5_plotsHit_32 : decode cX5_plotsHit 32 = .ok (.goto 16, 3) := by decide +kernel
theorem dX5_plotsHit_35 : decode cX5_plotsHit 35 = .ok (.aload_n 0, 1) := by decide +kernel
theorem dX5_plotsHit_36 : decode cX5_plotsHit 36 = .ok (.iload_n 3, 1) := by decide +kernel
theorem dX5_plotsHit_37 : decode cX5_plotsHit 37 = .ok (.invokevirtual 85, 3) := by decide +kernel
theorem dX5_plotsHit_40 : decode cX5_plotsHit 40 = .ok (.ifCond .le 7, 3) := by decide +kernel
theorem dX5_plotsHit_43 : decode cX5_plotsHit 43 = .ok (.iconst 1, 1) := by decide +kernel
theorem dX5_plotsHit_44 : decode cX5_plotsHit 44 = .ok (.goto 4, 3) := by decide +kernel
theorem dX5_plotsHit_47 : decode cX5_plotsHit 47 = .ok (.iconst 0, 1) := by decide +kernel
theorem dX5_plotsHit_48 : decode cX5_plotsHit 48 = .ok (.iadd, 1) := by decide +kernel
theorem dX5_plotsHit_49 : decode cX5_plotsHit 49 = .ok (.istore_n 2, 1) := by decide +kernel
theorem dX5_plotsHit_50 : decode cX5_plotsHit 50 = .ok (.iinc 3 1, 3) := by decide +kernel
theorem dX5_plotsHit_53 : decode cX5_plotsHit 53 = .ok (.goto (-49), 3) := by decide +kernel
theorem dX5_plotsHit_56 : decode cX5_plotsHit 56 = .ok (.iload_n 2, 1) := by decide +kernel
theorem dX5_plotsHit_57 : decode cX5_plotsHit 57 = .ok (.ireturn, 1) := by decide +kernel
theorem dX5_allToLose_0 : decode cX5_allToLose 0 = .ok (.iconst 0, 1) := by decide +kernel
theorem dX5_allToLose_1 : decode cX5_allToLose 1 = .ok (.istore_n 1, 1) := by decide +kernel
theorem dX5_allToLose_2 : decode cX5_allToLose 2 = .ok (.iconst 0, 1) := by decide +kernel
theorem dX5_allToLose_3 : decode cX5_allToLose 3 = .ok (.istore_n 2, 1) := by decide +kernel
theorem dX5_allToLose_4 : decode cX5_allToLose 4 = .ok (.iload_n 2, 1) := by decide +kernel
theorem dX5_allToLose_5 : decode cX5_allToLose 5 = .ok (.bipush 64, 2) := by decide +kernel
theorem dX5_allToLose_7 : decode cX5_allToLose 7 = .ok (.if_icmp .ge 17, 3) := by decide +kernel
theorem dX5_allToLose_10 : decode cX5_allToLose 10 = .ok (.iload_n 1, 1) := by decide +kernel
theorem dX5_allToLose_11 : decode cX5_allToLose 11 = .ok (.aload_n 0, 1) := by decide +kernel
theorem dX5_allToLose_12 : decode cX5_allToLose 12 = .ok (.iload_n 2, 1) := by decide +kernel
theorem dX5_allToLose_13 : decode cX5_allToLose 13 = .ok (.invokevirtual 198, 3) := by decide +kernel
theorem dX5_allToLose_16 : decode cX5_allToLose 16 = .ok (.iadd, 1) := by decide +kernel
theorem dX5_allToLose_17 : decode cX5_allToLose 17 = .ok (.istore_n 1, 1) := by decide +kernel
theorem dX5_allToLose_18 : decode cX5_allToLose 18 = .ok (.iinc 2 1, 3) := by decide +kernel
theorem dX5_allToLose_21 : decode cX5_allToLose 21 = .ok (.goto (-17), 3) := by decide +kernel
theorem dX5_allToLose_24 : decode cX5_allToLose 24 = .ok (.iload_n 1, 1) := by decide +kernel
theorem dX5_allToLose_25 : decode cX5_allToLose 25 = .ok (.ireturn, 1) := by decide +kernel
theorem dX5_hints_0 : decode cX5_hints 0 = .ok (.iconst 0, 1) := by decide +kernel
theorem dX5_hints_1 : decode cX5_hints 1 = .ok (.istore_n 1, 1) := by decide +kernel
theorem dX5_hints_2 : decode cX5_hints 2 = .ok (.iconst 0, 1) := by decide +kernel
theorem dX5_hints_3 : decode cX5_hints 3 = .ok (.istore_n 2, 1) := by decide +kernel
theorem dX5_hints_4 : decode cX5_hints 4 = .ok (.iload_n 2, 1) := by decide +kernel
theorem dX5_hints_5 : decode cX5_hints 5 = .ok (.bipush 8, 2) := by decide +kernel
theorem dX5_hints_7 : decode cX5_hints 7 = .ok (.if_icmp .ge 31, 3) := by decide +kernel
theorem dX5_hints_10 : decode cX5_hints 10 = .ok (.iload_n 1, 1) := by decide +kernel
theorem dX5_hints_11 : decode cX5_hints 11 = .ok (.aload_n 0, 1) := by decide +kernel
theorem dX5_hints_12 : decode cX5_hints 12 = .ok (.getfield 7, 3) := by decide +kernel
theorem dX5_hints_15 : decode cX5_hints 15 = .ok (.bipush 7, 2) := by decide +kernel
theorem dX5_hints_17 : decode cX5_hints 17 = .ok (.iload_n 2, 1) := by decide +kernel
theorem dX5_hints_18 : decode cX5_hints 18 = .ok (.iadd, 1) := by decide +kernel
theorem dX5_hints_19 : decode cX5_hints 19 = .ok (.iaload, 1) := by decide +kernel
theorem dX5_hints_20 : decode cX5_hints 20 = .ok (.bipush (-5), 2) := by decide +kernel
theorem dX5_hints_22 : decode cX5_hints 22 = .ok (.if_icmp .ne 7, 3) := by decide +kernel
theorem dX5_hints_25 : decode cX5_hints 25 = .ok (.iconst 0, 1) := by decide +kernel
theorem dX5_hints_26 : decode cX5_hints 26 = .ok (.goto 4, 3) := by decide +kernel
theorem dX5_hints_29 : decode cX5_hints 29 = .ok (.iconst 1, 1) := by decide +kernel
theorem dX5_hints_30 : decode cX5_hints 30 = .ok (.iadd, 1) := by decide +kernel
theorem dX5_hints_31 : decode cX5_hints 31 = .ok (.istore_n 1, 1) := by decide +kernel
theorem dX5_hints_32 : decode cX5_hints 32 = .ok (.iinc 2 1, 3) := by decide +kernel
theorem dX5_hints_35 : decode cX5_hints 35 = .ok (.goto (-31), 3) := by decide +kernel
theorem dX5_hints_38 : decode cX5_hints 38 = .ok (.iload_n 1, 1) := by decide +kernel
theorem dX5_hints_39 : decode cX5_hints 39 = .ok (.ireturn, 1) := by decide +kernel
theorem dX5_count_0 : decode cX5_count 0 = .ok (.aload_n 0, 1) := by decide +kernel
theorem dX5_count_1 : decode cX5_count 1 = .ok (.invokevirtual 78, 3) := by decide +kernel
theorem dX5_count_4 : decode cX5_count 4 = .ok (.iload_n 1, 1) := by decide +kernel
theorem dX5_count_5 : decode cX5_count 5 = .ok (.tableswitch 199 0 16 #[83, 90, 99, 105, 111, 116, 121, 126, 147, 154, 161, 169, 179, 179, 179, 189, 194], 83) := by decide +kernel
theorem dX5_count_88 : decode cX5_count 88 = .ok (.aload_n 0, 1) := by decide +kernel
theorem dX5_count_89 : decode cX5_count 89 = .ok (.getfield 7, 3) := by decide +kernel
theorem dX5_count_92 : decode cX5_count 92 = .ok (.iconst 3, 1) := by decide +kernel
theorem dX5_count_93 : decode cX5_count 93 = .ok (.iaload, 1) := by decide +kernel
theorem dX5_count_94 : decode cX5_count 94 = .ok (.ireturn, 1) := by decide +kernel
theorem dX5_count_95 : decode cX5_count 95 = .ok (.aload_n 0, 1) := by decide +kernel
theorem dX5_count_96 : decode cX5_count 96 = .ok (.bipush 28, 2) := by decide +kernel
theorem dX5_count_98 : decode cX5_count 98 = .ok (.bipush 64, 2) := by decide +kernel
theorem dX5_count_100 : decode cX5_count 100 = .ok (.invokevirtual 210, 3) := by decide +kernel
theorem dX5_count_103 : decode cX5_count 103 = .ok (.ireturn, 1) := by decide +kernel
theorem dX5_count_104 : decode cX5_count 104 = .ok (.aload_n 0, 1) := by decide +kernel
theorem dX5_count_105 : decode cX5_count 105 = .ok (.iconst 0, 1) := by decide +kernel
theorem dX5_count_106 : decode cX5_count 106 = .ok (.invokevirtual 213, 3) := by decide +kernel
theorem dX5_count_109 : decode cX5_count 109 = .ok (.ireturn, 1) := by decide +kernel
theorem dX5_count_110 : decode cX5_count 110 = .ok (.aload_n 0, 1) := by decide +kernel
theorem dX5_count_111 : decode cX5_count 111 = .ok (.iconst 1, 1) := by decide +kernel
theorem dX5_count_112 : decode cX5_count 112 = .ok (.invokevirtual 213, 3) := by decide +kernel
theorem dX5_count_115 : decode cX5_count 115 = .ok (.ireturn, 1) := by decide +kernel
theorem dX5_count_116 : decode cX5_count 116 = .ok (.aload_n 0, 1) := by decide +kernel
theorem dX5_count_117 : decode cX5_count 117 = .ok (.invokevirtual 217, 3) := by decide +kernel
theorem dX5_count_120 : decode cX5_count 120 = .ok (.ireturn, 1) := by decide +kernel
theorem dX5_count_121 : decode cX5_count 121 = .ok (.aload_n 0, 1) := by decide +kernel
theorem dX5_count_122 : decode cX5_count 122 = .ok (.invokevirtual 81, 3) := by decide +kernel
theorem dX5_count_125 : decode cX5_count 125 = .ok (.ireturn, 1) := by decide +kernel
theorem dX5_count_126 : decode cX5_count 126 = .ok (.aload_n 0, 1) := by decide +kernel
theorem dX5_count_127 : decode cX5_count 127 = .ok (.invokevirtual 220, 3) := by decide +kernel
theorem dX5_count_130 : decode cX5_count 130 = .ok (.ireturn, 1) := by decide +kernel
theorem dX5_count_131 : decode cX5_count 131 = .ok (.aload_n 0, 1) := by decide +kernel
theorem dX5_count_132 : decode cX5_count 132 = .ok (.iconst 0, 1) := by decide +kernel
theorem dX5_count_133 : decode cX5_count 133 = .ok (.iconst 2, 1) := by decide +kernel
theorem dX5_count_134 : decode cX5_count 134 = .ok (.invokevirtual 116, 3) := by decide +kernel
theorem dX5_count_137 : decode cX5_count 137 = .ok (.aload_n 0, 1) := by decide +kernel
theorem dX5_count_138 : decode cX5_count 138 = .ok (.iconst 1, 1) := by decide +kernel
theorem dX5_count_139 : decode cX5_count 139 = .ok (.iconst 2, 1) := by decide +kernel
theorem dX5_count_140 : decode cX5_count 140 = .ok (.invokevirtual 116, 3) := by decide +kernel
theorem dX5_count_143 : decode cX5_count 143 = .ok (.iadd, 1) := by decide +kernel
theorem dX5_count_144 : decode cX5_count 144 = .ok (.aload_n 0, 1) := by decide +kernel
theorem dX5_count_145 : decode cX5_count 145 = .ok (.iconst 2, 1) := by decide +kernel
theorem dX5_count_146 : decode cX5_count 146 = .ok (.iconst 2, 1) := by decide +kernel
theorem dX5_count_147 : decode cX5_count 147 = .ok (.invokevirtual 116, 3) := by decide +kernel
theorem dX5_count_150 : decode cX5_count 150 = .ok (.iadd, 1) := by decide +kernel
theorem dX5_count_151 : decode cX5_count 151 = .ok (.ireturn, 1) := by decide +kernel
theorem dX5_count_152 : decode cX5_count 152 = .ok (.aload_n 0, 1) := by decide +kernel
theorem dX5_count_153 : decode cX5_count 153 = .ok (.getfield 7, 3) := by decide +kernel
theorem dX5_count_156 : decode cX5_count 156 = .ok (.iconst 4, 1) := by decide +kernel
theorem dX5_count_157 : decode cX5_count 157 = .ok (.iaload, 1) := by decide +kernel
theorem dX5_count_158 : decode cX5_count 158 = .ok (.ireturn, 1) := by decide +kernel
theorem dX5_count_159 : decode cX5_count 159 = .ok (.aload_n 0, 1) := by decide +kernel
theorem dX5_count_160 : decode cX5_count 160 = .ok (.getfield 7, 3) := by decide +kernel
theorem dX5_count_163 : decode cX5_count 163 = .ok (.iconst 5, 1) := by decide +kernel
theorem dX5_count_164 : decode cX5_count 164 = .ok (.iaload, 1) := by decide +kernel
theorem dX5_count_165 : decode cX5_count 165 = .ok (.ireturn, 1) := by decide +kernel
theorem dX5_count_166 : decode cX5_count 166 = .ok (.aload_n 0, 1) := by decide +kernel
theorem dX5_count_167 : decode cX5_count 167 = .ok (.getfield 7, 3) := by decide +kernel
theorem dX5_count_170 : decode cX5_count 170 = .ok (.bipush 6, 2) := by decide +kernel
theorem dX5_count_172 : decode cX5_count 172 = .ok (.iaload, 1) := by decide +kernel
theorem dX5_count_173 : decode cX5_count 173 = .ok (.ireturn, 1) := by decide +kernel
theorem dX5_count_174 : decode cX5_count 174 = .ok (.aload_n 0, 1) := by decide +kernel
theorem dX5_count_175 : decode cX5_count 175 = .ok (.sipush 156, 3) := by decide +kernel
theorem dX5_count_178 : decode cX5_count 178 = .ok (.bipush 64, 2) := by decide +kernel
theorem dX5_count_180 : decode cX5_count 180 = .ok (.invokevirtual 210, 3) := by decide +kernel
theorem dX5_count_183 : decode cX5_count 183 = .ok (.ireturn, 1) := by decide +kernel
theorem dX5_count_184 : decode cX5_count 184 = .ok (.aload_n 0, 1) := by decide +kernel
theorem dX5_count_185 : decode cX5_count 185 = .ok (.getfield 7, 3) := by decide +kernel
theorem dX5_count_188 : decode cX5_count 188 = .ok (.iload_n 1, 1) := by decide +kernel
theorem dX5_count_189 : decode cX5_count 189 = .ok (.bipush 12, 2) := by decide +kernel
theorem dX5_count_191 : decode cX5_count 191 = .ok (.isub, 1) := by decide +kernel
theorem dX5_count_192 : decode cX5_count 192 = .ok (.iaload, 1) := by decide +kernel
theorem dX5_count_193 : decode cX5_count 193 = .ok (.ireturn, 1) := by decide +kernel
theorem dX5_count_194 : decode cX5_count 194 = .ok (.aload_n 0, 1) := by decide +kernel
theorem dX5_count_195 : decode cX5_count 195 = .ok (.getfield 51, 3) := by decide +kernel
theorem dX5_count_198 : decode cX5_count 198 = .ok (.ireturn, 1) := by decide +kernel
theorem dX5_count_199 : decode cX5_count 199 = .ok (.aload_n 0, 1) := by decide +kernel
theorem dX5_count_200 : decode cX5_count 200 = .ok (.getfield 157, 3) := by decide +kernel
theorem dX5_count_203 : decode cX5_count 203 = .ok (.ireturn, 1) := by decide +kernel
theorem dX5_count_204 : decode cX5_count 204 = .ok (.bipush (-2), 2) := by decide +kernel
theorem dX5_count_206 : decode cX5_count 206 = .ok (.ireturn, 1) := by decide +kernel
theorem dJ9_abs_0f7a4_0 : decode cJ9_abs_0f7a4 0 = .ok (.iload_n 0, 1) := by decide +kernel
theorem dJ9_abs_0f7a4_1 : decode cJ9_abs_0f7a4 1 = .ok (.ifCond .ge 8, 3) := by decide +kernel
theorem dJ9_abs_0f7a4_4 : decode cJ9_abs_0f7a4 4 = .ok (.iload_n 0, 1) := by decide +kernel
theorem dJ9_abs_0f7a4_5 : decode cJ9_abs_0f7a4 5 = .ok (.ineg, 1) := by decide +kernel
theorem dJ9_abs_0f7a4_6 : decode cJ9_abs_0f7a4 6 = .ok (.goto 4, 3) := by decide +kernel
theorem dJ9_abs_0f7a4_9 : decode cJ9_abs_0f7a4 9 = .ok (.iload_n 0, 1) := by decide +kernel
theorem dJ9_abs_0f7a4_10 : decode cJ9_abs_0f7a4 10 = .ok (.ireturn, 1) := by decide +kernel
theorem dJ9_max_7cf53_0 : decode cJ9_max_7cf53 0 = .ok (.iload_n 0, 1) := by decide +kernel
theorem dJ9_max_7cf53_1 : decode cJ9_max_7cf53 1 = .ok (.iload_n 1, 1) := by decide +kernel
theorem dJ9_max_7cf53_2 : decode cJ9_max_7cf53 2 = .ok (.if_icmp .lt 7, 3) := by decide +kernel
theorem dJ9_max_7cf53_5 : decode cJ9_max_7cf53 5 = .ok (.iload_n 0, 1) := by decide +kernel
theorem dJ9_max_7cf53_6 : decode cJ9_max_7cf53 6 = .ok (.goto 4, 3) := by decide +kernel
theorem dJ9_max_7cf53_9 : decode cJ9_max_7cf53 9 = .ok (.iload_n 1, 1) := by decide +kernel
theorem dJ9_max_7cf53_10 : decode cJ9_max_7cf53 10 = .ok (.ireturn, 1) := by decide +kernel
theorem dJ9_min_7cf53_0 : decode cJ9_min_7cf53 0 = .ok (.iload_n 0, 1) := by decide +kernel
theorem dJ9_min_7cf53_1 : decode cJ9_min_7cf53 1 = .ok (.iload_n 1, 1) := by decide +kernel
theorem dJ9_min_7cf53_2 : decode cJ9_min_7cf53 2 = .ok (.if_icmp .gt 7, 3) := by decide +kernel
theorem dJ9_min_7cf53_5 : decode cJ9_min_7cf53 5 = .ok (.iload_n 0, 1) := by decide +kernel
theorem dJ9_min_7cf53_6 : decode cJ9_min_7cf53 6 = .ok (.goto 4, 3) := by decide +kernel
theorem dJ9_min_7cf53_9 : decode cJ9_min_7cf53 9 = .ok (.iload_n 1, 1) := by decide +kernel
theorem dJ9_min_7cf53_10 : decode cJ9_min_7cf53 10 = .ok (.ireturn, 1) := by decide +kernel
end
section
set_option maxRecDepth 20000 in
theorem ggX0_countThings_X0_startOver : GoodIn wsX0_countThings wsX0_startOver := goodIn_r _ [7, 1, 43, 44, 45, 46, 47, 48] (by decide +kernel) (by decide +kernel)
set_option maxRecDepth 20000 in
theorem gX0_countThings_X0_startOver : GoodIn wsX0_countThings (wsV RX0 19 RX0 yX0_startOver wsX0_startOver) := goodIn_app (goodIn_of _ (by decide +kernel)) ggX0_countThings_X0_startOver
set_option maxRecDepth 20000 in
theorem ggX0_countThings_X0_readThing : GoodIn wsX0_countThings wsX0_readThing := goodIn_r _ [11, 12, 13, 14, 6, 15, 16, 17, 18, 19, 20, 1, 2, 21, 22, 23, 24, 25, 26, 27, 28, 29, 30, 31, 32, 33, 34, 35, 36, 37, 38, 39, 40, 41, 42, 43, 44, 45, 46, 47, 48] (by decide +kernel) (by decide +kernel)
set_option maxRecDepth 20000 in
theorem gX0_countThings_X0_readThing : GoodIn wsX0_countThings (wsV RX0 22 RX0 yX0_readThing wsX0_readThing) := goodIn_app (goodIn_of _ (by decide +kernel)) ggX0_countThings_X0_readThing
set_option maxRecDepth 20000 in
theorem ggX0_countThings_X0_readSign : GoodIn wsX0_countThings wsX0_readSign := goodIn_r _ [20, 1, 2, 21, 43, 44, 45, 46, 47, 48] (by decide +kernel) (by decide +kernel)
set_option maxRecDepth 20000 in
theorem gX0_countThings_X0_readSign : GoodIn wsX0_countThings (wsV RX0 29 RX0 yX0_readSign wsX0_readSign) := goodIn_app (goodIn_of _ (by decide +kernel)) ggX0_countThings_X0_readSign
set_option maxRecDepth 20000 in
theorem ggX0_readNext_X0_readSign : GoodIn wsX0_readNext wsX0_readSign := goodIn_r _ [5, 6, 7, 8, 39, 40, 41, 42, 43, 44] (by decide +kernel) (by decide +kernel)
set_option maxRecDepth 20000 in
theorem gX0_readNext_X0_readSign : GoodIn wsX0_readNext (wsV RX0 29 RX0 yX0_readSign wsX0_readSign) := goodIn_app (goodIn_of _ (by decide +kernel)) ggX0_readNext_X0_readSign
set_option maxRecDepth 20000 in
theorem ggX0_readNext_X0_readThing : GoodIn wsX0_readNext wsX0_readThing := goodIn_r _ [12, 13, 14, 15, 4, 16, 17, 1, 2, 3, 5, 6, 7, 8, 18, 19, 20, 21, 22, 23, 24, 25, 26, 27, 28, 29, 30, 31, 32, 33, 34, 35, 36, 37, 38, 39, 40, 41, 42, 43, 44] (by decide +kernel) (by decide +kernel)
set_option maxRecDepth 20000 in
theorem gX0_readNext_X0_readThing : GoodIn wsX0_readNext (wsV RX0 22 RX0 yX0_readThing wsX0_readThing) := goodIn_app (goodIn_of _ (by decide +kernel)) ggX0_readNext_X0_readThing
set_option maxRecDepth 20000 in
theorem ggX0_readThing_X0_readKind : GoodIn wsX0_readThing wsX0_readKind := goodIn_r _ [5, 6, 7, 8, 9, 4, 10, 11, 12, 13, 35, 36, 37, 38, 39, 40] (by decide +kernel) (by decide +kernel)
set_option maxRecDepth 20000 in
theorem gX0_readThing_X0_readKind : GoodIn wsX0_readThing (wsV RX0 33 RX0 yX0_readKind wsX0_readKind) := goodIn_app (goodIn_of _ (by decide +kernel)) ggX0_readThing_X0_readKind
set_option maxRecDepth 20000 in
theorem ggX0_readThing_X0_readFirst : GoodIn wsX0_readThing wsX0_readFirst := goodIn_r _ [17, 18, 19, 20, 21, 4, 22, 11, 23, 24, 25, 26, 12, 13, 27, 28, 29, 35, 36, 37, 38, 39, 40] (by decide +kernel) (by decide +kernel)
set_option maxRecDepth 20000 in
theorem gX0_readThing_X0_readFirst : GoodIn wsX0_readThing (wsV RX0 36 RX0 yX0_readFirst wsX0_readFirst) := goodIn_app (goodIn_of _ (by decide +kernel)) ggX0_readThing_X0_readFirst
set_option maxRecDepth 20000 in
theorem ggX0_readThing_X0_readSign : GoodIn wsX0_readThing wsX0_readSign := goodIn_r _ [10, 11, 12, 13, 35, 36, 37, 38, 39, 40] (by decide +kernel) (by decide +kernel)
set_option maxRecDepth 20000 in
theorem gX0_readThing_X0_readSign : GoodIn wsX0_readThing (wsV RX0 29 RX0 yX0_readSign wsX0_readSign) := goodIn_app (goodIn_of _ (by decide +kernel)) ggX0_readThing_X0_readSign
set_option maxRecDepth 20000 in
theorem ggX0_readThing_X0_readSecond : GoodIn wsX0_readThing wsX0_readSecond := goodIn_r _ [33, 34, 19, 20, 21, 4, 22, 11, 23, 24, 25, 26, 12, 13, 27, 28, 29, 35, 36, 37, 38, 39, 40] (by decide +kernel) (by decide +kernel)
set_option maxRecDepth 20000 in
theorem gX0_readThing_X0_readSecond : GoodIn wsX0_readThing (wsV RX0 40 RX0 yX0_readSecond wsX0_readSecond) := goodIn_app (goodIn_of _ (by decide +kernel)) ggX0_readThing_X0_readSecond
set_option maxRecDepth 20000 in
theorem ggX0_readKind_X0_readSign : GoodIn wsX0_readKind wsX0_readSign := goodIn_r _ [6, 7, 8, 9, 10, 11, 12, 13, 14, 15] (by decide +kernel) (by decide +kernel)
set_option maxRecDepth 20000 in
theorem gX0_readKind_X0_readSign : GoodIn wsX0_readKind (wsV RX0 29 RX0 yX0_readSign wsX0_readSign) := goodIn_app (goodIn_of _ (by decide +kernel)) ggX0_readKind_X0_readSign
set_option maxRecDepth 20000 in
theorem ggX0_readFirst_X0_readNumber : GoodIn wsX0_readFirst wsX0_readNumber := goodIn_r _ [6, 7, 8, 9, 10, 5, 11, 12, 13, 14, 15, 16, 17, 18, 19, 20, 21, 22] (by decide +kernel) (by decide +kernel)
set_option maxRecDepth 20000 in
theorem gX0_readFirst_X0_readNumber : GoodIn wsX0_readFirst (wsV RX0 48 RX0 yX0_readNumber wsX0_readNumber) := goodIn_app (goodIn_of _ (by decide +kernel)) ggX0_readFirst_X0_readNumber
set_option maxRecDepth 20000 in
theorem ggX0_readSecond_X0_readNumber : GoodIn wsX0_readSecond wsX0_readNumber := goodIn_r _ [6, 7, 8, 9, 10, 5, 11, 12, 13, 14, 15, 16, 17, 18, 19, 20, 21, 22] (by decide +kernel) (by decide +kernel)
set_option maxRecDepth 20000 in
theorem gX0_readSecond_X0_readNumber : GoodIn wsX0_readSecond (wsV RX0 48 RX0 yX0_readNumber wsX0_readNumber) := goodIn_app (goodIn_of _ (by decide +kernel)) ggX0_readSecond_X0_readNumber
set_option maxRecDepth 20000 in
theorem ggX0_readNumber_X0_digitHere : GoodIn wsX0_readNumber wsX0_digitHere := goodIn_r _ [6, 1, 7, 8, 12, 13, 14, 15, 16, 17] (by decide +kernel) (by decide +kernel)
set_option maxRecDepth 20000 in
theorem gX0_readNumber_X0_digitHere : GoodIn wsX0_readNumber (wsV RX0 58 RX0 yX0_digitHere wsX0_digitHere) := goodIn_app (goodIn_of _ (by decide +kernel)) ggX0_readNumber_X0_digitHere
set_option maxRecDepth 20000 in
theorem ggX0_readNumber_X4_isIn : GoodIn wsX0_readNumber wsX4_isIn := goodIn_r _ [11] (by decide +kernel) (by decide +kernel)
set_option maxRecDepth 20000 in
theorem gX0_readNumber_X4_isIn_n62 : GoodIn wsX0_readNumber (wsX4_isIn) := ggX0_readNumber_X4_isIn
set_option maxRecDepth 20000 in
theorem ggX1_init_X3_init : GoodIn wsX1_init wsX3_init := goodIn_r _ [10, 11, 2, 3, 12, 13, 14, 15, 16, 17, 18, 19, 20, 21, 24, 25, 26, 27, 28, 29, 30, 31, 32, 33, 34, 35, 36] (by decide +kernel) (by decide +kernel)
set_option maxRecDepth 20000 in
theorem gX1_init_X3_init : GoodIn wsX1_init (wsX3_init) := ggX1_init_X3_init
set_option maxRecDepth 20000 in
theorem ggX1_push_X1_dropOldest : GoodIn wsX1_push wsX1_dropOldest := goodIn_r _ [7, 2, 1, 30, 31] (by decide +kernel) (by decide +kernel)
set_option maxRecDepth 20000 in
theorem gX1_push_X1_dropOldest : GoodIn wsX1_push (wsV RX1 22 RX1 yX1_dropOldest wsX1_dropOldest) := goodIn_app (goodIn_of _ (by decide +kernel)) ggX1_push_X1_dropOldest
set_option maxRecDepth 20000 in
theorem ggX1_push_X3_copyFrom : GoodIn wsX1_push wsX3_copyFrom := goodIn_r _ [12, 13, 14, 15, 16, 17, 18, 19, 20, 21, 22, 23, 24, 25, 26, 27, 28, 29, 32, 33, 34, 35, 36, 37, 38, 39, 40, 41, 42, 43, 44] (by decide +kernel) (by decide +kernel)
set_option maxRecDepth 20000 in
theorem gX1_push_X3_copyFrom : GoodIn wsX1_push (wsV RX1 25 RX3 yX3_copyFrom wsX3_copyFrom) := goodIn_app (goodIn_of _ (by decide +kernel)) ggX1_push_X3_copyFrom
set_option maxRecDepth 20000 in
theorem ggX1_pop_X3_copyFrom : GoodIn wsX1_pop wsX3_copyFrom := goodIn_r _ [7, 8, 9, 10, 11, 12, 13, 14, 15, 16, 17, 18, 19, 20, 21, 22, 23, 24, 27, 28, 29, 30, 31, 32, 33, 34, 35, 36, 37, 38, 39] (by decide +kernel) (by decide +kernel)
set_option maxRecDepth 20000 in
theorem gX1_pop_X3_copyFrom : GoodIn wsX1_pop (wsV RX1 25 RX3 yX3_copyFrom wsX3_copyFrom) := goodIn_app (goodIn_of _ (by decide +kernel)) ggX1_pop_X3_copyFrom
set_option maxRecDepth 20000 in
theorem ggX2_follow_X2_isOpen : GoodIn wsX2_follow wsX2_isOpen := goodIn_r _ [7] (by decide +kernel) (by decide +kernel)
set_option maxRecDepth 20000 in
theorem gX2_follow_X2_isOpen : GoodIn wsX2_follow (va_wsS RX2 18 yX2_isOpen wsX2_isOpen) := goodIn_app (goodIn_of _ (by decide +kernel)) ggX2_follow_X2_isOpen
set_option maxRecDepth 20000 in
theorem ggX2_follow_X2_around : GoodIn wsX2_follow wsX2_around := goodIn_r _ [10] (by decide +kernel) (by decide +kernel)
set_option maxRecDepth 20000 in
theorem gX2_follow_X2_around : GoodIn wsX2_follow (va_wsS RX2 22 yX2_around wsX2_around) := goodIn_app (goodIn_of _ (by decide +kernel)) ggX2_follow_X2_around
set_option maxRecDepth 20000 in
theorem ggX2_within_X2_through : GoodIn wsX2_within wsX2_through := goodIn_r _ [12, 13, 14, 15, 16, 17] (by decide +kernel) (by decide +kernel)
set_option maxRecDepth 20000 in
theorem gX2_within_X2_through : GoodIn wsX2_within (wsV RX2 39 RX2 yX2_through wsX2_through) := goodIn_app (goodIn_of _ (by decide +kernel)) ggX2_within_X2_through
set_option maxRecDepth 20000 in
theorem ggX2_leastColumn_X2_through : GoodIn wsX2_leastColumn wsX2_through := goodIn_r _ [5, 6, 7, 8, 9, 10] (by decide +kernel) (by decide +kernel)
set_option maxRecDepth 20000 in
theorem gX2_leastColumn_X2_through : GoodIn wsX2_leastColumn (wsV RX2 39 RX2 yX2_through wsX2_through) := goodIn_app (goodIn_of _ (by decide +kernel)) ggX2_leastColumn_X2_through
set_option maxRecDepth 20000 in
theorem ggX2_greatestColumn_X2_through : GoodIn wsX2_greatestColumn wsX2_through := goodIn_r _ [5, 6, 7, 8, 9, 10] (by decide +kernel) (by decide +kernel)
set_option maxRecDepth 20000 in
theorem gX2_greatestColumn_X2_through : GoodIn wsX2_greatestColumn (wsV RX2 39 RX2 yX2_through wsX2_through) := goodIn_app (goodIn_of _ (by decide +kernel)) ggX2_greatestColumn_X2_through
set_option maxRecDepth 20000 in
theorem ggX2_mostOpenRow_X2_openColumns : GoodIn wsX2_mostOpenRow wsX2_openColumns := goodIn_r _ [6, 7, 8, 9, 5, 10, 11, 12, 13, 14, 15] (by decide +kernel) (by decide +kernel)
set_option maxRecDepth 20000 in
theorem gX2_mostOpenRow_X2_openColumns : GoodIn wsX2_mostOpenRow (wsV RX2 43 RX2 yX2_openColumns wsX2_openColumns) := goodIn_app (goodIn_of _ (by decide +kernel)) ggX2_mostOpenRow_X2_openColumns
set_option maxRecDepth 20000 in
theorem ggX2_openColumns_X2_through : GoodIn wsX2_openColumns wsX2_through := goodIn_r _ [5, 6, 7, 8, 9, 10] (by decide +kernel) (by decide +kernel)
set_option maxRecDepth 20000 in
theorem gX2_openColumns_X2_through : GoodIn wsX2_openColumns (wsV RX2 39 RX2 yX2_through wsX2_through) := goodIn_app (goodIn_of _ (by decide +kernel)) ggX2_openColumns_X2_through
set_option maxRecDepth 20000 in
theorem ggX3_plant_X4_isIn : GoodIn wsX3_plant wsX4_isIn := goodIn_r _ [4] (by decide +kernel) (by decide +kernel)
set_option maxRecDepth 20000 in
theorem gX3_plant_X4_isIn_n62 : GoodIn wsX3_plant (wsX4_isIn) := ggX3_plant_X4_isIn
set_option maxRecDepth 20000 in
theorem ggX3_getWet_X4_isIn : GoodIn wsX3_getWet wsX4_isIn := goodIn_r _ [8] (by decide +kernel) (by decide +kernel)
set_option maxRecDepth 20000 in
theorem gX3_getWet_X4_isIn_n62 : GoodIn wsX3_getWet (wsX4_isIn) := ggX3_getWet_X4_isIn
set_option maxRecDepth 20000 in
theorem ggX3_passDays_X4_isIn : GoodIn wsX3_passDays wsX4_isIn := goodIn_r _ [11] (by decide +kernel) (by decide +kernel)
set_option maxRecDepth 20000 in
theorem gX3_passDays_X4_isIn_n62 : GoodIn wsX3_passDays (wsX4_isIn) := ggX3_passDays_X4_isIn
set_option maxRecDepth 20000 in
theorem ggX3_changeSetting_X4_isIn : GoodIn wsX3_changeSetting wsX4_isIn := goodIn_r _ [4] (by decide +kernel) (by decide +kernel)
set_option maxRecDepth 20000 in
theorem gX3_changeSetting_X4_isIn_n62 : GoodIn wsX3_changeSetting (wsX4_isIn) := ggX3_changeSetting_X4_isIn
set_option maxRecDepth 20000 in
theorem ggX3_sendCrew_X4_isIn : GoodIn wsX3_sendCrew wsX4_isIn := goodIn_r _ [5] (by decide +kernel) (by decide +kernel)
set_option maxRecDepth 20000 in
theorem gX3_sendCrew_X4_isIn_n62 : GoodIn wsX3_sendCrew (wsX4_isIn) := ggX3_sendCrew_X4_isIn
set_option maxRecDepth 20000 in
theorem ggX3_sendCrew_X3_stepsTo : GoodIn wsX3_sendCrew wsX3_stepsTo := goodIn_r _ [10, 2, 11, 12, 13, 14, 15, 16, 17, 18, 19, 20, 21, 22, 23, 24, 25, 26, 27, 28] (by decide +kernel) (by decide +kernel)
set_option maxRecDepth 20000 in
theorem gX3_sendCrew_X3_stepsTo : GoodIn wsX3_sendCrew (wsV RX3 81 RX3 yX3_stepsTo wsX3_stepsTo) := goodIn_app (goodIn_of _ (by decide +kernel)) ggX3_sendCrew_X3_stepsTo
set_option maxRecDepth 20000 in
theorem ggX3_fellHere_X4_isIn : GoodIn wsX3_fellHere wsX4_isIn := goodIn_r _ [10] (by decide +kernel) (by decide +kernel)
set_option maxRecDepth 20000 in
theorem gX3_fellHere_X4_isIn_n62 : GoodIn wsX3_fellHere (wsX4_isIn) := ggX3_fellHere_X4_isIn
set_option maxRecDepth 20000 in
theorem ggX3_tellColumn_X4_isIn : GoodIn wsX3_tellColumn wsX4_isIn := goodIn_r _ [4] (by decide +kernel) (by decide +kernel)
set_option maxRecDepth 20000 in
theorem gX3_tellColumn_X4_isIn_n62 : GoodIn wsX3_tellColumn (wsX4_isIn) := ggX3_tellColumn_X4_isIn
set_option maxRecDepth 20000 in
theorem ggX3_tellColumn_X2_through : GoodIn wsX3_tellColumn wsX2_through := goodIn_r _ [9, 10, 11, 25, 26, 27] (by decide +kernel) (by decide +kernel)
set_option maxRecDepth 20000 in
theorem gX3_tellColumn_X2_through : GoodIn wsX3_tellColumn (wsV RX3 84 RX2 yX2_through wsX2_through) := goodIn_app (goodIn_of _ (by decide +kernel)) ggX3_tellColumn_X2_through
set_option maxRecDepth 20000 in
theorem ggX3_untellColumn_X4_isIn : GoodIn wsX3_untellColumn wsX4_isIn := goodIn_r _ [4] (by decide +kernel) (by decide +kernel)
set_option maxRecDepth 20000 in
theorem gX3_untellColumn_X4_isIn_n62 : GoodIn wsX3_untellColumn (wsX4_isIn) := ggX3_untellColumn_X4_isIn
set_option maxRecDepth 20000 in
theorem ggX3_untellColumn_X2_follow : GoodIn wsX3_untellColumn wsX2_follow := goodIn_r _ [9, 10, 11, 12, 13, 14, 8, 15, 16, 17, 18, 32, 33, 34] (by decide +kernel) (by decide +kernel)
set_option maxRecDepth 20000 in
theorem gX3_untellColumn_X2_follow : GoodIn wsX3_untellColumn (wsV RX3 90 RX2 yX2_follow wsX2_follow) := goodIn_app (goodIn_of _ (by decide +kernel)) ggX3_untellColumn_X2_follow
set_option maxRecDepth 20000 in
theorem ggX3_takeStorm_X3_felledInVain : GoodIn wsX3_takeStorm wsX3_felledInVain := goodIn_r _ [10, 4, 11, 12, 13, 9, 14, 15, 16, 17, 18, 19, 20, 21, 22, 23, 24, 25, 26, 27, 28, 29, 30, 31, 32, 33, 34, 35, 36, 37, 50, 51, 52, 53, 54, 55, 56, 57, 58, 59, 60, 61, 62, 47, 48, 49] (by decide +kernel) (by decide +kernel)
set_option maxRecDepth 20000 in
theorem gX3_takeStorm_X3_felledInVain : GoodIn wsX3_takeStorm (wsV RX3 97 RX3 yX3_felledInVain wsX3_felledInVain) := goodIn_app (goodIn_of _ (by decide +kernel)) ggX3_takeStorm_X3_felledInVain
set_option maxRecDepth 20000 in
theorem ggX3_takeStorm_X3_regret : GoodIn wsX3_takeStorm wsX3_regret := goodIn_r _ [41, 42, 11, 12, 13, 9, 14, 15, 16, 17, 18, 19, 20, 21, 22, 23, 24, 25, 26, 27, 28, 29, 30, 31, 32, 33, 34, 35, 36, 37, 50, 51, 52, 53, 54, 55, 56, 57, 58, 59, 60, 61, 62, 47, 48, 49] (by decide +kernel) (by decide +kernel)
set_option maxRecDepth 20000 in
theorem gX3_takeStorm_X3_regret : GoodIn wsX3_takeStorm (wsV RX3 101 RX3 yX3_regret wsX3_regret) := goodIn_app (goodIn_of _ (by decide +kernel)) ggX3_takeStorm_X3_regret
set_option maxRecDepth 20000 in
theorem ggX3_takeStorm_X3_loseWorths : GoodIn wsX3_takeStorm wsX3_loseWorths := goodIn_r _ [46, 42, 11, 12, 13, 9, 14, 15, 16, 17, 18, 19, 20, 21, 22, 23, 24, 25, 26, 27, 28, 29, 30, 31, 32, 33, 34, 35, 36, 37, 50, 51, 52, 53, 54, 55, 56, 57, 58, 59, 60, 61, 62, 47, 48, 49] (by decide +kernel) (by decide +kernel)
set_option maxRecDepth 20000 in
theorem gX3_takeStorm_X3_loseWorths : GoodIn wsX3_takeStorm (wsV RX3 105 RX3 yX3_loseWorths wsX3_loseWorths) := goodIn_app (goodIn_of _ (by decide +kernel)) ggX3_takeStorm_X3_loseWorths
set_option maxRecDepth 20000 in
theorem ggX3_felledInVain_X3_isEndangered : GoodIn wsX3_felledInVain wsX3_isEndangered := goodIn_r _ [6, 7, 8, 9, 5, 10, 11, 12, 13, 14, 15, 16, 17, 18, 19, 20, 21, 22, 23, 24, 25, 26, 27, 28, 29, 30, 31, 32, 33, 34, 35, 36, 37, 38, 39, 40, 41, 42, 43, 44, 45] (by decide +kernel) (by decide +kernel)
set_option maxRecDepth 20000 in
theorem gX3_felledInVain_X3_isEndangered : GoodIn wsX3_felledInVain (wsV RX3 108 RX3 yX3_isEndangered wsX3_isEndangered) := goodIn_app (goodIn_of _ (by decide +kernel)) ggX3_felledInVain_X3_isEndangered
set_option maxRecDepth 20000 in
theorem ggX3_regret_X3_isEndangered : GoodIn wsX3_regret wsX3_isEndangered := goodIn_r _ [6, 7, 8, 9, 5, 10, 11, 12, 13, 14, 15, 16, 17, 18, 19, 20, 21, 22, 23, 24, 25, 26, 27, 28, 29, 30, 31, 32, 33, 34, 35, 36, 37, 38, 39, 40, 41, 42, 43, 44, 45] (by decide +kernel) (by decide +kernel)
set_option maxRecDepth 20000 in
theorem gX3_regret_X3_isEndangered : GoodIn wsX3_regret (wsV RX3 108 RX3 yX3_isEndangered wsX3_isEndangered) := goodIn_app (goodIn_of _ (by decide +kernel)) ggX3_regret_X3_isEndangered
set_option maxRecDepth 20000 in
theorem ggX3_loseWorths_X3_isEndangered : GoodIn wsX3_loseWorths wsX3_isEndangered := goodIn_r _ [6, 7, 8, 9, 5, 10, 11, 12, 13, 14, 15, 16, 17, 18, 19, 20, 21, 22, 23, 24, 25, 26, 27, 28, 29, 30, 31, 32, 33, 34, 35, 36, 37, 38, 39, 40, 41, 42, 43, 44, 45] (by decide +kernel) (by decide +kernel)
set_option maxRecDepth 20000 in
theorem gX3_loseWorths_X3_isEndangered : GoodIn wsX3_loseWorths (wsV RX3 108 RX3 yX3_isEndangered wsX3_isEndangered) := goodIn_app (goodIn_of _ (by decide +kernel)) ggX3_loseWorths_X3_isEndangered
set_option maxRecDepth 20000 in
theorem ggX3_whyNot_X3_stepsTo : GoodIn wsX3_whyNot wsX3_stepsTo := goodIn_r _ [8, 9, 10, 11, 12, 13, 14, 15, 16, 17, 18, 19, 20, 21, 22, 23, 24, 25, 26, 27] (by decide +kernel) (by decide +kernel)
set_option maxRecDepth 20000 in
theorem gX3_whyNot_X3_stepsTo : GoodIn wsX3_whyNot (wsV RX3 81 RX3 yX3_stepsTo wsX3_stepsTo) := goodIn_app (goodIn_of _ (by decide +kernel)) ggX3_whyNot_X3_stepsTo
set_option maxRecDepth 20000 in
theorem ggX3_bestPlot_X3_whyNot : GoodIn wsX3_bestPlot wsX3_whyNot := goodIn_r _ [5, 6, 7, 8, 9, 10, 11, 4, 12, 13, 14, 15, 16, 17, 18, 48, 49, 50, 51, 52, 53, 54, 55, 56, 57, 58, 59, 60] (by decide +kernel) (by decide +kernel)
set_option maxRecDepth 20000 in
theorem gX3_bestPlot_X3_whyNot : GoodIn wsX3_bestPlot (wsV RX3 115 RX3 yX3_whyNot wsX3_whyNot) := goodIn_app (goodIn_of _ (by decide +kernel)) ggX3_bestPlot_X3_whyNot
set_option maxRecDepth 20000 in
theorem ggX3_bestPlot_X3_isBetter : GoodIn wsX3_bestPlot wsX3_isBetter := goodIn_r _ [22, 6, 23, 24, 25, 4, 26, 27, 28, 29, 30, 8, 31, 32, 33, 34, 35, 36, 37, 16, 38, 39, 40, 41, 42, 43, 44, 45, 46, 47, 9, 10, 11, 12, 13, 14, 15, 17, 18, 48, 49, 50, 51, 52, 53, 54, 55, 56, 57, 58, 59, 60, 61, 62, 63] (by decide +kernel) (by decide +kernel)
set_option maxRecDepth 20000 in
theorem gX3_bestPlot_X3_isBetter : GoodIn wsX3_bestPlot (wsV RX3 118 RX3 yX3_isBetter wsX3_isBetter) := goodIn_app (goodIn_of _ (by decide +kernel)) ggX3_bestPlot_X3_isBetter
set_option maxRecDepth 20000 in
theorem ggX3_isBetter_X3_standsToLose : GoodIn wsX3_isBetter wsX3_standsToLose := goodIn_r _ [6, 1, 7, 8, 9, 5, 10, 11, 12, 13, 14, 15, 16, 17, 18, 19, 20, 21, 22, 23, 24, 25, 26, 27, 28, 29, 52, 53, 54, 39, 40, 41, 42, 43, 44, 45, 46, 47, 48, 49, 50, 51] (by decide +kernel) (by decide +kernel)
set_option maxRecDepth 20000 in
theorem gX3_isBetter_X3_standsToLose : GoodIn wsX3_isBetter (wsV RX3 122 RX3 yX3_standsToLose wsX3_standsToLose) := goodIn_app (goodIn_of _ (by decide +kernel)) ggX3_isBetter_X3_standsToLose
set_option maxRecDepth 20000 in
theorem ggX3_isBetter_X3_stepsTo : GoodIn wsX3_isBetter wsX3_stepsTo := goodIn_r _ [33, 34, 35, 36, 19, 37, 38, 39, 40, 41, 42, 43, 44, 45, 46, 47, 48, 49, 50, 51] (by decide +kernel) (by decide +kernel)
set_option maxRecDepth 20000 in
theorem gX3_isBetter_X3_stepsTo : GoodIn wsX3_isBetter (wsV RX3 81 RX3 yX3_stepsTo wsX3_stepsTo) := goodIn_app (goodIn_of _ (by decide +kernel)) ggX3_isBetter_X3_stepsTo
set_option maxRecDepth 20000 in
theorem ggX3_hits_X2_within : GoodIn wsX3_hits wsX2_within := goodIn_r _ [6, 7, 8, 9, 10, 11, 12, 13, 14, 15, 16, 5, 17, 18, 19, 33, 34, 35] (by decide +kernel) (by decide +kernel)
set_option maxRecDepth 20000 in
theorem gX3_hits_X2_within : GoodIn wsX3_hits (wsV RX3 125 RX2 yX2_within wsX2_within) := goodIn_app (goodIn_of _ (by decide +kernel)) ggX3_hits_X2_within
set_option maxRecDepth 20000 in
theorem ggX3_isEndangered_X3_hits : GoodIn wsX3_isEndangered wsX3_hits := goodIn_r _ [5, 6, 7, 8, 9, 10, 11, 12, 13, 14, 15, 16, 17, 18, 19, 20, 21, 22, 23, 24, 25, 26, 27, 28, 29, 30, 31, 32, 33, 34, 35, 36, 37, 38, 39, 40] (by decide +kernel) (by decide +kernel)
set_option maxRecDepth 20000 in
theorem gX3_isEndangered_X3_hits : GoodIn wsX3_isEndangered (wsV RX3 128 RX3 yX3_hits wsX3_hits) := goodIn_app (goodIn_of _ (by decide +kernel)) ggX3_isEndangered_X3_hits
set_option maxRecDepth 20000 in
theorem ggX3_isDoomed_X3_hits : GoodIn wsX3_isDoomed wsX3_hits := goodIn_r _ [5, 6, 7, 8, 9, 10, 11, 12, 13, 14, 15, 16, 17, 18, 19, 20, 21, 22, 23, 24, 28, 29, 30, 31, 32, 33, 34, 35, 36, 37, 38, 39, 40, 25, 26, 27] (by decide +kernel) (by decide +kernel)
set_option maxRecDepth 20000 in
theorem gX3_isDoomed_X3_hits : GoodIn wsX3_isDoomed (wsV RX3 128 RX3 yX3_hits wsX3_hits) := goodIn_app (goodIn_of _ (by decide +kernel)) ggX3_isDoomed_X3_hits
set_option maxRecDepth 20000 in
theorem ggX3_standsToLose_X3_hits : GoodIn wsX3_standsToLose wsX3_hits := goodIn_r _ [6, 7, 8, 9, 10, 11, 12, 13, 14, 15, 16, 17, 18, 19, 20, 21, 22, 23, 24, 25, 29, 30, 31, 32, 33, 34, 35, 36, 37, 38, 39, 40, 41, 26, 27, 28] (by decide +kernel) (by decide +kernel)
set_option maxRecDepth 20000 in
theorem gX3_standsToLose_X3_hits : GoodIn wsX3_standsToLose (wsV RX3 128 RX3 yX3_hits wsX3_hits) := goodIn_app (goodIn_of _ (by decide +kernel)) ggX3_standsToLose_X3_hits
set_option maxRecDepth 20000 in
theorem ggX3_endangeredPlots_X3_isEndangered : GoodIn wsX3_endangeredPlots wsX3_isEndangered := goodIn_r _ [5, 6, 7, 8, 4, 9, 10, 11, 12, 13, 14, 15, 16, 17, 18, 19, 20, 21, 22, 23, 24, 25, 26, 27, 28, 29, 30, 31, 32, 33, 34, 35, 36, 37, 38, 39, 40, 41, 42, 43, 44] (by decide +kernel) (by decide +kernel)
set_option maxRecDepth 20000 in
theorem gX3_endangeredPlots_X3_isEndangered : GoodIn wsX3_endangeredPlots (wsV RX3 108 RX3 yX3_isEndangered wsX3_isEndangered) := goodIn_app (goodIn_of _ (by decide +kernel)) ggX3_endangeredPlots_X3_isEndangered
set_option maxRecDepth 20000 in
theorem ggX3_doomedPlots_X3_isDoomed : GoodIn wsX3_doomedPlots wsX3_isDoomed := goodIn_r _ [5, 6, 7, 8, 4, 9, 10, 11, 12, 13, 14, 15, 16, 17, 18, 19, 20, 21, 22, 23, 24, 25, 26, 27, 28, 29, 30, 31, 32, 33, 34, 35, 36, 37, 38, 39, 40, 41, 42, 43, 44] (by decide +kernel) (by decide +kernel)
set_option maxRecDepth 20000 in
theorem gX3_doomedPlots_X3_isDoomed : GoodIn wsX3_doomedPlots (wsV RX3 131 RX3 yX3_isDoomed wsX3_isDoomed) := goodIn_app (goodIn_of _ (by decide +kernel)) ggX3_doomedPlots_X3_isDoomed
set_option maxRecDepth 20000 in
theorem ggX3_allStandToLose_X3_standsToLose : GoodIn wsX3_allStandToLose wsX3_standsToLose := goodIn_r _ [5, 6, 7, 8, 9, 4, 10, 11, 12, 13, 14, 15, 16, 17, 18, 19, 20, 21, 22, 23, 24, 25, 26, 27, 28, 29, 30, 31, 32, 33, 34, 35, 36, 37, 38, 39, 40, 41, 42, 43, 44, 45] (by decide +kernel) (by decide +kernel)
set_option maxRecDepth 20000 in
theorem gX3_allStandToLose_X3_standsToLose : GoodIn wsX3_allStandToLose (wsV RX3 122 RX3 yX3_standsToLose wsX3_standsToLose) := goodIn_app (goodIn_of _ (by decide +kernel)) ggX3_allStandToLose_X3_standsToLose
set_option maxRecDepth 20000 in
theorem ggX4_init_X3_init : GoodIn wsX4_init wsX3_init := goodIn_r _ [24, 25, 2, 3, 26, 27, 28, 29, 30, 31, 32, 33, 34, 35, 53, 54, 55, 56, 57, 58, 59, 60, 61, 62, 63, 64, 65] (by decide +kernel) (by decide +kernel)
set_option maxRecDepth 20000 in
theorem gX4_init_X3_init : GoodIn wsX4_init (wsX3_init) := ggX4_init_X3_init
set_option maxRecDepth 20000 in
theorem ggX4_init_X1_init : GoodIn wsX4_init wsX1_init := goodIn_r _ [38, 39, 2, 3, 40, 41, 5, 6, 42, 23, 24, 25, 26, 27, 28, 29, 30, 31, 32, 33, 34, 35, 75, 76, 53, 54, 55, 56, 57, 58, 59, 60, 61, 62, 63, 64, 65] (by decide +kernel) (by decide +kernel)
set_option maxRecDepth 20000 in
theorem gX4_init_X1_init : GoodIn wsX4_init (wsX1_init) := ggX4_init_X1_init
set_option maxRecDepth 20000 in
theorem ggX4_init_X2_init : GoodIn wsX4_init wsX2_init := goodIn_r _ [44, 45, 2, 3, 26, 46, 47, 77, 78, 79] (by decide +kernel) (by decide +kernel)
set_option maxRecDepth 20000 in
theorem gX4_init_X2_init_n31 : GoodIn wsX4_init (wsX2_init) := ggX4_init_X2_init
set_option maxRecDepth 20000 in
theorem ggX4_init_X0_init : GoodIn wsX4_init wsX0_init := goodIn_r _ [49, 50, 2, 3, 51, 52, 80, 81, 82, 83, 84, 85] (by decide +kernel) (by decide +kernel)
set_option maxRecDepth 20000 in
theorem gX4_init_X0_init_n38 : GoodIn wsX4_init (wsX0_init) := ggX4_init_X0_init
set_option maxRecDepth 20000 in
theorem ggX4_grow_X3_copyFrom : GoodIn wsX4_grow wsX3_copyFrom := goodIn_r _ [7, 8, 9, 10, 11, 12, 13, 14, 15, 16, 17, 18, 19, 20, 21, 22, 23, 24, 58, 59, 60, 61, 62, 63, 64, 65, 66, 67, 68, 69, 70] (by decide +kernel) (by decide +kernel)
set_option maxRecDepth 20000 in
theorem gX4_grow_X3_copyFrom : GoodIn wsX4_grow (wsV RX4 43 RX3 yX3_copyFrom wsX3_copyFrom) := goodIn_app (goodIn_of _ (by decide +kernel)) ggX4_grow_X3_copyFrom
set_option maxRecDepth 20000 in
theorem ggX4_grow_X3_plant : GoodIn wsX4_grow wsX3_plant := goodIn_r _ [28, 8, 29, 30, 31, 58, 59, 60, 61, 62, 63, 64, 65, 66, 67, 68, 69, 70] (by decide +kernel) (by decide +kernel)
set_option maxRecDepth 20000 in
theorem gX4_grow_X3_plant : GoodIn wsX4_grow (wsV RX4 47 RX3 yX3_plant wsX3_plant) := goodIn_app (goodIn_of _ (by decide +kernel)) ggX4_grow_X3_plant
set_option maxRecDepth 20000 in
theorem ggX4_grow_X4_recorded : GoodIn wsX4_grow wsX4_recorded := goodIn_r _ [35, 36, 1, 37, 38, 39, 40, 41, 42, 43, 44, 45, 46, 47, 48, 4, 5, 6, 7, 8, 9, 10, 11, 12, 13, 14, 15, 16, 17, 18, 19, 20, 21, 22, 23, 24, 49, 50, 51, 52, 53, 54, 55, 56, 57, 71, 72, 58, 59, 60, 61, 62, 63, 64, 65, 66, 67, 68, 69, 70] (by decide +kernel) (by decide +kernel)
set_option maxRecDepth 20000 in
theorem gX4_grow_X4_recorded : GoodIn wsX4_grow (wsV RX4 51 RX4 yX4_recorded wsX4_recorded) := goodIn_app (goodIn_of _ (by decide +kernel)) ggX4_grow_X4_recorded
set_option maxRecDepth 20000 in
theorem ggX4_rain_X3_copyFrom : GoodIn wsX4_rain wsX3_copyFrom := goodIn_r _ [7, 8, 9, 10, 11, 12, 13, 14, 15, 16, 17, 18, 19, 20, 21, 22, 23, 24, 62, 63, 64, 65, 66, 67, 68, 69, 70, 71, 72, 73, 74] (by decide +kernel) (by decide +kernel)
set_option maxRecDepth 20000 in
theorem gX4_rain_X3_copyFrom : GoodIn wsX4_rain (wsV RX4 43 RX3 yX3_copyFrom wsX3_copyFrom) := goodIn_app (goodIn_of _ (by decide +kernel)) ggX4_rain_X3_copyFrom
set_option maxRecDepth 20000 in
theorem ggX4_rain_X3_getWet : GoodIn wsX4_rain wsX3_getWet := goodIn_r _ [28, 14, 29, 30, 31, 32, 33, 34, 35, 62, 63, 64, 65, 66, 67, 68, 69, 70, 71, 72, 73, 74] (by decide +kernel) (by decide +kernel)
set_option maxRecDepth 20000 in
theorem gX4_rain_X3_getWet : GoodIn wsX4_rain (wsV RX4 55 RX3 yX3_getWet wsX3_getWet) := goodIn_app (goodIn_of _ (by decide +kernel)) ggX4_rain_X3_getWet
set_option maxRecDepth 20000 in
theorem ggX4_rain_X4_recorded : GoodIn wsX4_rain wsX4_recorded := goodIn_r _ [39, 40, 1, 41, 42, 43, 44, 45, 46, 47, 48, 49, 50, 51, 52, 4, 5, 6, 7, 8, 9, 10, 11, 12, 13, 14, 15, 16, 17, 18, 19, 20, 21, 22, 23, 24, 53, 54, 55, 56, 57, 58, 59, 60, 61, 75, 76, 62, 63, 64, 65, 66, 67, 68, 69, 70, 71, 72, 73, 74] (by decide +kernel) (by decide +kernel)
set_option maxRecDepth 20000 in
theorem gX4_rain_X4_recorded : GoodIn wsX4_rain (wsV RX4 51 RX4 yX4_recorded wsX4_recorded) := goodIn_app (goodIn_of _ (by decide +kernel)) ggX4_rain_X4_recorded
set_option maxRecDepth 20000 in
theorem ggX4_endDays_X3_copyFrom : GoodIn wsX4_endDays wsX3_copyFrom := goodIn_r _ [7, 8, 9, 10, 11, 12, 13, 14, 15, 16, 17, 18, 19, 20, 21, 22, 23, 24, 62, 63, 64, 65, 66, 67, 68, 69, 70, 71, 72, 73, 74] (by decide +kernel) (by decide +kernel)
set_option maxRecDepth 20000 in
theorem gX4_endDays_X3_copyFrom : GoodIn wsX4_endDays (wsV RX4 43 RX3 yX3_copyFrom wsX3_copyFrom) := goodIn_app (goodIn_of _ (by decide +kernel)) ggX4_endDays_X3_copyFrom
set_option maxRecDepth 20000 in
theorem ggX4_endDays_X3_passDays : GoodIn wsX4_endDays wsX3_passDays := goodIn_r _ [28, 21, 14, 29, 30, 31, 32, 16, 20, 33, 34, 35, 62, 63, 64, 65, 66, 67, 68, 69, 70, 71, 72, 73, 74] (by decide +kernel) (by decide +kernel)
set_option maxRecDepth 20000 in
theorem gX4_endDays_X3_passDays : GoodIn wsX4_endDays (wsV RX4 58 RX3 yX3_passDays wsX3_passDays) := goodIn_app (goodIn_of _ (by decide +kernel)) ggX4_endDays_X3_passDays
set_option maxRecDepth 20000 in
theorem ggX4_endDays_X4_recorded : GoodIn wsX4_endDays wsX4_recorded := goodIn_r _ [39, 40, 1, 41, 42, 43, 44, 45, 46, 47, 48, 49, 50, 51, 52, 4, 5, 6, 7, 8, 9, 10, 11, 12, 13, 14, 15, 16, 17, 18, 19, 20, 21, 22, 23, 24, 53, 54, 55, 56, 57, 58, 59, 60, 61, 75, 76, 62, 63, 64, 65, 66, 67, 68, 69, 70, 71, 72, 73, 74] (by decide +kernel) (by decide +kernel)
set_option maxRecDepth 20000 in
theorem gX4_endDays_X4_recorded : GoodIn wsX4_endDays (wsV RX4 51 RX4 yX4_recorded wsX4_recorded) := goodIn_app (goodIn_of _ (by decide +kernel)) ggX4_endDays_X4_recorded
set_option maxRecDepth 20000 in
theorem ggX4_set_X3_copyFrom : GoodIn wsX4_set wsX3_copyFrom := goodIn_r _ [7, 8, 9, 10, 11, 12, 13, 14, 15, 16, 17, 18, 19, 20, 21, 22, 23, 24, 58, 59, 60, 61, 62, 63, 64, 65, 66, 67, 68, 69, 70] (by decide +kernel) (by decide +kernel)
set_option maxRecDepth 20000 in
theorem gX4_set_X3_copyFrom : GoodIn wsX4_set (wsV RX4 43 RX3 yX3_copyFrom wsX3_copyFrom) := goodIn_app (goodIn_of _ (by decide +kernel)) ggX4_set_X3_copyFrom
set_option maxRecDepth 20000 in
theorem ggX4_set_X3_changeSetting : GoodIn wsX4_set wsX3_changeSetting := goodIn_r _ [28, 20, 29, 30, 31, 58, 59, 60, 61, 62, 63, 64, 65, 66, 67, 68, 69, 70] (by decide +kernel) (by decide +kernel)
set_option maxRecDepth 20000 in
theorem gX4_set_X3_changeSetting : GoodIn wsX4_set (wsV RX4 61 RX3 yX3_changeSetting wsX3_changeSetting) := goodIn_app (goodIn_of _ (by decide +kernel)) ggX4_set_X3_changeSetting
set_option maxRecDepth 20000 in
theorem ggX4_set_X4_recorded : GoodIn wsX4_set wsX4_recorded := goodIn_r _ [35, 36, 1, 37, 38, 39, 40, 41, 42, 43, 44, 45, 46, 47, 48, 4, 5, 6, 7, 8, 9, 10, 11, 12, 13, 14, 15, 16, 17, 18, 19, 20, 21, 22, 23, 24, 49, 50, 51, 52, 53, 54, 55, 56, 57, 71, 72, 58, 59, 60, 61, 62, 63, 64, 65, 66, 67, 68, 69, 70] (by decide +kernel) (by decide +kernel)
set_option maxRecDepth 20000 in
theorem gX4_set_X4_recorded : GoodIn wsX4_set (wsV RX4 51 RX4 yX4_recorded wsX4_recorded) := goodIn_app (goodIn_of _ (by decide +kernel)) ggX4_set_X4_recorded
set_option maxRecDepth 20000 in
theorem ggX4_go_X3_copyFrom : GoodIn wsX4_go wsX3_copyFrom := goodIn_r _ [7, 8, 9, 10, 11, 12, 13, 14, 15, 16, 17, 18, 19, 20, 21, 22, 23, 24, 66, 67, 68, 69, 70, 71, 72, 73, 74, 75, 76, 77, 78] (by decide +kernel) (by decide +kernel)
set_option maxRecDepth 20000 in
theorem gX4_go_X3_copyFrom : GoodIn wsX4_go (wsV RX4 43 RX3 yX3_copyFrom wsX3_copyFrom) := goodIn_app (goodIn_of _ (by decide +kernel)) ggX4_go_X3_copyFrom
set_option maxRecDepth 20000 in
theorem ggX4_go_X3_sendCrew : GoodIn wsX4_go wsX3_sendCrew := goodIn_r _ [28, 16, 15, 29, 30, 31, 32, 33, 34, 6, 35, 36, 37, 38, 39, 14, 66, 67, 68, 69, 70, 71, 72, 73, 74, 75, 76, 77, 78] (by decide +kernel) (by decide +kernel)
set_option maxRecDepth 20000 in
theorem gX4_go_X3_sendCrew : GoodIn wsX4_go (wsV RX4 64 RX3 yX3_sendCrew wsX3_sendCrew) := goodIn_app (goodIn_of _ (by decide +kernel)) ggX4_go_X3_sendCrew
set_option maxRecDepth 20000 in
theorem ggX4_go_X4_recorded : GoodIn wsX4_go wsX4_recorded := goodIn_r _ [43, 44, 1, 45, 46, 47, 48, 49, 50, 51, 52, 53, 54, 55, 56, 4, 5, 6, 7, 8, 9, 10, 11, 12, 13, 14, 15, 16, 17, 18, 19, 20, 21, 22, 23, 24, 57, 58, 59, 60, 61, 62, 63, 64, 65, 79, 80, 66, 67, 68, 69, 70, 71, 72, 73, 74, 75, 76, 77, 78] (by decide +kernel) (by decide +kernel)
set_option maxRecDepth 20000 in
theorem gX4_go_X4_recorded : GoodIn wsX4_go (wsV RX4 51 RX4 yX4_recorded wsX4_recorded) := goodIn_app (goodIn_of _ (by decide +kernel)) ggX4_go_X4_recorded
set_option maxRecDepth 20000 in
theorem ggX4_fell_X3_copyFrom : GoodIn wsX4_fell wsX3_copyFrom := goodIn_r _ [7, 8, 9, 10, 11, 12, 13, 14, 15, 16, 17, 18, 19, 20, 21, 22, 23, 24, 58, 59, 60, 61, 62, 63, 64, 65, 66, 67, 68, 69, 70] (by decide +kernel) (by decide +kernel)
set_option maxRecDepth 20000 in
theorem gX4_fell_X3_copyFrom : GoodIn wsX4_fell (wsV RX4 43 RX3 yX3_copyFrom wsX3_copyFrom) := goodIn_app (goodIn_of _ (by decide +kernel)) ggX4_fell_X3_copyFrom
set_option maxRecDepth 20000 in
theorem ggX4_fell_X3_fellHere : GoodIn wsX4_fell wsX3_fellHere := goodIn_r _ [28, 20, 16, 15, 8, 13, 17, 18, 29, 30, 31, 58, 59, 60, 61, 62, 63, 64, 65, 66, 67, 68, 69, 70] (by decide +kernel) (by decide +kernel)
set_option maxRecDepth 20000 in
theorem gX4_fell_X3_fellHere : GoodIn wsX4_fell (wsV RX4 67 RX3 yX3_fellHere wsX3_fellHere) := goodIn_app (goodIn_of _ (by decide +kernel)) ggX4_fell_X3_fellHere
set_option maxRecDepth 20000 in
theorem ggX4_fell_X4_recorded : GoodIn wsX4_fell wsX4_recorded := goodIn_r _ [35, 36, 1, 37, 38, 39, 40, 41, 42, 43, 44, 45, 46, 47, 48, 4, 5, 6, 7, 8, 9, 10, 11, 12, 13, 14, 15, 16, 17, 18, 19, 20, 21, 22, 23, 24, 49, 50, 51, 52, 53, 54, 55, 56, 57, 71, 72, 58, 59, 60, 61, 62, 63, 64, 65, 66, 67, 68, 69, 70] (by decide +kernel) (by decide +kernel)
set_option maxRecDepth 20000 in
theorem gX4_fell_X4_recorded : GoodIn wsX4_fell (wsV RX4 51 RX4 yX4_recorded wsX4_recorded) := goodIn_app (goodIn_of _ (by decide +kernel)) ggX4_fell_X4_recorded
set_option maxRecDepth 20000 in
theorem ggX4_hint_X3_copyFrom : GoodIn wsX4_hint wsX3_copyFrom := goodIn_r _ [7, 8, 9, 10, 11, 12, 13, 14, 15, 16, 17, 18, 19, 20, 21, 22, 23, 24, 81, 82, 83, 84, 85, 86, 87, 88, 89, 90, 91, 92, 93] (by decide +kernel) (by decide +kernel)
set_option maxRecDepth 20000 in
theorem gX4_hint_X3_copyFrom : GoodIn wsX4_hint (wsV RX4 43 RX3 yX3_copyFrom wsX3_copyFrom) := goodIn_app (goodIn_of _ (by decide +kernel)) ggX4_hint_X3_copyFrom
set_option maxRecDepth 20000 in
theorem ggX4_hint_X4_pathsLeft : GoodIn wsX4_hint wsX4_pathsLeft := goodIn_r _ [29, 30, 2, 31, 32, 33, 34, 35, 36, 37, 38, 39, 40, 41, 42, 43, 44, 72, 73, 74, 75, 76, 77, 78, 79, 80, 81, 82, 83, 84, 85, 86, 87, 88, 89, 90, 91, 92, 93, 94, 95, 96] (by decide +kernel) (by decide +kernel)
set_option maxRecDepth 20000 in
theorem gX4_hint_X4_pathsLeft : GoodIn wsX4_hint (wsV RX4 70 RX4 yX4_pathsLeft wsX4_pathsLeft) := goodIn_app (goodIn_of _ (by decide +kernel)) ggX4_hint_X4_pathsLeft
set_option maxRecDepth 20000 in
theorem ggX4_hint_X3_tellColumn : GoodIn wsX4_hint wsX3_tellColumn := goodIn_r _ [48, 19, 49, 28, 50, 51, 52, 53, 34, 54, 36, 37, 81, 82, 83, 84, 85, 86, 87, 88, 89, 90, 91, 92, 93, 94, 95, 96] (by decide +kernel) (by decide +kernel)
set_option maxRecDepth 20000 in
theorem gX4_hint_X3_tellColumn : GoodIn wsX4_hint (wsV RX4 74 RX3 yX3_tellColumn wsX3_tellColumn) := goodIn_app (goodIn_of _ (by decide +kernel)) ggX4_hint_X3_tellColumn
set_option maxRecDepth 20000 in
theorem ggX4_hint_X4_recorded : GoodIn wsX4_hint wsX4_recorded := goodIn_r _ [58, 59, 1, 60, 61, 62, 63, 64, 65, 66, 67, 68, 69, 70, 71, 4, 5, 6, 7, 8, 9, 10, 11, 12, 13, 14, 15, 16, 17, 18, 19, 20, 21, 22, 23, 24, 72, 73, 74, 75, 76, 77, 78, 79, 80, 97, 98, 81, 82, 83, 84, 85, 86, 87, 88, 89, 90, 91, 92, 93] (by decide +kernel) (by decide +kernel)
set_option maxRecDepth 20000 in
theorem gX4_hint_X4_recorded : GoodIn wsX4_hint (wsV RX4 51 RX4 yX4_recorded wsX4_recorded) := goodIn_app (goodIn_of _ (by decide +kernel)) ggX4_hint_X4_recorded
set_option maxRecDepth 20000 in
theorem ggX4_takeBack_X3_copyFrom : GoodIn wsX4_takeBack wsX3_copyFrom := goodIn_r _ [8, 9, 10, 11, 12, 13, 14, 15, 16, 17, 18, 19, 20, 21, 22, 23, 24, 25, 73, 74, 75, 76, 77, 78, 79, 80, 81, 82, 83, 84, 85] (by decide +kernel) (by decide +kernel)
set_option maxRecDepth 20000 in
theorem gX4_takeBack_X3_copyFrom : GoodIn wsX4_takeBack (wsV RX4 43 RX3 yX3_copyFrom wsX3_copyFrom) := goodIn_app (goodIn_of _ (by decide +kernel)) ggX4_takeBack_X3_copyFrom
set_option maxRecDepth 20000 in
theorem ggX4_takeBack_X3_untellColumn : GoodIn wsX4_takeBack wsX3_untellColumn := goodIn_r _ [29, 20, 30, 31, 32, 33, 34, 35, 36, 37, 38, 39, 40, 41, 42, 43, 44, 45, 46, 73, 74, 75, 76, 77, 78, 79, 80, 81, 82, 83, 84, 85, 86, 87, 88] (by decide +kernel) (by decide +kernel)
set_option maxRecDepth 20000 in
theorem gX4_takeBack_X3_untellColumn : GoodIn wsX4_takeBack (wsV RX4 78 RX3 yX3_untellColumn wsX3_untellColumn) := goodIn_app (goodIn_of _ (by decide +kernel)) ggX4_takeBack_X3_untellColumn
set_option maxRecDepth 20000 in
theorem ggX4_takeBack_X4_recorded : GoodIn wsX4_takeBack wsX4_recorded := goodIn_r _ [50, 51, 1, 52, 53, 54, 55, 56, 57, 58, 59, 60, 61, 62, 63, 5, 6, 7, 8, 9, 10, 11, 12, 13, 14, 15, 16, 17, 18, 19, 20, 21, 22, 23, 24, 25, 64, 65, 66, 67, 68, 69, 70, 71, 72, 89, 90, 73, 74, 75, 76, 77, 78, 79, 80, 81, 82, 83, 84, 85] (by decide +kernel) (by decide +kernel)
set_option maxRecDepth 20000 in
theorem gX4_takeBack_X4_recorded : GoodIn wsX4_takeBack (wsV RX4 51 RX4 yX4_recorded wsX4_recorded) := goodIn_app (goodIn_of _ (by decide +kernel)) ggX4_takeBack_X4_recorded
set_option maxRecDepth 20000 in
theorem ggX4_storm_X3_copyFrom : GoodIn wsX4_storm wsX3_copyFrom := goodIn_r _ [7, 8, 9, 10, 11, 12, 13, 14, 15, 16, 17, 18, 19, 20, 21, 22, 23, 24, 110, 111, 112, 113, 114, 115, 116, 117, 118, 119, 120, 121, 122] (by decide +kernel) (by decide +kernel)
set_option maxRecDepth 20000 in
theorem gX4_storm_X3_copyFrom : GoodIn wsX4_storm (wsV RX4 43 RX3 yX3_copyFrom wsX3_copyFrom) := goodIn_app (goodIn_of _ (by decide +kernel)) ggX4_storm_X3_copyFrom
set_option maxRecDepth 20000 in
theorem ggX4_storm_X4_pathsLeft : GoodIn wsX4_storm wsX4_pathsLeft := goodIn_r _ [29, 30, 2, 31, 32, 33, 34, 35, 36, 37, 38, 39, 40, 41, 42, 43, 44, 101, 102, 103, 104, 105, 106, 107, 108, 109, 110, 111, 112, 113, 114, 115, 116, 117, 118, 119, 120, 121, 122, 123, 124, 125] (by decide +kernel) (by decide +kernel)
set_option maxRecDepth 20000 in
theorem gX4_storm_X4_pathsLeft : GoodIn wsX4_storm (wsV RX4 70 RX4 yX4_pathsLeft wsX4_pathsLeft) := goodIn_app (goodIn_of _ (by decide +kernel)) ggX4_storm_X4_pathsLeft
set_option maxRecDepth 20000 in
theorem ggX4_storm_X3_takeStorm : GoodIn wsX4_storm wsX3_takeStorm := goodIn_r _ [48, 23, 22, 24, 13, 19, 49, 50, 51, 6, 52, 53, 54, 55, 56, 57, 58, 59, 60, 20, 61, 62, 63, 34, 64, 65, 66, 67, 68, 69, 70, 71, 72, 73, 74, 75, 36, 37, 76, 77, 78, 79, 8, 80, 81, 82, 83, 123, 124, 125, 110, 111, 112, 113, 114, 115, 116, 117, 118, 119, 120, 121, 122] (by decide +kernel) (by decide +kernel)
set_option maxRecDepth 20000 in
theorem gX4_storm_X3_takeStorm : GoodIn wsX4_storm (wsV RX4 82 RX3 yX3_takeStorm wsX3_takeStorm) := goodIn_app (goodIn_of _ (by decide +kernel)) ggX4_storm_X3_takeStorm
set_option maxRecDepth 20000 in
theorem ggX4_storm_X4_recorded : GoodIn wsX4_storm wsX4_recorded := goodIn_r _ [87, 88, 1, 89, 90, 91, 92, 93, 94, 95, 96, 97, 98, 99, 100, 4, 5, 6, 7, 8, 9, 10, 11, 12, 13, 14, 15, 16, 17, 18, 19, 20, 21, 22, 23, 24, 101, 102, 103, 104, 105, 106, 107, 108, 109, 126, 127, 110, 111, 112, 113, 114, 115, 116, 117, 118, 119, 120, 121, 122] (by decide +kernel) (by decide +kernel)
set_option maxRecDepth 20000 in
theorem gX4_storm_X4_recorded : GoodIn wsX4_storm (wsV RX4 51 RX4 yX4_recorded wsX4_recorded) := goodIn_app (goodIn_of _ (by decide +kernel)) ggX4_storm_X4_recorded
set_option maxRecDepth 20000 in
theorem ggX4_type_X0_append : GoodIn wsX4_type wsX0_append := goodIn_r _ [6, 7, 8, 18, 19, 20, 21, 22, 23] (by decide +kernel) (by decide +kernel)
set_option maxRecDepth 20000 in
theorem gX4_type_X0_append : GoodIn wsX4_type (wsV RX4 86 RX0 yX0_append wsX0_append) := goodIn_app (goodIn_of _ (by decide +kernel)) ggX4_type_X0_append
set_option maxRecDepth 20000 in
theorem ggX4_clearText_X0_empty : GoodIn wsX4_clearText wsX0_empty := goodIn_r _ [6, 7, 17, 18, 19, 20, 21, 22] (by decide +kernel) (by decide +kernel)
set_option maxRecDepth 20000 in
theorem gX4_clearText_X0_empty : GoodIn wsX4_clearText (wsV RX4 90 RX0 yX0_empty wsX0_empty) := goodIn_app (goodIn_of _ (by decide +kernel)) ggX4_clearText_X0_empty
set_option maxRecDepth 20000 in
theorem ggX4_perform_X0_countThings : GoodIn wsX4_perform wsX0_countThings := goodIn_r _ [10, 11, 12, 13, 14, 15, 9, 16, 17, 18, 19, 20, 21, 22, 23, 24, 25, 26, 27, 28, 29, 30, 31, 32, 33, 34, 35, 36, 37, 38, 39, 40, 41, 42, 43, 44, 45, 46, 47, 48, 49, 50, 51, 173, 174, 175, 176, 177, 178] (by decide +kernel) (by decide +kernel)
set_option maxRecDepth 20000 in
theorem gX4_perform_X0_countThings : GoodIn wsX4_perform (wsV RX4 94 RX0 yX0_countThings wsX0_countThings) := goodIn_app (goodIn_of _ (by decide +kernel)) ggX4_perform_X0_countThings
set_option maxRecDepth 20000 in
theorem ggX4_perform_X3_copyFrom : GoodIn wsX4_perform wsX3_copyFrom := goodIn_r _ [56, 57, 58, 59, 60, 61, 62, 63, 64, 65, 66, 67, 68, 69, 70, 71, 72, 73, 179, 180, 181, 182, 183, 184, 185, 186, 187, 188, 189, 190, 191] (by decide +kernel) (by decide +kernel)
set_option maxRecDepth 20000 in
theorem gX4_perform_X3_copyFrom : GoodIn wsX4_perform (wsV RX4 43 RX3 yX3_copyFrom wsX3_copyFrom) := goodIn_app (goodIn_of _ (by decide +kernel)) ggX4_perform_X3_copyFrom
set_option maxRecDepth 20000 in
theorem ggX4_perform_X0_startOver : GoodIn wsX4_perform wsX0_startOver := goodIn_r _ [16, 11, 173, 174, 175, 176, 177, 178] (by decide +kernel) (by decide +kernel)
set_option maxRecDepth 20000 in
theorem gX4_perform_X0_startOver : GoodIn wsX4_perform (wsV RX4 97 RX0 yX0_startOver wsX0_startOver) := goodIn_app (goodIn_of _ (by decide +kernel)) ggX4_perform_X0_startOver
set_option maxRecDepth 20000 in
theorem ggX4_perform_X0_readNext : GoodIn wsX4_perform wsX0_readNext := goodIn_r _ [78, 26, 27, 28, 9, 29, 11, 12, 30, 17, 18, 19, 20, 21, 22, 23, 24, 25, 31, 32, 33, 34, 35, 36, 37, 38, 39, 40, 41, 42, 43, 44, 45, 46, 47, 48, 49, 50, 51, 173, 174, 175, 176, 177, 178] (by decide +kernel) (by decide +kernel)
set_option maxRecDepth 20000 in
theorem gX4_perform_X0_readNext : GoodIn wsX4_perform (wsV RX4 100 RX0 yX0_readNext wsX0_readNext) := goodIn_app (goodIn_of _ (by decide +kernel)) ggX4_perform_X0_readNext
set_option maxRecDepth 20000 in
theorem ggX4_perform_X4_doThing : GoodIn wsX4_perform wsX4_doThing := goodIn_r _ [82, 1, 3, 83, 84, 85, 55, 86, 57, 44, 45, 46, 87, 88, 89, 90, 63, 91, 92, 93, 94, 95, 96, 97, 98, 99, 100, 101, 102, 103, 104, 105, 106, 107, 108, 109, 110, 111, 112, 113, 114, 115, 116, 117, 68, 118, 119, 120, 121, 122, 123, 124, 125, 65, 64, 126, 127, 128, 129, 130, 131, 132, 133, 134, 135, 136, 69, 62, 66, 67, 137, 138, 139, 140, 70, 141, 142, 143, 164, 165, 166, 167, 168, 169, 170, 171, 172, 173, 174, 175, 176, 177, 178, 179, 180, 181, 182, 183, 184, 185, 186, 187, 188, 189, 190, 191, 192, 193, 194] (by decide +kernel) (by decide +kernel)
set_option maxRecDepth 20000 in
theorem gX4_perform_X4_doThing : GoodIn wsX4_perform (wsV RX4 103 RX4 yX4_doThing wsX4_doThing) := goodIn_app (goodIn_of _ (by decide +kernel)) ggX4_perform_X4_doThing
set_option maxRecDepth 20000 in
theorem ggX4_perform_X4_isError : GoodIn wsX4_perform wsX4_isError := goodIn_r _ [146] (by decide +kernel) (by decide +kernel)
set_option maxRecDepth 20000 in
theorem gX4_perform_X4_isError : GoodIn wsX4_perform (va_wsS RX4 106 yX4_isError wsX4_isError) := goodIn_app (goodIn_of _ (by decide +kernel)) ggX4_perform_X4_isError
set_option maxRecDepth 20000 in
theorem ggX4_perform_X4_recorded : GoodIn wsX4_perform wsX4_recorded := goodIn_r _ [150, 151, 2, 152, 153, 154, 155, 156, 157, 158, 159, 160, 161, 162, 163, 53, 54, 55, 56, 57, 58, 59, 60, 61, 62, 63, 64, 65, 66, 67, 68, 69, 70, 71, 72, 73, 164, 165, 166, 167, 168, 169, 170, 171, 172, 195, 196, 179, 180, 181, 182, 183, 184, 185, 186, 187, 188, 189, 190, 191] (by decide +kernel) (by decide +kernel)
set_option maxRecDepth 20000 in
theorem gX4_perform_X4_recorded : GoodIn wsX4_perform (wsV RX4 51 RX4 yX4_recorded wsX4_recorded) := goodIn_app (goodIn_of _ (by decide +kernel)) ggX4_perform_X4_recorded
set_option maxRecDepth 20000 in
theorem ggX4_stopped_X4_isIn : GoodIn wsX4_stopped wsX4_isIn := goodIn_r _ [6] (by decide +kernel) (by decide +kernel)
set_option maxRecDepth 20000 in
theorem gX4_stopped_X4_isIn : GoodIn wsX4_stopped (va_wsS RX4 117 yX4_isIn wsX4_isIn) := goodIn_app (goodIn_of _ (by decide +kernel)) ggX4_stopped_X4_isIn
set_option maxRecDepth 20000 in
theorem ggX4_undo_X1_pop : GoodIn wsX4_undo wsX1_pop := goodIn_r _ [7, 8, 9, 10, 11, 12, 13, 14, 15, 16, 17, 18, 19, 20, 21, 22, 23, 24, 25, 26, 27, 28, 29, 30, 31, 41, 42, 43, 44, 45, 46, 47, 48, 49, 50, 51, 52, 53, 54, 55] (by decide +kernel) (by decide +kernel)
set_option maxRecDepth 20000 in
theorem gX4_undo_X1_pop : GoodIn wsX4_undo (wsV RX4 121 RX1 yX1_pop wsX1_pop) := goodIn_app (goodIn_of _ (by decide +kernel)) ggX4_undo_X1_pop
set_option maxRecDepth 20000 in
theorem ggX4_keep_X3_copyFrom : GoodIn wsX4_keep wsX3_copyFrom := goodIn_r _ [8, 9, 10, 11, 12, 13, 14, 15, 16, 17, 18, 19, 20, 21, 22, 23, 24, 25, 35, 36, 37, 38, 39, 40, 41, 42, 43, 44, 45, 46, 47] (by decide +kernel) (by decide +kernel)
set_option maxRecDepth 20000 in
theorem gX4_keep_X3_copyFrom : GoodIn wsX4_keep (wsV RX4 43 RX3 yX3_copyFrom wsX3_copyFrom) := goodIn_app (goodIn_of _ (by decide +kernel)) ggX4_keep_X3_copyFrom
set_option maxRecDepth 20000 in
theorem ggX4_restore_X3_copyFrom : GoodIn wsX4_restore wsX3_copyFrom := goodIn_r _ [9, 10, 11, 12, 13, 14, 15, 16, 17, 18, 19, 20, 21, 22, 23, 24, 25, 26, 54, 55, 56, 57, 58, 59, 60, 61, 62, 63, 64, 65, 66] (by decide +kernel) (by decide +kernel)
set_option maxRecDepth 20000 in
theorem gX4_restore_X3_copyFrom : GoodIn wsX4_restore (wsV RX4 43 RX3 yX3_copyFrom wsX3_copyFrom) := goodIn_app (goodIn_of _ (by decide +kernel)) ggX4_restore_X3_copyFrom
set_option maxRecDepth 20000 in
theorem ggX4_restore_X4_recorded : GoodIn wsX4_restore wsX4_recorded := goodIn_r _ [31, 32, 2, 33, 34, 35, 36, 37, 38, 39, 40, 41, 42, 43, 44, 6, 7, 8, 9, 10, 11, 12, 13, 14, 15, 16, 17, 18, 19, 20, 21, 22, 23, 24, 25, 26, 45, 46, 47, 48, 49, 50, 51, 52, 53, 67, 68, 54, 55, 56, 57, 58, 59, 60, 61, 62, 63, 64, 65, 66] (by decide +kernel) (by decide +kernel)
set_option maxRecDepth 20000 in
theorem gX4_restore_X4_recorded : GoodIn wsX4_restore (wsV RX4 51 RX4 yX4_recorded wsX4_recorded) := goodIn_app (goodIn_of _ (by decide +kernel)) ggX4_restore_X4_recorded
set_option maxRecDepth 20000 in
theorem ggX4_plot_X4_isIn : GoodIn wsX4_plot wsX4_isIn := goodIn_r _ [5] (by decide +kernel) (by decide +kernel)
set_option maxRecDepth 20000 in
theorem gX4_plot_X4_isIn : GoodIn wsX4_plot (va_wsS RX4 117 yX4_isIn wsX4_isIn) := goodIn_app (goodIn_of _ (by decide +kernel)) ggX4_plot_X4_isIn
set_option maxRecDepth 20000 in
theorem ggX4_plot_X4_pathsLeft : GoodIn wsX4_plot wsX4_pathsLeft := goodIn_r _ [9, 10, 1, 11, 12, 13, 14, 15, 16, 17, 18, 19, 20, 21, 22, 23, 24, 60, 61, 62, 63, 64, 65, 66, 67, 68, 69, 70, 71, 72, 73, 74, 75, 76, 77, 78, 79, 80, 81, 82, 83, 84] (by decide +kernel) (by decide +kernel)
set_option maxRecDepth 20000 in
theorem gX4_plot_X4_pathsLeft : GoodIn wsX4_plot (wsV RX4 70 RX4 yX4_pathsLeft wsX4_pathsLeft) := goodIn_app (goodIn_of _ (by decide +kernel)) ggX4_plot_X4_pathsLeft
set_option maxRecDepth 20000 in
theorem ggX4_plot_X3_hits : GoodIn wsX4_plot wsX3_hits := goodIn_r _ [29, 30, 31, 32, 33, 14, 34, 35, 36, 37, 38, 39, 40, 41, 42, 43, 44, 45, 16, 17, 69, 70, 71, 72, 73, 74, 75, 76, 77, 78, 79, 80, 81, 82, 83, 84] (by decide +kernel) (by decide +kernel)
set_option maxRecDepth 20000 in
theorem gX4_plot_X3_hits : GoodIn wsX4_plot (wsV RX4 142 RX3 yX3_hits wsX3_hits) := goodIn_app (goodIn_of _ (by decide +kernel)) ggX4_plot_X3_hits
set_option maxRecDepth 20000 in
theorem ggX4_plot_X3_isEndangered : GoodIn wsX4_plot wsX3_isEndangered := goodIn_r _ [49, 50, 26, 27, 28, 29, 30, 31, 32, 33, 14, 34, 35, 36, 37, 38, 39, 40, 41, 42, 43, 44, 45, 16, 17, 69, 70, 71, 72, 73, 74, 75, 76, 77, 78, 79, 80, 81, 82, 83, 84] (by decide +kernel) (by decide +kernel)
set_option maxRecDepth 20000 in
theorem gX4_plot_X3_isEndangered : GoodIn wsX4_plot (wsV RX4 145 RX3 yX3_isEndangered wsX3_isEndangered) := goodIn_app (goodIn_of _ (by decide +kernel)) ggX4_plot_X3_isEndangered
set_option maxRecDepth 20000 in
theorem ggX4_plot_X3_isDoomed : GoodIn wsX4_plot wsX3_isDoomed := goodIn_r _ [54, 50, 26, 27, 28, 29, 30, 31, 32, 33, 14, 34, 35, 36, 37, 38, 39, 40, 41, 42, 43, 44, 45, 16, 17, 82, 83, 84, 69, 70, 71, 72, 73, 74, 75, 76, 77, 78, 79, 80, 81] (by decide +kernel) (by decide +kernel)
set_option maxRecDepth 20000 in
theorem gX4_plot_X3_isDoomed : GoodIn wsX4_plot (wsV RX4 149 RX3 yX3_isDoomed wsX3_isDoomed) := goodIn_app (goodIn_of _ (by decide +kernel)) ggX4_plot_X3_isDoomed
set_option maxRecDepth 20000 in
theorem ggX4_plot_X3_standsToLose : GoodIn wsX4_plot wsX3_standsToLose := goodIn_r _ [58, 59, 50, 26, 27, 28, 29, 30, 31, 32, 33, 14, 34, 35, 36, 37, 38, 39, 40, 41, 42, 43, 44, 45, 16, 17, 82, 83, 84, 69, 70, 71, 72, 73, 74, 75, 76, 77, 78, 79, 80, 81] (by decide +kernel) (by decide +kernel)
set_option maxRecDepth 20000 in
theorem gX4_plot_X3_standsToLose : GoodIn wsX4_plot (wsV RX4 152 RX3 yX3_standsToLose wsX3_standsToLose) := goodIn_app (goodIn_of _ (by decide +kernel)) ggX4_plot_X3_standsToLose
set_option maxRecDepth 20000 in
theorem ggX4_crew_X4_isIn : GoodIn wsX4_crew wsX4_isIn := goodIn_r _ [5] (by decide +kernel) (by decide +kernel)
set_option maxRecDepth 20000 in
theorem gX4_crew_X4_isIn : GoodIn wsX4_crew (va_wsS RX4 117 yX4_isIn wsX4_isIn) := goodIn_app (goodIn_of _ (by decide +kernel)) ggX4_crew_X4_isIn
set_option maxRecDepth 20000 in
theorem ggX4_row_X4_isIn : GoodIn wsX4_row wsX4_isIn := goodIn_r _ [5] (by decide +kernel) (by decide +kernel)
set_option maxRecDepth 20000 in
theorem gX4_row_X4_isIn : GoodIn wsX4_row (va_wsS RX4 117 yX4_isIn wsX4_isIn) := goodIn_app (goodIn_of _ (by decide +kernel)) ggX4_row_X4_isIn
set_option maxRecDepth 20000 in
theorem ggX4_row_X4_pathsLeft : GoodIn wsX4_row wsX4_pathsLeft := goodIn_r _ [9, 10, 1, 11, 12, 13, 14, 15, 16, 17, 18, 19, 20, 21, 22, 23, 24, 37, 38, 39, 40, 41, 42, 43, 44, 45, 46, 47, 48, 49, 50, 51, 52, 53, 54, 55, 56, 57, 58, 59, 60, 61] (by decide +kernel) (by decide +kernel)
set_option maxRecDepth 20000 in
theorem gX4_row_X4_pathsLeft : GoodIn wsX4_row (wsV RX4 70 RX4 yX4_pathsLeft wsX4_pathsLeft) := goodIn_app (goodIn_of _ (by decide +kernel)) ggX4_row_X4_pathsLeft
set_option maxRecDepth 20000 in
theorem ggX4_row_X2_leastColumn : GoodIn wsX4_row wsX2_leastColumn := goodIn_r _ [28, 29, 30, 31, 14, 32, 16, 17, 59, 60, 61] (by decide +kernel) (by decide +kernel)
set_option maxRecDepth 20000 in
theorem gX4_row_X2_leastColumn : GoodIn wsX4_row (wsV RX4 174 RX2 yX2_leastColumn wsX2_leastColumn) := goodIn_app (goodIn_of _ (by decide +kernel)) ggX4_row_X2_leastColumn
set_option maxRecDepth 20000 in
theorem ggX4_row_X2_greatestColumn : GoodIn wsX4_row wsX2_greatestColumn := goodIn_r _ [36, 29, 30, 31, 14, 32, 16, 17, 59, 60, 61] (by decide +kernel) (by decide +kernel)
set_option maxRecDepth 20000 in
theorem gX4_row_X2_greatestColumn : GoodIn wsX4_row (wsV RX4 177 RX2 yX2_greatestColumn wsX2_greatestColumn) := goodIn_app (goodIn_of _ (by decide +kernel)) ggX4_row_X2_greatestColumn
set_option maxRecDepth 20000 in
theorem ggX4_way_X4_isIn : GoodIn wsX4_way wsX4_isIn := goodIn_r _ [5] (by decide +kernel) (by decide +kernel)
set_option maxRecDepth 20000 in
theorem gX4_way_X4_isIn : GoodIn wsX4_way (va_wsS RX4 117 yX4_isIn wsX4_isIn) := goodIn_app (goodIn_of _ (by decide +kernel)) ggX4_way_X4_isIn
set_option maxRecDepth 20000 in
theorem ggX4_way_X3_stepsTo : GoodIn wsX4_way wsX3_stepsTo := goodIn_r _ [10, 11, 12, 13, 14, 15, 16, 26, 27, 28, 29, 30, 31, 32, 33, 34, 35, 36, 37, 38] (by decide +kernel) (by decide +kernel)
set_option maxRecDepth 20000 in
theorem gX4_way_X3_stepsTo : GoodIn wsX4_way (wsV RX4 180 RX3 yX3_stepsTo wsX3_stepsTo) := goodIn_app (goodIn_of _ (by decide +kernel)) ggX4_way_X3_stepsTo
set_option maxRecDepth 20000 in
theorem ggX4_reason_X4_isIn : GoodIn wsX4_reason wsX4_isIn := goodIn_r _ [5] (by decide +kernel) (by decide +kernel)
set_option maxRecDepth 20000 in
theorem gX4_reason_X4_isIn : GoodIn wsX4_reason (va_wsS RX4 117 yX4_isIn wsX4_isIn) := goodIn_app (goodIn_of _ (by decide +kernel)) ggX4_reason_X4_isIn
set_option maxRecDepth 20000 in
theorem ggX4_reason_X3_whyNot : GoodIn wsX4_reason wsX3_whyNot := goodIn_r _ [10, 11, 12, 13, 14, 15, 16, 9, 17, 18, 19, 20, 21, 22, 23, 33, 34, 35, 36, 37, 38, 39, 40, 41, 42, 43, 44, 45] (by decide +kernel) (by decide +kernel)
set_option maxRecDepth 20000 in
theorem gX4_reason_X3_whyNot : GoodIn wsX4_reason (wsV RX4 183 RX3 yX3_whyNot wsX3_whyNot) := goodIn_app (goodIn_of _ (by decide +kernel)) ggX4_reason_X3_whyNot
set_option maxRecDepth 20000 in
theorem ggX4_best_X4_isIn : GoodIn wsX4_best wsX4_isIn := goodIn_r _ [5] (by decide +kernel) (by decide +kernel)
set_option maxRecDepth 20000 in
theorem gX4_best_X4_isIn : GoodIn wsX4_best (va_wsS RX4 117 yX4_isIn wsX4_isIn) := goodIn_app (goodIn_of _ (by decide +kernel)) ggX4_best_X4_isIn
set_option maxRecDepth 20000 in
theorem ggX4_best_X4_pathsLeft : GoodIn wsX4_best wsX4_pathsLeft := goodIn_r _ [9, 10, 1, 11, 12, 13, 14, 15, 16, 17, 18, 19, 20, 21, 22, 23, 24, 73, 74, 75, 76, 77, 78, 79, 80, 81, 82, 83, 84, 85, 86, 87, 88, 89, 90, 91, 92, 93, 94, 95, 96, 97] (by decide +kernel) (by decide +kernel)
set_option maxRecDepth 20000 in
theorem gX4_best_X4_pathsLeft : GoodIn wsX4_best (wsV RX4 70 RX4 yX4_pathsLeft wsX4_pathsLeft) := goodIn_app (goodIn_of _ (by decide +kernel)) ggX4_best_X4_pathsLeft
set_option maxRecDepth 20000 in
theorem ggX4_best_X3_bestPlot : GoodIn wsX4_best wsX3_bestPlot := goodIn_r _ [29, 30, 31, 32, 28, 33, 34, 35, 36, 37, 38, 39, 40, 41, 42, 43, 44, 45, 46, 47, 48, 49, 50, 51, 52, 53, 54, 55, 56, 57, 58, 59, 60, 61, 14, 62, 63, 64, 65, 66, 67, 68, 69, 70, 71, 72, 16, 17, 82, 83, 84, 85, 86, 87, 88, 89, 90, 91, 92, 93, 94, 95, 96, 97] (by decide +kernel) (by decide +kernel)
set_option maxRecDepth 20000 in
theorem gX4_best_X3_bestPlot : GoodIn wsX4_best (wsV RX4 186 RX3 yX3_bestPlot wsX3_bestPlot) := goodIn_app (goodIn_of _ (by decide +kernel)) ggX4_best_X3_bestPlot
set_option maxRecDepth 20000 in
theorem ggX4_openRow_X4_pathsLeft : GoodIn wsX4_openRow wsX4_pathsLeft := goodIn_r _ [5, 6, 7, 8, 9, 10, 11, 12, 13, 14, 15, 16, 17, 18, 19, 20, 21, 34, 35, 36, 37, 38, 39, 40, 41, 42, 43, 44, 45, 46, 47, 48, 49, 50, 51, 52, 53, 54, 55, 56, 57, 58] (by decide +kernel) (by decide +kernel)
set_option maxRecDepth 20000 in
theorem gX4_openRow_X4_pathsLeft : GoodIn wsX4_openRow (wsV RX4 70 RX4 yX4_pathsLeft wsX4_pathsLeft) := goodIn_app (goodIn_of _ (by decide +kernel)) ggX4_openRow_X4_pathsLeft
set_option maxRecDepth 20000 in
theorem ggX4_openRow_X2_mostOpenRow : GoodIn wsX4_openRow wsX2_mostOpenRow := goodIn_r _ [25, 15, 26, 27, 28, 11, 29, 30, 31, 32, 33, 13, 14, 56, 57, 58] (by decide +kernel) (by decide +kernel)
set_option maxRecDepth 20000 in
theorem gX4_openRow_X2_mostOpenRow : GoodIn wsX4_openRow (wsV RX4 189 RX2 yX2_mostOpenRow wsX2_mostOpenRow) := goodIn_app (goodIn_of _ (by decide +kernel)) ggX4_openRow_X2_mostOpenRow
set_option maxRecDepth 20000 in
theorem ggX4_ifTold_X4_isIn : GoodIn wsX4_ifTold wsX4_isIn := goodIn_r _ [4] (by decide +kernel) (by decide +kernel)
set_option maxRecDepth 20000 in
theorem gX4_ifTold_X4_isIn : GoodIn wsX4_ifTold (va_wsS RX4 117 yX4_isIn wsX4_isIn) := goodIn_app (goodIn_of _ (by decide +kernel)) ggX4_ifTold_X4_isIn
set_option maxRecDepth 20000 in
theorem ggX4_ifTold_X4_pathsLeft : GoodIn wsX4_ifTold wsX4_pathsLeft := goodIn_r _ [8, 9, 10, 11, 12, 13, 14, 15, 16, 17, 18, 19, 20, 21, 22, 23, 24, 29, 30, 31, 32, 33, 34, 35, 36, 37, 38, 39, 40, 41, 42, 43, 44, 45, 46, 47, 48, 49, 50, 51, 52, 53] (by decide +kernel) (by decide +kernel)
set_option maxRecDepth 20000 in
theorem gX4_ifTold_X4_pathsLeft : GoodIn wsX4_ifTold (wsV RX4 70 RX4 yX4_pathsLeft wsX4_pathsLeft) := goodIn_app (goodIn_of _ (by decide +kernel)) ggX4_ifTold_X4_pathsLeft
set_option maxRecDepth 20000 in
theorem ggX4_ifTold_X2_through : GoodIn wsX4_ifTold wsX2_through := goodIn_r _ [28, 16, 17, 51, 52, 53] (by decide +kernel) (by decide +kernel)
set_option maxRecDepth 20000 in
theorem gX4_ifTold_X2_through : GoodIn wsX4_ifTold (wsV RX4 192 RX2 yX2_through wsX2_through) := goodIn_app (goodIn_of _ (by decide +kernel)) ggX4_ifTold_X2_through
set_option maxRecDepth 20000 in
theorem ggX4_count_X3_worthOfAll : GoodIn wsX4_count wsX3_worthOfAll := goodIn_r _ [8, 9, 98, 99, 100, 101, 102, 103, 104, 105, 106, 107, 108, 109, 110] (by decide +kernel) (by decide +kernel)
set_option maxRecDepth 20000 in
theorem gX4_count_X3_worthOfAll : GoodIn wsX4_count (wsV RX4 195 RX3 yX3_worthOfAll wsX3_worthOfAll) := goodIn_app (goodIn_of _ (by decide +kernel)) ggX4_count_X3_worthOfAll
set_option maxRecDepth 20000 in
theorem ggX4_count_X4_pathsLeft : GoodIn wsX4_count wsX4_pathsLeft := goodIn_r _ [14, 15, 1, 16, 17, 18, 19, 20, 21, 22, 23, 24, 25, 26, 27, 28, 29, 89, 90, 91, 92, 93, 94, 95, 96, 97, 98, 99, 100, 101, 102, 103, 104, 105, 106, 107, 108, 109, 110, 111, 112, 113] (by decide +kernel) (by decide +kernel)
set_option maxRecDepth 20000 in
theorem gX4_count_X4_pathsLeft : GoodIn wsX4_count (wsV RX4 70 RX4 yX4_pathsLeft wsX4_pathsLeft) := goodIn_app (goodIn_of _ (by decide +kernel)) ggX4_count_X4_pathsLeft
set_option maxRecDepth 20000 in
theorem ggX4_count_X3_endangeredPlots : GoodIn wsX4_count wsX3_endangeredPlots := goodIn_r _ [33, 34, 35, 36, 7, 37, 38, 39, 40, 41, 42, 43, 44, 45, 19, 46, 47, 48, 49, 50, 51, 52, 53, 54, 55, 56, 57, 21, 22, 98, 99, 100, 101, 102, 103, 104, 105, 106, 107, 108, 109, 110, 111, 112, 113] (by decide +kernel) (by decide +kernel)
set_option maxRecDepth 20000 in
theorem gX4_count_X3_endangeredPlots : GoodIn wsX4_count (wsV RX4 198 RX3 yX3_endangeredPlots wsX3_endangeredPlots) := goodIn_app (goodIn_of _ (by decide +kernel)) ggX4_count_X3_endangeredPlots
set_option maxRecDepth 20000 in
theorem ggX4_count_X3_doomedPlots : GoodIn wsX4_count wsX3_doomedPlots := goodIn_r _ [61, 62, 63, 64, 7, 65, 38, 39, 40, 41, 42, 43, 44, 45, 19, 46, 47, 48, 49, 50, 51, 52, 53, 54, 55, 56, 57, 21, 22, 111, 112, 113, 98, 99, 100, 101, 102, 103, 104, 105, 106, 107, 108, 109, 110] (by decide +kernel) (by decide +kernel)
set_option maxRecDepth 20000 in
theorem gX4_count_X3_doomedPlots : GoodIn wsX4_count (wsV RX4 201 RX3 yX3_doomedPlots wsX3_doomedPlots) := goodIn_app (goodIn_of _ (by decide +kernel)) ggX4_count_X3_doomedPlots
set_option maxRecDepth 20000 in
theorem ggX4_count_X3_allStandToLose : GoodIn wsX4_count wsX3_allStandToLose := goodIn_r _ [69, 70, 71, 72, 7, 73, 9, 38, 39, 40, 41, 42, 43, 44, 45, 19, 46, 47, 48, 49, 50, 51, 52, 53, 54, 55, 56, 57, 21, 22, 111, 112, 113, 98, 99, 100, 101, 102, 103, 104, 105, 106, 107, 108, 109, 110] (by decide +kernel) (by decide +kernel)
set_option maxRecDepth 20000 in
theorem gX4_count_X3_allStandToLose : GoodIn wsX4_count (wsV RX4 204 RX3 yX3_allStandToLose wsX3_allStandToLose) := goodIn_app (goodIn_of _ (by decide +kernel)) ggX4_count_X3_allStandToLose
set_option maxRecDepth 20000 in
theorem ggX4_count_X3_hintsTold : GoodIn wsX4_count wsX3_hintsTold := goodIn_r _ [77, 78, 98, 99, 100, 101, 102, 103, 104, 105, 106, 107, 108, 109, 110] (by decide +kernel) (by decide +kernel)
set_option maxRecDepth 20000 in
theorem gX4_count_X3_hintsTold : GoodIn wsX4_count (wsV RX4 210 RX3 yX3_hintsTold wsX3_hintsTold) := goodIn_app (goodIn_of _ (by decide +kernel)) ggX4_count_X3_hintsTold
set_option maxRecDepth 20000 in
theorem ggX4_count_X3_savedByAll : GoodIn wsX4_count wsX3_savedByAll := goodIn_r _ [82, 83, 98, 99, 100, 101, 102, 103, 104, 105, 106, 107, 108, 109, 110] (by decide +kernel) (by decide +kernel)
set_option maxRecDepth 20000 in
theorem gX4_count_X3_savedByAll : GoodIn wsX4_count (wsV RX4 213 RX3 yX3_savedByAll wsX3_savedByAll) := goodIn_app (goodIn_of _ (by decide +kernel)) ggX4_count_X3_savedByAll
set_option maxRecDepth 20000 in
theorem ggX4_count_X3_felledPlots : GoodIn wsX4_count wsX3_felledPlots := goodIn_r _ [87, 88, 98, 99, 100, 101, 102, 103, 104, 105, 106, 107, 108, 109, 110] (by decide +kernel) (by decide +kernel)
set_option maxRecDepth 20000 in
theorem gX4_count_X3_felledPlots : GoodIn wsX4_count (wsV RX4 225 RX3 yX3_felledPlots wsX3_felledPlots) := goodIn_app (goodIn_of _ (by decide +kernel)) ggX4_count_X3_felledPlots
set_option maxRecDepth 20000 in
theorem ggX4_recorded_X1_push : GoodIn wsX4_recorded wsX1_push := goodIn_r _ [7, 8, 9, 10, 11, 12, 6, 13, 14, 15, 16, 17, 18, 19, 20, 21, 22, 23, 24, 25, 26, 27, 28, 29, 30, 31, 32, 33, 34, 35, 45, 46, 47, 48, 49, 50, 51, 52, 53, 54, 55, 56, 57, 58, 59] (by decide +kernel) (by decide +kernel)
set_option maxRecDepth 20000 in
theorem gX4_recorded_X1_push : GoodIn wsX4_recorded (wsV RX4 234 RX1 yX1_push wsX1_push) := goodIn_app (goodIn_of _ (by decide +kernel)) ggX4_recorded_X1_push
set_option maxRecDepth 20000 in
theorem ggX4_pathsLeft_X2_follow : GoodIn wsX4_pathsLeft wsX2_follow := goodIn_r _ [7, 8, 9, 10, 11, 12, 6, 13, 14, 15, 16, 39, 40, 41] (by decide +kernel) (by decide +kernel)
set_option maxRecDepth 20000 in
theorem gX4_pathsLeft_X2_follow : GoodIn wsX4_pathsLeft (wsV RX4 237 RX2 yX2_follow wsX2_follow) := goodIn_app (goodIn_of _ (by decide +kernel)) ggX4_pathsLeft_X2_follow
set_option maxRecDepth 20000 in
theorem ggX4_doThing_X3_plant : GoodIn wsX4_doThing wsX3_plant := goodIn_r _ [7, 8, 9, 10, 11, 93, 94, 95, 96, 97, 98, 99, 100, 101, 102, 103, 104, 105] (by decide +kernel) (by decide +kernel)
set_option maxRecDepth 20000 in
theorem gX4_doThing_X3_plant : GoodIn wsX4_doThing (wsV RX4 47 RX3 yX3_plant wsX3_plant) := goodIn_app (goodIn_of _ (by decide +kernel)) ggX4_doThing_X3_plant
set_option maxRecDepth 20000 in
theorem ggX4_doThing_X3_getWet : GoodIn wsX4_doThing wsX3_getWet := goodIn_r _ [15, 16, 17, 18, 19, 20, 9, 10, 11, 93, 94, 95, 96, 97, 98, 99, 100, 101, 102, 103, 104, 105] (by decide +kernel) (by decide +kernel)
set_option maxRecDepth 20000 in
theorem gX4_doThing_X3_getWet : GoodIn wsX4_doThing (wsV RX4 55 RX3 yX3_getWet wsX3_getWet) := goodIn_app (goodIn_of _ (by decide +kernel)) ggX4_doThing_X3_getWet
set_option maxRecDepth 20000 in
theorem ggX4_doThing_X4_pathsLeft : GoodIn wsX4_doThing wsX4_pathsLeft := goodIn_r _ [24, 25, 2, 26, 27, 28, 29, 30, 31, 32, 33, 34, 35, 36, 37, 38, 39, 78, 79, 80, 81, 82, 83, 84, 85, 86, 93, 94, 95, 96, 97, 98, 99, 100, 101, 102, 103, 104, 105, 106, 107, 108] (by decide +kernel) (by decide +kernel)
set_option maxRecDepth 20000 in
theorem gX4_doThing_X4_pathsLeft : GoodIn wsX4_doThing (wsV RX4 70 RX4 yX4_pathsLeft wsX4_pathsLeft) := goodIn_app (goodIn_of _ (by decide +kernel)) ggX4_doThing_X4_pathsLeft
set_option maxRecDepth 20000 in
theorem ggX4_doThing_X3_tellColumn : GoodIn wsX4_doThing wsX3_tellColumn := goodIn_r _ [43, 44, 9, 10, 11, 45, 46, 47, 29, 48, 31, 32, 93, 94, 95, 96, 97, 98, 99, 100, 101, 102, 103, 104, 105, 106, 107, 108] (by decide +kernel) (by decide +kernel)
set_option maxRecDepth 20000 in
theorem gX4_doThing_X3_tellColumn : GoodIn wsX4_doThing (wsV RX4 74 RX3 yX3_tellColumn wsX3_tellColumn) := goodIn_app (goodIn_of _ (by decide +kernel)) ggX4_doThing_X3_tellColumn
set_option maxRecDepth 20000 in
theorem ggX4_doThing_X3_sendCrew : GoodIn wsX4_doThing wsX3_sendCrew := goodIn_r _ [52, 53, 54, 9, 10, 11, 55, 56, 57, 6, 58, 59, 60, 19, 61, 16, 93, 94, 95, 96, 97, 98, 99, 100, 101, 102, 103, 104, 105] (by decide +kernel) (by decide +kernel)
set_option maxRecDepth 20000 in
theorem gX4_doThing_X3_sendCrew : GoodIn wsX4_doThing (wsV RX4 64 RX3 yX3_sendCrew wsX3_sendCrew) := goodIn_app (goodIn_of _ (by decide +kernel)) ggX4_doThing_X3_sendCrew
set_option maxRecDepth 20000 in
theorem ggX4_doThing_X3_fellHere : GoodIn wsX4_doThing wsX3_fellHere := goodIn_r _ [65, 66, 53, 54, 8, 67, 68, 69, 9, 10, 11, 93, 94, 95, 96, 97, 98, 99, 100, 101, 102, 103, 104, 105] (by decide +kernel) (by decide +kernel)
set_option maxRecDepth 20000 in
theorem gX4_doThing_X3_fellHere : GoodIn wsX4_doThing (wsV RX4 67 RX3 yX3_fellHere wsX3_fellHere) := goodIn_app (goodIn_of _ (by decide +kernel)) ggX4_doThing_X3_fellHere
set_option maxRecDepth 20000 in
theorem ggX4_doThing_X3_passDays : GoodIn wsX4_doThing wsX3_passDays := goodIn_r _ [73, 74, 16, 75, 76, 19, 77, 53, 66, 9, 10, 11, 93, 94, 95, 96, 97, 98, 99, 100, 101, 102, 103, 104, 105] (by decide +kernel) (by decide +kernel)
set_option maxRecDepth 20000 in
theorem gX4_doThing_X3_passDays : GoodIn wsX4_doThing (wsV RX4 58 RX3 yX3_passDays wsX3_passDays) := goodIn_app (goodIn_of _ (by decide +kernel)) ggX4_doThing_X3_passDays
set_option maxRecDepth 20000 in
theorem ggX5_init_X5_lay : GoodIn wsX5_init wsX5_lay := goodIn_r _ [19, 5, 24, 25, 26, 27, 28, 29, 30, 31, 32, 33, 34, 35, 36, 37, 38, 39, 40] (by decide +kernel) (by decide +kernel)
set_option maxRecDepth 20000 in
theorem gX5_init_X5_lay : GoodIn wsX5_init (wsV RX5 40 RX5 yX5_lay wsX5_lay) := goodIn_app (goodIn_of _ (by decide +kernel)) ggX5_init_X5_lay
set_option maxRecDepth 20000 in
theorem ggX5_init_X5_refresh : GoodIn wsX5_init wsX5_refresh := goodIn_r _ [23, 5, 15, 16, 17, 18, 19, 24, 25, 26, 27, 28, 29, 30, 31, 32, 33, 34, 35, 36, 37, 38, 39, 40] (by decide +kernel) (by decide +kernel)
set_option maxRecDepth 20000 in
theorem gX5_init_X5_refresh : GoodIn wsX5_init (wsV RX5 44 RX5 yX5_refresh wsX5_refresh) := goodIn_app (goodIn_of _ (by decide +kernel)) ggX5_init_X5_refresh
set_option maxRecDepth 20000 in
theorem ggX5_isPlot_X5_in : GoodIn wsX5_isPlot wsX5_in := goodIn_r _ [4] (by decide +kernel) (by decide +kernel)
set_option maxRecDepth 20000 in
theorem gX5_isPlot_X5_in : GoodIn wsX5_isPlot (va_wsS RX5 47 yX5_in wsX5_in) := goodIn_app (goodIn_of _ (by decide +kernel)) ggX5_isPlot_X5_in
set_option maxRecDepth 20000 in
theorem ggX5_isLine_X5_in : GoodIn wsX5_isLine wsX5_in := goodIn_r _ [4] (by decide +kernel) (by decide +kernel)
set_option maxRecDepth 20000 in
theorem gX5_isLine_X5_in : GoodIn wsX5_isLine (va_wsS RX5 47 yX5_in wsX5_in) := goodIn_app (goodIn_of _ (by decide +kernel)) ggX5_isLine_X5_in
set_option maxRecDepth 20000 in
theorem ggX5_isCrew_X5_in : GoodIn wsX5_isCrew wsX5_in := goodIn_r _ [4] (by decide +kernel) (by decide +kernel)
set_option maxRecDepth 20000 in
theorem gX5_isCrew_X5_in : GoodIn wsX5_isCrew (va_wsS RX5 47 yX5_in wsX5_in) := goodIn_app (goodIn_of _ (by decide +kernel)) ggX5_isCrew_X5_in
set_option maxRecDepth 20000 in
theorem ggX5_refresh_X5_lay : GoodIn wsX5_refresh wsX5_lay := goodIn_r _ [6, 1, 7, 8, 9, 10, 11, 12, 13, 14, 15, 16, 17, 18, 19, 20, 21, 22, 23] (by decide +kernel) (by decide +kernel)
set_option maxRecDepth 20000 in
theorem gX5_refresh_X5_lay : GoodIn wsX5_refresh (wsV RX5 40 RX5 yX5_lay wsX5_lay) := goodIn_app (goodIn_of _ (by decide +kernel)) ggX5_refresh_X5_lay
set_option maxRecDepth 20000 in
theorem ggX5_recordRow_X5_copyState : GoodIn wsX5_recordRow wsX5_copyState := goodIn_r _ [6] (by decide +kernel) (by decide +kernel)
set_option maxRecDepth 20000 in
theorem gX5_recordRow_X5_copyState : GoodIn wsX5_recordRow (va_wsS RX5 55 yX5_copyState wsX5_copyState) := goodIn_app (goodIn_of _ (by decide +kernel)) ggX5_recordRow_X5_copyState
set_option maxRecDepth 20000 in
theorem ggX5_record_X5_recordRow : GoodIn wsX5_record wsX5_recordRow := goodIn_r _ [6, 7, 8, 9, 10, 5, 11, 12, 13, 14, 15, 16, 17, 18, 19, 20, 21, 22, 23, 24, 25, 26, 27, 28] (by decide +kernel) (by decide +kernel)
set_option maxRecDepth 20000 in
theorem gX5_record_X5_recordRow : GoodIn wsX5_record (wsV RX5 59 RX5 yX5_recordRow wsX5_recordRow) := goodIn_app (goodIn_of _ (by decide +kernel)) ggX5_record_X5_recordRow
set_option maxRecDepth 20000 in
theorem ggX5_undo_X5_copyState : GoodIn wsX5_undo wsX5_copyState := goodIn_r _ [7] (by decide +kernel) (by decide +kernel)
set_option maxRecDepth 20000 in
theorem gX5_undo_X5_copyState : GoodIn wsX5_undo (va_wsS RX5 55 yX5_copyState wsX5_copyState) := goodIn_app (goodIn_of _ (by decide +kernel)) ggX5_undo_X5_copyState
set_option maxRecDepth 20000 in
theorem ggX5_keep_X5_copyState : GoodIn wsX5_keep wsX5_copyState := goodIn_r _ [7] (by decide +kernel) (by decide +kernel)
set_option maxRecDepth 20000 in
theorem gX5_keep_X5_copyState : GoodIn wsX5_keep (va_wsS RX5 55 yX5_copyState wsX5_copyState) := goodIn_app (goodIn_of _ (by decide +kernel)) ggX5_keep_X5_copyState
set_option maxRecDepth 20000 in
theorem ggX5_restore_X5_record : GoodIn wsX5_restore wsX5_record := goodIn_r _ [8, 3, 9, 10, 11, 7, 12, 13, 14, 15, 16, 17, 18, 19, 20, 21, 22, 23, 24, 25, 26, 27, 28, 29, 30, 31, 32, 33, 34] (by decide +kernel) (by decide +kernel)
set_option maxRecDepth 20000 in
theorem gX5_restore_X5_record : GoodIn wsX5_restore (wsV RX5 67 RX5 yX5_record wsX5_record) := goodIn_app (goodIn_of _ (by decide +kernel)) ggX5_restore_X5_record
set_option maxRecDepth 20000 in
theorem ggX5_restore_X5_copyState : GoodIn wsX5_restore wsX5_copyState := goodIn_r _ [17] (by decide +kernel) (by decide +kernel)
set_option maxRecDepth 20000 in
theorem gX5_restore_X5_copyState : GoodIn wsX5_restore (va_wsS RX5 55 yX5_copyState wsX5_copyState) := goodIn_app (goodIn_of _ (by decide +kernel)) ggX5_restore_X5_copyState
set_option maxRecDepth 20000 in
theorem ggX5_countPaths_X5_isOpen : GoodIn wsX5_countPaths wsX5_isOpen := goodIn_r _ [7, 8, 12, 13, 14, 15, 16, 17, 18, 19, 20, 21, 22, 23, 24, 25, 26, 27, 28] (by decide +kernel) (by decide +kernel)
set_option maxRecDepth 20000 in
theorem gX5_countPaths_X5_isOpen : GoodIn wsX5_countPaths (wsV RX5 70 RX5 yX5_isOpen wsX5_isOpen) := goodIn_app (goodIn_of _ (by decide +kernel)) ggX5_countPaths_X5_isOpen
set_option maxRecDepth 20000 in
theorem ggX5_countPaths_X5_beside : GoodIn wsX5_countPaths wsX5_beside := goodIn_r _ [11] (by decide +kernel) (by decide +kernel)
set_option maxRecDepth 20000 in
theorem gX5_countPaths_X5_beside : GoodIn wsX5_countPaths (va_wsS RX5 74 yX5_beside wsX5_beside) := goodIn_app (goodIn_of _ (by decide +kernel)) ggX5_countPaths_X5_beside
set_option maxRecDepth 20000 in
theorem ggX5_paths_X5_countPaths : GoodIn wsX5_paths wsX5_countPaths := goodIn_r _ [5, 6, 7, 8, 9, 10, 4, 11, 12, 13, 14, 15, 20, 21, 22, 23, 24, 25, 26, 27, 28, 29, 30, 31, 32, 33, 34, 35, 36] (by decide +kernel) (by decide +kernel)
set_option maxRecDepth 20000 in
theorem gX5_paths_X5_countPaths : GoodIn wsX5_paths (wsV RX5 78 RX5 yX5_countPaths wsX5_countPaths) := goodIn_app (goodIn_of _ (by decide +kernel)) ggX5_paths_X5_countPaths
set_option maxRecDepth 20000 in
theorem ggX5_paths_X5_allPaths : GoodIn wsX5_paths wsX5_allPaths := goodIn_r _ [19, 7, 20, 21, 22, 23, 24, 25, 26, 27, 28, 29, 30, 31, 32, 33, 34, 35, 36] (by decide +kernel) (by decide +kernel)
set_option maxRecDepth 20000 in
theorem gX5_paths_X5_allPaths : GoodIn wsX5_paths (wsV RX5 81 RX5 yX5_allPaths wsX5_allPaths) := goodIn_app (goodIn_of _ (by decide +kernel)) ggX5_paths_X5_allPaths
set_option maxRecDepth 20000 in
theorem ggX5_hits_X5_in : GoodIn wsX5_hits wsX5_in := goodIn_r _ [7] (by decide +kernel) (by decide +kernel)
set_option maxRecDepth 20000 in
theorem gX5_hits_X5_in : GoodIn wsX5_hits (va_wsS RX5 47 yX5_in wsX5_in) := goodIn_app (goodIn_of _ (by decide +kernel)) ggX5_hits_X5_in
set_option maxRecDepth 20000 in
theorem ggX5_standsToLose_X5_hits : GoodIn wsX5_standsToLose wsX5_hits := goodIn_r _ [6, 1, 7, 8, 9, 10, 5, 11, 16, 17, 18, 19, 20, 21, 22, 23, 24, 25, 26, 27, 28, 29, 30, 31, 32] (by decide +kernel) (by decide +kernel)
set_option maxRecDepth 20000 in
theorem gX5_standsToLose_X5_hits : GoodIn wsX5_standsToLose (wsV RX5 85 RX5 yX5_hits wsX5_hits) := goodIn_app (goodIn_of _ (by decide +kernel)) ggX5_standsToLose_X5_hits
set_option maxRecDepth 20000 in
theorem ggX5_standsToLose_X5_allPaths : GoodIn wsX5_standsToLose wsX5_allPaths := goodIn_r _ [15, 8, 16, 17, 18, 19, 20, 21, 22, 23, 24, 25, 26, 27, 28, 29, 30, 31, 32] (by decide +kernel) (by decide +kernel)
set_option maxRecDepth 20000 in
theorem gX5_standsToLose_X5_allPaths : GoodIn wsX5_standsToLose (wsV RX5 81 RX5 yX5_allPaths wsX5_allPaths) := goodIn_app (goodIn_of _ (by decide +kernel)) ggX5_standsToLose_X5_allPaths
set_option maxRecDepth 20000 in
theorem ggX5_nearer_X5_enters : GoodIn wsX5_nearer wsX5_enters := goodIn_r _ [6, 7, 8, 9, 10, 11, 12, 13, 14, 15, 16, 17, 18, 19, 20, 21, 22, 23, 24] (by decide +kernel) (by decide +kernel)
set_option maxRecDepth 20000 in
theorem gX5_nearer_X5_enters : GoodIn wsX5_nearer (wsV RX5 89 RX5 yX5_enters wsX5_enters) := goodIn_app (goodIn_of _ (by decide +kernel)) ggX5_nearer_X5_enters
set_option maxRecDepth 20000 in
theorem ggX5_getsNearer_X5_nearer : GoodIn wsX5_getsNearer wsX5_nearer := goodIn_r _ [5, 6, 7, 8, 9, 4, 10, 11, 12, 13, 14, 15, 16, 17, 18, 19, 20, 21, 22, 23, 24, 25, 26, 27, 28] (by decide +kernel) (by decide +kernel)
set_option maxRecDepth 20000 in
theorem gX5_getsNearer_X5_nearer : GoodIn wsX5_getsNearer (wsV RX5 92 RX5 yX5_nearer wsX5_nearer) := goodIn_app (goodIn_of _ (by decide +kernel)) ggX5_getsNearer_X5_nearer
set_option maxRecDepth 20000 in
theorem ggX5_measure_X5_getsNearer : GoodIn wsX5_measure wsX5_getsNearer := goodIn_r _ [7, 8, 9, 10, 6, 11, 1, 12, 13, 14, 15, 16, 17, 18, 19, 20, 21, 22, 23, 24, 25, 26, 27, 28, 29, 30, 31, 32, 33] (by decide +kernel) (by decide +kernel)
set_option maxRecDepth 20000 in
theorem gX5_measure_X5_getsNearer : GoodIn wsX5_measure (wsV RX5 97 RX5 yX5_getsNearer wsX5_getsNearer) := goodIn_app (goodIn_of _ (by decide +kernel)) ggX5_measure_X5_getsNearer
set_option maxRecDepth 20000 in
theorem ggX5_whyNotGrow_X5_isPlot : GoodIn wsX5_whyNotGrow wsX5_isPlot := goodIn_r _ [4, 5, 6, 3, 7] (by decide +kernel) (by decide +kernel)
set_option maxRecDepth 20000 in
theorem gX5_whyNotGrow_X5_isPlot : GoodIn wsX5_whyNotGrow (va_wsS RX5 100 yX5_isPlot wsX5_isPlot) := goodIn_app (goodIn_of _ (by decide +kernel)) ggX5_whyNotGrow_X5_isPlot
set_option maxRecDepth 20000 in
theorem ggX5_whyNotGrow_X5_in : GoodIn wsX5_whyNotGrow wsX5_in := goodIn_r _ [7] (by decide +kernel) (by decide +kernel)
set_option maxRecDepth 20000 in
theorem gX5_whyNotGrow_X5_in : GoodIn wsX5_whyNotGrow (va_wsS RX5 47 yX5_in wsX5_in) := goodIn_app (goodIn_of _ (by decide +kernel)) ggX5_whyNotGrow_X5_in
set_option maxRecDepth 20000 in
theorem ggX5_grow_X5_whyNotGrow : GoodIn wsX5_grow wsX5_whyNotGrow := goodIn_r _ [6, 7, 8, 5, 9, 10, 11, 12] (by decide +kernel) (by decide +kernel)
set_option maxRecDepth 20000 in
theorem gX5_grow_X5_whyNotGrow : GoodIn wsX5_grow (wsV RX5 103 RX5 yX5_whyNotGrow wsX5_whyNotGrow) := goodIn_app (goodIn_of _ (by decide +kernel)) ggX5_grow_X5_whyNotGrow
set_option maxRecDepth 20000 in
theorem ggX5_grow_X5_record : GoodIn wsX5_grow wsX5_record := goodIn_r _ [16, 1, 17, 18, 19, 5, 20, 21, 22, 23, 24, 25, 26, 27, 28, 29, 30, 31, 32, 33, 34, 35, 36, 37, 38, 39, 40, 41, 42] (by decide +kernel) (by decide +kernel)
set_option maxRecDepth 20000 in
theorem gX5_grow_X5_record : GoodIn wsX5_grow (wsV RX5 67 RX5 yX5_record wsX5_record) := goodIn_app (goodIn_of _ (by decide +kernel)) ggX5_grow_X5_record
set_option maxRecDepth 20000 in
theorem ggX5_rain_X5_in : GoodIn wsX5_rain wsX5_in := goodIn_r _ [4] (by decide +kernel) (by decide +kernel)
set_option maxRecDepth 20000 in
theorem gX5_rain_X5_in : GoodIn wsX5_rain (va_wsS RX5 47 yX5_in wsX5_in) := goodIn_app (goodIn_of _ (by decide +kernel)) ggX5_rain_X5_in
set_option maxRecDepth 20000 in
theorem ggX5_rain_X5_record : GoodIn wsX5_rain wsX5_record := goodIn_r _ [8, 9, 10, 11, 12, 3, 13, 14, 15, 16, 17, 18, 23, 24, 25, 26, 27, 28, 29, 30, 31, 32, 33, 34, 35, 36, 37, 38, 39] (by decide +kernel) (by decide +kernel)
set_option maxRecDepth 20000 in
theorem gX5_rain_X5_record : GoodIn wsX5_rain (wsV RX5 67 RX5 yX5_record wsX5_record) := goodIn_app (goodIn_of _ (by decide +kernel)) ggX5_rain_X5_record
set_option maxRecDepth 20000 in
theorem ggX5_rain_X5_rainNow : GoodIn wsX5_rain wsX5_rainNow := goodIn_r _ [22, 9, 23, 24, 25, 26, 27, 28, 29, 30, 31, 32, 33, 34, 35, 36, 37, 38, 39] (by decide +kernel) (by decide +kernel)
set_option maxRecDepth 20000 in
theorem gX5_rain_X5_rainNow : GoodIn wsX5_rain (wsV RX5 107 RX5 yX5_rainNow wsX5_rainNow) := goodIn_app (goodIn_of _ (by decide +kernel)) ggX5_rain_X5_rainNow
set_option maxRecDepth 20000 in
theorem ggX5_whyNotEnd_X5_in : GoodIn wsX5_whyNotEnd wsX5_in := goodIn_r _ [5] (by decide +kernel) (by decide +kernel)
set_option maxRecDepth 20000 in
theorem gX5_whyNotEnd_X5_in : GoodIn wsX5_whyNotEnd (va_wsS RX5 47 yX5_in wsX5_in) := goodIn_app (goodIn_of _ (by decide +kernel)) ggX5_whyNotEnd_X5_in
set_option maxRecDepth 20000 in
theorem ggX5_endNow_X5_refresh : GoodIn wsX5_endNow wsX5_refresh := goodIn_r _ [6, 1, 7, 8, 9, 5, 10, 11, 12, 13, 14, 15, 16, 17, 18, 19, 20, 21, 22, 23, 24, 25, 26, 27] (by decide +kernel) (by decide +kernel)
set_option maxRecDepth 20000 in
theorem gX5_endNow_X5_refresh : GoodIn wsX5_endNow (wsV RX5 44 RX5 yX5_refresh wsX5_refresh) := goodIn_app (goodIn_of _ (by decide +kernel)) ggX5_endNow_X5_refresh
set_option maxRecDepth 20000 in
theorem ggX5_endDays_X5_whyNotEnd : GoodIn wsX5_endDays wsX5_whyNotEnd := goodIn_r _ [5, 6, 7, 8, 4, 9, 35, 36, 37, 38, 39, 40, 41, 42, 43, 44, 45, 46, 47, 48, 49, 50, 51] (by decide +kernel) (by decide +kernel)
set_option maxRecDepth 20000 in
theorem gX5_endDays_X5_whyNotEnd : GoodIn wsX5_endDays (wsV RX5 110 RX5 yX5_whyNotEnd wsX5_whyNotEnd) := goodIn_app (goodIn_of _ (by decide +kernel)) ggX5_endDays_X5_whyNotEnd
set_option maxRecDepth 20000 in
theorem ggX5_endDays_X5_record : GoodIn wsX5_endDays wsX5_record := goodIn_r _ [13, 6, 14, 15, 16, 4, 17, 18, 19, 20, 21, 22, 35, 36, 37, 38, 39, 40, 41, 42, 43, 44, 45, 46, 47, 48, 49, 50, 51] (by decide +kernel) (by decide +kernel)
set_option maxRecDepth 20000 in
theorem gX5_endDays_X5_record : GoodIn wsX5_endDays (wsV RX5 67 RX5 yX5_record wsX5_record) := goodIn_app (goodIn_of _ (by decide +kernel)) ggX5_endDays_X5_record
set_option maxRecDepth 20000 in
theorem ggX5_endDays_X5_endNow : GoodIn wsX5_endDays wsX5_endNow := goodIn_r _ [26, 6, 27, 28, 29, 4, 30, 31, 32, 33, 34, 35, 36, 37, 38, 39, 40, 41, 42, 43, 44, 45, 46, 47, 48, 49, 50, 51] (by decide +kernel) (by decide +kernel)
set_option maxRecDepth 20000 in
theorem gX5_endDays_X5_endNow : GoodIn wsX5_endDays (wsV RX5 113 RX5 yX5_endNow wsX5_endNow) := goodIn_app (goodIn_of _ (by decide +kernel)) ggX5_endDays_X5_endNow
set_option maxRecDepth 20000 in
theorem ggX5_set_X5_in : GoodIn wsX5_set wsX5_in := goodIn_r _ [5] (by decide +kernel) (by decide +kernel)
set_option maxRecDepth 20000 in
theorem gX5_set_X5_in : GoodIn wsX5_set (va_wsS RX5 47 yX5_in wsX5_in) := goodIn_app (goodIn_of _ (by decide +kernel)) ggX5_set_X5_in
set_option maxRecDepth 20000 in
theorem ggX5_set_X5_record : GoodIn wsX5_set wsX5_record := goodIn_r _ [9, 1, 10, 11, 12, 4, 13, 14, 15, 16, 17, 18, 19, 20, 21, 22, 23, 24, 25, 26, 27, 28, 29, 30, 31, 32, 33, 34, 35] (by decide +kernel) (by decide +kernel)
set_option maxRecDepth 20000 in
theorem gX5_set_X5_record : GoodIn wsX5_set (wsV RX5 67 RX5 yX5_record wsX5_record) := goodIn_app (goodIn_of _ (by decide +kernel)) ggX5_set_X5_record
set_option maxRecDepth 20000 in
theorem ggX5_wayOf_X5_of : GoodIn wsX5_wayOf wsX5_of := goodIn_r _ [6, 7, 25, 26, 27, 28, 29, 30, 31, 32, 33, 34, 35, 36, 37, 38, 39, 40, 41] (by decide +kernel) (by decide +kernel)
set_option maxRecDepth 20000 in
theorem gX5_wayOf_X5_of : GoodIn wsX5_wayOf (wsV RX5 116 RX5 yX5_of wsX5_of) := goodIn_app (goodIn_of _ (by decide +kernel)) ggX5_wayOf_X5_of
set_option maxRecDepth 20000 in
theorem ggX5_wayOf_X5_measure : GoodIn wsX5_wayOf wsX5_measure := goodIn_r _ [11, 1, 12, 13, 14, 15, 5, 16, 17, 18, 19, 20, 21, 22, 23, 24, 7, 25, 26, 27, 28, 29, 30, 31, 32, 33, 34, 35, 36, 37, 38, 39, 40, 41] (by decide +kernel) (by decide +kernel)
set_option maxRecDepth 20000 in
theorem gX5_wayOf_X5_measure : GoodIn wsX5_wayOf (wsV RX5 119 RX5 yX5_measure wsX5_measure) := goodIn_app (goodIn_of _ (by decide +kernel)) ggX5_wayOf_X5_measure
set_option maxRecDepth 20000 in
theorem ggX5_whyNotGo_X5_isCrew : GoodIn wsX5_whyNotGo wsX5_isCrew := goodIn_r _ [4, 5, 6, 3, 7] (by decide +kernel) (by decide +kernel)
set_option maxRecDepth 20000 in
theorem gX5_whyNotGo_X5_isCrew : GoodIn wsX5_whyNotGo (va_wsS RX5 123 yX5_isCrew wsX5_isCrew) := goodIn_app (goodIn_of _ (by decide +kernel)) ggX5_whyNotGo_X5_isCrew
set_option maxRecDepth 20000 in
theorem ggX5_whyNotGo_X5_isPlot : GoodIn wsX5_whyNotGo wsX5_isPlot := goodIn_r _ [10, 5, 6, 3, 7] (by decide +kernel) (by decide +kernel)
set_option maxRecDepth 20000 in
theorem gX5_whyNotGo_X5_isPlot : GoodIn wsX5_whyNotGo (va_wsS RX5 100 yX5_isPlot wsX5_isPlot) := goodIn_app (goodIn_of _ (by decide +kernel)) ggX5_whyNotGo_X5_isPlot
set_option maxRecDepth 20000 in
theorem ggX5_whyNotGo_X5_wayOf : GoodIn wsX5_whyNotGo wsX5_wayOf := goodIn_r _ [14, 15, 16, 17, 18, 3, 19, 20, 21, 22, 23, 24, 25, 26, 27, 28, 29, 30, 31, 32, 33, 34, 35, 36, 37, 38, 39, 40, 41, 42, 43, 44, 45, 46, 47, 48, 49, 50, 51, 52, 53, 54] (by decide +kernel) (by decide +kernel)
set_option maxRecDepth 20000 in
theorem gX5_whyNotGo_X5_wayOf : GoodIn wsX5_whyNotGo (wsV RX5 126 RX5 yX5_wayOf wsX5_wayOf) := goodIn_app (goodIn_of _ (by decide +kernel)) ggX5_whyNotGo_X5_wayOf
set_option maxRecDepth 20000 in
theorem ggX5_whyNotGo_X5_of : GoodIn wsX5_whyNotGo wsX5_of := goodIn_r _ [19, 20, 38, 39, 40, 41, 42, 43, 44, 45, 46, 47, 48, 49, 50, 51, 52, 53, 54] (by decide +kernel) (by decide +kernel)
set_option maxRecDepth 20000 in
theorem gX5_whyNotGo_X5_of : GoodIn wsX5_whyNotGo (wsV RX5 116 RX5 yX5_of wsX5_of) := goodIn_app (goodIn_of _ (by decide +kernel)) ggX5_whyNotGo_X5_of
set_option maxRecDepth 20000 in
theorem ggX5_goNow_X5_of : GoodIn wsX5_goNow wsX5_of := goodIn_r _ [5, 6, 33, 34, 35, 36, 37, 38, 39, 40, 41, 42, 43, 44, 45, 46, 47, 48, 49] (by decide +kernel) (by decide +kernel)
set_option maxRecDepth 20000 in
theorem gX5_goNow_X5_of : GoodIn wsX5_goNow (wsV RX5 116 RX5 yX5_of wsX5_of) := goodIn_app (goodIn_of _ (by decide +kernel)) ggX5_goNow_X5_of
set_option maxRecDepth 20000 in
theorem ggX5_goNow_X5_wayOf : GoodIn wsX5_goNow wsX5_wayOf := goodIn_r _ [10, 11, 1, 2, 3, 4, 5, 6, 12, 13, 14, 15, 16, 17, 18, 19, 20, 21, 22, 23, 24, 25, 26, 27, 28, 33, 34, 35, 36, 37, 38, 39, 40, 41, 42, 43, 44, 45, 46, 47, 48, 49] (by decide +kernel) (by decide +kernel)
set_option maxRecDepth 20000 in
theorem gX5_goNow_X5_wayOf : GoodIn wsX5_goNow (wsV RX5 126 RX5 yX5_wayOf wsX5_wayOf) := goodIn_app (goodIn_of _ (by decide +kernel)) ggX5_goNow_X5_wayOf
set_option maxRecDepth 20000 in
theorem ggX5_goNow_X5_lay : GoodIn wsX5_goNow wsX5_lay := goodIn_r _ [32, 6, 33, 34, 35, 36, 37, 38, 39, 40, 41, 42, 43, 44, 45, 46, 47, 48, 49] (by decide +kernel) (by decide +kernel)
set_option maxRecDepth 20000 in
theorem gX5_goNow_X5_lay : GoodIn wsX5_goNow (wsV RX5 40 RX5 yX5_lay wsX5_lay) := goodIn_app (goodIn_of _ (by decide +kernel)) ggX5_goNow_X5_lay
set_option maxRecDepth 20000 in
theorem ggX5_go_X5_whyNotGo : GoodIn wsX5_go wsX5_whyNotGo := goodIn_r _ [5, 6, 7, 4, 8, 9, 10, 11, 12, 13, 14, 15, 16, 17, 18, 19, 20, 21, 22, 23, 24, 25, 26, 27, 28, 29, 30, 31, 32, 33, 34, 35, 36, 37, 38, 39, 40, 41, 63, 64, 65, 66, 67, 68, 69, 70, 71, 72, 73, 74, 75, 76, 77, 78, 79] (by decide +kernel) (by decide +kernel)
set_option maxRecDepth 20000 in
theorem gX5_go_X5_whyNotGo : GoodIn wsX5_go (wsV RX5 129 RX5 yX5_whyNotGo wsX5_whyNotGo) := goodIn_app (goodIn_of _ (by decide +kernel)) ggX5_go_X5_whyNotGo
set_option maxRecDepth 20000 in
theorem ggX5_go_X5_of : GoodIn wsX5_go wsX5_of := goodIn_r _ [23, 24, 63, 64, 65, 66, 67, 68, 69, 70, 71, 72, 73, 74, 75, 76, 77, 78, 79] (by decide +kernel) (by decide +kernel)
set_option maxRecDepth 20000 in
theorem gX5_go_X5_of : GoodIn wsX5_go (wsV RX5 116 RX5 yX5_of wsX5_of) := goodIn_app (goodIn_of _ (by decide +kernel)) ggX5_go_X5_of
set_option maxRecDepth 20000 in
theorem ggX5_go_X5_record : GoodIn wsX5_go wsX5_record := goodIn_r _ [45, 24, 46, 47, 48, 4, 49, 50, 51, 52, 53, 54, 63, 64, 65, 66, 67, 68, 69, 70, 71, 72, 73, 74, 75, 76, 77, 78, 79] (by decide +kernel) (by decide +kernel)
set_option maxRecDepth 20000 in
theorem gX5_go_X5_record : GoodIn wsX5_go (wsV RX5 67 RX5 yX5_record wsX5_record) := goodIn_app (goodIn_of _ (by decide +kernel)) ggX5_go_X5_record
set_option maxRecDepth 20000 in
theorem ggX5_go_X5_goNow : GoodIn wsX5_go wsX5_goNow := goodIn_r _ [58, 20, 21, 22, 4, 23, 24, 15, 16, 17, 18, 19, 25, 26, 27, 28, 29, 30, 31, 32, 33, 34, 35, 36, 37, 38, 39, 40, 41, 59, 60, 61, 62, 63, 64, 65, 66, 67, 68, 69, 70, 71, 72, 73, 74, 75, 76, 77, 78, 79] (by decide +kernel) (by decide +kernel)
set_option maxRecDepth 20000 in
theorem gX5_go_X5_goNow : GoodIn wsX5_go (wsV RX5 132 RX5 yX5_goNow wsX5_goNow) := goodIn_app (goodIn_of _ (by decide +kernel)) ggX5_go_X5_goNow
set_option maxRecDepth 20000 in
theorem ggX5_whyNotFell_X5_isCrew : GoodIn wsX5_whyNotFell wsX5_isCrew := goodIn_r _ [5, 6, 7, 4, 8] (by decide +kernel) (by decide +kernel)
set_option maxRecDepth 20000 in
theorem gX5_whyNotFell_X5_isCrew : GoodIn wsX5_whyNotFell (va_wsS RX5 123 yX5_isCrew wsX5_isCrew) := goodIn_app (goodIn_of _ (by decide +kernel)) ggX5_whyNotFell_X5_isCrew
set_option maxRecDepth 20000 in
theorem ggX5_whyNotFell_X5_of : GoodIn wsX5_whyNotFell wsX5_of := goodIn_r _ [12, 1, 13, 14, 15, 16, 17, 18, 19, 20, 21, 22, 23, 24, 25, 26, 27, 28, 29] (by decide +kernel) (by decide +kernel)
set_option maxRecDepth 20000 in
theorem gX5_whyNotFell_X5_of : GoodIn wsX5_whyNotFell (wsV RX5 116 RX5 yX5_of wsX5_of) := goodIn_app (goodIn_of _ (by decide +kernel)) ggX5_whyNotFell_X5_of
set_option maxRecDepth 20000 in
theorem ggX5_fellNow_X5_of : GoodIn wsX5_fellNow wsX5_of := goodIn_r _ [6, 1, 11, 12, 13, 14, 15, 16, 17, 18, 19, 20, 21, 22, 23, 24, 25, 26, 27] (by decide +kernel) (by decide +kernel)
set_option maxRecDepth 20000 in
theorem gX5_fellNow_X5_of : GoodIn wsX5_fellNow (wsV RX5 116 RX5 yX5_of wsX5_of) := goodIn_app (goodIn_of _ (by decide +kernel)) ggX5_fellNow_X5_of
set_option maxRecDepth 20000 in
theorem ggX5_fellNow_X5_lay : GoodIn wsX5_fellNow wsX5_lay := goodIn_r _ [10, 1, 11, 12, 13, 14, 15, 16, 17, 18, 19, 20, 21, 22, 23, 24, 25, 26, 27] (by decide +kernel) (by decide +kernel)
set_option maxRecDepth 20000 in
theorem gX5_fellNow_X5_lay : GoodIn wsX5_fellNow (wsV RX5 40 RX5 yX5_lay wsX5_lay) := goodIn_app (goodIn_of _ (by decide +kernel)) ggX5_fellNow_X5_lay
set_option maxRecDepth 20000 in
theorem ggX5_fell_X5_whyNotFell : GoodIn wsX5_fell wsX5_whyNotFell := goodIn_r _ [6, 1, 7, 8, 5, 9, 10, 11, 12, 13, 14, 15, 16, 38, 39, 40, 41, 42, 43, 44, 45, 46, 47, 48, 49, 50, 51, 52, 53, 54] (by decide +kernel) (by decide +kernel)
set_option maxRecDepth 20000 in
theorem gX5_fell_X5_whyNotFell : GoodIn wsX5_fell (wsV RX5 136 RX5 yX5_whyNotFell wsX5_whyNotFell) := goodIn_app (goodIn_of _ (by decide +kernel)) ggX5_fell_X5_whyNotFell
set_option maxRecDepth 20000 in
theorem ggX5_fell_X5_of : GoodIn wsX5_fell wsX5_of := goodIn_r _ [16, 1, 38, 39, 40, 41, 42, 43, 44, 45, 46, 47, 48, 49, 50, 51, 52, 53, 54] (by decide +kernel) (by decide +kernel)
set_option maxRecDepth 20000 in
theorem gX5_fell_X5_of : GoodIn wsX5_fell (wsV RX5 116 RX5 yX5_of wsX5_of) := goodIn_app (goodIn_of _ (by decide +kernel)) ggX5_fell_X5_of
set_option maxRecDepth 20000 in
theorem ggX5_fell_X5_record : GoodIn wsX5_fell wsX5_record := goodIn_r _ [20, 1, 21, 22, 23, 5, 24, 25, 26, 27, 28, 29, 38, 39, 40, 41, 42, 43, 44, 45, 46, 47, 48, 49, 50, 51, 52, 53, 54] (by decide +kernel) (by decide +kernel)
set_option maxRecDepth 20000 in
theorem gX5_fell_X5_record : GoodIn wsX5_fell (wsV RX5 67 RX5 yX5_record wsX5_record) := goodIn_app (goodIn_of _ (by decide +kernel)) ggX5_fell_X5_record
set_option maxRecDepth 20000 in
theorem ggX5_fell_X5_fellNow : GoodIn wsX5_fell wsX5_fellNow := goodIn_r _ [33, 1, 13, 14, 15, 5, 16, 34, 35, 36, 37, 38, 39, 40, 41, 42, 43, 44, 45, 46, 47, 48, 49, 50, 51, 52, 53, 54] (by decide +kernel) (by decide +kernel)
set_option maxRecDepth 20000 in
theorem gX5_fell_X5_fellNow : GoodIn wsX5_fell (wsV RX5 139 RX5 yX5_fellNow wsX5_fellNow) := goodIn_app (goodIn_of _ (by decide +kernel)) ggX5_fell_X5_fellNow
set_option maxRecDepth 20000 in
theorem ggX5_pathsAt_X5_countPaths : GoodIn wsX5_pathsAt wsX5_countPaths := goodIn_r _ [7, 1, 2, 8, 9, 10, 6, 11, 12, 13, 14, 15, 16, 17, 18, 19, 20, 21, 22, 23, 24, 25, 26, 27, 28, 29, 30, 31, 32] (by decide +kernel) (by decide +kernel)
set_option maxRecDepth 20000 in
theorem gX5_pathsAt_X5_countPaths : GoodIn wsX5_pathsAt (wsV RX5 78 RX5 yX5_countPaths wsX5_countPaths) := goodIn_app (goodIn_of _ (by decide +kernel)) ggX5_pathsAt_X5_countPaths
set_option maxRecDepth 20000 in
theorem ggX5_whyNotHint_X5_isLine : GoodIn wsX5_whyNotHint wsX5_isLine := goodIn_r _ [5, 6, 7, 4, 8] (by decide +kernel) (by decide +kernel)
set_option maxRecDepth 20000 in
theorem gX5_whyNotHint_X5_isLine : GoodIn wsX5_whyNotHint (va_wsS RX5 142 yX5_isLine wsX5_isLine) := goodIn_app (goodIn_of _ (by decide +kernel)) ggX5_whyNotHint_X5_isLine
set_option maxRecDepth 20000 in
theorem ggX5_whyNotHint_X5_pathsAt : GoodIn wsX5_whyNotHint wsX5_pathsAt := goodIn_r _ [12, 13, 14, 15, 16, 17, 4, 18, 19, 20, 21, 22, 1, 23, 24, 25, 26, 27, 28, 29, 30, 31, 32, 33, 34, 35, 36, 37, 38, 39, 40, 41, 42] (by decide +kernel) (by decide +kernel)
set_option maxRecDepth 20000 in
theorem gX5_whyNotHint_X5_pathsAt : GoodIn wsX5_whyNotHint (wsV RX5 145 RX5 yX5_pathsAt wsX5_pathsAt) := goodIn_app (goodIn_of _ (by decide +kernel)) ggX5_whyNotHint_X5_pathsAt
set_option maxRecDepth 20000 in
theorem ggX5_hint_X5_whyNotHint : GoodIn wsX5_hint wsX5_whyNotHint := goodIn_r _ [6, 1, 7, 8, 5, 9, 10, 11, 12, 13, 14, 15, 16, 17, 18, 19, 20, 21, 22, 23, 24, 25, 26, 27, 28, 29, 51, 52, 53, 54, 55, 56, 57, 58, 59, 60, 61, 62, 63, 64, 65, 66, 67] (by decide +kernel) (by decide +kernel)
set_option maxRecDepth 20000 in
theorem gX5_hint_X5_whyNotHint : GoodIn wsX5_hint (wsV RX5 148 RX5 yX5_whyNotHint wsX5_whyNotHint) := goodIn_app (goodIn_of _ (by decide +kernel)) ggX5_hint_X5_whyNotHint
set_option maxRecDepth 20000 in
theorem ggX5_hint_X5_record : GoodIn wsX5_hint wsX5_record := goodIn_r _ [33, 1, 34, 35, 36, 5, 37, 38, 39, 40, 41, 42, 51, 52, 53, 54, 55, 56, 57, 58, 59, 60, 61, 62, 63, 64, 65, 66, 67] (by decide +kernel) (by decide +kernel)
set_option maxRecDepth 20000 in
theorem gX5_hint_X5_record : GoodIn wsX5_hint (wsV RX5 67 RX5 yX5_record wsX5_record) := goodIn_app (goodIn_of _ (by decide +kernel)) ggX5_hint_X5_record
set_option maxRecDepth 20000 in
theorem ggX5_hint_X5_paths : GoodIn wsX5_hint wsX5_paths := goodIn_r _ [46, 19, 20, 21, 5, 22, 17, 18, 23, 24, 25, 26, 1, 27, 28, 29, 47, 48, 49, 50, 51, 52, 53, 54, 55, 56, 57, 58, 59, 60, 61, 62, 63, 64, 65, 66, 67] (by decide +kernel) (by decide +kernel)
set_option maxRecDepth 20000 in
theorem gX5_hint_X5_paths : GoodIn wsX5_hint (wsV RX5 151 RX5 yX5_paths wsX5_paths) := goodIn_app (goodIn_of _ (by decide +kernel)) ggX5_hint_X5_paths
set_option maxRecDepth 20000 in
theorem ggX5_takeBack_X5_isLine : GoodIn wsX5_takeBack wsX5_isLine := goodIn_r _ [5, 6, 7, 4, 8] (by decide +kernel) (by decide +kernel)
set_option maxRecDepth 20000 in
theorem gX5_takeBack_X5_isLine : GoodIn wsX5_takeBack (va_wsS RX5 142 yX5_isLine wsX5_isLine) := goodIn_app (goodIn_of _ (by decide +kernel)) ggX5_takeBack_X5_isLine
set_option maxRecDepth 20000 in
theorem ggX5_takeBack_X5_record : GoodIn wsX5_takeBack wsX5_record := goodIn_r _ [12, 1, 13, 14, 15, 4, 16, 17, 18, 19, 20, 21, 43, 44, 45, 46, 47, 48, 49, 50, 51, 52, 53, 54, 55, 56, 57, 58, 59] (by decide +kernel) (by decide +kernel)
set_option maxRecDepth 20000 in
theorem gX5_takeBack_X5_record : GoodIn wsX5_takeBack (wsV RX5 67 RX5 yX5_record wsX5_record) := goodIn_app (goodIn_of _ (by decide +kernel)) ggX5_takeBack_X5_record
set_option maxRecDepth 20000 in
theorem ggX5_takeBack_X5_paths : GoodIn wsX5_takeBack wsX5_paths := goodIn_r _ [25, 26, 27, 28, 4, 29, 30, 31, 32, 33, 34, 35, 1, 36, 37, 38, 39, 40, 41, 42, 43, 44, 45, 46, 47, 48, 49, 50, 51, 52, 53, 54, 55, 56, 57, 58, 59] (by decide +kernel) (by decide +kernel)
set_option maxRecDepth 20000 in
theorem gX5_takeBack_X5_paths : GoodIn wsX5_takeBack (wsV RX5 151 RX5 yX5_paths wsX5_paths) := goodIn_app (goodIn_of _ (by decide +kernel)) ggX5_takeBack_X5_paths
set_option maxRecDepth 20000 in
theorem ggX5_storm_X5_paths : GoodIn wsX5_storm wsX5_paths := goodIn_r _ [7, 8, 9, 10, 6, 11, 12, 13, 14, 15, 16, 17, 2, 18, 19, 20, 21, 22, 23, 24, 49, 50, 51, 52, 53, 54, 55, 56, 57, 58, 59, 60, 61, 62, 63, 64, 65] (by decide +kernel) (by decide +kernel)
set_option maxRecDepth 20000 in
theorem gX5_storm_X5_paths : GoodIn wsX5_storm (wsV RX5 151 RX5 yX5_paths wsX5_paths) := goodIn_app (goodIn_of _ (by decide +kernel)) ggX5_storm_X5_paths
set_option maxRecDepth 20000 in
theorem ggX5_storm_X5_record : GoodIn wsX5_storm wsX5_record := goodIn_r _ [28, 2, 29, 30, 31, 6, 32, 33, 34, 35, 36, 37, 49, 50, 51, 52, 53, 54, 55, 56, 57, 58, 59, 60, 61, 62, 63, 64, 65] (by decide +kernel) (by decide +kernel)
set_option maxRecDepth 20000 in
theorem gX5_storm_X5_record : GoodIn wsX5_storm (wsV RX5 67 RX5 yX5_record wsX5_record) := goodIn_app (goodIn_of _ (by decide +kernel)) ggX5_storm_X5_record
set_option maxRecDepth 20000 in
theorem ggX5_storm_X5_hits : GoodIn wsX5_storm wsX5_hits := goodIn_r _ [41, 2, 12, 13, 42, 43, 6, 44, 49, 50, 51, 52, 53, 54, 55, 56, 57, 58, 59, 60, 61, 62, 63, 64, 65] (by decide +kernel) (by decide +kernel)
set_option maxRecDepth 20000 in
theorem gX5_storm_X5_hits : GoodIn wsX5_storm (wsV RX5 85 RX5 yX5_hits wsX5_hits) := goodIn_app (goodIn_of _ (by decide +kernel)) ggX5_storm_X5_hits
set_option maxRecDepth 20000 in
theorem ggX5_storm_X5_greatest : GoodIn wsX5_storm wsX5_greatest := goodIn_r _ [48, 1, 49, 50, 51, 52, 53, 54, 55, 56, 57, 58, 59, 60, 61, 62, 63, 64, 65] (by decide +kernel) (by decide +kernel)
set_option maxRecDepth 20000 in
theorem gX5_storm_X5_greatest : GoodIn wsX5_storm (wsV RX5 154 RX5 yX5_greatest wsX5_greatest) := goodIn_app (goodIn_of _ (by decide +kernel)) ggX5_storm_X5_greatest
set_option maxRecDepth 20000 in
theorem ggX5_sees_X5_in : GoodIn wsX5_sees wsX5_in := goodIn_r _ [7] (by decide +kernel) (by decide +kernel)
set_option maxRecDepth 20000 in
theorem gX5_sees_X5_in : GoodIn wsX5_sees (va_wsS RX5 47 yX5_in wsX5_in) := goodIn_app (goodIn_of _ (by decide +kernel)) ggX5_sees_X5_in
set_option maxRecDepth 20000 in
theorem ggX5_takes_X5_sees : GoodIn wsX5_takes wsX5_sees := goodIn_r _ [6, 1, 7, 8, 9, 10, 5, 11, 12, 13, 14, 15, 16, 17, 18, 19, 20, 21, 22, 23, 24, 25, 26, 27, 28] (by decide +kernel) (by decide +kernel)
set_option maxRecDepth 20000 in
theorem gX5_takes_X5_sees : GoodIn wsX5_takes (wsV RX5 163 RX5 yX5_sees wsX5_sees) := goodIn_app (goodIn_of _ (by decide +kernel)) ggX5_takes_X5_sees
set_option maxRecDepth 20000 in
theorem ggX5_number_X5_sees : GoodIn wsX5_number wsX5_sees := goodIn_r _ [7, 2, 8, 1, 9, 10, 6, 11, 12, 13, 14, 15, 16, 17, 18, 19, 20, 21, 22, 23, 24, 25, 26, 27, 28] (by decide +kernel) (by decide +kernel)
set_option maxRecDepth 20000 in
theorem gX5_number_X5_sees : GoodIn wsX5_number (wsV RX5 163 RX5 yX5_sees wsX5_sees) := goodIn_app (goodIn_of _ (by decide +kernel)) ggX5_number_X5_sees
set_option maxRecDepth 20000 in
theorem ggX5_second_X5_takes : GoodIn wsX5_second wsX5_takes := goodIn_r _ [5, 6, 7, 8, 9, 4, 10, 11, 12, 13, 14, 15, 20, 21, 22, 23, 24, 25, 26, 27, 28, 29, 30, 31, 32, 33, 34, 35, 36] (by decide +kernel) (by decide +kernel)
set_option maxRecDepth 20000 in
theorem gX5_second_X5_takes : GoodIn wsX5_second (wsV RX5 166 RX5 yX5_takes wsX5_takes) := goodIn_app (goodIn_of _ (by decide +kernel)) ggX5_second_X5_takes
set_option maxRecDepth 20000 in
theorem ggX5_second_X5_number : GoodIn wsX5_second wsX5_number := goodIn_r _ [19, 12, 6, 7, 8, 9, 4, 10, 11, 13, 14, 15, 20, 21, 22, 23, 24, 25, 26, 27, 28, 29, 30, 31, 32, 33, 34, 35, 36] (by decide +kernel) (by decide +kernel)
set_option maxRecDepth 20000 in
theorem gX5_second_X5_number : GoodIn wsX5_second (wsV RX5 169 RX5 yX5_number wsX5_number) := goodIn_app (goodIn_of _ (by decide +kernel)) ggX5_second_X5_number
set_option maxRecDepth 20000 in
theorem ggX5_readThing_X5_number : GoodIn wsX5_readThing wsX5_number := goodIn_r _ [10, 3, 1, 11, 12, 13, 9, 14, 2, 15, 16, 17, 26, 27, 28, 29, 30, 31, 32, 33, 34, 35, 36, 37, 38, 39, 40, 41, 42] (by decide +kernel) (by decide +kernel)
set_option maxRecDepth 20000 in
theorem gX5_readThing_X5_number : GoodIn wsX5_readThing (wsV RX5 169 RX5 yX5_number wsX5_number) := goodIn_app (goodIn_of _ (by decide +kernel)) ggX5_readThing_X5_number
set_option maxRecDepth 20000 in
theorem ggX5_readThing_X5_second : GoodIn wsX5_readThing wsX5_second := goodIn_r _ [21, 22, 23, 24, 9, 25, 1, 11, 12, 13, 14, 2, 3, 15, 16, 17, 6, 7, 8, 10, 26, 27, 28, 29, 30, 31, 32, 33, 34, 35, 36, 37, 38, 39, 40, 41, 42] (by decide +kernel) (by decide +kernel)
set_option maxRecDepth 20000 in
theorem gX5_readThing_X5_second : GoodIn wsX5_readThing (wsV RX5 172 RX5 yX5_second wsX5_second) := goodIn_app (goodIn_of _ (by decide +kernel)) ggX5_readThing_X5_second
set_option maxRecDepth 20000 in
theorem ggX5_readText_X5_readThing : GoodIn wsX5_readText wsX5_readThing := goodIn_r _ [8, 1, 3, 9, 10, 2, 11, 12, 13, 7, 14, 15, 16, 17, 18, 19, 20, 21, 22, 23, 24, 25, 26, 27, 28, 29, 30, 31, 32, 33, 34, 35, 36, 37, 38, 39, 40, 41, 42, 43, 44, 45, 46] (by decide +kernel) (by decide +kernel)
set_option maxRecDepth 20000 in
theorem gX5_readText_X5_readThing : GoodIn wsX5_readText (wsV RX5 179 RX5 yX5_readThing wsX5_readThing) := goodIn_app (goodIn_of _ (by decide +kernel)) ggX5_readText_X5_readThing
set_option maxRecDepth 20000 in
theorem ggX5_readText_X5_takes : GoodIn wsX5_readText wsX5_takes := goodIn_r _ [29, 1, 15, 16, 17, 7, 18, 3, 9, 19, 20, 21, 30, 31, 32, 33, 34, 35, 36, 37, 38, 39, 40, 41, 42, 43, 44, 45, 46] (by decide +kernel) (by decide +kernel)
set_option maxRecDepth 20000 in
theorem gX5_readText_X5_takes : GoodIn wsX5_readText (wsV RX5 166 RX5 yX5_takes wsX5_takes) := goodIn_app (goodIn_of _ (by decide +kernel)) ggX5_readText_X5_takes
set_option maxRecDepth 20000 in
theorem ggX5_whyNot_X5_whyNotHint : GoodIn wsX5_whyNot wsX5_whyNotHint := goodIn_r _ [6, 7, 8, 9, 5, 10, 11, 12, 13, 14, 15, 16, 17, 18, 19, 20, 21, 22, 23, 24, 25, 26, 27, 28, 29, 30, 75, 76, 77, 78, 79, 80, 81, 82, 83, 84, 85, 86, 87, 88, 89, 90, 91] (by decide +kernel) (by decide +kernel)
set_option maxRecDepth 20000 in
theorem gX5_whyNot_X5_whyNotHint : GoodIn wsX5_whyNot (wsV RX5 148 RX5 yX5_whyNotHint wsX5_whyNotHint) := goodIn_app (goodIn_of _ (by decide +kernel)) ggX5_whyNot_X5_whyNotHint
set_option maxRecDepth 20000 in
theorem ggX5_whyNot_X5_whyNotGo : GoodIn wsX5_whyNot wsX5_whyNotGo := goodIn_r _ [34, 35, 36, 5, 37, 11, 12, 13, 38, 39, 40, 41, 42, 43, 44, 45, 46, 47, 48, 49, 7, 50, 51, 52, 53, 54, 55, 56, 57, 58, 59, 60, 61, 62, 63, 64, 65, 66, 75, 76, 77, 78, 79, 80, 81, 82, 83, 84, 85, 86, 87, 88, 89, 90, 91] (by decide +kernel) (by decide +kernel)
set_option maxRecDepth 20000 in
theorem gX5_whyNot_X5_whyNotGo : GoodIn wsX5_whyNot (wsV RX5 129 RX5 yX5_whyNotGo wsX5_whyNotGo) := goodIn_app (goodIn_of _ (by decide +kernel)) ggX5_whyNot_X5_whyNotGo
set_option maxRecDepth 20000 in
theorem ggX5_whyNot_X5_whyNotFell : GoodIn wsX5_whyNot wsX5_whyNotFell := goodIn_r _ [70, 7, 35, 36, 5, 37, 11, 12, 13, 46, 47, 48, 49, 75, 76, 77, 78, 79, 80, 81, 82, 83, 84, 85, 86, 87, 88, 89, 90, 91] (by decide +kernel) (by decide +kernel)
set_option maxRecDepth 20000 in
theorem gX5_whyNot_X5_whyNotFell : GoodIn wsX5_whyNot (wsV RX5 136 RX5 yX5_whyNotFell wsX5_whyNotFell) := goodIn_app (goodIn_of _ (by decide +kernel)) ggX5_whyNot_X5_whyNotFell
set_option maxRecDepth 20000 in
theorem ggX5_whyNot_X5_whyNotEnd : GoodIn wsX5_whyNot wsX5_whyNotEnd := goodIn_r _ [74, 7, 11, 12, 5, 13, 75, 76, 77, 78, 79, 80, 81, 82, 83, 84, 85, 86, 87, 88, 89, 90, 91] (by decide +kernel) (by decide +kernel)
set_option maxRecDepth 20000 in
theorem gX5_whyNot_X5_whyNotEnd : GoodIn wsX5_whyNot (wsV RX5 110 RX5 yX5_whyNotEnd wsX5_whyNotEnd) := goodIn_app (goodIn_of _ (by decide +kernel)) ggX5_whyNot_X5_whyNotEnd
set_option maxRecDepth 20000 in
theorem ggX5_doThing_X5_rainNow : GoodIn wsX5_doThing wsX5_rainNow := goodIn_r _ [7, 2, 54, 55, 56, 57, 58, 59, 60, 61, 62, 63, 64, 65, 66, 67, 68, 69, 70] (by decide +kernel) (by decide +kernel)
set_option maxRecDepth 20000 in
theorem gX5_doThing_X5_rainNow : GoodIn wsX5_doThing (wsV RX5 107 RX5 yX5_rainNow wsX5_rainNow) := goodIn_app (goodIn_of _ (by decide +kernel)) ggX5_doThing_X5_rainNow
set_option maxRecDepth 20000 in
theorem ggX5_doThing_X5_goNow : GoodIn wsX5_doThing wsX5_goNow := goodIn_r _ [11, 12, 13, 14, 6, 15, 2, 16, 17, 18, 19, 20, 21, 22, 23, 24, 25, 26, 27, 28, 29, 30, 31, 32, 33, 34, 35, 36, 37, 38, 39, 40, 41, 54, 55, 56, 57, 58, 59, 60, 61, 62, 63, 64, 65, 66, 67, 68, 69, 70] (by decide +kernel) (by decide +kernel)
set_option maxRecDepth 20000 in
theorem gX5_doThing_X5_goNow : GoodIn wsX5_doThing (wsV RX5 132 RX5 yX5_goNow wsX5_goNow) := goodIn_app (goodIn_of _ (by decide +kernel)) ggX5_doThing_X5_goNow
set_option maxRecDepth 20000 in
theorem ggX5_doThing_X5_fellNow : GoodIn wsX5_doThing wsX5_fellNow := goodIn_r _ [45, 2, 12, 13, 14, 6, 15, 38, 39, 40, 41, 54, 55, 56, 57, 58, 59, 60, 61, 62, 63, 64, 65, 66, 67, 68, 69, 70] (by decide +kernel) (by decide +kernel)
set_option maxRecDepth 20000 in
theorem gX5_doThing_X5_fellNow : GoodIn wsX5_doThing (wsV RX5 139 RX5 yX5_fellNow wsX5_fellNow) := goodIn_app (goodIn_of _ (by decide +kernel)) ggX5_doThing_X5_fellNow
set_option maxRecDepth 20000 in
theorem ggX5_doThing_X5_endNow : GoodIn wsX5_doThing wsX5_endNow := goodIn_r _ [49, 2, 50, 51, 52, 6, 53, 38, 39, 40, 41, 54, 55, 56, 57, 58, 59, 60, 61, 62, 63, 64, 65, 66, 67, 68, 69, 70] (by decide +kernel) (by decide +kernel)
set_option maxRecDepth 20000 in
theorem gX5_doThing_X5_endNow : GoodIn wsX5_doThing (wsV RX5 113 RX5 yX5_endNow wsX5_endNow) := goodIn_app (goodIn_of _ (by decide +kernel)) ggX5_doThing_X5_endNow
set_option maxRecDepth 20000 in
theorem ggX5_perform_X5_readText : GoodIn wsX5_perform wsX5_readText := goodIn_r _ [11, 1, 4, 12, 13, 14, 15, 10, 16, 17, 18, 19, 20, 21, 22, 23, 24, 25, 26, 27, 28, 29, 30, 31, 32, 33, 34, 35, 36, 37, 147, 148, 149, 150, 151, 152, 153, 154, 155, 156, 157, 158, 159, 160, 161, 162, 163] (by decide +kernel) (by decide +kernel)
set_option maxRecDepth 20000 in
theorem gX5_perform_X5_readText : GoodIn wsX5_perform (wsV RX5 183 RX5 yX5_readText wsX5_readText) := goodIn_app (goodIn_of _ (by decide +kernel)) ggX5_perform_X5_readText
set_option maxRecDepth 20000 in
theorem ggX5_perform_X5_copyState : GoodIn wsX5_perform wsX5_copyState := goodIn_r _ [40] (by decide +kernel) (by decide +kernel)
set_option maxRecDepth 20000 in
theorem gX5_perform_X5_copyState : GoodIn wsX5_perform (va_wsS RX5 55 yX5_copyState wsX5_copyState) := goodIn_app (goodIn_of _ (by decide +kernel)) ggX5_perform_X5_copyState
set_option maxRecDepth 20000 in
theorem ggX5_perform_X5_whyNot : GoodIn wsX5_perform wsX5_whyNot := goodIn_r _ [44, 18, 45, 46, 47, 10, 48, 2, 49, 50, 51, 27, 28, 29, 52, 53, 54, 55, 56, 57, 58, 59, 60, 61, 62, 63, 64, 65, 66, 67, 68, 69, 70, 71, 72, 73, 74, 75, 76, 77, 78, 79, 80, 81, 82, 83, 84, 85, 86, 87, 88, 89, 90, 91, 92, 93, 94, 95, 96, 97, 98, 99, 100, 101, 102, 103, 104, 105, 106, 107, 108, 109, 110, 111, 112, 147, 148, 149, 150, 151, 152, 153, 154, 155, 156, 157, 158, 159, 160, 161, 162, 163] (by decide +kernel) (by decide +kernel)
set_option maxRecDepth 20000 in
theorem gX5_perform_X5_whyNot : GoodIn wsX5_perform (wsV RX5 186 RX5 yX5_whyNot wsX5_whyNot) := goodIn_app (goodIn_of _ (by decide +kernel)) ggX5_perform_X5_whyNot
set_option maxRecDepth 20000 in
theorem ggX5_perform_X5_doThing : GoodIn wsX5_perform wsX5_doThing := goodIn_r _ [116, 18, 2, 117, 118, 119, 10, 120, 121, 122, 123, 124, 84, 85, 86, 87, 79, 80, 81, 82, 83, 88, 89, 90, 91, 92, 93, 94, 95, 96, 97, 98, 99, 100, 101, 102, 103, 104, 125, 126, 127, 128, 129, 130, 131, 132, 133, 134, 135, 136, 137, 138, 139, 140, 147, 148, 149, 150, 151, 152, 153, 154, 155, 156, 157, 158, 159, 160, 161, 162, 163] (by decide +kernel) (by decide +kernel)
set_option maxRecDepth 20000 in
theorem gX5_perform_X5_doThing : GoodIn wsX5_perform (wsV RX5 195 RX5 yX5_doThing wsX5_doThing) := goodIn_app (goodIn_of _ (by decide +kernel)) ggX5_perform_X5_doThing
set_option maxRecDepth 20000 in
theorem ggX5_perform_X5_recordRow : GoodIn wsX5_perform wsX5_recordRow := goodIn_r _ [144, 145, 146, 38, 39, 10, 40, 147, 148, 149, 150, 151, 152, 153, 154, 155, 156, 157, 158, 159, 160, 161, 162, 163] (by decide +kernel) (by decide +kernel)
set_option maxRecDepth 20000 in
theorem gX5_perform_X5_recordRow : GoodIn wsX5_perform (wsV RX5 59 RX5 yX5_recordRow wsX5_recordRow) := goodIn_app (goodIn_of _ (by decide +kernel)) ggX5_perform_X5_recordRow
set_option maxRecDepth 20000 in
theorem ggX5_stopped_X5_in : GoodIn wsX5_stopped wsX5_in := goodIn_r _ [6] (by decide +kernel) (by decide +kernel)
set_option maxRecDepth 20000 in
theorem gX5_stopped_X5_in : GoodIn wsX5_stopped (va_wsS RX5 47 yX5_in wsX5_in) := goodIn_app (goodIn_of _ (by decide +kernel)) ggX5_stopped_X5_in
set_option maxRecDepth 20000 in
theorem ggX5_plot_X5_isPlot : GoodIn wsX5_plot wsX5_isPlot := goodIn_r _ [5, 6, 7, 4, 8] (by decide +kernel) (by decide +kernel)
set_option maxRecDepth 20000 in
theorem gX5_plot_X5_isPlot : GoodIn wsX5_plot (va_wsS RX5 100 yX5_isPlot wsX5_isPlot) := goodIn_app (goodIn_of _ (by decide +kernel)) ggX5_plot_X5_isPlot
set_option maxRecDepth 20000 in
theorem ggX5_plot_X5_countPaths : GoodIn wsX5_plot wsX5_countPaths := goodIn_r _ [12, 13, 14, 15, 16, 17, 4, 18, 1, 19, 20, 21, 34, 35, 36, 37, 38, 39, 40, 41, 42, 43, 44, 45, 46, 47, 48, 49, 50] (by decide +kernel) (by decide +kernel)
set_option maxRecDepth 20000 in
theorem gX5_plot_X5_countPaths : GoodIn wsX5_plot (wsV RX5 78 RX5 yX5_countPaths wsX5_countPaths) := goodIn_app (goodIn_of _ (by decide +kernel)) ggX5_plot_X5_countPaths
set_option maxRecDepth 20000 in
theorem ggX5_plot_X5_hits : GoodIn wsX5_plot wsX5_hits := goodIn_r _ [25, 1, 13, 14, 6, 7, 4, 8, 34, 35, 36, 37, 38, 39, 40, 41, 42, 43, 44, 45, 46, 47, 48, 49, 50] (by decide +kernel) (by decide +kernel)
set_option maxRecDepth 20000 in
theorem gX5_plot_X5_hits : GoodIn wsX5_plot (wsV RX5 85 RX5 yX5_hits wsX5_hits) := goodIn_app (goodIn_of _ (by decide +kernel)) ggX5_plot_X5_hits
set_option maxRecDepth 20000 in
theorem ggX5_plot_X5_allPaths : GoodIn wsX5_plot wsX5_allPaths := goodIn_r _ [29, 14, 34, 35, 36, 37, 38, 39, 40, 41, 42, 43, 44, 45, 46, 47, 48, 49, 50] (by decide +kernel) (by decide +kernel)
set_option maxRecDepth 20000 in
theorem gX5_plot_X5_allPaths : GoodIn wsX5_plot (wsV RX5 81 RX5 yX5_allPaths wsX5_allPaths) := goodIn_app (goodIn_of _ (by decide +kernel)) ggX5_plot_X5_allPaths
set_option maxRecDepth 20000 in
theorem ggX5_plot_X5_standsToLose : GoodIn wsX5_plot wsX5_standsToLose := goodIn_r _ [33, 1, 22, 23, 24, 4, 25, 13, 14, 6, 7, 8, 26, 27, 28, 29, 34, 35, 36, 37, 38, 39, 40, 41, 42, 43, 44, 45, 46, 47, 48, 49, 50] (by decide +kernel) (by decide +kernel)
set_option maxRecDepth 20000 in
theorem gX5_plot_X5_standsToLose : GoodIn wsX5_plot (wsV RX5 198 RX5 yX5_standsToLose wsX5_standsToLose) := goodIn_app (goodIn_of _ (by decide +kernel)) ggX5_plot_X5_standsToLose
set_option maxRecDepth 20000 in
theorem ggX5_crew_X5_isCrew : GoodIn wsX5_crew wsX5_isCrew := goodIn_r _ [4, 5, 6, 3, 7] (by decide +kernel) (by decide +kernel)
set_option maxRecDepth 20000 in
theorem gX5_crew_X5_isCrew : GoodIn wsX5_crew (va_wsS RX5 123 yX5_isCrew wsX5_isCrew) := goodIn_app (goodIn_of _ (by decide +kernel)) ggX5_crew_X5_isCrew
set_option maxRecDepth 20000 in
theorem ggX5_crew_X5_in : GoodIn wsX5_crew wsX5_in := goodIn_r _ [7] (by decide +kernel) (by decide +kernel)
set_option maxRecDepth 20000 in
theorem gX5_crew_X5_in : GoodIn wsX5_crew (va_wsS RX5 47 yX5_in wsX5_in) := goodIn_app (goodIn_of _ (by decide +kernel)) ggX5_crew_X5_in
set_option maxRecDepth 20000 in
theorem ggX5_crew_X5_of : GoodIn wsX5_crew wsX5_of := goodIn_r _ [11, 12, 13, 14, 15, 16, 17, 18, 19, 20, 21, 22, 23, 24, 25, 26, 27, 28, 29] (by decide +kernel) (by decide +kernel)
set_option maxRecDepth 20000 in
theorem gX5_crew_X5_of : GoodIn wsX5_crew (wsV RX5 116 RX5 yX5_of wsX5_of) := goodIn_app (goodIn_of _ (by decide +kernel)) ggX5_crew_X5_of
set_option maxRecDepth 20000 in
theorem ggX5_row_X5_isLine : GoodIn wsX5_row wsX5_isLine := goodIn_r _ [5, 6, 7, 4, 8] (by decide +kernel) (by decide +kernel)
set_option maxRecDepth 20000 in
theorem gX5_row_X5_isLine : GoodIn wsX5_row (va_wsS RX5 142 yX5_isLine wsX5_isLine) := goodIn_app (goodIn_of _ (by decide +kernel)) ggX5_row_X5_isLine
set_option maxRecDepth 20000 in
theorem ggX5_row_X5_in : GoodIn wsX5_row wsX5_in := goodIn_r _ [8] (by decide +kernel) (by decide +kernel)
set_option maxRecDepth 20000 in
theorem gX5_row_X5_in : GoodIn wsX5_row (va_wsS RX5 47 yX5_in wsX5_in) := goodIn_app (goodIn_of _ (by decide +kernel)) ggX5_row_X5_in
set_option maxRecDepth 20000 in
theorem ggX5_row_X5_countPaths : GoodIn wsX5_row wsX5_countPaths := goodIn_r _ [12, 13, 14, 15, 16, 17, 4, 18, 1, 19, 20, 21, 26, 27, 28, 29, 30, 31, 32, 33, 34, 35, 36, 37, 38, 39, 40, 41, 42] (by decide +kernel) (by decide +kernel)
set_option maxRecDepth 20000 in
theorem gX5_row_X5_countPaths : GoodIn wsX5_row (wsV RX5 78 RX5 yX5_countPaths wsX5_countPaths) := goodIn_app (goodIn_of _ (by decide +kernel)) ggX5_row_X5_countPaths
set_option maxRecDepth 20000 in
theorem ggX5_row_X5_columns : GoodIn wsX5_row wsX5_columns := goodIn_r _ [25, 13, 14, 26, 27, 28, 29, 30, 31, 32, 33, 34, 35, 36, 37, 38, 39, 40, 41, 42] (by decide +kernel) (by decide +kernel)
set_option maxRecDepth 20000 in
theorem gX5_row_X5_columns : GoodIn wsX5_row (wsV RX5 201 RX5 yX5_columns wsX5_columns) := goodIn_app (goodIn_of _ (by decide +kernel)) ggX5_row_X5_columns
set_option maxRecDepth 20000 in
theorem ggX5_way_X5_isCrew : GoodIn wsX5_way wsX5_isCrew := goodIn_r _ [4, 5, 6, 3, 7] (by decide +kernel) (by decide +kernel)
set_option maxRecDepth 20000 in
theorem gX5_way_X5_isCrew : GoodIn wsX5_way (va_wsS RX5 123 yX5_isCrew wsX5_isCrew) := goodIn_app (goodIn_of _ (by decide +kernel)) ggX5_way_X5_isCrew
set_option maxRecDepth 20000 in
theorem ggX5_way_X5_isPlot : GoodIn wsX5_way wsX5_isPlot := goodIn_r _ [10, 5, 6, 3, 7] (by decide +kernel) (by decide +kernel)
set_option maxRecDepth 20000 in
theorem gX5_way_X5_isPlot : GoodIn wsX5_way (va_wsS RX5 100 yX5_isPlot wsX5_isPlot) := goodIn_app (goodIn_of _ (by decide +kernel)) ggX5_way_X5_isPlot
set_option maxRecDepth 20000 in
theorem ggX5_way_X5_wayOf : GoodIn wsX5_way wsX5_wayOf := goodIn_r _ [14, 15, 16, 17, 18, 3, 19, 20, 21, 22, 23, 24, 25, 26, 27, 28, 29, 30, 31, 32, 33, 34, 35, 36, 37, 38, 39, 40, 41, 42, 43, 44, 45, 46, 47, 48, 49, 50, 51, 52, 53, 54] (by decide +kernel) (by decide +kernel)
set_option maxRecDepth 20000 in
theorem gX5_way_X5_wayOf : GoodIn wsX5_way (wsV RX5 126 RX5 yX5_wayOf wsX5_wayOf) := goodIn_app (goodIn_of _ (by decide +kernel)) ggX5_way_X5_wayOf
set_option maxRecDepth 20000 in
theorem ggX5_why_X5_of : GoodIn wsX5_why wsX5_of := goodIn_r _ [7, 2, 8, 9, 10, 11, 12, 13, 14, 15, 16, 17, 18, 19, 20, 21, 22, 23, 24] (by decide +kernel) (by decide +kernel)
set_option maxRecDepth 20000 in
theorem gX5_why_X5_of : GoodIn wsX5_why (wsV RX5 116 RX5 yX5_of wsX5_of) := goodIn_app (goodIn_of _ (by decide +kernel)) ggX5_why_X5_of
set_option maxRecDepth 20000 in
theorem ggX5_reason_X5_isCrew : GoodIn wsX5_reason wsX5_isCrew := goodIn_r _ [4, 5, 6, 3, 7] (by decide +kernel) (by decide +kernel)
set_option maxRecDepth 20000 in
theorem gX5_reason_X5_isCrew : GoodIn wsX5_reason (va_wsS RX5 123 yX5_isCrew wsX5_isCrew) := goodIn_app (goodIn_of _ (by decide +kernel)) ggX5_reason_X5_isCrew
set_option maxRecDepth 20000 in
theorem ggX5_reason_X5_isPlot : GoodIn wsX5_reason wsX5_isPlot := goodIn_r _ [10, 5, 6, 3, 7] (by decide +kernel) (by decide +kernel)
set_option maxRecDepth 20000 in
theorem gX5_reason_X5_isPlot : GoodIn wsX5_reason (va_wsS RX5 100 yX5_isPlot wsX5_isPlot) := goodIn_app (goodIn_of _ (by decide +kernel)) ggX5_reason_X5_isPlot
set_option maxRecDepth 20000 in
theorem ggX5_reason_X5_of : GoodIn wsX5_reason wsX5_of := goodIn_r _ [14, 15, 38, 39, 40, 41, 42, 43, 44, 45, 46, 47, 48, 49, 50, 51, 52, 53, 54] (by decide +kernel) (by decide +kernel)
set_option maxRecDepth 20000 in
theorem gX5_reason_X5_of : GoodIn wsX5_reason (wsV RX5 116 RX5 yX5_of wsX5_of) := goodIn_app (goodIn_of _ (by decide +kernel)) ggX5_reason_X5_of
set_option maxRecDepth 20000 in
theorem ggX5_reason_X5_measure : GoodIn wsX5_reason wsX5_measure := goodIn_r _ [19, 20, 21, 22, 23, 24, 3, 25, 26, 27, 28, 29, 30, 31, 32, 33, 15, 38, 39, 40, 41, 42, 43, 44, 45, 46, 47, 48, 49, 50, 51, 52, 53, 54] (by decide +kernel) (by decide +kernel)
set_option maxRecDepth 20000 in
theorem gX5_reason_X5_measure : GoodIn wsX5_reason (wsV RX5 119 RX5 yX5_measure wsX5_measure) := goodIn_app (goodIn_of _ (by decide +kernel)) ggX5_reason_X5_measure
set_option maxRecDepth 20000 in
theorem ggX5_reason_X5_why : GoodIn wsX5_reason wsX5_why := goodIn_r _ [37, 20, 15, 11, 12, 13, 3, 14, 38, 39, 40, 41, 42, 43, 44, 45, 46, 47, 48, 49, 50, 51, 52, 53, 54] (by decide +kernel) (by decide +kernel)
set_option maxRecDepth 20000 in
theorem gX5_reason_X5_why : GoodIn wsX5_reason (wsV RX5 204 RX5 yX5_why wsX5_why) := goodIn_app (goodIn_of _ (by decide +kernel)) ggX5_reason_X5_why
set_option maxRecDepth 20000 in
theorem ggX5_isBetter_X5_standsToLose : GoodIn wsX5_isBetter wsX5_standsToLose := goodIn_r _ [7, 1, 8, 9, 10, 6, 11, 12, 13, 14, 15, 16, 17, 18, 19, 20, 21, 22, 23, 24, 25, 26, 27, 28, 29, 30, 31, 32, 33, 34, 35, 36, 37] (by decide +kernel) (by decide +kernel)
set_option maxRecDepth 20000 in
theorem gX5_isBetter_X5_standsToLose : GoodIn wsX5_isBetter (wsV RX5 198 RX5 yX5_standsToLose wsX5_standsToLose) := goodIn_app (goodIn_of _ (by decide +kernel)) ggX5_isBetter_X5_standsToLose
set_option maxRecDepth 20000 in
theorem ggX5_best_X5_isCrew : GoodIn wsX5_best wsX5_isCrew := goodIn_r _ [4, 5, 6, 3, 7] (by decide +kernel) (by decide +kernel)
set_option maxRecDepth 20000 in
theorem gX5_best_X5_isCrew : GoodIn wsX5_best (va_wsS RX5 123 yX5_isCrew wsX5_isCrew) := goodIn_app (goodIn_of _ (by decide +kernel)) ggX5_best_X5_isCrew
set_option maxRecDepth 20000 in
theorem ggX5_best_X5_of : GoodIn wsX5_best wsX5_of := goodIn_r _ [11, 12, 64, 65, 66, 67, 68, 69, 70, 71, 72, 73, 74, 75, 76, 77, 78, 79, 80] (by decide +kernel) (by decide +kernel)
set_option maxRecDepth 20000 in
theorem gX5_best_X5_of : GoodIn wsX5_best (wsV RX5 116 RX5 yX5_of wsX5_of) := goodIn_app (goodIn_of _ (by decide +kernel)) ggX5_best_X5_of
set_option maxRecDepth 20000 in
theorem ggX5_best_X5_measure : GoodIn wsX5_best wsX5_measure := goodIn_r _ [16, 17, 18, 19, 20, 21, 3, 22, 23, 24, 25, 26, 27, 28, 29, 30, 12, 64, 65, 66, 67, 68, 69, 70, 71, 72, 73, 74, 75, 76, 77, 78, 79, 80] (by decide +kernel) (by decide +kernel)
set_option maxRecDepth 20000 in
theorem gX5_best_X5_measure : GoodIn wsX5_best (wsV RX5 119 RX5 yX5_measure wsX5_measure) := goodIn_app (goodIn_of _ (by decide +kernel)) ggX5_best_X5_measure
set_option maxRecDepth 20000 in
theorem ggX5_best_X5_countPaths : GoodIn wsX5_best wsX5_countPaths := goodIn_r _ [34, 35, 36, 37, 38, 39, 3, 40, 12, 41, 42, 43, 64, 65, 66, 67, 68, 69, 70, 71, 72, 73, 74, 75, 76, 77, 78, 79, 80] (by decide +kernel) (by decide +kernel)
set_option maxRecDepth 20000 in
theorem gX5_best_X5_countPaths : GoodIn wsX5_best (wsV RX5 78 RX5 yX5_countPaths wsX5_countPaths) := goodIn_app (goodIn_of _ (by decide +kernel)) ggX5_best_X5_countPaths
set_option maxRecDepth 20000 in
theorem ggX5_best_X5_why : GoodIn wsX5_best wsX5_why := goodIn_r _ [47, 17, 12, 8, 9, 10, 3, 11, 64, 65, 66, 67, 68, 69, 70, 71, 72, 73, 74, 75, 76, 77, 78, 79, 80] (by decide +kernel) (by decide +kernel)
set_option maxRecDepth 20000 in
theorem gX5_best_X5_why : GoodIn wsX5_best (wsV RX5 204 RX5 yX5_why wsX5_why) := goodIn_app (goodIn_of _ (by decide +kernel)) ggX5_best_X5_why
set_option maxRecDepth 20000 in
theorem ggX5_best_X5_isBetter : GoodIn wsX5_best wsX5_isBetter := goodIn_r _ [51, 12, 17, 52, 53, 54, 3, 55, 56, 57, 58, 59, 35, 36, 5, 6, 7, 60, 61, 62, 63, 64, 65, 66, 67, 68, 69, 70, 71, 72, 73, 74, 75, 76, 77, 78, 79, 80] (by decide +kernel) (by decide +kernel)
set_option maxRecDepth 20000 in
theorem gX5_best_X5_isBetter : GoodIn wsX5_best (wsV RX5 207 RX5 yX5_isBetter wsX5_isBetter) := goodIn_app (goodIn_of _ (by decide +kernel)) ggX5_best_X5_isBetter
set_option maxRecDepth 20000 in
theorem ggX5_openRow_X5_paths : GoodIn wsX5_openRow wsX5_paths := goodIn_r _ [5, 6, 7, 8, 4, 9, 10, 11, 12, 13, 14, 15, 16, 17, 18, 19, 20, 21, 22, 23, 28, 29, 30, 31, 32, 33, 34, 35, 36, 37, 38, 39, 40, 41, 42, 43, 44] (by decide +kernel) (by decide +kernel)
set_option maxRecDepth 20000 in
theorem gX5_openRow_X5_paths : GoodIn wsX5_openRow (wsV RX5 151 RX5 yX5_paths wsX5_paths) := goodIn_app (goodIn_of _ (by decide +kernel)) ggX5_openRow_X5_paths
set_option maxRecDepth 20000 in
theorem ggX5_openRow_X5_columns : GoodIn wsX5_openRow wsX5_columns := goodIn_r _ [27, 10, 11, 28, 29, 30, 31, 32, 33, 34, 35, 36, 37, 38, 39, 40, 41, 42, 43, 44] (by decide +kernel) (by decide +kernel)
set_option maxRecDepth 20000 in
theorem gX5_openRow_X5_columns : GoodIn wsX5_openRow (wsV RX5 201 RX5 yX5_columns wsX5_columns) := goodIn_app (goodIn_of _ (by decide +kernel)) ggX5_openRow_X5_columns
set_option maxRecDepth 20000 in
theorem ggX5_ifTold_X5_isLine : GoodIn wsX5_ifTold wsX5_isLine := goodIn_r _ [4, 5, 6, 3, 7] (by decide +kernel) (by decide +kernel)
set_option maxRecDepth 20000 in
theorem gX5_ifTold_X5_isLine : GoodIn wsX5_ifTold (va_wsS RX5 142 yX5_isLine wsX5_isLine) := goodIn_app (goodIn_of _ (by decide +kernel)) ggX5_ifTold_X5_isLine
set_option maxRecDepth 20000 in
theorem ggX5_ifTold_X5_pathsAt : GoodIn wsX5_ifTold wsX5_pathsAt := goodIn_r _ [11, 12, 13, 14, 15, 16, 3, 17, 18, 19, 20, 21, 22, 23, 24, 25, 26, 27, 28, 29, 30, 31, 32, 33, 34, 35, 36, 37, 38, 39, 40, 41, 42] (by decide +kernel) (by decide +kernel)
set_option maxRecDepth 20000 in
theorem gX5_ifTold_X5_pathsAt : GoodIn wsX5_ifTold (wsV RX5 145 RX5 yX5_pathsAt wsX5_pathsAt) := goodIn_app (goodIn_of _ (by decide +kernel)) ggX5_ifTold_X5_pathsAt
set_option maxRecDepth 20000 in
theorem ggX5_plotsHit_X5_hits : GoodIn wsX5_plotsHit wsX5_hits := goodIn_r _ [5, 6, 7, 8, 9, 10, 4, 11, 16, 17, 18, 19, 20, 21, 22, 23, 24, 25, 26, 27, 28, 29, 30, 31, 32] (by decide +kernel) (by decide +kernel)
set_option maxRecDepth 20000 in
theorem gX5_plotsHit_X5_hits : GoodIn wsX5_plotsHit (wsV RX5 85 RX5 yX5_hits wsX5_hits) := goodIn_app (goodIn_of _ (by decide +kernel)) ggX5_plotsHit_X5_hits
set_option maxRecDepth 20000 in
theorem ggX5_plotsHit_X5_allPaths : GoodIn wsX5_plotsHit wsX5_allPaths := goodIn_r _ [15, 8, 16, 17, 18, 19, 20, 21, 22, 23, 24, 25, 26, 27, 28, 29, 30, 31, 32] (by decide +kernel) (by decide +kernel)
set_option maxRecDepth 20000 in
theorem gX5_plotsHit_X5_allPaths : GoodIn wsX5_plotsHit (wsV RX5 81 RX5 yX5_allPaths wsX5_allPaths) := goodIn_app (goodIn_of _ (by decide +kernel)) ggX5_plotsHit_X5_allPaths
set_option maxRecDepth 20000 in
theorem ggX5_allToLose_X5_standsToLose : GoodIn wsX5_allToLose wsX5_standsToLose := goodIn_r _ [5, 6, 7, 8, 9, 4, 10, 11, 12, 13, 14, 15, 16, 17, 18, 19, 20, 21, 22, 23, 24, 25, 26, 27, 28, 29, 30, 31, 32, 33, 34, 35, 36] (by decide +kernel) (by decide +kernel)
set_option maxRecDepth 20000 in
theorem gX5_allToLose_X5_standsToLose : GoodIn wsX5_allToLose (wsV RX5 198 RX5 yX5_standsToLose wsX5_standsToLose) := goodIn_app (goodIn_of _ (by decide +kernel)) ggX5_allToLose_X5_standsToLose
set_option maxRecDepth 20000 in
theorem ggX5_count_X5_countPaths : GoodIn wsX5_count wsX5_countPaths := goodIn_r _ [8, 9, 10, 11, 12, 13, 7, 14, 1, 15, 16, 17, 53, 54, 55, 56, 57, 58, 59, 60, 61, 62, 63, 64, 65, 66, 67, 68, 69] (by decide +kernel) (by decide +kernel)
set_option maxRecDepth 20000 in
theorem gX5_count_X5_countPaths : GoodIn wsX5_count (wsV RX5 78 RX5 yX5_countPaths wsX5_countPaths) := goodIn_app (goodIn_of _ (by decide +kernel)) ggX5_count_X5_countPaths
set_option maxRecDepth 20000 in
theorem ggX5_count_X5_sum : GoodIn wsX5_count wsX5_sum := goodIn_r _ [21, 1, 53, 54, 55, 56, 57, 58, 59, 60, 61, 62, 63, 64, 65, 66, 67, 68, 69] (by decide +kernel) (by decide +kernel)
set_option maxRecDepth 20000 in
theorem gX5_count_X5_sum : GoodIn wsX5_count (wsV RX5 210 RX5 yX5_sum wsX5_sum) := goodIn_app (goodIn_of _ (by decide +kernel)) ggX5_count_X5_sum
set_option maxRecDepth 20000 in
theorem ggX5_count_X5_plotsHit : GoodIn wsX5_count wsX5_plotsHit := goodIn_r _ [25, 26, 27, 28, 7, 29, 1, 9, 10, 30, 31, 32, 33, 34, 35, 36, 53, 54, 55, 56, 57, 58, 59, 60, 61, 62, 63, 64, 65, 66, 67, 68, 69] (by decide +kernel) (by decide +kernel)
set_option maxRecDepth 20000 in
theorem gX5_count_X5_plotsHit : GoodIn wsX5_count (wsV RX5 213 RX5 yX5_plotsHit wsX5_plotsHit) := goodIn_app (goodIn_of _ (by decide +kernel)) ggX5_count_X5_plotsHit
set_option maxRecDepth 20000 in
theorem ggX5_count_X5_allToLose : GoodIn wsX5_count wsX5_allToLose := goodIn_r _ [40, 41, 42, 43, 7, 44, 1, 26, 27, 28, 29, 9, 10, 30, 31, 32, 33, 34, 35, 36, 53, 54, 55, 56, 57, 58, 59, 60, 61, 62, 63, 64, 65, 66, 67, 68, 69] (by decide +kernel) (by decide +kernel)
set_option maxRecDepth 20000 in
theorem gX5_count_X5_allToLose : GoodIn wsX5_count (wsV RX5 217 RX5 yX5_allToLose wsX5_allToLose) := goodIn_app (goodIn_of _ (by decide +kernel)) ggX5_count_X5_allToLose
set_option maxRecDepth 20000 in
theorem ggX5_count_X5_allPaths : GoodIn wsX5_count wsX5_allPaths := goodIn_r _ [36, 10, 53, 54, 55, 56, 57, 58, 59, 60, 61, 62, 63, 64, 65, 66, 67, 68, 69] (by decide +kernel) (by decide +kernel)
set_option maxRecDepth 20000 in
theorem gX5_count_X5_allPaths : GoodIn wsX5_count (wsV RX5 81 RX5 yX5_allPaths wsX5_allPaths) := goodIn_app (goodIn_of _ (by decide +kernel)) ggX5_count_X5_allPaths
set_option maxRecDepth 20000 in
theorem ggX5_count_X5_hints : GoodIn wsX5_count wsX5_hints := goodIn_r _ [48, 1, 53, 54, 55, 56, 57, 58, 59, 60, 61, 62, 63, 64, 65, 66, 67, 68, 69] (by decide +kernel) (by decide +kernel)
set_option maxRecDepth 20000 in
theorem gX5_count_X5_hints : GoodIn wsX5_count (wsV RX5 220 RX5 yX5_hints wsX5_hints) := goodIn_app (goodIn_of _ (by decide +kernel)) ggX5_count_X5_hints
set_option maxRecDepth 20000 in
theorem ggX5_count_X5_of : GoodIn wsX5_count wsX5_of := goodIn_r _ [52, 1, 53, 54, 55, 56, 57, 58, 59, 60, 61, 62, 63, 64, 65, 66, 67, 68, 69] (by decide +kernel) (by decide +kernel)
set_option maxRecDepth 20000 in
theorem gX5_count_X5_of : GoodIn wsX5_count (wsV RX5 116 RX5 yX5_of wsX5_of) := goodIn_app (goodIn_of _ (by decide +kernel)) ggX5_count_X5_of
end
section
/-! ===== whole numbers for ints ===== -/
def jI (z : Int) : Int32 := Int32.ofInt z
def inR (z : Int) : Prop := -2147483648 ≤ z ∧ z < 2147483648
theorem jI_T {a : Int} (h : -2147483648 ≤ a ∧ a < 2147483648) : (jI a).toInt = a := Int32.toInt_ofInt_of_le (by omega) (by omega)
theorem jI_of (x : Int32) : x = jI x.toInt := (Int32.ofInt_toInt x).symm
theorem jI_rng (x : Int32) : -2147483648 ≤ x.toInt ∧ x.toInt < 2147483648 := by
  have h1 := Int32.le_toInt x
  have h2 := Int32.toInt_lt x
  omega
theorem jI_add (a b : Int) : jI a + jI b = jI (a + b) := (Int32.ofInt_add a b).symm
theorem jI_sub (a b : Int) : jI a - jI b = jI (a - b) := (Int32.ofInt_sub a b).symm
theorem jI_mul (a b : Int) : jI a * jI b = jI (a * b) := (Int32.ofInt_mul a b).symm
theorem jI_neg (a : Int) : -jI a = jI (-a) := (Int32.ofInt_neg a).symm
theorem jI_eq {a b : Int} (ha : -2147483648 ≤ a ∧ a < 2147483648) (hb : -2147483648 ≤ b ∧ b < 2147483648) : jI a = jI b ↔ a = b := by
  rw [← Int32.toInt_inj, jI_T ha, jI_T hb]
theorem jI_lt {a b : Int} (ha : -2147483648 ≤ a ∧ a < 2147483648) (hb : -2147483648 ≤ b ∧ b < 2147483648) : jI a < jI b ↔ a < b := by
  rw [Int32.lt_iff_toInt_lt, jI_T ha, jI_T hb]
theorem jI_le {a b : Int} (ha : -2147483648 ≤ a ∧ a < 2147483648) (hb : -2147483648 ≤ b ∧ b < 2147483648) : jI a ≤ jI b ↔ a ≤ b := by
  rw [Int32.le_iff_toInt_le, jI_T ha, jI_T hb]
theorem jI_div {a b : Int} (ha : 0 ≤ a ∧ a < 2147483648) (hb : 0 < b ∧ b < 2147483648) : jI a / jI b = jI (a / b) := by
  have h1 : a / b ≤ a := Int.ediv_le_self b ha.1
  have h2 : 0 ≤ a / b := Int.ediv_nonneg ha.1 (by omega)
  apply Int32.toInt_inj.mp
  rw [lg_idiv_nonneg (by rw [jI_T (by omega)]; omega) (by rw [jI_T (by omega)]; omega), jI_T (by omega), jI_T (by omega), jI_T (by omega)]
theorem jI_rem {a b : Int} (ha : 0 ≤ a ∧ a < 2147483648) (hb : 0 < b ∧ b < 2147483648) : jI a - jI a / jI b * jI b = jI (a % b) := by
  rw [jI_div ha hb, jI_mul, jI_sub, Int.emod_def, Int.mul_comm]
theorem jI_in {a : Int} {n : Nat} (h : 0 ≤ a ∧ a < n) (hn : (n : Int) < 2147483648) : vp_in (jI a) n := by
  rw [vp_in_iff, jI_T (by omega)]
  exact h
theorem jI_cl {a : Int} (h : 0 ≤ a ∧ a < 2147483648) : (jI a).toNatClampNeg = a.toNat := by
  show (jI a).toInt.toNat = _
  rw [jI_T (by omega)]
theorem jI_nI (n : Nat) : nI n = jI (n : Int) := rfl
def aI (f : Int → Int) : Nat → Int32 := fun j => jI (f (j : Int))
def upZ (f : Int → Int) (k v : Int) : Int → Int := fun j => if j = k then v else f j
theorem upZ_eq (f : Int → Int) (k v : Int) {j : Int} (h : j = k) : upZ f k v j = v := if_pos h
theorem upZ_ne (f : Int → Int) (k v : Int) {j : Int} (h : ¬ j = k) : upZ f k v j = f j := if_neg h
theorem aI_at (f : Int → Int) {a : Int} (h : 0 ≤ a ∧ a < 2147483648) : aI f (jI a).toNatClampNeg = jI (f a) := by
  rw [jI_cl h]
  show jI (f (a.toNat : Int)) = _
  rw [Int.toNat_of_nonneg h.1]
theorem aI_upd (f : Int → Int) {a : Int} (h : 0 ≤ a ∧ a < 2147483648) (v : Int) : upd (aI f) (jI a).toNatClampNeg (jI v) = aI (upZ f a v) := by
  rw [jI_cl h]
  funext j
  show (if j = a.toNat then jI v else jI (f (j : Int))) = jI (if (j : Int) = a then v else f (j : Int))
  by_cases hj : j = a.toNat
  · rw [if_pos hj, if_pos (by omega)]
  · rw [if_neg hj, if_neg (by omega)]
theorem jI_z {v : Int} (h : v = 0 ∨ v = 1) : narrow .boolean (.int (jI v)) = .int (jI v) := by rcases h with rfl | rfl <;> rfl
theorem jI_nz {v : Int} (h : v = 0 ∨ v = 1) : vp_nar .boolean (jI v) = jI v := by rcases h with rfl | rfl <;> rfl
theorem jI_c {v : Int} (h : 0 ≤ v ∧ v < 65536) : narrow .char (.int (jI v)) = .int (jI v) ∧ fits .char (.int (jI v)) = true := by
  have h1 := pk_charN (q := v.toNat) (by omega)
  rw [jI_nI, Int.toNat_of_nonneg h.1] at h1
  exact h1
theorem jI_nc {v : Int} (h : 0 ≤ v ∧ v < 65536) : vp_nar .char (jI v) = jI v := by
  unfold vp_nar
  rw [(jI_c h).1]
/-! longs -/
def jL (z : Int) : Int64 := Int64.ofInt z
theorem jL_T {a : Int} (h : -9223372036854775808 ≤ a ∧ a < 9223372036854775808) : (jL a).toInt = a := Int64.toInt_ofInt_of_le (by omega) (by omega)
theorem jL_of {a : Int} (h : -2147483648 ≤ a ∧ a < 2147483648) : (jI a).toInt64 = jL a := by
  apply Int64.toInt_inj.mp
  rw [Int32.toInt_toInt64, jI_T h, jL_T (by omega)]
theorem jL_mul (a b : Int) : jL a * jL b = jL (a * b) := (Int64.ofInt_mul a b).symm
theorem jL_div {a b : Int} (ha : 0 ≤ a ∧ a < 9223372036854775808) (hb : 0 < b ∧ b < 9223372036854775808) : jL a / jL b = jL (a / b) := by
  have h1 : a / b ≤ a := Int.ediv_le_self b ha.1
  have h2 : 0 ≤ a / b := Int.ediv_nonneg ha.1 (by omega)
  have e1 : a = ((a.toNat : Nat) : Int) := by omega
  have e2 : b = ((b.toNat : Nat) : Int) := by omega
  have h3 := pk_lDiv (a := a.toNat) (b := b.toNat) (by omega) (by omega) (by omega)
  have e3 : ((a.toNat : Nat) : Int) / ((b.toNat : Nat) : Int) = ((a.toNat / b.toNat : Nat) : Int) := by first | rfl | exact (Int.natCast_ediv _ _).symm
  rw [e1, e2, e3]
  exact h3
theorem jL_i {a : Int} (h : 0 ≤ a ∧ a < 2147483648) : (jL a).toInt32 = jI a := by
  have e1 : a = ((a.toNat : Nat) : Int) := by omega
  rw [e1]
  exact lN_i a.toNat
/-! truth values -/
theorem ite_T {P : Prop} [Decidable P] (h : P) : (1 : Int) = if P then 1 else 0 := (if_pos h).symm
theorem ite_F {P : Prop} [Decidable P] (h : ¬ P) : (0 : Int) = if P then 1 else 0 := (if_neg h).symm
theorem ite_0 {P : Prop} [Decidable P] (h : (if P then (1 : Int) else 0) = 0) : ¬ P := fun q => by rw [if_pos q] at h; cases h
theorem ite_1 {P : Prop} [Decidable P] (h : ¬ (if P then (1 : Int) else 0) = 0) : P := by
  by_cases q : P
  · exact q
  · rw [if_neg q] at h; exact absurd rfl h
/-! ===== links to a nest mate's private members ===== -/
def nwF : List (String × Nat × String × String × String × String) := [("StormFelling$Wood", 37, "StormFelling", "FIRST_SETTINGS", "[I", "StormFelling"), ("StormFelling", 135, "StormFelling$Wood", "worths", "[I", "StormFelling"), ("StormFelling", 155, "StormFelling$Wood", "felled", "[Z", "StormFelling"), ("StormFelling", 139, "StormFelling$Wood", "mud", "I", "StormFelling"), ("StormFelling", 159, "StormFelling$Wood", "places", "[I", "StormFelling"), ("StormFelling", 162, "StormFelling$Wood", "steps", "[I", "StormFelling"), ("StormFelling", 165, "StormFelling$Wood", "saved", "[I", "StormFelling"), ("StormFelling", 168, "StormFelling$Wood", "fellings", "[I", "StormFelling"), ("StormFelling", 171, "StormFelling$Wood", "told", "[I", "StormFelling"), ("StormFelling", 228, "StormFelling$Wood", "settings", "[I", "StormFelling"), ("StormFelling", 132, "StormFelling$Wood", "day", "I", "StormFelling"), ("StormFelling", 216, "StormFelling$Wood", "lost", "I", "StormFelling"), ("StormFelling", 219, "StormFelling$Wood", "regretted", "I", "StormFelling"), ("StormFelling", 222, "StormFelling$Wood", "storms", "I", "StormFelling"), ("StormFelling", 125, "StormFelling$History", "size", "I", "StormFelling"), ("StormFelling$Wood", 94, "StormFelling$Paths", "all", "I", "StormFelling"), ("StormFelling", 207, "StormFelling$Paths", "all", "I", "StormFelling"), ("StormFelling", 231, "StormFelling$Days", "length", "I", "StormFelling"), ("StormFelling", 247, "StormFelling$Days", "kind", "C", "StormFelling"), ("StormFelling", 241, "StormFelling$Days", "first", "I", "StormFelling"), ("StormFelling", 244, "StormFelling$Days", "second", "I", "StormFelling"), ("StormFelling$Wood", 75, "StormFelling", "LEAST_SETTINGS", "[I", "StormFelling"), ("StormFelling$Wood", 78, "StormFelling", "GREATEST_SETTINGS", "[I", "StormFelling")]
def nwM : List (String × Nat × MethodName × String) := [("StormFelling", 31, ⟨"StormFelling$Paths", "<init>", "()V"⟩, "StormFelling"), ("StormFelling", 38, ⟨"StormFelling$Days", "<init>", "()V"⟩, "StormFelling"), ("StormFelling$Wood", 62, ⟨"StormFelling", "isIn", "(III)Z"⟩, "StormFelling"), ("StormFelling$Days", 62, ⟨"StormFelling", "isIn", "(III)Z"⟩, "StormFelling")]
def NW (U : State) : Prop := (∀ q ∈ nwF, va_Nw (.fieldLinkNest q.1 q.2.1 q.2.2.1 q.2.2.2.1 q.2.2.2.2.1 q.2.2.2.2.2) U) ∧ ∀ q ∈ nwM, va_Nw (.methodLinkNest q.1 q.2.1 q.2.2.1 q.2.2.2) U
theorem NW.warm {s U : State} (hW : s.WarmedH U.vm) (h : NW s) : NW U := ⟨fun q hq => va_Nw.warmF hW (h.1 q hq), fun q hq => va_Nw.warmM hW (h.2 q hq)⟩
theorem NW.same {u U : State} (e : u.vm = U.vm) (h : NW u) : NW U := ⟨fun q hq => va_Nw.same rfl e (h.1 q hq), fun q hq => va_Nw.same rfl e (h.2 q hq)⟩
/-! the three static arrays: nobody writes them -/
def sF (a b c : Int) (j : Nat) : Value := if j = 0 then .int (jI a) else if j = 1 then .int (jI b) else .int (jI c)
def ST1 (n : String) (f : Nat → Value) (A : Nat → Prop) (U : State) (H : Heap) : Prop := ∃ t : Nat, va_Z "StormFelling" n "[I" (.ref t) A U H ∧ va_T .int t 3 f A U H
def ST (A : Nat → Prop) (U : State) (H : Heap) : Prop := ST1 "LEAST_SETTINGS" (sF 1 0 1) A U H ∧ ST1 "FIRST_SETTINGS" (sF 8 0 3) A U H ∧ ST1 "GREATEST_SETTINGS" (sF 30 2 9) A U H
theorem ST1.go {n : String} {f : Nat → Value} {A B : Nat → Prop} {u U : State} {H H1 : Heap} (h : ST1 n f A u H) (hvm : u.vm.Alike U.vm) (hq : ∀ a : Nat, a < H.size → ¬ A a → H1[a]? = H[a]?) (hAB : ∀ q, B q → A q) : ST1 n f B U H1 := by
  obtain ⟨t, h1, h2⟩ := h
  exact ⟨t, ((va_Z.moved hvm h1).kept hq).narrow hAB, ((va_T.moved hvm h2).kept hq).narrow hAB⟩
theorem ST.go {A B : Nat → Prop} {u U : State} {H H1 : Heap} (h : ST A u H) (hvm : u.vm.Alike U.vm) (hq : ∀ a : Nat, a < H.size → ¬ A a → H1[a]? = H[a]?) (hAB : ∀ q, B q → A q) : ST B U H1 :=
  ⟨h.1.go hvm hq hAB, h.2.1.go hvm hq hAB, h.2.2.go hvm hq hAB⟩
/-! ===== worlds ===== -/
def TY (Y : Nat → ClassId) : List (ClassId × FieldType) := [(Y 0, .int), (Y 1, .boolean), (Y 2, .char), (Y 3, .object RX3)]
abbrev aN (Y : Nat → ClassId) (q n : Nat) (f : Int → Int) : Nat × va_E := (q, .inl (Y 0, n, .inl (aI f)))
abbrev aZ (Y : Nat → ClassId) (q n : Nat) (f : Int → Int) : Nat × va_E := (q, .inl (Y 1, n, .inl (aI f)))
abbrev aC (Y : Nat → ClassId) (q n : Nat) (f : Int → Int) : Nat × va_E := (q, .inl (Y 2, n, .inl (aI f)))
abbrev aQ (Y : Nat → ClassId) (q n : Nat) (f : Nat → Option Nat) : Nat × va_E := (q, .inl (Y 3, n, .inr (.inr (.inr (.inr f)))))
abbrev ob (q c : Nat) (fs : List Value) : Nat × va_E := (q, .inr (c, fs))
/-- a world told in another way (its cells in another order, fewer of them, arrays that agree within) -/
def jLe (ws ws' : va_W) : Prop := (∀ (D : va_G) (H : Heap), va_P D vwCl ws H → va_P D vwCl ws' H) ∧ ∀ A : Nat → Prop, va_D A ws → va_D A ws'
theorem jLe.rf (ws : va_W) : jLe ws ws := ⟨fun _ _ h => h, fun _ h => h⟩
theorem jLe.tr {a b c : va_W} (h : jLe a b) (g : jLe b c) : jLe a c := ⟨fun D H q => g.1 D H (h.1 D H q), fun A q => g.2 A (h.2 A q)⟩
theorem fm_some {α β : Type} (f : α → Option β) : ∀ (is : List α) (l : List β), is.map f = l.map some → is.filterMap f = l
  | [], [], _ => rfl
  | [], b :: l, h => by simp at h
  | a :: is, [], h => by simp at h
  | a :: is, b :: l, h => by
    simp only [List.map_cons, List.cons.injEq] at h
    rw [List.filterMap_cons_some h.1, fm_some f is l h.2]
theorem jLe.pos {ws ws' : va_W} (is : List Nat) (hn : va_nd is = true) (hs : is.map (fun i => ws[i]?) = ws'.map some) : jLe ws ws' :=
  ⟨fun D H h => h.sub is (fm_some _ _ _ hs), fun A h => h.sub is hn hs⟩
/-- cells that hold the same, within -/
def cLe (p q : Nat × va_E) : Prop := p.1 = q.1 ∧ ∀ (D : va_G) (H : Heap), va_at D vwCl p H → va_at D vwCl q H
theorem cLe.rf (p : Nat × va_E) : cLe p p := ⟨rfl, fun _ _ h => h⟩
theorem cLe.ar (c : ClassId) (q n : Nat) {f g : Int → Int} (h : ∀ j : Int, 0 ≤ j → j < n → f j = g j) : cLe (q, .inl (c, n, .inl (aI f))) (q, .inl (c, n, .inl (aI g))) := by
  refine ⟨rfl, fun D H hq => ?_⟩
  have e : vp_cell c (n, .inl (aI f)) = vp_cell c (n, .inl (aI g)) := by
    rw [vp_cell_i, vp_cell_i]
    unfold arrV
    congr 2
    funext j
    show Value.int (jI (f ((j.val : Nat) : Int))) = Value.int (jI (g ((j.val : Nat) : Int)))
    rw [h _ (by omega) (by have := j.isLt; omega)]
  show H[q]? = some (vp_cell c (n, .inl (aI g)))
  rw [← e]
  exact hq
theorem cLe.aq (c : ClassId) (q n : Nat) {f g : Nat → Option Nat} (h : ∀ j : Nat, j < n → f j = g j) : cLe (q, .inl (c, n, .inr (.inr (.inr (.inr f))))) (q, .inl (c, n, .inr (.inr (.inr (.inr g))))) := by
  refine ⟨rfl, fun D H hq => ?_⟩
  have e : vp_cell c (n, .inr (.inr (.inr (.inr f)))) = vp_cell c (n, .inr (.inr (.inr (.inr g)))) := by
    rw [vp_cell_q, vp_cell_q]
    unfold arrV
    congr 2
    funext j
    show va_rf (f j.val) = va_rf (g j.val)
    rw [h _ j.isLt]
  show H[q]? = some (vp_cell c (n, .inr (.inr (.inr (.inr g)))))
  rw [← e]
  exact hq
theorem cLe.eq {p q : Nat × va_E} (h : p = q) : cLe p q := h ▸ cLe.rf p
def wLe (ws ws' : va_W) : Prop := ws.map (fun p => p.1) = ws'.map (fun p => p.1) ∧ ∀ (D : va_G) (H : Heap), va_P D vwCl ws H → va_P D vwCl ws' H
theorem wLe.nil : wLe [] [] := ⟨rfl, fun _ _ h => h⟩
theorem wLe.rf (ws : va_W) : wLe ws ws := ⟨rfl, fun _ _ h => h⟩
theorem wLe.app {a b c d : va_W} (h : wLe a b) (g : wLe c d) : wLe (a ++ c) (b ++ d) := by
  refine ⟨by rw [List.map_append, List.map_append, h.1, g.1], fun D H q => ?_⟩
  have q1 : va_P D vwCl a H := fun k x hx => q k x (by
    have hl := (List.getElem?_eq_some_iff.mp hx).1
    rw [List.getElem?_append_left hl]; exact hx)
  have q2 : va_P D vwCl c H := fun k x hx => q (a.length + k) x (by
    rw [List.getElem?_append_right (by omega), show a.length + k - a.length = k by omega]; exact hx)
  exact (h.2 D H q1).app (g.2 D H q2)
theorem wLe.cons {p q : Nat × va_E} {ws ws' : va_W} (h : cLe p q) (g : wLe ws ws') : wLe (p :: ws) (q :: ws') := by
  have h1 : wLe [p] [q] := ⟨by simp [h.1], fun D H hp k x hx => by
    have hz := (List.getElem?_eq_some_iff.mp hx).1
    have hk : k = 0 := by simp at hz; omega
    subst hk
    cases hx
    exact h.2 D H (hp 0 _ rfl)⟩
  exact h1.app g
theorem wLe.le {ws ws' : va_W} (h : wLe ws ws') : jLe ws ws' := by
  refine ⟨h.2, fun A hD => ?_⟩
  have key : ∀ (k : Nat) (q : Nat × va_E), ws'[k]? = some q → ∃ p, ws[k]? = some p ∧ p.1 = q.1 := by
    intro k q hk
    have e : (ws.map (fun p => p.1))[k]? = (ws'.map (fun p => p.1))[k]? := by rw [h.1]
    rw [List.getElem?_map, List.getElem?_map, hk] at e
    cases hp : ws[k]? with
    | none => rw [hp] at e; cases e
    | some p => rw [hp] at e; exact ⟨p, rfl, Option.some.inj e⟩
  refine ⟨fun i j x y hi hj hxy => ?_, fun k q hk => ?_⟩
  · obtain ⟨x0, a1, a2⟩ := key i x hi
    obtain ⟨y0, b1, b2⟩ := key j y hj
    exact hD.1 i j x0 y0 a1 b1 (a2.trans (hxy.trans b2.symm))
  · obtain ⟨p, a1, a2⟩ := key k q hk
    rw [← a2]
    exact hD.2 k p a1
/-! ===== the judgement: from this place, with this world, these locals and this stack, the method comes to its end ===== -/
abbrev Cx : Type := Program × Launch × Env × Room × State × MethodId × Array Value × List Frame × Method × Code × (State → Prop) × va_G × (Nat → Prop) × Nat
def J (x : Cx) (k n : Nat) (ws : va_W) (pc : Nat) (lv : List (Nat × Value)) (st : List Value) : Prop :=
  match x with
  | (p, l, e, R, s, m, args, below, meth, c, Q, D, A, nL) => ∀ (H : Heap) (locs : List Loc) (ls : Array Slot), va_P D vwCl ws H → va_D A ws → va_S A s.heap H locs → lv_has ls nL lv → W p l e R s m args below meth c H locs k n Q (F0 m pc ls st)
def jG (x : Cx) (l0 : Launch) (D0 : va_G) (Y : Nat → ClassId) (cc : ByteArray) (own : String) (Ts : List Cond) (nL0 : Nat) (R0 : Room) (ret : Option FieldType) (nm : String) : Prop :=
  match x with
  | (p, l, _, R, s, m, args, _, meth, c, _, D, A, nL) => l = l0 ∧ D = D0 ∧ nL = nL0 ∧ R = R0 ∧ p.tables.exec = Jvm.exec ∧ c.code = cc ∧ c.maxLocals = nL ∧ s.vm.findClass own = some m.cls ∧ (∀ w ∈ Ts, w.before args s = true) ∧ va_K D vwCl (TY Y) s ∧ NW s ∧ ST A s s.heap ∧ (∀ q, s.heap.size ≤ q → A q) ∧ meth.locks = false ∧ meth.sig.returnType = ret ∧ meth.name = nm
def retOp : Option Value → Instr
  | none => .return_
  | some (.int _) => .ireturn
  | some _ => .areturn
/-- the method's end: it may return v in the world w -/
def jE (x : Cx) (k n : Nat) (cc : ByteArray) (w : va_W) (v : Option Value) : Prop := ∀ (pc : Nat) (lv : List (Nat × Value)), decode cc pc = .ok (retOp v, 1) → J x k n w pc lv v.toList
def jFit (ret : Option FieldType) (v : Option Value) : Prop := (ret = none ∧ v = none) ∨ (∃ (ty : FieldType) (i : Int32), ret = some ty ∧ v = some (.int i) ∧ narrow ty (.int i) = .int i) ∨ ∃ (n : String) (a : Nat), ret = some (.object n) ∧ v = some (.ref a)
def jQ (post : Option Value → va_W → Prop) (D : va_G) (A : Nat → Prop) : Array Value → State → Outcome → State → Prop := fun _ st oc t => ∃ (v : Option Value) (w' : va_W), oc = .returned v ∧ post v w' ∧ va_P D vwCl w' t.heap ∧ va_D A w' ∧ va_F A st t
def jP (D : va_G) (Y : Nat → ClassId) (w : va_W) (sz : Nat) (as : List Value) : Array Value → State → Prop := va_Pc as (fun U => U.heap.size = sz ∧ va_P D vwCl w U.heap ∧ va_K D vwCl (TY Y) U ∧ NW U ∧ ST (va_A w sz) U U.heap ∧ va_D (fun _ => True) w)
/-- A CONTRACT: called with these arguments in the world w, the method returns; what it answers and the world behind it are as 'post' says; nothing else is touched -/
def jM (l : Launch) (y : MethodName) (wsl : List Cond) (rm : Room) (D : va_G) (Y : Nat → ClassId) (as : List Value) (w : va_W) (post : Option Value → va_W → Prop) (mc ms : Nat) : Prop :=
  ∀ sz : Nat, Met l y wsl rm (jP D Y w sz as) (jQ post D (va_A w sz)) mc ms (va_A w sz)
theorem jM_of {l : Launch} {y : MethodName} {wsl ws' : List Cond} {rm : Room} {D : va_G} {Y : Nat → ClassId} {as : List Value} {w : va_W} {post : Option Value → va_W → Prop} {mc ms : Nat} {cc : ByteArray} {maxL : Nat} {ret : Option FieldType}
    (hy : plainFor y = true) (hw : wsl = Cond.code y cc maxL ret :: ws') (hlen : (lg_sl as).length ≤ maxL) (hfit : ∀ v w', post v w' → jFit ret v)
    (body : ∀ x : Cx, jG x l D Y cc y.cls wsl maxL (headSpec wsl rm).room ret y.name → (∀ v w', post v w' → jE x mc ms cc w' v) → J x 0 0 w 0 (lv_args 0 as) []) : jM l y wsl rm D Y as w post mc ms := by
  intro sz
  refine va_MetF (cc := cc) (maxL := maxL) (ret := ret) hy hw ?_
  intro p e s m args below meth c s₁ B hml hv
  obtain ⟨rfl, hsz, hP, hK, hN, hT, hD0⟩ := hv
  have hts := atoms_spec (ws := wsl) B.pre
  have hown : s.vm.findClass y.cls = some m.cls := findClass_of_methodNamed B.named
  have hin : meth.name = y.name := (name_of_methodNamed B.named B.method).1
  subst hsz
  have hl := lv_entry as (n := maxL) hlen
  rw [lg_entry_eq]
  refine body (p, l, e, (headSpec wsl rm).room, s, m, as.toArray, below, meth, c, _, D, va_A w s.heap.size, maxL) ⟨rfl, rfl, rfl, rfl, B.exec, B.bytes, hml, hown, hts, hK, hN, hT, fun q h => Or.inr h, B.notSynchronized, B.returns, hin⟩ ?_ s.heap [] _ hP hD0.self va_S.rf hl
  intro v w' hpost pc lv hdg H locs ls hP' hD' hS' hl'
  have hq : ∀ t : State, t.heap = H → s.WarmedH t.vm → jQ post D (va_A w s.heap.size) as.toArray s (.returned v) t := fun t ht _ => ⟨v, w', rfl, hpost, by rw [ht]; exact hP', hD', hS'.F ht⟩
  have hlk : meth.locks = false := B.notSynchronized
  rcases hfit v w' hpost with ⟨hr, hv⟩ | ⟨ty, i, hr, hv, hn⟩ | ⟨nm, a, hr, hv⟩
  · subst hv
    exact W.vret B.exec B.bytes (B.returns.trans hr) hq hS'.2.2 hdg hlk
  · subst hv
    exact W.zret B.exec B.bytes (B.returns.trans hr) hn hq hS'.2.2 hdg hlk
  · subst hv
    exact W.aret B.exec B.bytes (B.returns.trans hr) (Or.inl ⟨nm, rfl⟩) (Or.inr ⟨a, rfl⟩) hq hS'.2.2 hdg hlk
section JR
variable {x : Cx} {l0 : Launch} {D0 : va_G} {Y : Nat → ClassId} {cc : ByteArray} {own : String} {Ts : List Cond} {nL0 : Nat} {R0 : Room} {ret : Option FieldType} {nm : String} {k n : Nat} {ws : va_W} {pc : Nat} {lv : List (Nat × Value)} {st : List Value}
theorem j_iconst (G : jG x l0 D0 Y cc own Ts nL0 R0 ret nm) {i : Int} {v : Int} (hdg : decode cc pc = .ok (.iconst i, 1)) (hv : Int32.ofInt i = jI v) (kk : J x k n ws (pc + 1) lv (.int (jI v) :: st)) : J x k n ws pc lv st := by
  obtain ⟨p, l, e, R, s, m, args, below, meth, c, Q, D, A, nL⟩ := x
  obtain ⟨rfl, rfl, rfl, rfl, hx, hb, hml, hown, hts, hK, hN, hT, hA, hlk, hr, hnm⟩ := G
  intro H locs ls hP hD hS hl
  exact lv_iconst hx hb hdg hv (kk H locs ls hP hD hS hl)
theorem j_bipush (G : jG x l0 D0 Y cc own Ts nL0 R0 ret nm) {i : Int} {v : Int} (hdg : decode cc pc = .ok (.bipush i, 2)) (hv : (Int8.ofInt i).toInt32 = jI v) (kk : J x k n ws (pc + 2) lv (.int (jI v) :: st)) : J x k n ws pc lv st := by
  obtain ⟨p, l, e, R, s, m, args, below, meth, c, Q, D, A, nL⟩ := x
  obtain ⟨rfl, rfl, rfl, rfl, hx, hb, hml, hown, hts, hK, hN, hT, hA, hlk, hr, hnm⟩ := G
  intro H locs ls hP hD hS hl
  exact lv_bipush hx hb hdg hv (kk H locs ls hP hD hS hl)
theorem j_sipush (G : jG x l0 D0 Y cc own Ts nL0 R0 ret nm) {i : Int} {v : Int} (hdg : decode cc pc = .ok (.sipush i, 3)) (hv : (Int16.ofInt i).toInt32 = jI v) (kk : J x k n ws (pc + 3) lv (.int (jI v) :: st)) : J x k n ws pc lv st := by
  obtain ⟨p, l, e, R, s, m, args, below, meth, c, Q, D, A, nL⟩ := x
  obtain ⟨rfl, rfl, rfl, rfl, hx, hb, hml, hown, hts, hK, hN, hT, hA, hlk, hr, hnm⟩ := G
  intro H locs ls hP hD hS hl
  exact lv_sipush hx hb hdg hv (kk H locs ls hP hD hS hl)
theorem j_iload_n (G : jG x l0 D0 Y cc own Ts nL0 R0 ret nm) {q : Fin 4} {v : Int32} (i : Nat) (hdg : decode cc pc = .ok (.iload_n q, 1)) (hi : lv[i]? = some ((q : Nat), .int v)) (kk : J x k n ws (pc + 1) lv (.int v :: st)) : J x k n ws pc lv st := by
  obtain ⟨p, l, e, R, s, m, args, below, meth, c, Q, D, A, nL⟩ := x
  obtain ⟨rfl, rfl, rfl, rfl, hx, hb, hml, hown, hts, hK, hN, hT, hA, hlk, hr, hnm⟩ := G
  intro H locs ls hP hD hS hl
  exact lv_iload_n hx hb hdg rfl (lv_at hl i hi) (kk H locs ls hP hD hS hl)
theorem j_iload (G : jG x l0 D0 Y cc own Ts nL0 R0 ret nm) {q : Nat} {v : Int32} (i : Nat) (hdg : decode cc pc = .ok (.iload q, 2)) (hi : lv[i]? = some (q, .int v)) (kk : J x k n ws (pc + 2) lv (.int v :: st)) : J x k n ws pc lv st := by
  obtain ⟨p, l, e, R, s, m, args, below, meth, c, Q, D, A, nL⟩ := x
  obtain ⟨rfl, rfl, rfl, rfl, hx, hb, hml, hown, hts, hK, hN, hT, hA, hlk, hr, hnm⟩ := G
  intro H locs ls hP hD hS hl
  exact lv_iload hx hb hdg (lv_at hl i hi) (kk H locs ls hP hD hS hl)
theorem j_aload_n (G : jG x l0 D0 Y cc own Ts nL0 R0 ret nm) {q : Fin 4} {v : Nat} (i : Nat) (hdg : decode cc pc = .ok (.aload_n q, 1)) (hi : lv[i]? = some ((q : Nat), .ref v)) (kk : J x k n ws (pc + 1) lv (.ref v :: st)) : J x k n ws pc lv st := by
  obtain ⟨p, l, e, R, s, m, args, below, meth, c, Q, D, A, nL⟩ := x
  obtain ⟨rfl, rfl, rfl, rfl, hx, hb, hml, hown, hts, hK, hN, hT, hA, hlk, hr, hnm⟩ := G
  intro H locs ls hP hD hS hl
  exact lv_aload_n hx hb hdg rfl (lv_at hl i hi) (kk H locs ls hP hD hS hl)
theorem j_aload (G : jG x l0 D0 Y cc own Ts nL0 R0 ret nm) {q : Nat} {v : Nat} (i : Nat) (hdg : decode cc pc = .ok (.aload q, 2)) (hi : lv[i]? = some (q, .ref v)) (kk : J x k n ws (pc + 2) lv (.ref v :: st)) : J x k n ws pc lv st := by
  obtain ⟨p, l, e, R, s, m, args, below, meth, c, Q, D, A, nL⟩ := x
  obtain ⟨rfl, rfl, rfl, rfl, hx, hb, hml, hown, hts, hK, hN, hT, hA, hlk, hr, hnm⟩ := G
  intro H locs ls hP hD hS hl
  exact lv_aload hx hb hdg (lv_at hl i hi) (kk H locs ls hP hD hS hl)
theorem j_istore_n (G : jG x l0 D0 Y cc own Ts nL0 R0 ret nm) {q : Fin 4} {v : Int32} {lv' : List (Nat × Value)} (hdg : decode cc pc = .ok (.istore_n q, 1)) (hn : (q : Nat) < nL0) (hl' : ((q : Nat), Value.int v) :: lv.filter (fun r => !(r.1 == (q : Nat)) && !(r.1 + 1 == (q : Nat) && r.2.category == 2)) = lv') (kk : J x k n ws (pc + 1) lv' st) : J x k n ws pc lv (.int v :: st) := by
  obtain ⟨p, l, e, R, s, m, args, below, meth, c, Q, D, A, nL⟩ := x
  obtain ⟨rfl, rfl, rfl, rfl, hx, hb, hml, hown, hts, hK, hN, hT, hA, hlk, hr, hnm⟩ := G
  intro H locs ls hP hD hS hl
  exact lv_istore_n hx hb hdg rfl hl hn hl' (fun ls' hl2 => kk H locs ls' hP hD hS hl2)
theorem j_astore_n (G : jG x l0 D0 Y cc own Ts nL0 R0 ret nm) {q : Fin 4} {v : Nat} {lv' : List (Nat × Value)} (hdg : decode cc pc = .ok (.astore_n q, 1)) (hn : (q : Nat) < nL0) (hl' : ((q : Nat), Value.ref v) :: lv.filter (fun r => !(r.1 == (q : Nat)) && !(r.1 + 1 == (q : Nat) && r.2.category == 2)) = lv') (kk : J x k n ws (pc + 1) lv' st) : J x k n ws pc lv (.ref v :: st) := by
  obtain ⟨p, l, e, R, s, m, args, below, meth, c, Q, D, A, nL⟩ := x
  obtain ⟨rfl, rfl, rfl, rfl, hx, hb, hml, hown, hts, hK, hN, hT, hA, hlk, hr, hnm⟩ := G
  intro H locs ls hP hD hS hl
  exact lv_astore_n hx hb hdg rfl hl hn hl' (fun ls' hl2 => kk H locs ls' hP hD hS hl2)
theorem j_istore (G : jG x l0 D0 Y cc own Ts nL0 R0 ret nm) {q : Nat} {v : Int32} {lv' : List (Nat × Value)} (hdg : decode cc pc = .ok (.istore q, 2)) (hn : q < nL0) (hl' : (q, Value.int v) :: lv.filter (fun r => !(r.1 == q) && !(r.1 + 1 == q && r.2.category == 2)) = lv') (kk : J x k n ws (pc + 2) lv' st) : J x k n ws pc lv (.int v :: st) := by
  obtain ⟨p, l, e, R, s, m, args, below, meth, c, Q, D, A, nL⟩ := x
  obtain ⟨rfl, rfl, rfl, rfl, hx, hb, hml, hown, hts, hK, hN, hT, hA, hlk, hr, hnm⟩ := G
  intro H locs ls hP hD hS hl
  exact lv_istore hx hb hdg hl hn hl' (fun ls' hl2 => kk H locs ls' hP hD hS hl2)
theorem j_astore (G : jG x l0 D0 Y cc own Ts nL0 R0 ret nm) {q : Nat} {v : Nat} {lv' : List (Nat × Value)} (hdg : decode cc pc = .ok (.astore q, 2)) (hn : q < nL0) (hl' : (q, Value.ref v) :: lv.filter (fun r => !(r.1 == q) && !(r.1 + 1 == q && r.2.category == 2)) = lv') (kk : J x k n ws (pc + 2) lv' st) : J x k n ws pc lv (.ref v :: st) := by
  obtain ⟨p, l, e, R, s, m, args, below, meth, c, Q, D, A, nL⟩ := x
  obtain ⟨rfl, rfl, rfl, rfl, hx, hb, hml, hown, hts, hK, hN, hT, hA, hlk, hr, hnm⟩ := G
  intro H locs ls hP hD hS hl
  exact lv_astore hx hb hdg hl hn hl' (fun ls' hl2 => kk H locs ls' hP hD hS hl2)
theorem j_iinc (G : jG x l0 D0 Y cc own Ts nL0 R0 ret nm) {q : Nat} {d : Int} {v w : Int} {lv' : List (Nat × Value)} (i : Nat) (hdg : decode cc pc = .ok (.iinc q d, 3)) (hi : lv[i]? = some (q, .int (jI v))) (hw : v + d = w) (hn : q < nL0) (hl' : (q, Value.int (jI w)) :: lv.filter (fun r => !(r.1 == q) && !(r.1 + 1 == q && r.2.category == 2)) = lv') (kk : J x k n ws (pc + 3) lv' st) : J x k n ws pc lv st := by
  obtain ⟨p, l, e, R, s, m, args, below, meth, c, Q, D, A, nL⟩ := x
  obtain ⟨rfl, rfl, rfl, rfl, hx, hb, hml, hown, hts, hK, hN, hT, hA, hlk, hr, hnm⟩ := G
  intro H locs ls hP hD hS hl
  exact lv_iinc hx hb hdg hl hi (by rw [← hw]; exact jI_add v d) hn hl' (fun ls' hl2 => kk H locs ls' hP hD hS hl2)
theorem j_iadd (G : jG x l0 D0 Y cc own Ts nL0 R0 ret nm) {a b : Int} (hdg : decode cc pc = .ok (.iadd, 1)) (kk : J x k n ws (pc + 1) lv (.int (jI (a + b)) :: st)) : J x k n ws pc lv (.int (jI b) :: .int (jI a) :: st) := by
  obtain ⟨p, l, e, R, s, m, args, below, meth, c, Q, D, A, nL⟩ := x
  obtain ⟨rfl, rfl, rfl, rfl, hx, hb, hml, hown, hts, hK, hN, hT, hA, hlk, hr, hnm⟩ := G
  intro H locs ls hP hD hS hl
  exact lv_iadd hx hb hdg (by rw [jI_add a b]; exact kk H locs ls hP hD hS hl)
theorem j_isub (G : jG x l0 D0 Y cc own Ts nL0 R0 ret nm) {a b : Int} (hdg : decode cc pc = .ok (.isub, 1)) (kk : J x k n ws (pc + 1) lv (.int (jI (a - b)) :: st)) : J x k n ws pc lv (.int (jI b) :: .int (jI a) :: st) := by
  obtain ⟨p, l, e, R, s, m, args, below, meth, c, Q, D, A, nL⟩ := x
  obtain ⟨rfl, rfl, rfl, rfl, hx, hb, hml, hown, hts, hK, hN, hT, hA, hlk, hr, hnm⟩ := G
  intro H locs ls hP hD hS hl
  exact lv_isub hx hb hdg (by rw [jI_sub a b]; exact kk H locs ls hP hD hS hl)
theorem j_imul (G : jG x l0 D0 Y cc own Ts nL0 R0 ret nm) {a b : Int} (hdg : decode cc pc = .ok (.imul, 1)) (kk : J x k n ws (pc + 1) lv (.int (jI (a * b)) :: st)) : J x k n ws pc lv (.int (jI b) :: .int (jI a) :: st) := by
  obtain ⟨p, l, e, R, s, m, args, below, meth, c, Q, D, A, nL⟩ := x
  obtain ⟨rfl, rfl, rfl, rfl, hx, hb, hml, hown, hts, hK, hN, hT, hA, hlk, hr, hnm⟩ := G
  intro H locs ls hP hD hS hl
  exact lv_imul hx hb hdg (by rw [jI_mul a b]; exact kk H locs ls hP hD hS hl)
theorem j_ineg (G : jG x l0 D0 Y cc own Ts nL0 R0 ret nm) {a : Int} (hdg : decode cc pc = .ok (.ineg, 1)) (kk : J x k n ws (pc + 1) lv (.int (jI (-a)) :: st)) : J x k n ws pc lv (.int (jI a) :: st) := by
  obtain ⟨p, l, e, R, s, m, args, below, meth, c, Q, D, A, nL⟩ := x
  obtain ⟨rfl, rfl, rfl, rfl, hx, hb, hml, hown, hts, hK, hN, hT, hA, hlk, hr, hnm⟩ := G
  intro H locs ls hP hD hS hl
  exact lv_ineg hx hb hdg (by rw [jI_neg a]; exact kk H locs ls hP hD hS hl)
theorem j_idiv (G : jG x l0 D0 Y cc own Ts nL0 R0 ret nm) {a b : Int} (hdg : decode cc pc = .ok (.idiv, 1)) (ha : 0 ≤ a ∧ a < 2147483648) (hb' : 0 < b ∧ b < 2147483648) (kk : J x k n ws (pc + 1) lv (.int (jI (a / b)) :: st)) : J x k n ws pc lv (.int (jI b) :: .int (jI a) :: st) := by
  obtain ⟨p, l, e, R, s, m, args, below, meth, c, Q, D, A, nL⟩ := x
  obtain ⟨rfl, rfl, rfl, rfl, hx, hb, hml, hown, hts, hK, hN, hT, hA, hlk, hr, hnm⟩ := G
  intro H locs ls hP hD hS hl
  exact lv_idiv hx hb hdg (fun q => by have h1 := jI_T (a := b) (by omega); rw [q, Int32.toInt_zero] at h1; omega) (by rw [jI_div ha hb']; exact kk H locs ls hP hD hS hl)
theorem j_irem (G : jG x l0 D0 Y cc own Ts nL0 R0 ret nm) {a b : Int} (hdg : decode cc pc = .ok (.irem, 1)) (ha : 0 ≤ a ∧ a < 2147483648) (hb' : 0 < b ∧ b < 2147483648) (kk : J x k n ws (pc + 1) lv (.int (jI (a % b)) :: st)) : J x k n ws pc lv (.int (jI b) :: .int (jI a) :: st) := by
  obtain ⟨p, l, e, R, s, m, args, below, meth, c, Q, D, A, nL⟩ := x
  obtain ⟨rfl, rfl, rfl, rfl, hx, hb, hml, hown, hts, hK, hN, hT, hA, hlk, hr, hnm⟩ := G
  intro H locs ls hP hD hS hl
  exact lv_irem hx hb hdg (fun q => by have h1 := jI_T (a := b) (by omega); rw [q, Int32.toInt_zero] at h1; omega) (by rw [jI_rem ha hb']; exact kk H locs ls hP hD hS hl)
theorem j_dup (G : jG x l0 D0 Y cc own Ts nL0 R0 ret nm) {v : Value} (hdg : decode cc pc = .ok (.dup, 1)) (hc : v.category = 1) (kk : J x k n ws (pc + 1) lv (v :: v :: st)) : J x k n ws pc lv (v :: st) := by
  obtain ⟨p, l, e, R, s, m, args, below, meth, c, Q, D, A, nL⟩ := x
  obtain ⟨rfl, rfl, rfl, rfl, hx, hb, hml, hown, hts, hK, hN, hT, hA, hlk, hr, hnm⟩ := G
  intro H locs ls hP hD hS hl
  exact lv_dup hx hb hdg hc (kk H locs ls hP hD hS hl)
theorem j_pop (G : jG x l0 D0 Y cc own Ts nL0 R0 ret nm) {v : Value} (hdg : decode cc pc = .ok (.pop, 1)) (hc : v.category = 1) (kk : J x k n ws (pc + 1) lv st) : J x k n ws pc lv (v :: st) := by
  obtain ⟨p, l, e, R, s, m, args, below, meth, c, Q, D, A, nL⟩ := x
  obtain ⟨rfl, rfl, rfl, rfl, hx, hb, hml, hown, hts, hK, hN, hT, hA, hlk, hr, hnm⟩ := G
  intro H locs ls hP hD hS hl
  exact lv_pop hx hb hdg hc (kk H locs ls hP hD hS hl)
theorem j_dup2 (G : jG x l0 D0 Y cc own Ts nL0 R0 ret nm) {v w : Value} (hdg : decode cc pc = .ok (.dup2, 1)) (hc : v.category = 1) (hc2 : w.category = 1) (kk : J x k n ws (pc + 1) lv (v :: w :: v :: w :: st)) : J x k n ws pc lv (v :: w :: st) := by
  obtain ⟨p, l, e, R, s, m, args, below, meth, c, Q, D, A, nL⟩ := x
  obtain ⟨rfl, rfl, rfl, rfl, hx, hb, hml, hown, hts, hK, hN, hT, hA, hlk, hr, hnm⟩ := G
  intro H locs ls hP hD hS hl
  exact lv_dup2_11 hx hb hdg hc hc2 (kk H locs ls hP hD hS hl)
theorem j_goto (G : jG x l0 D0 Y cc own Ts nL0 R0 ret nm) {off : Int} {tgt : Nat} (hdg : decode cc pc = .ok (.goto off, 3)) (ht : (pc : Int) + off = (tgt : Int)) (kk : J x k n ws tgt lv st) : J x k n ws pc lv st := by
  obtain ⟨p, l, e, R, s, m, args, below, meth, c, Q, D, A, nL⟩ := x
  obtain ⟨rfl, rfl, rfl, rfl, hx, hb, hml, hown, hts, hK, hN, hT, hA, hlk, hr, hnm⟩ := G
  intro H locs ls hP hD hS hl
  exact lv_goto hx hb hdg ht (kk H locs ls hP hD hS hl)
theorem j_icmp_eq (G : jG x l0 D0 Y cc own Ts nL0 R0 ret nm) {a b off : Int} {tgt : Nat} (hdg : decode cc pc = .ok (.if_icmp .eq off, 3)) (ht : (pc : Int) + off = (tgt : Int)) (ha : -2147483648 ≤ a ∧ a < 2147483648) (hb' : -2147483648 ≤ b ∧ b < 2147483648) (kt : a = b → J x k n ws tgt lv st) (kf : ¬ a = b → J x k n ws (pc + 3) lv st) : J x k n ws pc lv (.int (jI b) :: .int (jI a) :: st) := by
  obtain ⟨p, l, e, R, s, m, args, below, meth, c, Q, D, A, nL⟩ := x
  obtain ⟨rfl, rfl, rfl, rfl, hx, hb, hml, hown, hts, hK, hN, hT, hA, hlk, hr, hnm⟩ := G
  intro H locs ls hP hD hS hl
  exact lv_icmp_eq hx hb hdg ht (fun q => kt ((jI_eq ha hb').mp q) H locs ls hP hD hS hl) (fun q => kf (fun z => q ((jI_eq ha hb').mpr z)) H locs ls hP hD hS hl)
theorem j_if_eq (G : jG x l0 D0 Y cc own Ts nL0 R0 ret nm) {a off : Int} {tgt : Nat} (hdg : decode cc pc = .ok (.ifCond .eq off, 3)) (ht : (pc : Int) + off = (tgt : Int)) (ha : -2147483648 ≤ a ∧ a < 2147483648) (kt : a = 0 → J x k n ws tgt lv st) (kf : ¬ a = 0 → J x k n ws (pc + 3) lv st) : J x k n ws pc lv (.int (jI a) :: st) := by
  obtain ⟨p, l, e, R, s, m, args, below, meth, c, Q, D, A, nL⟩ := x
  obtain ⟨rfl, rfl, rfl, rfl, hx, hb, hml, hown, hts, hK, hN, hT, hA, hlk, hr, hnm⟩ := G
  intro H locs ls hP hD hS hl
  have h0 : -2147483648 ≤ (0 : Int) ∧ (0 : Int) < 2147483648 := by omega
  have e0 : (0 : Int32) = jI 0 := rfl
  refine lv_if_eq hx hb hdg ht (fun q => ?_) (fun q => ?_)
  · rw [e0] at q
    exact (fun q => kt ((jI_eq ha h0).mp q) H locs ls hP hD hS hl) q
  · rw [e0] at q
    exact (fun q => kf (fun z => q ((jI_eq ha h0).mpr z)) H locs ls hP hD hS hl) q
theorem j_icmp_ne (G : jG x l0 D0 Y cc own Ts nL0 R0 ret nm) {a b off : Int} {tgt : Nat} (hdg : decode cc pc = .ok (.if_icmp .ne off, 3)) (ht : (pc : Int) + off = (tgt : Int)) (ha : -2147483648 ≤ a ∧ a < 2147483648) (hb' : -2147483648 ≤ b ∧ b < 2147483648) (kt : ¬ a = b → J x k n ws tgt lv st) (kf : a = b → J x k n ws (pc + 3) lv st) : J x k n ws pc lv (.int (jI b) :: .int (jI a) :: st) := by
  obtain ⟨p, l, e, R, s, m, args, below, meth, c, Q, D, A, nL⟩ := x
  obtain ⟨rfl, rfl, rfl, rfl, hx, hb, hml, hown, hts, hK, hN, hT, hA, hlk, hr, hnm⟩ := G
  intro H locs ls hP hD hS hl
  exact lv_icmp_ne hx hb hdg ht (fun q => kt (fun z => q ((jI_eq ha hb').mpr z)) H locs ls hP hD hS hl) (fun q => kf ((jI_eq ha hb').mp q) H locs ls hP hD hS hl)
theorem j_if_ne (G : jG x l0 D0 Y cc own Ts nL0 R0 ret nm) {a off : Int} {tgt : Nat} (hdg : decode cc pc = .ok (.ifCond .ne off, 3)) (ht : (pc : Int) + off = (tgt : Int)) (ha : -2147483648 ≤ a ∧ a < 2147483648) (kt : ¬ a = 0 → J x k n ws tgt lv st) (kf : a = 0 → J x k n ws (pc + 3) lv st) : J x k n ws pc lv (.int (jI a) :: st) := by
  obtain ⟨p, l, e, R, s, m, args, below, meth, c, Q, D, A, nL⟩ := x
  obtain ⟨rfl, rfl, rfl, rfl, hx, hb, hml, hown, hts, hK, hN, hT, hA, hlk, hr, hnm⟩ := G
  intro H locs ls hP hD hS hl
  have h0 : -2147483648 ≤ (0 : Int) ∧ (0 : Int) < 2147483648 := by omega
  have e0 : (0 : Int32) = jI 0 := rfl
  refine lv_if_ne hx hb hdg ht (fun q => ?_) (fun q => ?_)
  · rw [e0] at q
    exact (fun q => kt (fun z => q ((jI_eq ha h0).mpr z)) H locs ls hP hD hS hl) q
  · rw [e0] at q
    exact (fun q => kf ((jI_eq ha h0).mp q) H locs ls hP hD hS hl) q
theorem j_icmp_lt (G : jG x l0 D0 Y cc own Ts nL0 R0 ret nm) {a b off : Int} {tgt : Nat} (hdg : decode cc pc = .ok (.if_icmp .lt off, 3)) (ht : (pc : Int) + off = (tgt : Int)) (ha : -2147483648 ≤ a ∧ a < 2147483648) (hb' : -2147483648 ≤ b ∧ b < 2147483648) (kt : a < b → J x k n ws tgt lv st) (kf : b ≤ a → J x k n ws (pc + 3) lv st) : J x k n ws pc lv (.int (jI b) :: .int (jI a) :: st) := by
  obtain ⟨p, l, e, R, s, m, args, below, meth, c, Q, D, A, nL⟩ := x
  obtain ⟨rfl, rfl, rfl, rfl, hx, hb, hml, hown, hts, hK, hN, hT, hA, hlk, hr, hnm⟩ := G
  intro H locs ls hP hD hS hl
  exact lv_icmp_lt hx hb hdg ht (fun q => kt ((jI_lt ha hb').mp q) H locs ls hP hD hS hl) (fun q => kf (by have z : ¬ a < b := fun w => q ((jI_lt ha hb').mpr w); omega) H locs ls hP hD hS hl)
theorem j_if_lt (G : jG x l0 D0 Y cc own Ts nL0 R0 ret nm) {a off : Int} {tgt : Nat} (hdg : decode cc pc = .ok (.ifCond .lt off, 3)) (ht : (pc : Int) + off = (tgt : Int)) (ha : -2147483648 ≤ a ∧ a < 2147483648) (kt : a < 0 → J x k n ws tgt lv st) (kf : 0 ≤ a → J x k n ws (pc + 3) lv st) : J x k n ws pc lv (.int (jI a) :: st) := by
  obtain ⟨p, l, e, R, s, m, args, below, meth, c, Q, D, A, nL⟩ := x
  obtain ⟨rfl, rfl, rfl, rfl, hx, hb, hml, hown, hts, hK, hN, hT, hA, hlk, hr, hnm⟩ := G
  intro H locs ls hP hD hS hl
  have h0 : -2147483648 ≤ (0 : Int) ∧ (0 : Int) < 2147483648 := by omega
  have e0 : (0 : Int32) = jI 0 := rfl
  refine lv_if_lt hx hb hdg ht (fun q => ?_) (fun q => ?_)
  · rw [e0] at q
    exact (fun q => kt ((jI_lt ha h0).mp q) H locs ls hP hD hS hl) q
  · rw [e0] at q
    exact (fun q => kf (by have z : ¬ a < 0 := fun w => q ((jI_lt ha h0).mpr w); omega) H locs ls hP hD hS hl) q
theorem j_icmp_ge (G : jG x l0 D0 Y cc own Ts nL0 R0 ret nm) {a b off : Int} {tgt : Nat} (hdg : decode cc pc = .ok (.if_icmp .ge off, 3)) (ht : (pc : Int) + off = (tgt : Int)) (ha : -2147483648 ≤ a ∧ a < 2147483648) (hb' : -2147483648 ≤ b ∧ b < 2147483648) (kt : b ≤ a → J x k n ws tgt lv st) (kf : a < b → J x k n ws (pc + 3) lv st) : J x k n ws pc lv (.int (jI b) :: .int (jI a) :: st) := by
  obtain ⟨p, l, e, R, s, m, args, below, meth, c, Q, D, A, nL⟩ := x
  obtain ⟨rfl, rfl, rfl, rfl, hx, hb, hml, hown, hts, hK, hN, hT, hA, hlk, hr, hnm⟩ := G
  intro H locs ls hP hD hS hl
  exact lv_icmp_ge hx hb hdg ht (fun q => kt ((jI_le hb' ha).mp q) H locs ls hP hD hS hl) (fun q => kf (by have z : ¬ b ≤ a := fun w => q ((jI_le hb' ha).mpr w); omega) H locs ls hP hD hS hl)
theorem j_if_ge (G : jG x l0 D0 Y cc own Ts nL0 R0 ret nm) {a off : Int} {tgt : Nat} (hdg : decode cc pc = .ok (.ifCond .ge off, 3)) (ht : (pc : Int) + off = (tgt : Int)) (ha : -2147483648 ≤ a ∧ a < 2147483648) (kt : 0 ≤ a → J x k n ws tgt lv st) (kf : a < 0 → J x k n ws (pc + 3) lv st) : J x k n ws pc lv (.int (jI a) :: st) := by
  obtain ⟨p, l, e, R, s, m, args, below, meth, c, Q, D, A, nL⟩ := x
  obtain ⟨rfl, rfl, rfl, rfl, hx, hb, hml, hown, hts, hK, hN, hT, hA, hlk, hr, hnm⟩ := G
  intro H locs ls hP hD hS hl
  have h0 : -2147483648 ≤ (0 : Int) ∧ (0 : Int) < 2147483648 := by omega
  have e0 : (0 : Int32) = jI 0 := rfl
  refine lv_if_ge hx hb hdg ht (fun q => ?_) (fun q => ?_)
  · rw [e0] at q
    exact (fun q => kt ((jI_le h0 ha).mp q) H locs ls hP hD hS hl) q
  · rw [e0] at q
    exact (fun q => kf (by have z : ¬ 0 ≤ a := fun w => q ((jI_le h0 ha).mpr w); omega) H locs ls hP hD hS hl) q
theorem j_icmp_gt (G : jG x l0 D0 Y cc own Ts nL0 R0 ret nm) {a b off : Int} {tgt : Nat} (hdg : decode cc pc = .ok (.if_icmp .gt off, 3)) (ht : (pc : Int) + off = (tgt : Int)) (ha : -2147483648 ≤ a ∧ a < 2147483648) (hb' : -2147483648 ≤ b ∧ b < 2147483648) (kt : b < a → J x k n ws tgt lv st) (kf : a ≤ b → J x k n ws (pc + 3) lv st) : J x k n ws pc lv (.int (jI b) :: .int (jI a) :: st) := by
  obtain ⟨p, l, e, R, s, m, args, below, meth, c, Q, D, A, nL⟩ := x
  obtain ⟨rfl, rfl, rfl, rfl, hx, hb, hml, hown, hts, hK, hN, hT, hA, hlk, hr, hnm⟩ := G
  intro H locs ls hP hD hS hl
  exact lv_icmp_gt hx hb hdg ht (fun q => kt ((jI_lt hb' ha).mp q) H locs ls hP hD hS hl) (fun q => kf (by have z : ¬ b < a := fun w => q ((jI_lt hb' ha).mpr w); omega) H locs ls hP hD hS hl)
theorem j_if_gt (G : jG x l0 D0 Y cc own Ts nL0 R0 ret nm) {a off : Int} {tgt : Nat} (hdg : decode cc pc = .ok (.ifCond .gt off, 3)) (ht : (pc : Int) + off = (tgt : Int)) (ha : -2147483648 ≤ a ∧ a < 2147483648) (kt : 0 < a → J x k n ws tgt lv st) (kf : a ≤ 0 → J x k n ws (pc + 3) lv st) : J x k n ws pc lv (.int (jI a) :: st) := by
  obtain ⟨p, l, e, R, s, m, args, below, meth, c, Q, D, A, nL⟩ := x
  obtain ⟨rfl, rfl, rfl, rfl, hx, hb, hml, hown, hts, hK, hN, hT, hA, hlk, hr, hnm⟩ := G
  intro H locs ls hP hD hS hl
  have h0 : -2147483648 ≤ (0 : Int) ∧ (0 : Int) < 2147483648 := by omega
  have e0 : (0 : Int32) = jI 0 := rfl
  refine lv_if_gt hx hb hdg ht (fun q => ?_) (fun q => ?_)
  · rw [e0] at q
    exact (fun q => kt ((jI_lt h0 ha).mp q) H locs ls hP hD hS hl) q
  · rw [e0] at q
    exact (fun q => kf (by have z : ¬ 0 < a := fun w => q ((jI_lt h0 ha).mpr w); omega) H locs ls hP hD hS hl) q
theorem j_icmp_le (G : jG x l0 D0 Y cc own Ts nL0 R0 ret nm) {a b off : Int} {tgt : Nat} (hdg : decode cc pc = .ok (.if_icmp .le off, 3)) (ht : (pc : Int) + off = (tgt : Int)) (ha : -2147483648 ≤ a ∧ a < 2147483648) (hb' : -2147483648 ≤ b ∧ b < 2147483648) (kt : a ≤ b → J x k n ws tgt lv st) (kf : b < a → J x k n ws (pc + 3) lv st) : J x k n ws pc lv (.int (jI b) :: .int (jI a) :: st) := by
  obtain ⟨p, l, e, R, s, m, args, below, meth, c, Q, D, A, nL⟩ := x
  obtain ⟨rfl, rfl, rfl, rfl, hx, hb, hml, hown, hts, hK, hN, hT, hA, hlk, hr, hnm⟩ := G
  intro H locs ls hP hD hS hl
  exact lv_icmp_le hx hb hdg ht (fun q => kt ((jI_le ha hb').mp q) H locs ls hP hD hS hl) (fun q => kf (by have z : ¬ a ≤ b := fun w => q ((jI_le ha hb').mpr w); omega) H locs ls hP hD hS hl)
theorem j_if_le (G : jG x l0 D0 Y cc own Ts nL0 R0 ret nm) {a off : Int} {tgt : Nat} (hdg : decode cc pc = .ok (.ifCond .le off, 3)) (ht : (pc : Int) + off = (tgt : Int)) (ha : -2147483648 ≤ a ∧ a < 2147483648) (kt : a ≤ 0 → J x k n ws tgt lv st) (kf : 0 < a → J x k n ws (pc + 3) lv st) : J x k n ws pc lv (.int (jI a) :: st) := by
  obtain ⟨p, l, e, R, s, m, args, below, meth, c, Q, D, A, nL⟩ := x
  obtain ⟨rfl, rfl, rfl, rfl, hx, hb, hml, hown, hts, hK, hN, hT, hA, hlk, hr, hnm⟩ := G
  intro H locs ls hP hD hS hl
  have h0 : -2147483648 ≤ (0 : Int) ∧ (0 : Int) < 2147483648 := by omega
  have e0 : (0 : Int32) = jI 0 := rfl
  refine lv_if_le hx hb hdg ht (fun q => ?_) (fun q => ?_)
  · rw [e0] at q
    exact (fun q => kt ((jI_le ha h0).mp q) H locs ls hP hD hS hl) q
  · rw [e0] at q
    exact (fun q => kf (by have z : ¬ a ≤ 0 := fun w => q ((jI_le ha h0).mpr w); omega) H locs ls hP hD hS hl) q
theorem j_ifz_eq (G : jG x l0 D0 Y cc own Ts nL0 R0 ret nm) {P : Prop} {hd : Decidable P} {off : Int} {tgt : Nat} (hdg : decode cc pc = .ok (.ifCond .eq off, 3)) (ht : (pc : Int) + off = (tgt : Int)) (kt : ¬ P → J x k n ws tgt lv st) (kf : P → J x k n ws (pc + 3) lv st) : J x k n ws pc lv (.int (jI (if P then 1 else 0)) :: st) := by
  obtain ⟨p, l, e, R, s, m, args, below, meth, c, Q, D, A, nL⟩ := x
  obtain ⟨rfl, rfl, rfl, rfl, hx, hb, hml, hown, hts, hK, hN, hT, hA, hlk, hr, hnm⟩ := G
  intro H locs ls hP hD hS hl
  have e1 : P → ¬ (jI (if P then 1 else 0)) = 0 := fun q => by rw [if_pos q]; decide
  have e0 : ¬ P → (jI (if P then 1 else 0)) = 0 := fun q => by rw [if_neg q]; decide
  exact lv_if_eq hx hb hdg ht (fun q => kt (fun z => e1 z q) H locs ls hP hD hS hl) (fun q => kf (Classical.byContradiction fun z => q (e0 z)) H locs ls hP hD hS hl)
theorem j_ifz_ne (G : jG x l0 D0 Y cc own Ts nL0 R0 ret nm) {P : Prop} {hd : Decidable P} {off : Int} {tgt : Nat} (hdg : decode cc pc = .ok (.ifCond .ne off, 3)) (ht : (pc : Int) + off = (tgt : Int)) (kt : P → J x k n ws tgt lv st) (kf : ¬ P → J x k n ws (pc + 3) lv st) : J x k n ws pc lv (.int (jI (if P then 1 else 0)) :: st) := by
  obtain ⟨p, l, e, R, s, m, args, below, meth, c, Q, D, A, nL⟩ := x
  obtain ⟨rfl, rfl, rfl, rfl, hx, hb, hml, hown, hts, hK, hN, hT, hA, hlk, hr, hnm⟩ := G
  intro H locs ls hP hD hS hl
  have e1 : P → ¬ (jI (if P then 1 else 0)) = 0 := fun q => by rw [if_pos q]; decide
  have e0 : ¬ P → (jI (if P then 1 else 0)) = 0 := fun q => by rw [if_neg q]; decide
  exact lv_if_ne hx hb hdg ht (fun q => kt (Classical.byContradiction fun z => q (e0 z)) H locs ls hP hD hS hl) (fun q => kf (fun z => e1 z q) H locs ls hP hD hS hl)
theorem j_iald (G : jG x l0 D0 Y cc own Ts nL0 R0 ret nm) {a : Nat} {N : Nat} {f : Int → Int} {i v : Int} (q0 : Nat) (hdg : decode cc pc = .ok (.iaload, 1)) (ha : ws[q0]? = some (a, .inl (Y 0, N, .inl (aI f)))) (hi : 0 ≤ i ∧ i < N ∧ N < 2147483648) (hv : f i = v) (kk : J x k n ws (pc + 1) lv (.int (jI v) :: st)) : J x k n ws pc lv (.int (jI i) :: .ref a :: st) := by
  obtain ⟨p, l, e, R, s, m, args, below, meth, c, Q, D, A, nL⟩ := x
  obtain ⟨rfl, rfl, rfl, rfl, hx, hb, hml, hown, hts, hK, hN, hT, hA, hlk, hr, hnm⟩ := G
  intro H locs ls hP hD hS hl
  refine va_iald hx hb hK hP q0 0 ha rfl (jI_in (by omega) (by omega)) hdg ?_
  rw [aI_at f (by omega), hv]
  exact kk H locs ls hP hD hS hl
theorem j_zald (G : jG x l0 D0 Y cc own Ts nL0 R0 ret nm) {a : Nat} {N : Nat} {f : Int → Int} {i v : Int} (q0 : Nat) (hdg : decode cc pc = .ok (.baload, 1)) (ha : ws[q0]? = some (a, .inl (Y 1, N, .inl (aI f)))) (hi : 0 ≤ i ∧ i < N ∧ N < 2147483648) (hv : f i = v) (kk : J x k n ws (pc + 1) lv (.int (jI v) :: st)) : J x k n ws pc lv (.int (jI i) :: .ref a :: st) := by
  obtain ⟨p, l, e, R, s, m, args, below, meth, c, Q, D, A, nL⟩ := x
  obtain ⟨rfl, rfl, rfl, rfl, hx, hb, hml, hown, hts, hK, hN, hT, hA, hlk, hr, hnm⟩ := G
  intro H locs ls hP hD hS hl
  refine va_zald hx hb hK hP q0 1 ha rfl (jI_in (by omega) (by omega)) hdg ?_
  rw [aI_at f (by omega), hv]
  exact kk H locs ls hP hD hS hl
theorem j_cald (G : jG x l0 D0 Y cc own Ts nL0 R0 ret nm) {a : Nat} {N : Nat} {f : Int → Int} {i v : Int} (q0 : Nat) (hdg : decode cc pc = .ok (.caload, 1)) (ha : ws[q0]? = some (a, .inl (Y 2, N, .inl (aI f)))) (hi : 0 ≤ i ∧ i < N ∧ N < 2147483648) (hv : f i = v) (kk : J x k n ws (pc + 1) lv (.int (jI v) :: st)) : J x k n ws pc lv (.int (jI i) :: .ref a :: st) := by
  obtain ⟨p, l, e, R, s, m, args, below, meth, c, Q, D, A, nL⟩ := x
  obtain ⟨rfl, rfl, rfl, rfl, hx, hb, hml, hown, hts, hK, hN, hT, hA, hlk, hr, hnm⟩ := G
  intro H locs ls hP hD hS hl
  refine va_cald hx hb hK hP q0 2 ha rfl (jI_in (by omega) (by omega)) hdg ?_
  rw [aI_at f (by omega), hv]
  exact kk H locs ls hP hD hS hl
theorem j_aald (G : jG x l0 D0 Y cc own Ts nL0 R0 ret nm) {a r : Nat} {N : Nat} {f : Nat → Option Nat} {i : Int} (q0 : Nat) (hdg : decode cc pc = .ok (.aaload, 1)) (ha : ws[q0]? = some (a, .inl (Y 3, N, .inr (.inr (.inr (.inr f)))))) (hi : 0 ≤ i ∧ i < N ∧ N < 2147483648) (hv : f i.toNat = some r) (kk : J x k n ws (pc + 1) lv (.ref r :: st)) : J x k n ws pc lv (.int (jI i) :: .ref a :: st) := by
  obtain ⟨p, l, e, R, s, m, args, below, meth, c, Q, D, A, nL⟩ := x
  obtain ⟨rfl, rfl, rfl, rfl, hx, hb, hml, hown, hts, hK, hN, hT, hA, hlk, hr, hnm⟩ := G
  intro H locs ls hP hD hS hl
  refine va_aldq (C := RX3) hx hb hK hP q0 3 ha rfl (jI_in (by omega) (by omega)) hdg ?_
  rw [jI_cl (by omega), hv]
  exact kk H locs ls hP hD hS hl
theorem j_iast (G : jG x l0 D0 Y cc own Ts nL0 R0 ret nm) {a : Nat} {N : Nat} {f : Int → Int} {i v : Int} {ws' : va_W} (q0 : Nat) (hdg : decode cc pc = .ok (.iastore, 1)) (ha : ws[q0]? = some (a, .inl (Y 0, N, .inl (aI f)))) (hi : 0 ≤ i ∧ i < N ∧ N < 2147483648) (hw : ws.set q0 (a, .inl (Y 0, N, .inl (aI (upZ f i v)))) = ws') (kk : J x k n ws' (pc + 1) lv st) : J x k n ws pc lv (.int (jI v) :: .int (jI i) :: .ref a :: st) := by
  obtain ⟨p, l, e, R, s, m, args, below, meth, c, Q, D, A, nL⟩ := x
  obtain ⟨rfl, rfl, rfl, rfl, hx, hb, hml, hown, hts, hK, hN, hT, hA, hlk, hr, hnm⟩ := G
  intro H locs ls hP hD hS hl
  refine va_iast hx hb hK hP hD hS q0 0 ha rfl (jI_in (by omega) (by omega)) hdg (fun H1 locs1 hP1 hD1 hS1 => ?_)
  rw [aI_upd f (by omega) v, hw] at hP1 hD1
  exact kk H1 locs1 ls hP1 hD1 hS1 hl
theorem j_zast (G : jG x l0 D0 Y cc own Ts nL0 R0 ret nm) {a : Nat} {N : Nat} {f : Int → Int} {i v : Int} {ws' : va_W} (q0 : Nat) (hdg : decode cc pc = .ok (.bastore, 1)) (ha : ws[q0]? = some (a, .inl (Y 1, N, .inl (aI f)))) (hi : 0 ≤ i ∧ i < N ∧ N < 2147483648) (hz : v = 0 ∨ v = 1) (hw : ws.set q0 (a, .inl (Y 1, N, .inl (aI (upZ f i v)))) = ws') (kk : J x k n ws' (pc + 1) lv st) : J x k n ws pc lv (.int (jI v) :: .int (jI i) :: .ref a :: st) := by
  obtain ⟨p, l, e, R, s, m, args, below, meth, c, Q, D, A, nL⟩ := x
  obtain ⟨rfl, rfl, rfl, rfl, hx, hb, hml, hown, hts, hK, hN, hT, hA, hlk, hr, hnm⟩ := G
  intro H locs ls hP hD hS hl
  refine va_zast hx hb hK hP hD hS q0 1 ha rfl (jI_in (by omega) (by omega)) hdg (fun H1 locs1 hP1 hD1 hS1 => ?_)
  rw [jI_nz hz, aI_upd f (by omega) v, hw] at hP1 hD1
  exact kk H1 locs1 ls hP1 hD1 hS1 hl
theorem j_cast (G : jG x l0 D0 Y cc own Ts nL0 R0 ret nm) {a : Nat} {N : Nat} {f : Int → Int} {i v : Int} {ws' : va_W} (q0 : Nat) (hdg : decode cc pc = .ok (.castore, 1)) (ha : ws[q0]? = some (a, .inl (Y 2, N, .inl (aI f)))) (hi : 0 ≤ i ∧ i < N ∧ N < 2147483648) (hz : 0 ≤ v ∧ v < 65536) (hw : ws.set q0 (a, .inl (Y 2, N, .inl (aI (upZ f i v)))) = ws') (kk : J x k n ws' (pc + 1) lv st) : J x k n ws pc lv (.int (jI v) :: .int (jI i) :: .ref a :: st) := by
  obtain ⟨p, l, e, R, s, m, args, below, meth, c, Q, D, A, nL⟩ := x
  obtain ⟨rfl, rfl, rfl, rfl, hx, hb, hml, hown, hts, hK, hN, hT, hA, hlk, hr, hnm⟩ := G
  intro H locs ls hP hD hS hl
  refine va_cast hx hb hK hP hD hS q0 2 ha rfl (jI_in (by omega) (by omega)) hdg (fun H1 locs1 hP1 hD1 hS1 => ?_)
  rw [jI_nc hz, aI_upd f (by omega) v, hw] at hP1 hD1
  exact kk H1 locs1 ls hP1 hD1 hS1 hl
theorem j_aast (G : jG x l0 D0 Y cc own Ts nL0 R0 ret nm) {a v : Nat} {N : Nat} {vs : List Value} {f : Nat → Option Nat} {i : Int} {ws' : va_W} (q0 q1 : Nat) (hdg : decode cc pc = .ok (.aastore, 1)) (ha : ws[q0]? = some (a, .inl (Y 3, N, .inr (.inr (.inr (.inr f)))))) (hv : ws[q1]? = some (v, .inr (3, vs))) (hi : 0 ≤ i ∧ i < N ∧ N < 2147483648) (hw : ws.set q0 (a, .inl (Y 3, N, .inr (.inr (.inr (.inr (va_up f i.toNat (some v))))))) = ws') (kk : J x k n ws' (pc + 1) lv st) : J x k n ws pc lv (.ref v :: .int (jI i) :: .ref a :: st) := by
  obtain ⟨p, l, e, R, s, m, args, below, meth, c, Q, D, A, nL⟩ := x
  obtain ⟨rfl, rfl, rfl, rfl, hx, hb, hml, hown, hts, hK, hN, hT, hA, hlk, hr, hnm⟩ := G
  intro H locs ls hP hD hS hl
  refine va_astq (r := (RX3, TX3, 13)) hx hb hK hP hD hS q0 3 q1 3 ha rfl hv rfl (jI_in (by omega) (by omega)) hdg (fun H1 locs1 hP1 hD1 hS1 => ?_)
  rw [jI_cl (by omega), hw] at hP1 hD1
  exact kk H1 locs1 ls hP1 hD1 hS1 hl
theorem j_get (G : jG x l0 D0 Y cc own Ts nL0 R0 ret nm) {a ci N q index : Nat} {C : String} {T : u_T} {fs : List Value} {v : Value} (q0 : Nat) (hin : ∀ w ∈ u_ws C T N, w ∈ Ts) (hdg : decode cc pc = .ok (.getfield index, 3)) (he : ws[q0]? = some (a, .inr (ci, fs))) (hc : vwCl[ci]? = some (C, T, N)) (hk : q < N) (hlink : Cond.fieldLink own index (T q).1 (T q).2.1 (T q).2.2.1 ∈ Ts) (hv : fs[q]? = some v) (kk : J x k n ws (pc + 3) lv (v :: st)) : J x k n ws pc lv (.ref a :: st) := by
  obtain ⟨p, l, e, R, s, m, args, below, meth, c, Q, D, A, nL⟩ := x
  obtain ⟨rfl, rfl, rfl, rfl, hx, hb, hml, hown, hts, hK, hN, hT, hA, hlk, hr, hnm⟩ := G
  intro H locs ls hP hD hS hl
  exact va_get hx hb hts hin hown hK hP q0 he hc q hk (hts _ hlink) (fun _ h => h) hv hdg (kk H locs ls hP hD hS hl)
theorem j_getN (G : jG x l0 D0 Y cc own Ts nL0 R0 ret nm) {a ci N q index : Nat} {C host : String} {T : u_T} {fs : List Value} {v : Value} (q0 : Nat) (hin : ∀ w ∈ u_ws C T N, w ∈ Ts) (hdg : decode cc pc = .ok (.getfield index, 3)) (he : ws[q0]? = some (a, .inr (ci, fs))) (hc : vwCl[ci]? = some (C, T, N)) (hk : q < N) (hlink : (own, index, (T q).1, (T q).2.1, (T q).2.2.1, host) ∈ nwF) (hv : fs[q]? = some v) (kk : J x k n ws (pc + 3) lv (v :: st)) : J x k n ws pc lv (.ref a :: st) := by
  obtain ⟨p, l, e, R, s, m, args, below, meth, c, Q, D, A, nL⟩ := x
  obtain ⟨rfl, rfl, rfl, rfl, hx, hb, hml, hown, hts, hK, hN, hT, hA, hlk, hr, hnm⟩ := G
  intro H locs ls hP hD hS hl
  exact va_getN hx hb hts hin hown hK hP q0 he hc q hk (va_Nw.use rfl (hN.1 _ hlink)) (fun _ h => h) hv hdg (kk H locs ls hP hD hS hl)
theorem j_put (G : jG x l0 D0 Y cc own Ts nL0 R0 ret nm) {a ci N q index : Nat} {C : String} {T : u_T} {fs : List Value} {v : Value} {ty : FieldType} {ws' : va_W} (q0 : Nat) (hin : ∀ w ∈ u_ws C T N, w ∈ Ts) (ty0 : Nat → FieldType) (hty : ∀ k, k < N → parseFieldDescriptor (T k).2.2.1 = some (ty0 k)) (hnm' : ∀ a, a < N → ∀ b, b < N → a ≠ b → (T a).2.1 ≠ (T b).2.1) (hdg : decode cc pc = .ok (.putfield index, 3)) (he : ws[q0]? = some (a, .inr (ci, fs))) (hc : vwCl[ci]? = some (C, T, N)) (hk : q < N) (hlink : Cond.fieldLink own index (T q).1 (T q).2.1 (T q).2.2.1 ∈ Ts) (hfin : (T q).2.2.2 = false) (hd : ty0 q = ty) (hn : narrow ty v = v) (hfit : fits ty v = true) (hlen : q < fs.length) (hw : ws.set q0 (a, .inr (ci, fs.set q v)) = ws') (kk : J x k n ws' (pc + 3) lv st) : J x k n ws pc lv (v :: .ref a :: st) := by
  obtain ⟨p, l, e, R, s, m, args, below, meth, c, Q, D, A, nL⟩ := x
  obtain ⟨rfl, rfl, rfl, rfl, hx, hb, hml, hown, hts, hK, hN, hT, hA, hlk, hr, hnm⟩ := G
  intro H locs ls hP hD hS hl
  subst hw
  exact va_put hx hb hts hin ty0 hty hnm' hown hK hP hD hS q0 he hc q hk (hts _ hlink) (fun _ h => h) hfin (ty := ty) (by rw [← hd]; exact hty q hk) hn hfit hlen hdg (fun H1 locs1 hP1 hD1 hS1 => kk H1 locs1 ls hP1 hD1 hS1 hl)
theorem j_putF (G : jG x l0 D0 Y cc own Ts nL0 R0 ret nm) {a ci N q index : Nat} {C : String} {T : u_T} {fs : List Value} {v : Value} {ty : FieldType} {ws' : va_W} (q0 : Nat) (hin : ∀ w ∈ u_ws C T N, w ∈ Ts) (ty0 : Nat → FieldType) (hty : ∀ k, k < N → parseFieldDescriptor (T k).2.2.1 = some (ty0 k)) (hnm' : ∀ a, a < N → ∀ b, b < N → a ≠ b → (T a).2.1 ≠ (T b).2.1) (hnmi : nm = "<init>") (hdg : decode cc pc = .ok (.putfield index, 3)) (he : ws[q0]? = some (a, .inr (ci, fs))) (hc : vwCl[ci]? = some (C, T, N)) (hk : q < N) (hlink : Cond.fieldLink own index (T q).1 (T q).2.1 (T q).2.2.1 ∈ Ts) (hfin : (T q).2.2.2 = true) (hdecl : (T q).1 = own) (hd : ty0 q = ty) (hn : narrow ty v = v) (hfit : fits ty v = true) (hlen : q < fs.length) (hw : ws.set q0 (a, .inr (ci, fs.set q v)) = ws') (kk : J x k n ws' (pc + 3) lv st) : J x k n ws pc lv (v :: .ref a :: st) := by
  obtain ⟨p, l, e, R, s, m, args, below, meth, c, Q, D, A, nL⟩ := x
  obtain ⟨rfl, rfl, rfl, rfl, hx, hb, hml, hown, hts, hK, hN, hT, hA, hlk, hr, hnm⟩ := G
  intro H locs ls hP hD hS hl
  subst hw
  exact va_putF hx hb hts hin ty0 hty hnm' hown hK hP hD hS q0 he hc q hk (hts _ hlink) (fun _ h => h) hfin (hnm.trans hnmi) hdecl (ty := ty) (by rw [← hd]; exact hty q hk) hn hfit hlen hdg (fun H1 locs1 hP1 hD1 hS1 => kk H1 locs1 ls hP1 hD1 hS1 hl)
theorem j_ret (G : jG x l0 D0 Y cc own Ts nL0 R0 ret nm) {v : Value} (hdg : decode cc pc = .ok (retOp (some v), 1)) (kr : jE x k n cc ws (some v)) : J x k n ws pc lv [v] := by
  obtain ⟨p, l, e, R, s, m, args, below, meth, c, Q, D, A, nL⟩ := x
  obtain ⟨rfl, rfl, rfl, rfl, hx, hb, hml, hown, hts, hK, hN, hT, hA, hlk, hr, hnm⟩ := G
  intro H locs ls hP hD hS hl
  exact kr pc lv hdg H locs ls hP hD hS hl
theorem j_vret (G : jG x l0 D0 Y cc own Ts nL0 R0 ret nm)  (hdg : decode cc pc = .ok (retOp none, 1)) (kr : jE x k n cc ws none) : J x k n ws pc lv [] := by
  obtain ⟨p, l, e, R, s, m, args, below, meth, c, Q, D, A, nL⟩ := x
  obtain ⟨rfl, rfl, rfl, rfl, hx, hb, hml, hown, hts, hK, hN, hT, hA, hlk, hr, hnm⟩ := G
  intro H locs ls hP hD hS hl
  exact kr pc lv hdg H locs ls hP hD hS hl
theorem j_conv {ws' : va_W} (hw : jLe ws ws') (kk : J x k n ws' pc lv st) : J x k n ws pc lv st := by
  obtain ⟨p, l, e, R, s, m, args, below, meth, c, Q, D, A, nL⟩ := x
  intro H locs ls hP hD hS hl
  exact kk H locs ls (hw.1 D H hP) (hw.2 A hD) hS hl
theorem j_lv {lv' : List (Nat × Value)} (ks : List Nat) (h : lv_pick lv ks = lv') (kk : J x k n ws pc lv' st) : J x k n ws pc lv st := by
  obtain ⟨p, l, e, R, s, m, args, below, meth, c, Q, D, A, nL⟩ := x
  intro H locs ls hP hD hS hl
  exact kk H locs ls hP hD hS (lv_sub hl ks h)
theorem j_wide {k' n' : Nat} (h1 : k ≤ k') (h2 : n ≤ n') (kk : J x k' n' ws pc lv st) : J x k n ws pc lv st := by
  obtain ⟨p, l, e, R, s, m, args, below, meth, c, Q, D, A, nL⟩ := x
  intro H locs ls hP hD hS hl
  exact W.widen h1 h2 (kk H locs ls hP hD hS hl)
theorem jE_conv {ws' : va_W} {v : Option Value} (hw : jLe ws ws') (kr : jE x k n cc ws' v) : jE x k n cc ws v := fun pc lv hdg => j_conv hw (kr pc lv hdg)
end JR
section JC
variable {p : Program} {l : Launch} {e : Env} {R : Room} {s : State} {m : MethodId} {args : Array Value} {below : List Frame} {meth : Method} {c : Code} {H : Heap} {locs : List Loc} {cells slots : Nat} {Q : State → Prop}
variable {pc : Nat} {ls : Array Slot} {rest st0 : List Value} {a : Array Value} {A : Nat → Prop} {mc ms : Nat} {D : va_G} {post : Option Value → va_W → Prop} {wc wr : va_W}
theorem jcall_W (hr : va_Run p l e R s m args below meth c H locs cells slots mc ms (F0 m pc ls st0) rest (jQ post D (va_A wc H.size) a) (va_A wc H.size)) (hS : va_S A s.heap H locs) (hA : ∀ q, s.heap.size ≤ q → A q) (hP : va_P D vwCl (wc ++ wr) H) (hD : va_D A (wc ++ wr))
    (kk : ∀ (v : Option Value) (w' : va_W) (H1 : Heap) (locs1 : List Loc), post v w' → va_P D vwCl (w' ++ wr) H1 → va_D A (w' ++ wr) → va_S A s.heap H1 locs1 → W p l e R s m args below meth c H1 locs1 (cells + mc) (slots + ms) Q (F0 m (pc + 3) ls (v.toList ++ rest))) : W p l e R s m args below meth c H locs cells slots Q (F0 m pc ls st0) := by
  have hfree : ∀ q, va_A wc H.size q → A q := by
    intro q h
    rcases h with ⟨k, e', h⟩ | h
    · have hk := (List.getElem?_eq_some_iff.mp h).1
      exact hD.2 k (q, e') (by rw [List.getElem?_append_left hk]; exact h)
    · exact hA q (Nat.le_trans hS.1 h)
  have apart : ∀ (k : Nat) (q : Nat × va_E), wr[k]? = some q → q.1 < H.size ∧ ¬ va_A wc H.size q.1 := by
    intro k q hq
    have h2 : (wc ++ wr)[wc.length + k]? = some q := by
      rw [List.getElem?_append_right (by omega), show wc.length + k - wc.length = k by omega]
      exact hq
    have hl := (hP _ q h2).lt
    refine ⟨hl, fun h => ?_⟩
    rcases h with ⟨k2, e', h⟩ | h
    · have hk := (List.getElem?_eq_some_iff.mp h).1
      have hij := hD.1 (wc.length + k) k2 q (q.1, e') h2 (by rw [List.getElem?_append_left hk]; exact h) rfl
      omega
    · omega
  intro T hT X
  obtain ⟨v, st₀, t, T', L, h0, X', hL, e1, e2, ⟨v', w', hv, hpost, hP1, hD1, hz, hk⟩, st⟩ := hr T hT X
  cases hv
  rw [h0] at hz hk
  have hS1 : va_S A s.heap T'.heap (locs ++ L) := ⟨Nat.le_trans hS.1 (by rw [e1]; exact hz), fun q h1 h2 => by rw [e1, hk q (Nat.lt_of_lt_of_le h1 hS.1) (fun z => h2 (hfree q z))]; exact hS.2.1 q h1 h2, fun q hq => by
      rcases List.mem_append.mp hq with h | h
      · exact hS.2.2 q h
      · exact hfree _ (hL q h)⟩
  have hPr : va_P D vwCl wr T'.heap := fun k q hq => by
    obtain ⟨g1, g2⟩ := apart k q hq
    have h2 : (wc ++ wr)[wc.length + k]? = some q := by
      rw [List.getElem?_append_right (by omega), show wc.length + k - wc.length = k by omega]
      exact hq
    exact (hP _ q h2).kept (by rw [e1]; exact hk q.1 g1 g2)
  have hDr : va_D A wr := ⟨fun i j x y hi hj hxy => by
      have := hD.1 (wc.length + i) (wc.length + j) x y (by rw [List.getElem?_append_right (by omega), show wc.length + i - wc.length = i by omega]; exact hi) (by rw [List.getElem?_append_right (by omega), show wc.length + j - wc.length = j by omega]; exact hj) hxy
      omega, fun k q hq => hD.2 (wc.length + k) q (by rw [List.getElem?_append_right (by omega), show wc.length + k - wc.length = k by omega]; exact hq)⟩
  obtain ⟨t2, a1, b1⟩ := kk v w' T'.heap (locs ++ L) hpost (va_P.app (by rw [e1]; exact hP1) hPr)
    (va_D.app (hD1.weaken (fun k q _ h => hfree q.1 h)) hDr (fun i j x y hx hy hxy => (apart j y hy).2 (by rw [← hxy]; exact hD1.2 i x hx))) hS1 T' rfl X'
  exact ⟨t2, st t2 a1, b1⟩
end JC
theorem jP_blind (D : va_G) (Y : Nat → ClassId) (w : va_W) (sz : Nat) (as : List Value) : FrameBlind (jP D Y w sz as) := fun a U g mk q => by
  obtain ⟨h0, h1, h2, h3, h4, h5, h6⟩ := q
  exact ⟨h0, h1, h2, va_K.moved (u := U) (U := U.calling g mk a) (Vm.Alike.refl U.vm) h3, NW.same (u := U) (U := U.calling g mk a) rfl h4, ST.go (u := U) (U := U.calling g mk a) h5 (Vm.Alike.refl U.vm) (fun _ _ _ => rfl) (fun _ h => h), h6⟩
theorem jP_at {D : va_G} {Y : Nat → ClassId} {A : Nat → Prop} {s : State} {H : Heap} {locs : List Loc} {wc wr : va_W} (hP : va_P D vwCl (wc ++ wr) H) (hD : va_D A (wc ++ wr)) (hS : va_S A s.heap H locs) (hA : ∀ q, s.heap.size ≤ q → A q) (hK : va_K D vwCl (TY Y) s) (hN : NW s) (hT : ST A s s.heap) (as : List Value) :
    ∀ U : State, U.heap = H → s.WarmedH U.vm → jP D Y wc H.size as as.toArray U := by
  intro U hU hW
  have hPc : va_P D vwCl wc H := fun k q hq => hP k q (by rw [List.getElem?_append_left (List.getElem?_eq_some_iff.mp hq).1]; exact hq)
  have hDc : va_D A wc := ⟨fun i j x y hi hj hxy => hD.1 i j x y (by rw [List.getElem?_append_left (List.getElem?_eq_some_iff.mp hi).1]; exact hi) (by rw [List.getElem?_append_left (List.getElem?_eq_some_iff.mp hj).1]; exact hj) hxy, fun k q hq => hD.2 k q (by rw [List.getElem?_append_left (List.getElem?_eq_some_iff.mp hq).1]; exact hq)⟩
  refine ⟨rfl, by rw [hU], by rw [hU]; exact hPc, va_K.moved hW.alike hK, NW.warm hW hN, ?_, hDc.weaken (fun _ _ _ _ => trivial)⟩
  rw [hU]
  refine ST.go hT hW.alike (fun q h1 h2 => hS.2.1 q h1 h2) (fun q h => ?_)
  rcases h with ⟨k, e', h⟩ | h
  · exact hDc.2 k (q, e') h
  · exact hA q (Nat.le_trans hS.1 h)
section JR2
variable {x : Cx} {l0 : Launch} {D0 : va_G} {Y : Nat → ClassId} {cc : ByteArray} {own : String} {Ts : List Cond} {nL0 : Nat} {R0 : Room} {ret : Option FieldType} {nm : String} {k n : Nat} {ws : va_W} {pc : Nat} {lv : List (Nat × Value)} {st st0 : List Value}
variable {y : MethodName} {wsl ws' : List Cond} {rm : Room} {post : Option Value → va_W → Prop} {mc ms index nA maxL : Nat} {cb : ByteArray} {rt : Option FieldType} {wc wr : va_W} {As : List Value} {b : Nat}
theorem j_callV (G : jG x l0 D0 Y cc own Ts nL0 R0 ret nm) {C : String} {ci : Nat} {qc : vw_C} {fs : List Value} (hM : jM l0 y wsl rm D0 Y (.ref b :: As) wc post mc ms) (hdg : decode cc pc = .ok (.invokevirtual index, 3)) (hst : st0 = As.reverse ++ .ref b :: st) (hT : GoodIn Ts (wsV own index C y wsl)) (hw : wsl = Cond.code y cb maxL rt :: ws') (hrc : rm.cells = mc) (hrs : rm.slots = ms)
    (hd : y.cls = C ∧ y.cls ≠ "java/lang/invoke/MethodHandle" ∧ y.cls ≠ "java/lang/invoke/VarHandle" ∧ (parseMethodDescriptor y.desc).map (fun d => d.parameters.length) = some nA) (hR : rm.frames + 1 ≤ R0.frames ∧ 8 + (maxL + 11) + rm.locals ≤ R0.locals) (hn : As.length = nA) (q0 : Nat) (he : wc[q0]? = some (b, .inr (ci, fs))) (hc : vwCl[ci]? = some qc) (hC : qc.1 = C) (sp : jLe ws (wc ++ wr)) (hW : (st.map fun v => v.category).sum ≤ 8) (hf : k + mc ≤ R0.cells ∧ n + ms ≤ R0.slots)
    (kk : ∀ v w', post v w' → J x (k + mc) (n + ms) (w' ++ wr) (pc + 3) lv (v.toList ++ st)) : J x k n ws pc lv st0 := by
  obtain ⟨p, l, e, R, s, m, args, below, meth, c, Q, D, A, nL⟩ := x
  obtain ⟨rfl, rfl, rfl, rfl, hx, hb, hml, hown, hts, hK, hN, hT', hA, hlk, hr, hnm⟩ := G
  intro H locs ls hP0 hD0 hS hl
  have hP := sp.1 D H hP0
  have hD := sp.2 A hD0
  subst hst
  subst hC
  have hrecv := va_recv hK (fun k q hq => hP k q (by rw [List.getElem?_append_left (List.getElem?_eq_some_iff.mp hq).1]; exact hq) : va_P D vwCl wc H) hc he
  exact jcall_W (va_runV (As := As) (rest := st) ⟨hx, hb, hml, hown, hts⟩ (hM H.size) (cwV nA hts hT hw hrc hrs hd hR) ⟨jP_blind _ _ _ _ _, hrecv, jP_at hP hD hS hA hK hN hT' (.ref b :: As)⟩ rfl hn hl.1 rfl (lv_room hW) hdg hf) hS hA hP hD
    (fun v w' H1 locs1 hp h1 h2 h3 => kk v w' hp H1 locs1 ls h1 h2 h3 hl)
theorem j_callS (G : jG x l0 D0 Y cc own Ts nL0 R0 ret nm) (hM : jM l0 y wsl rm D0 Y As wc post mc ms) (hdg : decode cc pc = .ok (.invokestatic index, 3)) (hst : st0 = As.reverse ++ st) (hT : GoodIn Ts (va_wsS own index y wsl)) (hw : wsl = Cond.code y cb maxL rt :: ws') (hrc : rm.cells = mc) (hrs : rm.slots = ms)
    (hd : y.cls ≠ "java/lang/invoke/MethodHandle" ∧ y.cls ≠ "java/lang/invoke/VarHandle" ∧ (parseMethodDescriptor y.desc).map (fun d => d.parameters.length) = some nA) (hR : rm.frames + 1 ≤ R0.frames ∧ 8 + (maxL + 11) + rm.locals ≤ R0.locals) (hn : As.length = nA) (sp : jLe ws (wc ++ wr)) (hW : (st.map fun v => v.category).sum ≤ 8) (hf : k + mc ≤ R0.cells ∧ n + ms ≤ R0.slots)
    (kk : ∀ v w', post v w' → J x (k + mc) (n + ms) (w' ++ wr) (pc + 3) lv (v.toList ++ st)) : J x k n ws pc lv st0 := by
  obtain ⟨p, l, e, R, s, m, args, below, meth, c, Q, D, A, nL⟩ := x
  obtain ⟨rfl, rfl, rfl, rfl, hx, hb, hml, hown, hts, hK, hN, hT', hA, hlk, hr, hnm⟩ := G
  intro H locs ls hP0 hD0 hS hl
  have hP := sp.1 D H hP0
  have hD := sp.2 A hD0
  subst hst
  exact jcall_W (va_runS (As := As) (rest := st) ⟨hx, hb, hml, hown, hts⟩ (hM H.size) (va_cwS nA hts hT hw hrc hrs hd hR) ⟨jP_blind _ _ _ _ _, jP_at hP hD hS hA hK hN hT' As⟩ rfl hn hl.1 rfl (lv_room hW) hdg hf) hS hA hP hD
    (fun v w' H1 locs1 hp h1 h2 h3 => kk v w' hp H1 locs1 ls h1 h2 h3 hl)
theorem j_callSN (G : jG x l0 D0 Y cc own Ts nL0 R0 ret nm) {host : String} (hM : jM l0 y wsl rm D0 Y As wc post mc ms) (hdg : decode cc pc = .ok (.invokestatic index, 3)) (hst : st0 = As.reverse ++ st) (hT : GoodIn Ts wsl) (hw : wsl = Cond.code y cb maxL rt :: ws') (hrc : rm.cells = mc) (hrs : rm.slots = ms) (hmem : (own, index, y, host) ∈ nwM) (hini : Cond.initialized y.cls ∈ Ts) (hsta : Cond.static y ∈ Ts)
    (hd : y.cls ≠ "java/lang/invoke/MethodHandle" ∧ y.cls ≠ "java/lang/invoke/VarHandle" ∧ (parseMethodDescriptor y.desc).map (fun d => d.parameters.length) = some nA) (hR : rm.frames + 1 ≤ R0.frames ∧ 8 + (maxL + 11) + rm.locals ≤ R0.locals) (hn : As.length = nA) (sp : jLe ws (wc ++ wr)) (hW : (st.map fun v => v.category).sum ≤ 8) (hf : k + mc ≤ R0.cells ∧ n + ms ≤ R0.slots)
    (kk : ∀ v w', post v w' → J x (k + mc) (n + ms) (w' ++ wr) (pc + 3) lv (v.toList ++ st)) : J x k n ws pc lv st0 := by
  obtain ⟨p, l, e, R, s, m, args, below, meth, c, Q, D, A, nL⟩ := x
  obtain ⟨rfl, rfl, rfl, rfl, hx, hb, hml, hown, hts, hK, hN, hT', hA, hlk, hr, hnm⟩ := G
  intro H locs ls hP0 hD0 hS hl
  have hP := sp.1 D H hP0
  have hD := sp.2 A hD0
  subst hst
  exact jcall_W (va_runSN (host := host) (As := As) (rest := st) ⟨hx, hb, hml, hown, hts⟩ (hM H.size) ⟨va_cnB nA hts hT hw hrc hrs (hN.2 _ hmem) (hts _ hini) hd hR, hts _ hsta, trivial⟩ ⟨jP_blind _ _ _ _ _, jP_at hP hD hS hA hK hN hT' As⟩ rfl hn hl.1 rfl (lv_room hW) hdg hf) hS hA hP hD
    (fun v w' H1 locs1 hp h1 h2 h3 => kk v w' hp H1 locs1 ls h1 h2 h3 hl)
theorem j_callI (G : jG x l0 D0 Y cc own Ts nL0 R0 ret nm) (hM : jM l0 y wsl rm D0 Y (.ref b :: As) wc post mc ms) (hdg : decode cc pc = .ok (.invokespecial index, 3)) (hst : st0 = As.reverse ++ .ref b :: st) (hT : GoodIn Ts wsl) (hw : wsl = Cond.code y cb maxL none :: ws') (hrc : rm.cells = mc) (hrs : rm.slots = ms) (hini : Cond.initialized y.cls ∈ Ts) (hlink : Cond.methodLink own index y ∈ Ts) (hinst : Cond.instanceMethod y ∈ Ts) (hy1 : y.name = "<init>")
    (hd : y.cls ≠ "java/lang/invoke/MethodHandle" ∧ y.cls ≠ "java/lang/invoke/VarHandle" ∧ (parseMethodDescriptor y.desc).map (fun d => d.parameters.length) = some nA) (hR : rm.frames + 1 ≤ R0.frames ∧ 8 + (maxL + 11) + rm.locals ≤ R0.locals) (hn : As.length = nA) (sp : jLe ws (wc ++ wr)) (hW : (st.map fun v => v.category).sum ≤ 8) (hf : k + mc ≤ R0.cells ∧ n + ms ≤ R0.slots)
    (kk : ∀ v w', post v w' → J x (k + mc) (n + ms) (w' ++ wr) (pc + 3) lv (v.toList ++ st)) : J x k n ws pc lv st0 := by
  obtain ⟨p, l, e, R, s, m, args, below, meth, c, Q, D, A, nL⟩ := x
  obtain ⟨rfl, rfl, rfl, rfl, hx, hb, hml, hown, hts, hK, hN, hT', hA, hlk, hr, hnm⟩ := G
  intro H locs ls hP0 hD0 hS hl
  have hP := sp.1 D H hP0
  have hD := sp.2 A hD0
  subst hst
  exact jcall_W (va_runI (As := As) (rest := st) ⟨hx, hb, hml, hown, hts⟩ (hM H.size) (cwI nA hts hT hw hrc hrs (hts _ hini) (hts _ hlink) (hts _ hinst) hy1 hd hR) ⟨jP_blind _ _ _ _ _, jP_at hP hD hS hA hK hN hT' (.ref b :: As)⟩ rfl hn hl.1 rfl (lv_room hW) hdg hf) hS hA hP hD
    (fun v w' H1 locs1 hp h1 h2 h3 => kk v w' hp H1 locs1 ls h1 h2 h3 hl)
theorem j_callIN (G : jG x l0 D0 Y cc own Ts nL0 R0 ret nm) {host : String} (hM : jM l0 y wsl rm D0 Y (.ref b :: As) wc post mc ms) (hdg : decode cc pc = .ok (.invokespecial index, 3)) (hst : st0 = As.reverse ++ .ref b :: st) (hT : GoodIn Ts wsl) (hw : wsl = Cond.code y cb maxL none :: ws') (hrc : rm.cells = mc) (hrs : rm.slots = ms) (hmem : (own, index, y, host) ∈ nwM) (hini : Cond.initialized y.cls ∈ Ts) (hinst : Cond.instanceMethod y ∈ Ts) (hy1 : y.name = "<init>")
    (hd : y.cls ≠ "java/lang/invoke/MethodHandle" ∧ y.cls ≠ "java/lang/invoke/VarHandle" ∧ (parseMethodDescriptor y.desc).map (fun d => d.parameters.length) = some nA) (hR : rm.frames + 1 ≤ R0.frames ∧ 8 + (maxL + 11) + rm.locals ≤ R0.locals) (hn : As.length = nA) (sp : jLe ws (wc ++ wr)) (hW : (st.map fun v => v.category).sum ≤ 8) (hf : k + mc ≤ R0.cells ∧ n + ms ≤ R0.slots)
    (kk : ∀ v w', post v w' → J x (k + mc) (n + ms) (w' ++ wr) (pc + 3) lv (v.toList ++ st)) : J x k n ws pc lv st0 := by
  obtain ⟨p, l, e, R, s, m, args, below, meth, c, Q, D, A, nL⟩ := x
  obtain ⟨rfl, rfl, rfl, rfl, hx, hb, hml, hown, hts, hK, hN, hT', hA, hlk, hr, hnm⟩ := G
  intro H locs ls hP0 hD0 hS hl
  have hP := sp.1 D H hP0
  have hD := sp.2 A hD0
  subst hst
  exact jcall_W (va_runIN (host := host) (As := As) (rest := st) ⟨hx, hb, hml, hown, hts⟩ (hM H.size) ⟨va_cnB nA hts hT hw hrc hrs (hN.2 _ hmem) (hts _ hini) hd hR, hy1, hts _ hinst⟩ ⟨jP_blind _ _ _ _ _, jP_at hP hD hS hA hK hN hT' (.ref b :: As)⟩ rfl hn hl.1 rfl (lv_room hW) hdg hf) hS hA hP hD
    (fun v w' H1 locs1 hp h1 h2 h3 => kk v w' hp H1 locs1 ls h1 h2 h3 hl)
theorem j_objInit (G : jG x l0 D0 Y cc own Ts nL0 R0 ret nm) (hdg : decode cc pc = .ok (.invokespecial index, 3)) (hlink : Cond.methodLink own index objectInit ∈ Ts) (hinst : Cond.instanceMethod objectInit ∈ Ts) (hcode : Cond.code objectInit ⟨#[0xb1]⟩ 1 none ∈ Ts) (h1 : 1 ≤ R0.frames) (h2 : (st.map fun v => v.category).sum + 12 ≤ R0.locals)
    (kk : J x k n ws (pc + 3) lv st) : J x k n ws pc lv (.ref b :: st) := by
  obtain ⟨p, l, e, R, s, m, args, below, meth, c, Q, D, A, nL⟩ := x
  obtain ⟨rfl, rfl, rfl, rfl, hx, hb, hml, hown, hts, hK, hN, hT', hA, hlk, hr, hnm⟩ := G
  intro H locs ls hP hD hS hl
  exact W.objInit hx hb hown (hts _ hlink) (hts _ hinst) (hts _ hcode) rfl (by rw [hml]; exact hl.1) rfl hdg h1 (by show 2 * 0 + _ + 12 ≤ _; omega) (kk H locs ls hP hD hS hl)
theorem j_mmin (G : jG x l0 D0 Y cc own Ts nL0 R0 ret nm) {u v : Int} (hdg : decode cc pc = .ok (.invokestatic index, 3)) (hlink : Cond.methodLink own index Lib.Math.min.name ∈ Ts) (hstat : Cond.static Lib.Math.min.name ∈ Ts) (hini : Cond.initialized "java/lang/Math" ∈ Ts) (hcode : Cond.code Lib.Math.min.name Lib.Math.min.code 2 (some .int) ∈ Ts) (h1 : 1 ≤ R0.frames) (h2 : (st.map fun v => v.category).sum + 13 ≤ R0.locals) (h3 : k ≤ R0.cells ∧ n ≤ R0.slots) (hu : -2147483648 ≤ u ∧ u < 2147483648) (hv : -2147483648 ≤ v ∧ v < 2147483648)
    (kk : J x k n ws (pc + 3) lv (.int (jI (if v < u then v else u)) :: st)) : J x k n ws pc lv (.int (jI v) :: .int (jI u) :: st) := by
  obtain ⟨p, l, e, R, s, m, args, below, meth, c, Q, D, A, nL⟩ := x
  obtain ⟨rfl, rfl, rfl, rfl, hx, hb, hml, hown, hts, hK, hN, hT', hA, hlk, hr, hnm⟩ := G
  intro H locs ls hP hD hS hl
  refine va_mmin hx hb (hml.trans hl.1.symm) hown (hts _ hlink) (hts _ hstat) (hts _ hini) (hts _ hcode) h1 h2 h3.1 h3.2 hdg ?_
  have e : (if jI v < jI u then jI v else jI u) = jI (if v < u then v else u) := by
    by_cases h : v < u
    · rw [if_pos h, if_pos ((jI_lt hv hu).mpr h)]
    · rw [if_neg h, if_neg (fun z => h ((jI_lt hv hu).mp z))]
  rw [e]
  exact kk H locs ls hP hD hS hl
theorem j_mmax (G : jG x l0 D0 Y cc own Ts nL0 R0 ret nm) {u v : Int} (hdg : decode cc pc = .ok (.invokestatic index, 3)) (hlink : Cond.methodLink own index Lib.Math.max.name ∈ Ts) (hstat : Cond.static Lib.Math.max.name ∈ Ts) (hini : Cond.initialized "java/lang/Math" ∈ Ts) (hcode : Cond.code Lib.Math.max.name Lib.Math.max.code 2 (some .int) ∈ Ts) (h1 : 1 ≤ R0.frames) (h2 : (st.map fun v => v.category).sum + 13 ≤ R0.locals) (h3 : k ≤ R0.cells ∧ n ≤ R0.slots) (hu : -2147483648 ≤ u ∧ u < 2147483648) (hv : -2147483648 ≤ v ∧ v < 2147483648)
    (kk : J x k n ws (pc + 3) lv (.int (jI (if u < v then v else u)) :: st)) : J x k n ws pc lv (.int (jI v) :: .int (jI u) :: st) := by
  obtain ⟨p, l, e, R, s, m, args, below, meth, c, Q, D, A, nL⟩ := x
  obtain ⟨rfl, rfl, rfl, rfl, hx, hb, hml, hown, hts, hK, hN, hT', hA, hlk, hr, hnm⟩ := G
  intro H locs ls hP hD hS hl
  refine va_mmax hx hb (hml.trans hl.1.symm) hown (hts _ hlink) (hts _ hstat) (hts _ hini) (hts _ hcode) h1 h2 h3.1 h3.2 hdg ?_
  have e : (if jI u < jI v then jI v else jI u) = jI (if u < v then v else u) := by
    by_cases h : u < v
    · rw [if_pos h, if_pos ((jI_lt hu hv).mpr h)]
    · rw [if_neg h, if_neg (fun z => h ((jI_lt hu hv).mp z))]
  rw [e]
  exact kk H locs ls hP hD hS hl
theorem j_mabs (G : jG x l0 D0 Y cc own Ts nL0 R0 ret nm) {u : Int} (hdg : decode cc pc = .ok (.invokestatic index, 3)) (hlink : Cond.methodLink own index Lib.Math.abs.name ∈ Ts) (hstat : Cond.static Lib.Math.abs.name ∈ Ts) (hini : Cond.initialized "java/lang/Math" ∈ Ts) (hcode : Cond.code Lib.Math.abs.name Lib.Math.abs.code 1 (some .int) ∈ Ts) (h1 : 1 ≤ R0.frames) (h2 : (st.map fun v => v.category).sum + 13 ≤ R0.locals) (h3 : k ≤ R0.cells ∧ n ≤ R0.slots) (hu : -2147483648 ≤ u ∧ u < 2147483648)
    (kk : J x k n ws (pc + 3) lv (.int (jI (if 0 ≤ u then u else 0 - u)) :: st)) : J x k n ws pc lv (.int (jI u) :: st) := by
  obtain ⟨p, l, e, R, s, m, args, below, meth, c, Q, D, A, nL⟩ := x
  obtain ⟨rfl, rfl, rfl, rfl, hx, hb, hml, hown, hts, hK, hN, hT', hA, hlk, hr, hnm⟩ := G
  intro H locs ls hP hD hS hl
  refine va_mabs hx hb (hml.trans hl.1.symm) hown (hts _ hlink) (hts _ hstat) (hts _ hini) (hts _ hcode) h1 h2 h3.1 h3.2 hdg ?_
  have e0 : (0 : Int32) = jI 0 := rfl
  have e : (if 0 ≤ jI u then jI u else 0 - jI u) = jI (if 0 ≤ u then u else 0 - u) := by
    rw [e0, jI_sub]
    by_cases h : 0 ≤ u
    · rw [if_pos h, if_pos ((jI_le (by omega) hu).mpr h)]
    · rw [if_neg h, if_neg (fun z => h ((jI_le (by omega) hu).mp z))]
  rw [e]
  exact kk H locs ls hP hD hS hl
/-- a whole array over another of the same length and kind -/
theorem j_copy (G : jG x l0 D0 Y cc own Ts nL0 R0 ret nm) {a a0 N t : Nat} {f g : Int → Int} {ty : FieldType} {z0 z1 z2 : Int} {w2 : va_W} (q0 q1 : Nat) (ht : (TY Y)[t]? = some (Y t, ty)) (hprim : refKind ty = false) (hdg : decode cc pc = .ok (.invokestatic index, 3)) (hlink : Cond.methodLink own index arraycopyName ∈ Ts) (hnat : Cond.native arraycopyName ∈ Ts) (hstat : Cond.static arraycopyName ∈ Ts) (hini : Cond.initialized "java/lang/System" ∈ Ts) (ha0 : ws[q0]? = some (a0, .inl (Y t, N, .inl (aI f)))) (ha1 : ws[q1]? = some (a, .inl (Y t, N, .inl (aI g)))) (e0 : z0 = 0) (e1 : z1 = 0) (e2 : z2 = N) (hN' : N < 2147483648) (hfit : ∀ i : Int, 0 ≤ i → i < N → fits ty (.int (jI (f i))) = true) (h1 : 1 ≤ R0.frames) (h2 : (st.map fun v => v.category).sum + 18 ≤ R0.locals) (hw : ws.set q1 (a, .inl (Y t, N, .inl (aI f))) = w2)
    (kk : J x k n w2 (pc + 3) lv st) : J x k n ws pc lv (.int (jI z2) :: .int (jI z1) :: .ref a :: .int (jI z0) :: .ref a0 :: st) := by
  obtain ⟨p, l, e, R, s, m, args, below, meth, c, Q, D, A, nL⟩ := x
  obtain ⟨rfl, rfl, rfl, rfl, hx, hb, hml, hown, hts, hK, hN, hT', hA, hlk, hr, hnm⟩ := G
  intro H locs ls hP hD hS hl
  subst e0; subst e1; subst e2
  have n0 : ¬ jI 0 < 0 := by decide
  have c0 : (jI 0).toNatClampNeg = 0 := rfl
  have cN : (jI (N : Int)).toNatClampNeg = N := by rw [jI_cl (by omega)]; omega
  have nN : ¬ jI (N : Int) < 0 := fun z => by
    have e0 : (0 : Int32) = jI 0 := rfl
    rw [e0] at z
    have := (jI_lt (by omega) (by omega)).mp z
    omega
  refine va_copyi hx hb (hml.trans hl.1.symm) hown (hts _ hlink) (hts _ hnat) (hts _ hstat) (hts _ hini) hK hP hD hS q0 q1 t t ha0 ha1 ht ht hprim n0 n0 nN (by rw [c0, cN]; omega) (by rw [c0, cN]; omega) (fun i hi => ?_) h1 (by show _ + (7 + 11) ≤ _; omega) hdg (fun H1 locs1 hP1 hD1 hS1 => ?_)
  · rw [c0, cN] at *
    have := hfit ((0 + i : Nat) : Int) (by omega) (by omega)
    exact this
  · rw [c0, cN] at hP1 hD1
    have hq1 := (List.getElem?_eq_some_iff.mp ha1).1
    have hcell : vp_cell (Y t) (N, .inl (va_cpy (aI f) (aI g) 0 0 N)) = vp_cell (Y t) (N, .inl (aI f)) := by
      rw [vp_cell_i, vp_cell_i]
      unfold arrV
      congr 2
      funext j
      show Value.int (va_cpy (aI f) (aI g) 0 0 N j.val) = _
      rw [show va_cpy (aI f) (aI g) 0 0 N j.val = aI f (0 + (j.val - 0)) from if_pos ⟨Nat.zero_le _, by have := j.isLt; omega⟩]
      rw [show 0 + (j.val - 0) = j.val by omega]
    subst hw
    refine kk H1 locs1 ls (fun i q hi => ?_) (hD.set ha1) hS1 hl
    by_cases hiq : i = q1
    · subst hiq
      rw [List.getElem?_set_self hq1] at hi
      cases hi
      have h3 := hP1 i (a, .inl (Y t, N, .inl (va_cpy (aI f) (aI g) 0 0 N))) (by rw [List.getElem?_set_self hq1])
      show H1[a]? = some (vp_cell (Y t) (N, .inl (aI f)))
      rw [← hcell]
      exact h3
    · rw [List.getElem?_set_ne (Ne.symm hiq)] at hi
      exact hP1 i q (by rw [List.getElem?_set_ne (Ne.symm hiq)]; exact hi)
def jTb (x : Cx) (t : Nat) (f : Nat → Value) : Prop := match x with
  | (_, _, _, _, s, _, _, _, _, _, _, _, A, _) => va_T .int t 3 f A s s.heap
def jST (x : Cx) (nf : String) (f : Nat → Value) : Prop := match x with
  | (_, _, _, _, s, _, _, _, _, _, _, _, A, _) => ST1 nf f A s s.heap
theorem jST_all (G : jG x l0 D0 Y cc own Ts nL0 R0 ret nm) : jST x "LEAST_SETTINGS" (sF 1 0 1) ∧ jST x "FIRST_SETTINGS" (sF 8 0 3) ∧ jST x "GREATEST_SETTINGS" (sF 30 2 9) := by
  obtain ⟨p, l, e, R, s, m, args, below, meth, c, Q, D, A, nL⟩ := x
  obtain ⟨rfl, rfl, rfl, rfl, hx, hb, hml, hown, hts, hK, hN, hT', hA, hlk, hr, hnm⟩ := G
  exact ⟨hT'.1, hT'.2.1, hT'.2.2⟩
theorem j_sget (G : jG x l0 D0 Y cc own Ts nL0 R0 ret nm) {nf host : String} {f : Nat → Value} (hs : jST x nf f) (hdg : decode cc pc = .ok (.getstatic index, 3)) (hmem : (own, index, "StormFelling", nf, "[I", host) ∈ nwF) (kk : ∀ t : Nat, jTb x t f → J x k n ws (pc + 3) lv (.ref t :: st)) : J x k n ws pc lv st := by
  obtain ⟨p, l, e, R, s, m, args, below, meth, c, Q, D, A, nL⟩ := x
  obtain ⟨rfl, rfl, rfl, rfl, hx, hb, hml, hown, hts, hK, hN, hT', hA, hlk, hr, hnm⟩ := G
  obtain ⟨t, h1, h2⟩ := hs
  intro H locs ls hP hD hS hl
  exact va_getsN hx hb h1 hS hown (va_Nw.use rfl (hN.1 _ hmem)) (fun _ h => h) hdg (kk t h2 H locs ls hP hD hS hl)
theorem j_tald (G : jG x l0 D0 Y cc own Ts nL0 R0 ret nm) {f : Nat → Value} {t : Nat} {i v : Int} (ht : jTb x t f) (hdg : decode cc pc = .ok (.iaload, 1)) (hi : 0 ≤ i ∧ i < 3) (hv : f i.toNat = .int (jI v)) (kk : J x k n ws (pc + 1) lv (.int (jI v) :: st)) : J x k n ws pc lv (.int (jI i) :: .ref t :: st) := by
  obtain ⟨p, l, e, R, s, m, args, below, meth, c, Q, D, A, nL⟩ := x
  obtain ⟨rfl, rfl, rfl, rfl, hx, hb, hml, hown, hts, hK, hN, hT', hA, hlk, hr, hnm⟩ := G
  intro H locs ls hP hD hS hl
  exact va_ti hx hb ht hS (jI_in (by omega) (by omega)) (by rw [jI_cl (by omega)]; exact hv) hdg (kk H locs ls hP hD hS hl)
/-! switches, longs, chars -/
theorem j_tblOut (G : jG x l0 D0 Y cc own Ts nL0 R0 ret nm) {a dflt lo hi : Int} {offs : Array Int} {len tgt : Nat} (hdg : decode cc pc = .ok (.tableswitch dflt lo hi offs, len)) (ha : -2147483648 ≤ a ∧ a < 2147483648) (h : a < lo ∨ hi < a) (ht : (pc : Int) + dflt = (tgt : Int)) (kk : J x k n ws tgt lv st) : J x k n ws pc lv (.int (jI a) :: st) := by
  obtain ⟨p, l, e, R, s, m, args, below, meth, c, Q, D, A, nL⟩ := x
  obtain ⟨rfl, rfl, rfl, rfl, hx, hb, hml, hown, hts, hK, hN, hT', hA, hlk, hr, hnm⟩ := G
  intro H locs ls hP hD hS hl
  exact lv_tableOut hx hb hdg (by rw [jI_T ha]; exact h) ht (kk H locs ls hP hD hS hl)
theorem j_tblIn (G : jG x l0 D0 Y cc own Ts nL0 R0 ret nm) {a dflt lo hi off : Int} {offs : Array Int} {len tgt : Nat} (i : Nat) (hdg : decode cc pc = .ok (.tableswitch dflt lo hi offs, len)) (ha : -2147483648 ≤ a ∧ a < 2147483648) (h1 : a = lo + i) (h2 : a ≤ hi) (ho : offs[i]? = some off) (ht : (pc : Int) + off = (tgt : Int)) (kk : J x k n ws tgt lv st) : J x k n ws pc lv (.int (jI a) :: st) := by
  obtain ⟨p, l, e, R, s, m, args, below, meth, c, Q, D, A, nL⟩ := x
  obtain ⟨rfl, rfl, rfl, rfl, hx, hb, hml, hown, hts, hK, hN, hT', hA, hlk, hr, hnm⟩ := G
  intro H locs ls hP hD hS hl
  exact lv_tableIn hx hb hdg (by rw [jI_T ha]; omega) (by rw [jI_T ha]; omega) (by rw [jI_T ha, show (a - lo).toNat = i by omega]; exact ho) ht (kk H locs ls hP hD hS hl)
theorem lkp_d (a d : Int) : ∀ ps : List (Int × Int), (∀ q ∈ ps, ¬ q.1 = a) → Op.lookupswitch.offset ps d a = d
  | [], _ => rfl
  | q :: r, h => by
    rw [show q = (q.1, q.2) from rfl, Op.lookupswitch.offset_cons, if_neg (h q List.mem_cons_self)]
    exact lkp_d a d r (fun z hz => h z (List.mem_cons_of_mem _ hz))
theorem j_lkp (G : jG x l0 D0 Y cc own Ts nL0 R0 ret nm) {a dflt off : Int} {ps : Array (Int × Int)} {len tgt : Nat} (hdg : decode cc pc = .ok (.lookupswitch dflt ps, len)) (ha : -2147483648 ≤ a ∧ a < 2147483648) (hp : (ps.toList.zip (ps.toList.drop 1)).all (fun (a, next) => a.1 < next.1) = true) (ho : Op.lookupswitch.offset ps.toList dflt a = off) (ht : (pc : Int) + off = (tgt : Int)) (kk : J x k n ws tgt lv st) : J x k n ws pc lv (.int (jI a) :: st) := by
  obtain ⟨p, l, e, R, s, m, args, below, meth, c, Q, D, A, nL⟩ := x
  obtain ⟨rfl, rfl, rfl, rfl, hx, hb, hml, hown, hts, hK, hN, hT', hA, hlk, hr, hnm⟩ := G
  intro H locs ls hP hD hS hl
  exact lv_lookup hx hb hdg hp (by rw [jI_T ha]; exact ho) ht (kk H locs ls hP hD hS hl)
theorem j_i2l (G : jG x l0 D0 Y cc own Ts nL0 R0 ret nm) {a : Int} (hdg : decode cc pc = .ok (.i2l, 1)) (ha : -2147483648 ≤ a ∧ a < 2147483648) (kk : J x k n ws (pc + 1) lv (.long (jL a) :: st)) : J x k n ws pc lv (.int (jI a) :: st) := by
  obtain ⟨p, l, e, R, s, m, args, below, meth, c, Q, D, A, nL⟩ := x
  obtain ⟨rfl, rfl, rfl, rfl, hx, hb, hml, hown, hts, hK, hN, hT', hA, hlk, hr, hnm⟩ := G
  intro H locs ls hP hD hS hl
  exact lv_i2l hx hb hdg (jL_of ha) (kk H locs ls hP hD hS hl)
theorem j_lmul (G : jG x l0 D0 Y cc own Ts nL0 R0 ret nm) {a b : Int} (hdg : decode cc pc = .ok (.lmul, 1)) (kk : J x k n ws (pc + 1) lv (.long (jL (a * b)) :: st)) : J x k n ws pc lv (.long (jL b) :: .long (jL a) :: st) := by
  obtain ⟨p, l, e, R, s, m, args, below, meth, c, Q, D, A, nL⟩ := x
  obtain ⟨rfl, rfl, rfl, rfl, hx, hb, hml, hown, hts, hK, hN, hT', hA, hlk, hr, hnm⟩ := G
  intro H locs ls hP hD hS hl
  exact lv_lmul hx hb hdg (by rw [jL_mul]; exact kk H locs ls hP hD hS hl)
theorem j_ldiv (G : jG x l0 D0 Y cc own Ts nL0 R0 ret nm) {a b : Int} (hdg : decode cc pc = .ok (.ldiv, 1)) (ha : 0 ≤ a ∧ a < 9223372036854775808) (hb' : 0 < b ∧ b < 9223372036854775808) (kk : J x k n ws (pc + 1) lv (.long (jL (a / b)) :: st)) : J x k n ws pc lv (.long (jL b) :: .long (jL a) :: st) := by
  obtain ⟨p, l, e, R, s, m, args, below, meth, c, Q, D, A, nL⟩ := x
  obtain ⟨rfl, rfl, rfl, rfl, hx, hb, hml, hown, hts, hK, hN, hT', hA, hlk, hr, hnm⟩ := G
  intro H locs ls hP hD hS hl
  exact lv_ldiv hx hb hdg (fun q => by have h1 := jL_T (a := b) (by omega); rw [q, show (0 : Int64).toInt = 0 from rfl] at h1; omega) (by rw [jL_div ha hb']; exact kk H locs ls hP hD hS hl)
theorem j_l2i (G : jG x l0 D0 Y cc own Ts nL0 R0 ret nm) {a : Int} (hdg : decode cc pc = .ok (.l2i, 1)) (ha : 0 ≤ a ∧ a < 2147483648) (kk : J x k n ws (pc + 1) lv (.int (jI a) :: st)) : J x k n ws pc lv (.long (jL a) :: st) := by
  obtain ⟨p, l, e, R, s, m, args, below, meth, c, Q, D, A, nL⟩ := x
  obtain ⟨rfl, rfl, rfl, rfl, hx, hb, hml, hown, hts, hK, hN, hT', hA, hlk, hr, hnm⟩ := G
  intro H locs ls hP hD hS hl
  exact lv_l2i hx hb hdg (jL_i ha) (kk H locs ls hP hD hS hl)
end JR2
theorem jLe.nil {a b : va_W} (h : jLe a b) : jLe a (b ++ []) := by rw [List.append_nil]; exact h
theorem ite_01 (P : Prop) [Decidable P] : (if P then (1 : Int) else 0) = 0 ∨ (if P then (1 : Int) else 0) = 1 := by
  by_cases h : P
  · exact Or.inr (if_pos h)
  · exact Or.inl (if_neg h)
section JR3
variable {x : Cx} {l0 : Launch} {D0 : va_G} {Y : Nat → ClassId} {cc : ByteArray} {own : String} {Ts : List Cond} {nL0 : Nat} {R0 : Room} {ret : Option FieldType} {nm : String} {k n : Nat} {ws W' : va_W} {pc : Nat} {lv : List (Nat × Value)} {st : List Value}
theorem j_reti (G : jG x l0 D0 Y cc own Ts nL0 R0 ret nm) {e r : Int} (hdg : decode cc pc = .ok (.ireturn, 1)) (he : e = r) (hw : jLe ws W') (kr : jE x k n cc W' (some (.int (jI r)))) : J x k n ws pc lv [.int (jI e)] := by
  subst he
  exact jE_conv hw kr pc lv hdg
theorem j_retv (G : jG x l0 D0 Y cc own Ts nL0 R0 ret nm) (hdg : decode cc pc = .ok (.return_, 1)) (hw : jLe ws W') (kr : jE x k n cc W' none) : J x k n ws pc lv [] := jE_conv hw kr pc lv hdg
theorem j_reta (G : jG x l0 D0 Y cc own Ts nL0 R0 ret nm) {a : Nat} (hdg : decode cc pc = .ok (.areturn, 1)) (hw : jLe ws W') (kr : jE x k n cc W' (some (.ref a))) : J x k n ws pc lv [.ref a] := jE_conv hw kr pc lv hdg
end JR3
end
