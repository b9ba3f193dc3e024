/-! ===== BEGIN printed: names, fields, word lists, decode rows ===== -/
def RX0 : String := "PassNotes$Chart"
def TX0 : u_T := fun k => match k with
  | 0 => ("PassNotes$Chart", "froms", "[I", true)
  | 1 => ("PassNotes$Chart", "tos", "[I", true)
  | 2 => ("PassNotes$Chart", "lengths", "[I", true)
  | _ => ("PassNotes$Chart", "steps", "I", false)
def tyX0 : Nat → FieldType := fun k => match k with
  | 0 => .array .int
  | 1 => .array .int
  | 2 => .array .int
  | _ => .int
abbrev wsX00 : List Cond := u_ws RX0 TX0 4
theorem nmX0 : ∀ a, a < 4 → ∀ b, b < 4 → a ≠ b → (TX0 a).2.1 ≠ (TX0 b).2.1 := by decide +kernel
theorem tyX0_ok : ∀ k, k < 4 → parseFieldDescriptor (TX0 k).2.2.1 = some (tyX0 k) := by decide +kernel
abbrev cX0_init : ByteArray := prog_2_method_1_code
def yX0_init : MethodName := ⟨RX0, "<init>", "()V"⟩
abbrev cX0_clear : ByteArray := prog_2_method_2_code
def yX0_clear : MethodName := ⟨RX0, "clear", "()V"⟩
abbrev cX0_addStep : ByteArray := prog_2_method_3_code
def yX0_addStep : MethodName := ⟨RX0, "addStep", "(III)V"⟩
abbrev cX0_search : ByteArray := prog_2_method_4_code
def yX0_search : MethodName := ⟨RX0, "search", "(I[I)V"⟩
def RX1 : String := "PassNotes$Land"
def TX1 : u_T := fun k => match k with
  | 0 => ("PassNotes$Land", "areas", "[I", true)
  | 1 => ("PassNotes$Land", "firsts", "[I", true)
  | 2 => ("PassNotes$Land", "seconds", "[I", true)
  | 3 => ("PassNotes$Land", "lengths", "[I", true)
  | 4 => ("PassNotes$Land", "opens", "[Z", true)
  | 5 => ("PassNotes$Land", "huts", "I", false)
  | _ => ("PassNotes$Land", "passes", "I", false)
def tyX1 : Nat → FieldType := fun k => match k with
  | 0 => .array .int
  | 1 => .array .int
  | 2 => .array .int
  | 3 => .array .int
  | 4 => .array .boolean
  | 5 => .int
  | _ => .int
abbrev wsX10 : List Cond := u_ws RX1 TX1 7
theorem nmX1 : ∀ a, a < 7 → ∀ b, b < 7 → a ≠ b → (TX1 a).2.1 ≠ (TX1 b).2.1 := by decide +kernel
theorem tyX1_ok : ∀ k, k < 7 → parseFieldDescriptor (TX1 k).2.2.1 = some (tyX1 k) := by decide +kernel
abbrev cX1_init : ByteArray := prog_3_method_1_code
def yX1_init : MethodName := ⟨RX1, "<init>", "()V"⟩
abbrev cX1_huts : ByteArray := prog_3_method_2_code
def yX1_huts : MethodName := ⟨RX1, "huts", "()I"⟩
abbrev cX1_passes : ByteArray := prog_3_method_3_code
def yX1_passes : MethodName := ⟨RX1, "passes", "()I"⟩
abbrev cX1_area : ByteArray := prog_3_method_4_code
def yX1_area : MethodName := ⟨RX1, "area", "(I)I"⟩
abbrev cX1_first : ByteArray := prog_3_method_5_code
def yX1_first : MethodName := ⟨RX1, "first", "(I)I"⟩
abbrev cX1_second : ByteArray := prog_3_method_6_code
def yX1_second : MethodName := ⟨RX1, "second", "(I)I"⟩
abbrev cX1_length : ByteArray := prog_3_method_7_code
def yX1_length : MethodName := ⟨RX1, "length", "(I)I"⟩
abbrev cX1_isOpen : ByteArray := prog_3_method_8_code
def yX1_isOpen : MethodName := ⟨RX1, "isOpen", "(I)Z"⟩
abbrev cX1_addHut : ByteArray := prog_3_method_9_code
def yX1_addHut : MethodName := ⟨RX1, "addHut", "(I)I"⟩
abbrev cX1_addPass : ByteArray := prog_3_method_10_code
def yX1_addPass : MethodName := ⟨RX1, "addPass", "(III)I"⟩
abbrev cX1_changeLength : ByteArray := prog_3_method_11_code
def yX1_changeLength : MethodName := ⟨RX1, "changeLength", "(II)I"⟩
abbrev cX1_changeOpen : ByteArray := prog_3_method_12_code
def yX1_changeOpen : MethodName := ⟨RX1, "changeOpen", "(IZ)Z"⟩
abbrev cX1_openPasses : ByteArray := prog_3_method_13_code
def yX1_openPasses : MethodName := ⟨RX1, "openPasses", "()I"⟩
abbrev cX1_takesIn : ByteArray := prog_3_method_14_code
def yX1_takesIn : MethodName := ⟨RX1, "takesIn", "(II)Z"⟩
abbrev cX1_tellsNow : ByteArray := prog_3_method_15_code
def yX1_tellsNow : MethodName := ⟨RX1, "tellsNow", "(II)I"⟩
abbrev cX1_isStep : ByteArray := prog_3_method_16_code
def yX1_isStep : MethodName := ⟨RX1, "isStep", "(II)Z"⟩
abbrev cX1_draw : ByteArray := prog_3_method_17_code
def yX1_draw : MethodName := ⟨RX1, "draw", "(LPassNotes$Chart;)V"⟩
abbrev cX1_joinedPairs : ByteArray := prog_3_method_18_code
def yX1_joinedPairs : MethodName := ⟨RX1, "joinedPairs", "(I)I"⟩
abbrev cX1_groupOf : ByteArray := prog_3_method_19_code
def yX1_groupOf : MethodName := ⟨RX1, "groupOf", "(II)I"⟩
def RX2 : String := "PassNotes$Notes"
def TX2 : u_T := fun k => match k with
  | 0 => ("PassNotes$Notes", "land", "LPassNotes$Land;", true)
  | 1 => ("PassNotes$Notes", "chart", "LPassNotes$Chart;", true)
  | 2 => ("PassNotes$Notes", "wrote", "[I", true)
  | 3 => ("PassNotes$Notes", "ways", "[[I", true)
  | 4 => ("PassNotes$Notes", "waysFound", "[Z", true)
  | 5 => ("PassNotes$Notes", "held", "[LPassNotes$Sheet;", false)
  | 6 => ("PassNotes$Notes", "carried", "[LPassNotes$Sheet;", false)
  | _ => ("PassNotes$Notes", "minute", "I", false)
def tyX2 : Nat → FieldType := fun k => match k with
  | 0 => .object "PassNotes$Land"
  | 1 => .object "PassNotes$Chart"
  | 2 => .array .int
  | 3 => .array (.array .int)
  | 4 => .array .boolean
  | 5 => .array (.object "PassNotes$Sheet")
  | 6 => .array (.object "PassNotes$Sheet")
  | _ => .int
abbrev wsX20 : List Cond := u_ws RX2 TX2 8
theorem nmX2 : ∀ a, a < 8 → ∀ b, b < 8 → a ≠ b → (TX2 a).2.1 ≠ (TX2 b).2.1 := by decide +kernel
theorem tyX2_ok : ∀ k, k < 8 → parseFieldDescriptor (TX2 k).2.2.1 = some (tyX2 k) := by decide +kernel
abbrev cX2_init : ByteArray := prog_4_method_1_code
def yX2_init : MethodName := ⟨RX2, "<init>", "(LPassNotes$Land;)V"⟩
abbrev cX2_copy : ByteArray := prog_4_method_2_code
def yX2_copy : MethodName := ⟨RX2, "copy", "(LPassNotes$Notes;)V"⟩
abbrev cX2_minute : ByteArray := prog_4_method_3_code
def yX2_minute : MethodName := ⟨RX2, "minute", "()I"⟩
abbrev cX2_wroteInAll : ByteArray := prog_4_method_4_code
def yX2_wroteInAll : MethodName := ⟨RX2, "wroteInAll", "(I)I"⟩
abbrev cX2_held : ByteArray := prog_4_method_5_code
def yX2_held : MethodName := ⟨RX2, "held", "(II)LPassNotes$Sheet;"⟩
abbrev cX2_burnAll : ByteArray := prog_4_method_6_code
def yX2_burnAll : MethodName := ⟨RX2, "burnAll", "(I)I"⟩
abbrev cX2_sheetsOf : ByteArray := prog_4_method_7_code
def yX2_sheetsOf : MethodName := ⟨RX2, "sheetsOf", "(I)I"⟩
abbrev cX2_sheets : ByteArray := prog_4_method_8_code
def yX2_sheets : MethodName := ⟨RX2, "sheets", "()I"⟩
abbrev cX2_ages : ByteArray := prog_4_method_9_code
def yX2_ages : MethodName := ⟨RX2, "ages", "()I"⟩
abbrev cX2_passMinutes : ByteArray := prog_4_method_10_code
def yX2_passMinutes : MethodName := ⟨RX2, "passMinutes", "(I)I"⟩
abbrev cX2_writeSheets : ByteArray := prog_4_method_11_code
def yX2_writeSheets : MethodName := ⟨RX2, "writeSheets", "()I"⟩
abbrev cX2_mustWrite : ByteArray := prog_4_method_12_code
def yX2_mustWrite : MethodName := ⟨RX2, "mustWrite", "(I)Z"⟩
abbrev cX2_carrySheets : ByteArray := prog_4_method_13_code
def yX2_carrySheets : MethodName := ⟨RX2, "carrySheets", "()V"⟩
abbrev cX2_carry : ByteArray := prog_4_method_14_code
def yX2_carry : MethodName := ⟨RX2, "carry", "(II)V"⟩
abbrev cX2_isNewer : ByteArray := prog_4_method_15_code
def yX2_isNewer : MethodName := ⟨RX2, "isNewer", "(LPassNotes$Sheet;LPassNotes$Sheet;)Z"⟩
abbrev cX2_throwOldAway : ByteArray := prog_4_method_16_code
def yX2_throwOldAway : MethodName := ⟨RX2, "throwOldAway", "()V"⟩
abbrev cX2_takesForOpen : ByteArray := prog_4_method_17_code
def yX2_takesForOpen : MethodName := ⟨RX2, "takesForOpen", "(II)Z"⟩
abbrev cX2_takersForOpen : ByteArray := prog_4_method_18_code
def yX2_takersForOpen : MethodName := ⟨RX2, "takersForOpen", "(I)I"⟩
abbrev cX2_knownWay : ByteArray := prog_4_method_19_code
def yX2_knownWay : MethodName := ⟨RX2, "knownWay", "(II)I"⟩
abbrev cX2_findWays : ByteArray := prog_4_method_20_code
def yX2_findWays : MethodName := ⟨RX2, "findWays", "(I)V"⟩
abbrev cX2_forgetWays : ByteArray := prog_4_method_21_code
def yX2_forgetWays : MethodName := ⟨RX2, "forgetWays", "()V"⟩
abbrev cX2_knownHuts : ByteArray := prog_4_method_22_code
def yX2_knownHuts : MethodName := ⟨RX2, "knownHuts", "(I)I"⟩
abbrev cX2_letter : ByteArray := prog_4_method_23_code
def yX2_letter : MethodName := ⟨RX2, "letter", "(II)I"⟩
abbrev cX2_reachedHuts : ByteArray := prog_4_method_24_code
def yX2_reachedHuts : MethodName := ⟨RX2, "reachedHuts", "(I)I"⟩
abbrev cX2_reachedPairs : ByteArray := prog_4_method_25_code
def yX2_reachedPairs : MethodName := ⟨RX2, "reachedPairs", "()I"⟩
abbrev cX2_slot : ByteArray := prog_4_method_26_code
def yX2_slot : MethodName := ⟨RX2, "slot", "(II)I"⟩
def RX3 : String := "PassNotes$Sheet"
def TX3 : u_T := fun k => match k with
  | 0 => ("PassNotes$Sheet", "number", "I", true)
  | 1 => ("PassNotes$Sheet", "written", "I", true)
  | _ => ("PassNotes$Sheet", "lengths", "[I", true)
def tyX3 : Nat → FieldType := fun k => match k with
  | 0 => .int
  | 1 => .int
  | _ => .array .int
abbrev wsX30 : List Cond := u_ws RX3 TX3 3
theorem nmX3 : ∀ a, a < 3 → ∀ b, b < 3 → a ≠ b → (TX3 a).2.1 ≠ (TX3 b).2.1 := by decide +kernel
theorem tyX3_ok : ∀ k, k < 3 → parseFieldDescriptor (TX3 k).2.2.1 = some (tyX3 k) := by decide +kernel
abbrev cX3_init : ByteArray := prog_5_method_1_code
def yX3_init : MethodName := ⟨RX3, "<init>", "(IILPassNotes$Land;I)V"⟩
abbrev cX3_number : ByteArray := prog_5_method_2_code
def yX3_number : MethodName := ⟨RX3, "number", "()I"⟩
abbrev cX3_age : ByteArray := prog_5_method_3_code
def yX3_age : MethodName := ⟨RX3, "age", "(I)I"⟩
abbrev cX3_length : ByteArray := prog_5_method_4_code
def yX3_length : MethodName := ⟨RX3, "length", "(I)I"⟩
abbrev cX3_tells : ByteArray := prog_5_method_5_code
def yX3_tells : MethodName := ⟨RX3, "tells", "(I)Z"⟩
abbrev cX3_passesTold : ByteArray := prog_5_method_6_code
def yX3_passesTold : MethodName := ⟨RX3, "passesTold", "()I"⟩
abbrev cX3_tellsAsNow : ByteArray := prog_5_method_7_code
def yX3_tellsAsNow : MethodName := ⟨RX3, "tellsAsNow", "(LPassNotes$Land;I)Z"⟩
def RX4 : String := "PassNotes"
def TX4 : u_T := fun k => match k with
  | 0 => ("PassNotes", "land", "LPassNotes$Land;", true)
  | 1 => ("PassNotes", "now", "LPassNotes$Notes;", true)
  | 2 => ("PassNotes", "later", "LPassNotes$Notes;", true)
  | 3 => ("PassNotes", "truthChart", "LPassNotes$Chart;", true)
  | _ => ("PassNotes", "truthWays", "[I", true)
def tyX4 : Nat → FieldType := fun k => match k with
  | 0 => .object "PassNotes$Land"
  | 1 => .object "PassNotes$Notes"
  | 2 => .object "PassNotes$Notes"
  | 3 => .object "PassNotes$Chart"
  | _ => .array .int
abbrev wsX40 : List Cond := u_ws RX4 TX4 5
theorem nmX4 : ∀ a, a < 5 → ∀ b, b < 5 → a ≠ b → (TX4 a).2.1 ≠ (TX4 b).2.1 := by decide +kernel
theorem tyX4_ok : ∀ k, k < 5 → parseFieldDescriptor (TX4 k).2.2.1 = some (tyX4 k) := by decide +kernel
abbrev cX4_init : ByteArray := prog_1_method_1_code
def yX4_init : MethodName := ⟨RX4, "<init>", "()V"⟩
abbrev cX4_hut : ByteArray := prog_1_method_2_code
def yX4_hut : MethodName := ⟨RX4, "hut", "(I)I"⟩
abbrev cX4_pass : ByteArray := prog_1_method_3_code
def yX4_pass : MethodName := ⟨RX4, "pass", "(III)I"⟩
abbrev cX4_setLength : ByteArray := prog_1_method_4_code
def yX4_setLength : MethodName := ⟨RX4, "setLength", "(II)I"⟩
abbrev cX4_setOpen : ByteArray := prog_1_method_5_code
def yX4_setOpen : MethodName := ⟨RX4, "setOpen", "(IZ)Z"⟩
abbrev cX4_burn : ByteArray := prog_1_method_6_code
def yX4_burn : MethodName := ⟨RX4, "burn", "(I)I"⟩
abbrev cX4_sheet : ByteArray := prog_1_method_7_code
def yX4_sheet : MethodName := ⟨RX4, "sheet", "(III)I"⟩
abbrev cX4_way : ByteArray := prog_1_method_8_code
def yX4_way : MethodName := ⟨RX4, "way", "(III)I"⟩
abbrev cX4_post : ByteArray := prog_1_method_9_code
def yX4_post : MethodName := ⟨RX4, "post", "(II)I"⟩
abbrev cX4_truth : ByteArray := prog_1_method_10_code
def yX4_truth : MethodName := ⟨RX4, "truth", "(II)I"⟩
abbrev cX4_about : ByteArray := prog_1_method_11_code
def yX4_about : MethodName := ⟨RX4, "about", "(II)I"⟩
abbrev cX4_told : ByteArray := prog_1_method_12_code
def yX4_told : MethodName := ⟨RX4, "told", "(II)I"⟩
abbrev cX4_count : ByteArray := prog_1_method_13_code
def yX4_count : MethodName := ⟨RX4, "count", "(I)I"⟩
abbrev cX4_go : ByteArray := prog_1_method_14_code
def yX4_go : MethodName := ⟨RX4, "go", "(I)I"⟩
abbrev cX4_foresee : ByteArray := prog_1_method_15_code
def yX4_foresee : MethodName := ⟨RX4, "foresee", "(II)I"⟩
abbrev cX4_settles : ByteArray := prog_1_method_16_code
def yX4_settles : MethodName := ⟨RX4, "settles", "()I"⟩
abbrev cX4_advise : ByteArray := prog_1_method_17_code
def yX4_advise : MethodName := ⟨RX4, "advise", "()I"⟩
abbrev cX4_mean : ByteArray := prog_1_method_18_code
def yX4_mean : MethodName := ⟨RX4, "mean", "()D"⟩
abbrev cX4_digest : ByteArray := prog_1_method_19_code
def yX4_digest : MethodName := ⟨RX4, "digest", "()J"⟩
abbrev cX4_digestOfPair : ByteArray := prog_1_method_20_code
def yX4_digestOfPair : MethodName := ⟨RX4, "digestOfPair", "(JII)J"⟩
abbrev cX4_checkHut : ByteArray := prog_1_method_21_code
def yX4_checkHut : MethodName := ⟨RX4, "checkHut", "(I)V"⟩
abbrev cX4_checkPass : ByteArray := prog_1_method_22_code
def yX4_checkPass : MethodName := ⟨RX4, "checkPass", "(I)V"⟩
abbrev cX4_checkWhat : ByteArray := prog_1_method_23_code
def yX4_checkWhat : MethodName := ⟨RX4, "checkWhat", "(II)V"⟩
abbrev cX4_checkLength : ByteArray := prog_1_method_24_code
def yX4_checkLength : MethodName := ⟨RX4, "checkLength", "(I)V"⟩
abbrev cX4_checkMinutes : ByteArray := prog_1_method_25_code
def yX4_checkMinutes : MethodName := ⟨RX4, "checkMinutes", "(I)V"⟩
def RX5 : String := "PassNotesModel"
def TX5 : u_T := fun k => match k with
  | 0 => ("PassNotesModel", "thrown", "I", false)
  | 1 => ("PassNotesModel", "minute", "I", false)
  | 2 => ("PassNotesModel", "huts", "I", false)
  | 3 => ("PassNotesModel", "area", "[I", true)
  | 4 => ("PassNotesModel", "written", "[I", false)
  | 5 => ("PassNotesModel", "has", "[[I", false)
  | 6 => ("PassNotesModel", "passes", "I", false)
  | 7 => ("PassNotesModel", "one", "[I", true)
  | 8 => ("PassNotesModel", "other", "[I", true)
  | 9 => ("PassNotesModel", "length", "[I", true)
  | 10 => ("PassNotesModel", "open", "I", false)
  | 11 => ("PassNotesModel", "far", "[I", true)
  | 12 => ("PassNotesModel", "hops", "[I", true)
  | 13 => ("PassNotesModel", "code", "[I", true)
  | 14 => ("PassNotesModel", "first", "[I", true)
  | _ => ("PassNotesModel", "steps", "[I", true)
def tyX5 : Nat → FieldType := fun k => match k with
  | 0 => .int
  | 1 => .int
  | 2 => .int
  | 3 => .array .int
  | 4 => .array .int
  | 5 => .array (.array .int)
  | 6 => .int
  | 7 => .array .int
  | 8 => .array .int
  | 9 => .array .int
  | 10 => .int
  | 11 => .array .int
  | 12 => .array .int
  | 13 => .array .int
  | 14 => .array .int
  | _ => .array .int
abbrev wsX50 : List Cond := u_ws RX5 TX5 16
theorem nmX5 : ∀ a, a < 16 → ∀ b, b < 16 → a ≠ b → (TX5 a).2.1 ≠ (TX5 b).2.1 := by decide +kernel
theorem tyX5_ok : ∀ k, k < 16 → parseFieldDescriptor (TX5 k).2.2.1 = some (tyX5 k) := by decide +kernel
abbrev cX5_init : ByteArray := prog_7_method_1_code
def yX5_init : MethodName := ⟨RX5, "<init>", "()V"⟩
abbrev cX5_thrown : ByteArray := prog_7_method_2_code
def yX5_thrown : MethodName := ⟨RX5, "thrown", "()I"⟩
abbrev cX5_no : ByteArray := prog_7_method_3_code
def yX5_no : MethodName := ⟨RX5, "no", "(I)I"⟩
abbrev cX5_isIn : ByteArray := prog_7_method_4_code
def yX5_isIn : MethodName := ⟨RX5, "isIn", "(III)Z"⟩
abbrev cX5_isHut : ByteArray := prog_7_method_5_code
def yX5_isHut : MethodName := ⟨RX5, "isHut", "(I)Z"⟩
abbrev cX5_isPass : ByteArray := prog_7_method_6_code
def yX5_isPass : MethodName := ⟨RX5, "isPass", "(I)Z"⟩
abbrev cX5_has : ByteArray := prog_7_method_7_code
def yX5_has : MethodName := ⟨RX5, "has", "(II)Z"⟩
abbrev cX5_of : ByteArray := prog_7_method_8_code
def yX5_of : MethodName := ⟨RX5, "of", "(II)[I"⟩
abbrev cX5_isThere : ByteArray := prog_7_method_9_code
def yX5_isThere : MethodName := ⟨RX5, "isThere", "(II)Z"⟩
abbrev cX5_age : ByteArray := prog_7_method_10_code
def yX5_age : MethodName := ⟨RX5, "age", "(II)I"⟩
abbrev cX5_isAt : ByteArray := prog_7_method_11_code
def yX5_isAt : MethodName := ⟨RX5, "isAt", "(II)Z"⟩
abbrev cX5_sheetNow : ByteArray := prog_7_method_12_code
def yX5_sheetNow : MethodName := ⟨RX5, "sheetNow", "(I)[I"⟩
abbrev cX5_isTrue : ByteArray := prog_7_method_13_code
def yX5_isTrue : MethodName := ⟨RX5, "isTrue", "([II)Z"⟩
abbrev cX5_isDue : ByteArray := prog_7_method_14_code
def yX5_isDue : MethodName := ⟨RX5, "isDue", "(I)Z"⟩
abbrev cX5_write : ByteArray := prog_7_method_15_code
def yX5_write : MethodName := ⟨RX5, "write", "(I)V"⟩
abbrev cX5_takes : ByteArray := prog_7_method_16_code
def yX5_takes : MethodName := ⟨RX5, "takes", "(II)Z"⟩
abbrev cX5_carry : ByteArray := prog_7_method_17_code
def yX5_carry : MethodName := ⟨RX5, "carry", "([[III)V"⟩
abbrev cX5_step : ByteArray := prog_7_method_18_code
def yX5_step : MethodName := ⟨RX5, "step", "()I"⟩
abbrev cX5_isTold : ByteArray := prog_7_method_19_code
def yX5_isTold : MethodName := ⟨RX5, "isTold", "(III)Z"⟩
abbrev cX5_isTaken : ByteArray := prog_7_method_20_code
def yX5_isTaken : MethodName := ⟨RX5, "isTaken", "(II)Z"⟩
abbrev cX5_lengthsFor : ByteArray := prog_7_method_21_code
def yX5_lengthsFor : MethodName := ⟨RX5, "lengthsFor", "(I)[I"⟩
abbrev cX5_shorten : ByteArray := prog_7_method_22_code
def yX5_shorten : MethodName := ⟨RX5, "shorten", "([IIII)V"⟩
abbrev cX5_isBetter : ByteArray := prog_7_method_23_code
def yX5_isBetter : MethodName := ⟨RX5, "isBetter", "(IIII)Z"⟩
abbrev cX5_reach : ByteArray := prog_7_method_24_code
def yX5_reach : MethodName := ⟨RX5, "reach", "(IIIII)V"⟩
abbrev cX5_nearest : ByteArray := prog_7_method_25_code
def yX5_nearest : MethodName := ⟨RX5, "nearest", "([Z)I"⟩
abbrev cX5_look : ByteArray := prog_7_method_26_code
def yX5_look : MethodName := ⟨RX5, "look", "(I[I)V"⟩
abbrev cX5_lookBy : ByteArray := prog_7_method_27_code
def yX5_lookBy : MethodName := ⟨RX5, "lookBy", "(I)V"⟩
abbrev cX5_lookAll : ByteArray := prog_7_method_28_code
def yX5_lookAll : MethodName := ⟨RX5, "lookAll", "()V"⟩
abbrev cX5_isOpenBetween : ByteArray := prog_7_method_29_code
def yX5_isOpenBetween : MethodName := ⟨RX5, "isOpenBetween", "(II)Z"⟩
abbrev cX5_letter : ByteArray := prog_7_method_30_code
def yX5_letter : MethodName := ⟨RX5, "letter", "(II)I"⟩
abbrev cX5_lengthsNow : ByteArray := prog_7_method_31_code
def yX5_lengthsNow : MethodName := ⟨RX5, "lengthsNow", "(I)[I"⟩
abbrev cX5_pairsOver : ByteArray := prog_7_method_32_code
def yX5_pairsOver : MethodName := ⟨RX5, "pairsOver", "(I)I"⟩
abbrev cX5_letters : ByteArray := prog_7_method_33_code
def yX5_letters : MethodName := ⟨RX5, "letters", "()I"⟩
abbrev cX5_hut : ByteArray := prog_7_method_34_code
def yX5_hut : MethodName := ⟨RX5, "hut", "(I)I"⟩
abbrev cX5_pass : ByteArray := prog_7_method_35_code
def yX5_pass : MethodName := ⟨RX5, "pass", "(III)I"⟩
abbrev cX5_setLength : ByteArray := prog_7_method_36_code
def yX5_setLength : MethodName := ⟨RX5, "setLength", "(II)I"⟩
abbrev cX5_setOpen : ByteArray := prog_7_method_37_code
def yX5_setOpen : MethodName := ⟨RX5, "setOpen", "(IZ)Z"⟩
abbrev cX5_sheetsOf : ByteArray := prog_7_method_38_code
def yX5_sheetsOf : MethodName := ⟨RX5, "sheetsOf", "(I)I"⟩
abbrev cX5_burn : ByteArray := prog_7_method_39_code
def yX5_burn : MethodName := ⟨RX5, "burn", "(I)I"⟩
abbrev cX5_sheetTold : ByteArray := prog_7_method_40_code
def yX5_sheetTold : MethodName := ⟨RX5, "sheetTold", "(III)I"⟩
abbrev cX5_sheet : ByteArray := prog_7_method_41_code
def yX5_sheet : MethodName := ⟨RX5, "sheet", "(III)I"⟩
abbrev cX5_wayTold : ByteArray := prog_7_method_42_code
def yX5_wayTold : MethodName := ⟨RX5, "wayTold", "(II)I"⟩
abbrev cX5_way : ByteArray := prog_7_method_43_code
def yX5_way : MethodName := ⟨RX5, "way", "(III)I"⟩
abbrev cX5_post : ByteArray := prog_7_method_44_code
def yX5_post : MethodName := ⟨RX5, "post", "(II)I"⟩
abbrev cX5_truth : ByteArray := prog_7_method_45_code
def yX5_truth : MethodName := ⟨RX5, "truth", "(II)I"⟩
abbrev cX5_takers : ByteArray := prog_7_method_46_code
def yX5_takers : MethodName := ⟨RX5, "takers", "(I)I"⟩
abbrev cX5_passTold : ByteArray := prog_7_method_47_code
def yX5_passTold : MethodName := ⟨RX5, "passTold", "(II)I"⟩
abbrev cX5_about : ByteArray := prog_7_method_48_code
def yX5_about : MethodName := ⟨RX5, "about", "(II)I"⟩
abbrev cX5_waysOf : ByteArray := prog_7_method_49_code
def yX5_waysOf : MethodName := ⟨RX5, "waysOf", "(I)I"⟩
abbrev cX5_lettersOf : ByteArray := prog_7_method_50_code
def yX5_lettersOf : MethodName := ⟨RX5, "lettersOf", "(I)I"⟩
abbrev cX5_hutTold : ByteArray := prog_7_method_51_code
def yX5_hutTold : MethodName := ⟨RX5, "hutTold", "(II)I"⟩
abbrev cX5_told : ByteArray := prog_7_method_52_code
def yX5_told : MethodName := ⟨RX5, "told", "(II)I"⟩
abbrev cX5_sheets : ByteArray := prog_7_method_53_code
def yX5_sheets : MethodName := ⟨RX5, "sheets", "()I"⟩
abbrev cX5_counted : ByteArray := prog_7_method_54_code
def yX5_counted : MethodName := ⟨RX5, "counted", "(I)I"⟩
abbrev cX5_count : ByteArray := prog_7_method_55_code
def yX5_count : MethodName := ⟨RX5, "count", "(I)I"⟩
abbrev cX5_stepAll : ByteArray := prog_7_method_56_code
def yX5_stepAll : MethodName := ⟨RX5, "stepAll", "(I)I"⟩
abbrev cX5_go : ByteArray := prog_7_method_57_code
def yX5_go : MethodName := ⟨RX5, "go", "(I)I"⟩
abbrev cX5_keepBy : ByteArray := prog_7_method_58_code
def yX5_keepBy : MethodName := ⟨RX5, "keepBy", "([[I[II)V"⟩
abbrev cX5_part : ByteArray := prog_7_method_59_code
def yX5_part : MethodName := ⟨RX5, "part", "()V"⟩
abbrev cX5_foreseen : ByteArray := prog_7_method_60_code
def yX5_foreseen : MethodName := ⟨RX5, "foreseen", "(II)I"⟩
abbrev cX5_foresee : ByteArray := prog_7_method_61_code
def yX5_foresee : MethodName := ⟨RX5, "foresee", "(II)I"⟩
abbrev cX5_isSettled : ByteArray := prog_7_method_62_code
def yX5_isSettled : MethodName := ⟨RX5, "isSettled", "(I)Z"⟩
abbrev cX5_settledBehind : ByteArray := prog_7_method_63_code
def yX5_settledBehind : MethodName := ⟨RX5, "settledBehind", "()I"⟩
abbrev cX5_settles : ByteArray := prog_7_method_64_code
def yX5_settles : MethodName := ⟨RX5, "settles", "()I"⟩
abbrev cX5_advise : ByteArray := prog_7_method_65_code
def yX5_advise : MethodName := ⟨RX5, "advise", "()I"⟩
abbrev cX5_mean : ByteArray := prog_7_method_66_code
def yX5_mean : MethodName := ⟨RX5, "mean", "()D"⟩
abbrev cX5_digest : ByteArray := prog_7_method_67_code
def yX5_digest : MethodName := ⟨RX5, "digest", "()J"⟩
def RJ6 : String := "java/lang/Integer"
def TJ6 : u_T := fun k => match k with
  | _ => ("", "", "", false)
def tyJ6 : Nat → FieldType := fun k => match k with
  | _ => .int
abbrev wsJ60 : List Cond := u_ws RJ6 TJ6 0
theorem nmJ6 : ∀ a, a < 0 → ∀ b, b < 0 → a ≠ b → (TJ6 a).2.1 ≠ (TJ6 b).2.1 := by decide +kernel
theorem tyJ6_ok : ∀ k, k < 0 → parseFieldDescriptor (TJ6 k).2.2.1 = some (tyJ6 k) := by decide +kernel
abbrev cJ6_bitCount_0f7a4 : ByteArray := prog_12_method_49_code
def yJ6_bitCount_0f7a4 : MethodName := ⟨RJ6, "bitCount", "(I)I"⟩
def RJ0 : String := "java/lang/String"
def TJ0 : u_T := fun k => match k with
  | _ => ("", "", "", false)
def tyJ0 : Nat → FieldType := fun k => match k with
  | _ => .int
abbrev wsJ00 : List Cond := u_ws RJ0 TJ0 0
theorem nmJ0 : ∀ a, a < 0 → ∀ b, b < 0 → a ≠ b → (TJ0 a).2.1 ≠ (TJ0 b).2.1 := by decide +kernel
theorem tyJ0_ok : ∀ k, k < 0 → parseFieldDescriptor (TJ0 k).2.2.1 = some (tyJ0 k) := by decide +kernel
def RJ10 : String := "java/lang/System"
def TJ10 : u_T := fun k => match k with
  | _ => ("", "", "", false)
def tyJ10 : Nat → FieldType := fun k => match k with
  | _ => .int
abbrev wsJ100 : List Cond := u_ws RJ10 TJ10 0
theorem nmJ10 : ∀ a, a < 0 → ∀ b, b < 0 → a ≠ b → (TJ10 a).2.1 ≠ (TJ10 b).2.1 := by decide +kernel
theorem tyJ10_ok : ∀ k, k < 0 → parseFieldDescriptor (TJ10 k).2.2.1 = some (tyJ10 k) := by decide +kernel
def RL : String := "PassNotesLaw"
abbrev cL_hut : ByteArray := method_3_code
def yL_hut : MethodName := ⟨RL, "hut", "(LPassNotes;I[J)I"⟩
abbrev cL_pass : ByteArray := method_4_code
def yL_pass : MethodName := ⟨RL, "pass", "(LPassNotes;III[J)I"⟩
abbrev cL_setLength : ByteArray := method_5_code
def yL_setLength : MethodName := ⟨RL, "setLength", "(LPassNotes;II[J)I"⟩
abbrev cL_setOpen : ByteArray := method_6_code
def yL_setOpen : MethodName := ⟨RL, "setOpen", "(LPassNotes;IZ[J)I"⟩
abbrev cL_burn : ByteArray := method_7_code
def yL_burn : MethodName := ⟨RL, "burn", "(LPassNotes;I[J)I"⟩
abbrev cL_sheet : ByteArray := method_8_code
def yL_sheet : MethodName := ⟨RL, "sheet", "(LPassNotes;III[J)I"⟩
abbrev cL_way : ByteArray := method_9_code
def yL_way : MethodName := ⟨RL, "way", "(LPassNotes;III[J)I"⟩
abbrev cL_post : ByteArray := method_10_code
def yL_post : MethodName := ⟨RL, "post", "(LPassNotes;II[J)I"⟩
abbrev cL_truth : ByteArray := method_11_code
def yL_truth : MethodName := ⟨RL, "truth", "(LPassNotes;II[J)I"⟩
abbrev cL_about : ByteArray := method_12_code
def yL_about : MethodName := ⟨RL, "about", "(LPassNotes;II[J)I"⟩
abbrev cL_told : ByteArray := method_13_code
def yL_told : MethodName := ⟨RL, "told", "(LPassNotes;II[J)I"⟩
abbrev cL_count : ByteArray := method_14_code
def yL_count : MethodName := ⟨RL, "count", "(LPassNotes;I[J)I"⟩
abbrev cL_go : ByteArray := method_15_code
def yL_go : MethodName := ⟨RL, "go", "(LPassNotes;I[J)I"⟩
abbrev cL_foresee : ByteArray := method_16_code
def yL_foresee : MethodName := ⟨RL, "foresee", "(LPassNotes;II[J)I"⟩
abbrev cL_law : ByteArray := code
def yL_law : MethodName := ⟨RL, "law", "([I)Z"⟩
def wsX0_init : List Cond := .code yX0_init cX0_init 1 none :: ([.methodLink RX0 3 objectInit, .instanceMethod objectInit, .code objectInit ⟨#[0xb1]⟩ 1 none, .arrayClass .int, .fieldLink RX0 9 "PassNotes$Chart" "froms" "[I", .fieldLink RX0 15 "PassNotes$Chart" "tos" "[I", .fieldLink RX0 18 "PassNotes$Chart" "lengths" "[I"] ++ wsX00)
def wsX0_clear : List Cond := .code yX0_clear cX0_clear 1 none :: ([.fieldLink RX0 21 "PassNotes$Chart" "steps" "I"] ++ wsX00)
def wsX0_addStep : List Cond := .code yX0_addStep cX0_addStep 4 none :: ([.fieldLink RX0 21 "PassNotes$Chart" "steps" "I", .fieldLink RX0 9 "PassNotes$Chart" "froms" "[I", .fieldLink RX0 15 "PassNotes$Chart" "tos" "[I", .fieldLink RX0 18 "PassNotes$Chart" "lengths" "[I"] ++ wsX00)
def wsX0_search : List Cond := .code yX0_search cX0_search 7 none :: ([.constant RX0 25 (1073741824), .fieldLink RX0 21 "PassNotes$Chart" "steps" "I", .fieldLink RX0 9 "PassNotes$Chart" "froms" "[I", .fieldLink RX0 18 "PassNotes$Chart" "lengths" "[I", .fieldLink RX0 15 "PassNotes$Chart" "tos" "[I"] ++ wsX00)
def wsX1_init : List Cond := .code yX1_init cX1_init 1 none :: ([.methodLink RX1 3 objectInit, .instanceMethod objectInit, .code objectInit ⟨#[0xb1]⟩ 1 none, .arrayClass .int, .fieldLink RX1 9 "PassNotes$Land" "areas" "[I", .fieldLink RX1 15 "PassNotes$Land" "firsts" "[I", .fieldLink RX1 18 "PassNotes$Land" "seconds" "[I", .fieldLink RX1 21 "PassNotes$Land" "lengths" "[I", .arrayClass .boolean, .fieldLink RX1 24 "PassNotes$Land" "opens" "[Z"] ++ wsX10)
def wsX1_huts : List Cond := .code yX1_huts cX1_huts 1 (some .int) :: ([.fieldLink RX1 28 "PassNotes$Land" "huts" "I"] ++ wsX10)
def wsX1_passes : List Cond := .code yX1_passes cX1_passes 1 (some .int) :: ([.fieldLink RX1 32 "PassNotes$Land" "passes" "I"] ++ wsX10)
def wsX1_area : List Cond := .code yX1_area cX1_area 2 (some .int) :: ([.fieldLink RX1 9 "PassNotes$Land" "areas" "[I"] ++ wsX10)
def wsX1_first : List Cond := .code yX1_first cX1_first 2 (some .int) :: ([.fieldLink RX1 15 "PassNotes$Land" "firsts" "[I"] ++ wsX10)
def wsX1_second : List Cond := .code yX1_second cX1_second 2 (some .int) :: ([.fieldLink RX1 18 "PassNotes$Land" "seconds" "[I"] ++ wsX10)
def wsX1_length : List Cond := .code yX1_length cX1_length 2 (some .int) :: ([.fieldLink RX1 21 "PassNotes$Land" "lengths" "[I"] ++ wsX10)
def wsX1_isOpen : List Cond := .code yX1_isOpen cX1_isOpen 2 (some .boolean) :: ([.fieldLink RX1 24 "PassNotes$Land" "opens" "[Z"] ++ wsX10)
def wsX1_addHut : List Cond := .code yX1_addHut cX1_addHut 2 (some .int) :: ([.fieldLink RX1 28 "PassNotes$Land" "huts" "I", .fieldLink RX1 9 "PassNotes$Land" "areas" "[I"] ++ wsX10)
def wsX1_addPass : List Cond := .code yX1_addPass cX1_addPass 4 (some .int) :: ([.fieldLink RX1 32 "PassNotes$Land" "passes" "I", .fieldLink RX1 15 "PassNotes$Land" "firsts" "[I", .fieldLink RX1 18 "PassNotes$Land" "seconds" "[I", .fieldLink RX1 21 "PassNotes$Land" "lengths" "[I", .fieldLink RX1 24 "PassNotes$Land" "opens" "[Z"] ++ wsX10)
def wsX1_changeLength : List Cond := .code yX1_changeLength cX1_changeLength 4 (some .int) :: ([.fieldLink RX1 21 "PassNotes$Land" "lengths" "[I"] ++ wsX10)
def wsX1_changeOpen : List Cond := .code yX1_changeOpen cX1_changeOpen 4 (some .boolean) :: ([.fieldLink RX1 24 "PassNotes$Land" "opens" "[Z"] ++ wsX10)
def wsX1_openPasses : List Cond := .code yX1_openPasses cX1_openPasses 3 (some .int) :: ([.fieldLink RX1 32 "PassNotes$Land" "passes" "I", .fieldLink RX1 24 "PassNotes$Land" "opens" "[Z"] ++ wsX10)
def wsX1_takesIn : List Cond := .code yX1_takesIn cX1_takesIn 3 (some .boolean) :: ([.fieldLink RX1 9 "PassNotes$Land" "areas" "[I"] ++ wsX10)
def wsX1_tellsNow : List Cond := .code yX1_tellsNow cX1_tellsNow 4 (some .int) :: ([.fieldLink RX1 15 "PassNotes$Land" "firsts" "[I", .fieldLink RX1 18 "PassNotes$Land" "seconds" "[I", .fieldLink RX1 24 "PassNotes$Land" "opens" "[Z", .fieldLink RX1 21 "PassNotes$Land" "lengths" "[I"] ++ wsX10)
def wsX1_isStep : List Cond := .code yX1_isStep cX1_isStep 6 (some .boolean) :: ([.fieldLink RX1 32 "PassNotes$Land" "passes" "I", .fieldLink RX1 15 "PassNotes$Land" "firsts" "[I", .fieldLink RX1 18 "PassNotes$Land" "seconds" "[I", .fieldLink RX1 24 "PassNotes$Land" "opens" "[Z"] ++ wsX10)
def wsX1_draw : List Cond := .code yX1_draw cX1_draw 3 none :: ([.fieldLink RX1 32 "PassNotes$Land" "passes" "I", .fieldLink RX1 24 "PassNotes$Land" "opens" "[Z", .fieldLink RX1 15 "PassNotes$Land" "firsts" "[I", .fieldLink RX1 18 "PassNotes$Land" "seconds" "[I", .fieldLink RX1 21 "PassNotes$Land" "lengths" "[I", .methodLink RX1 35 yX0_clear, .instanceMethod yX0_clear, .selects RX0 yX0_clear yX0_clear, .initialized RX0, .code yX0_clear cX0_clear 1 none, .fieldLink RX0 21 "PassNotes$Chart" "steps" "I", .methodLink RX1 40 yX0_addStep, .instanceMethod yX0_addStep, .selects RX0 yX0_addStep yX0_addStep, .code yX0_addStep cX0_addStep 4 none, .fieldLink RX0 9 "PassNotes$Chart" "froms" "[I", .fieldLink RX0 15 "PassNotes$Chart" "tos" "[I", .fieldLink RX0 18 "PassNotes$Chart" "lengths" "[I"] ++ wsX10 ++ wsX00)
def wsX1_groupOf : List Cond := .code yX1_groupOf cX1_groupOf 9 (some .int) :: ([.fieldLink RX1 32 "PassNotes$Land" "passes" "I", .fieldLink RX1 15 "PassNotes$Land" "firsts" "[I", .fieldLink RX1 18 "PassNotes$Land" "seconds" "[I", .fieldLink RX1 24 "PassNotes$Land" "opens" "[Z"] ++ wsX10)
def wsJ6_bitCount_0f7a4 : List Cond := .code yJ6_bitCount_0f7a4 cJ6_bitCount_0f7a4 1 (some .int) :: ([.constant RJ6 265 (1431655765), .constant RJ6 266 (858993459), .constant RJ6 267 (252645135)])
def wsX1_joinedPairs : List Cond := .code yX1_joinedPairs cX1_joinedPairs 7 (some .int) :: ([.fieldLink RX1 28 "PassNotes$Land" "huts" "I", .methodLink RX1 44 yX1_groupOf, .instanceMethod yX1_groupOf, .selects RX1 yX1_groupOf yX1_groupOf, .initialized RX1, .code yX1_groupOf cX1_groupOf 9 (some .int), .fieldLink RX1 32 "PassNotes$Land" "passes" "I", .fieldLink RX1 15 "PassNotes$Land" "firsts" "[I", .fieldLink RX1 18 "PassNotes$Land" "seconds" "[I", .fieldLink RX1 24 "PassNotes$Land" "opens" "[Z", .methodLink RX1 48 yJ6_bitCount_0f7a4, .static yJ6_bitCount_0f7a4, .initialized RJ6, .code yJ6_bitCount_0f7a4 cJ6_bitCount_0f7a4 1 (some .int), .constant RJ6 265 (1431655765), .constant RJ6 266 (858993459), .constant RJ6 267 (252645135)] ++ wsX10)
def wsX2_init : List Cond := .code yX2_init cX2_init 2 none :: ([.methodLink RX2 3 objectInit, .instanceMethod objectInit, .code objectInit ⟨#[0xb1]⟩ 1 none, .classLink RX2 9 RX0, .instantiable RX0 4, .initialized RX0, .fieldLink RX2 12 "PassNotes$Notes" "chart" "LPassNotes$Chart;", .arrayClass .int, .fieldLink RX2 18 "PassNotes$Notes" "wrote" "[I", .classLink RX2 22 "[[I", .fieldLink RX2 24 "PassNotes$Notes" "ways" "[[I", .arrayClass .boolean, .fieldLink RX2 27 "PassNotes$Notes" "waysFound" "[Z", .classLink RX2 31 RX3, .fieldLink RX2 33 "PassNotes$Notes" "held" "[LPassNotes$Sheet;", .fieldLink RX2 37 "PassNotes$Notes" "carried" "[LPassNotes$Sheet;", .fieldLink RX2 40 "PassNotes$Notes" "land" "LPassNotes$Land;", .instanceMethod yX0_init, .code yX0_init cX0_init 1 none, .methodLink RX0 3 objectInit, .fieldLink RX0 9 "PassNotes$Chart" "froms" "[I", .fieldLink RX0 15 "PassNotes$Chart" "tos" "[I", .fieldLink RX0 18 "PassNotes$Chart" "lengths" "[I"] ++ wsX00 ++ wsX20)
def wsX2_forgetWays : List Cond := .code yX2_forgetWays cX2_forgetWays 2 none :: ([.fieldLink RX2 27 "PassNotes$Notes" "waysFound" "[Z"] ++ wsX20)
def wsX2_copy : List Cond := .code yX2_copy cX2_copy 3 none :: ([.fieldLink RX2 44 "PassNotes$Notes" "minute" "I", .fieldLink RX2 18 "PassNotes$Notes" "wrote" "[I", .fieldLink RX2 33 "PassNotes$Notes" "held" "[LPassNotes$Sheet;", .methodLink RX2 48 yX2_forgetWays, .instanceMethod yX2_forgetWays, .selects RX2 yX2_forgetWays yX2_forgetWays, .initialized RX2, .code yX2_forgetWays cX2_forgetWays 2 none, .fieldLink RX2 27 "PassNotes$Notes" "waysFound" "[Z"] ++ wsX20)
def wsX2_minute : List Cond := .code yX2_minute cX2_minute 1 (some .int) :: ([.fieldLink RX2 44 "PassNotes$Notes" "minute" "I"] ++ wsX20)
def wsX2_wroteInAll : List Cond := .code yX2_wroteInAll cX2_wroteInAll 2 (some .int) :: ([.fieldLink RX2 18 "PassNotes$Notes" "wrote" "[I"] ++ wsX20)
def wsX2_slot : List Cond := .code yX2_slot cX2_slot 2 (some .int) :: ([])
def wsX2_held : List Cond := .code yX2_held cX2_held 3 (some (.object "PassNotes$Sheet")) :: ([.fieldLink RX2 33 "PassNotes$Notes" "held" "[LPassNotes$Sheet;", .methodLink RX2 51 yX2_slot, .static yX2_slot, .initialized RX2, .code yX2_slot cX2_slot 2 (some .int)] ++ wsX20)
def wsX2_sheetsOf : List Cond := .code yX2_sheetsOf cX2_sheetsOf 4 (some .int) :: ([.fieldLink RX2 33 "PassNotes$Notes" "held" "[LPassNotes$Sheet;", .methodLink RX2 51 yX2_slot, .static yX2_slot, .initialized RX2, .code yX2_slot cX2_slot 2 (some .int)] ++ wsX20)
def wsX2_burnAll : List Cond := .code yX2_burnAll cX2_burnAll 4 (some .int) :: ([.fieldLink RX2 33 "PassNotes$Notes" "held" "[LPassNotes$Sheet;", .methodLink RX2 55 yX2_sheetsOf, .instanceMethod yX2_sheetsOf, .selects RX2 yX2_sheetsOf yX2_sheetsOf, .initialized RX2, .code yX2_sheetsOf cX2_sheetsOf 4 (some .int), .methodLink RX2 51 yX2_slot, .static yX2_slot, .code yX2_slot cX2_slot 2 (some .int), .methodLink RX2 48 yX2_forgetWays, .instanceMethod yX2_forgetWays, .selects RX2 yX2_forgetWays yX2_forgetWays, .code yX2_forgetWays cX2_forgetWays 2 none, .fieldLink RX2 27 "PassNotes$Notes" "waysFound" "[Z"] ++ wsX20)
def wsX2_sheets : List Cond := .code yX2_sheets cX2_sheets 3 (some .int) :: ([.fieldLink RX2 40 "PassNotes$Notes" "land" "LPassNotes$Land;", .methodLink RX2 59 yX1_huts, .instanceMethod yX1_huts, .selects RX1 yX1_huts yX1_huts, .initialized RX1, .code yX1_huts cX1_huts 1 (some .int), .fieldLink RX1 28 "PassNotes$Land" "huts" "I", .methodLink RX2 55 yX2_sheetsOf, .instanceMethod yX2_sheetsOf, .selects RX2 yX2_sheetsOf yX2_sheetsOf, .initialized RX2, .code yX2_sheetsOf cX2_sheetsOf 4 (some .int), .fieldLink RX2 33 "PassNotes$Notes" "held" "[LPassNotes$Sheet;", .methodLink RX2 51 yX2_slot, .static yX2_slot, .code yX2_slot cX2_slot 2 (some .int)] ++ wsX20 ++ wsX10)
def wsX3_age : List Cond := .code yX3_age cX3_age 2 (some .int) :: ([.fieldLink RX3 19 "PassNotes$Sheet" "written" "I"] ++ wsX30)
def wsX2_ages : List Cond := .code yX2_ages cX2_ages 4 (some .int) :: ([.fieldLink RX2 33 "PassNotes$Notes" "held" "[LPassNotes$Sheet;", .fieldLink RX2 44 "PassNotes$Notes" "minute" "I", .methodLink RX2 65 yX3_age, .instanceMethod yX3_age, .selects RX3 yX3_age yX3_age, .initialized RX3, .code yX3_age cX3_age 2 (some .int), .fieldLink RX3 19 "PassNotes$Sheet" "written" "I"] ++ wsX20 ++ wsX30)
def wsX3_tellsAsNow : List Cond := .code yX3_tellsAsNow cX3_tellsAsNow 4 (some .boolean) :: ([.fieldLink RX3 9 "PassNotes$Sheet" "lengths" "[I", .methodLink RX3 22 yX1_passes, .instanceMethod yX1_passes, .selects RX1 yX1_passes yX1_passes, .initialized RX1, .code yX1_passes cX1_passes 1 (some .int), .fieldLink RX1 32 "PassNotes$Land" "passes" "I", .methodLink RX3 28 yX1_tellsNow, .instanceMethod yX1_tellsNow, .selects RX1 yX1_tellsNow yX1_tellsNow, .code yX1_tellsNow cX1_tellsNow 4 (some .int), .fieldLink RX1 15 "PassNotes$Land" "firsts" "[I", .fieldLink RX1 18 "PassNotes$Land" "seconds" "[I", .fieldLink RX1 24 "PassNotes$Land" "opens" "[Z", .fieldLink RX1 21 "PassNotes$Land" "lengths" "[I"] ++ wsX30 ++ wsX10)
def wsX2_mustWrite_r1 : List Cond := [Cond.fieldLink RX2 33 "PassNotes$Notes" "held" "[LPassNotes$Sheet;", Cond.fieldLink RX2 44 "PassNotes$Notes" "minute" "I", Cond.fieldLink RX2 40 "PassNotes$Notes" "land" "LPassNotes$Land;", Cond.methodLink RX2 51 yX2_slot, Cond.static yX2_slot, Cond.initialized RX2, Cond.code yX2_slot cX2_slot 2 (some .int), Cond.methodLink RX2 65 yX3_age, Cond.instanceMethod yX3_age, Cond.selects RX3 yX3_age yX3_age, Cond.initialized RX3, Cond.code yX3_age cX3_age 2 (some .int), Cond.fieldLink RX3 19 "PassNotes$Sheet" "written" "I", Cond.methodLink RX2 84 yX3_tellsAsNow, Cond.instanceMethod yX3_tellsAsNow, Cond.selects RX3 yX3_tellsAsNow yX3_tellsAsNow, Cond.code yX3_tellsAsNow cX3_tellsAsNow 4 (some .boolean), Cond.fieldLink RX3 9 "PassNotes$Sheet" "lengths" "[I", Cond.methodLink RX3 22 yX1_passes, Cond.instanceMethod yX1_passes, Cond.selects RX1 yX1_passes yX1_passes, Cond.initialized RX1, Cond.code yX1_passes cX1_passes 1 (some .int), Cond.fieldLink RX1 32 "PassNotes$Land" "passes" "I"]
def wsX2_mustWrite_r2 : List Cond := [Cond.methodLink RX3 28 yX1_tellsNow, Cond.instanceMethod yX1_tellsNow, Cond.selects RX1 yX1_tellsNow yX1_tellsNow, Cond.code yX1_tellsNow cX1_tellsNow 4 (some .int), Cond.fieldLink RX1 15 "PassNotes$Land" "firsts" "[I", Cond.fieldLink RX1 18 "PassNotes$Land" "seconds" "[I", Cond.fieldLink RX1 24 "PassNotes$Land" "opens" "[Z", Cond.fieldLink RX1 21 "PassNotes$Land" "lengths" "[I"]
def wsX2_mustWrite : List Cond := .code yX2_mustWrite cX2_mustWrite 3 (some .boolean) :: ((wsX2_mustWrite_r1 ++ wsX2_mustWrite_r2) ++ wsX20 ++ wsX30 ++ wsX10)
def wsX3_init : List Cond := .code yX3_init cX3_init 6 none :: ([.methodLink RX3 3 objectInit, .instanceMethod objectInit, .code objectInit ⟨#[0xb1]⟩ 1 none, .arrayClass .int, .fieldLink RX3 9 "PassNotes$Sheet" "lengths" "[I", .fieldLink RX3 15 "PassNotes$Sheet" "number" "I", .fieldLink RX3 19 "PassNotes$Sheet" "written" "I", .methodLink RX3 22 yX1_passes, .instanceMethod yX1_passes, .selects RX1 yX1_passes yX1_passes, .initialized RX1, .code yX1_passes cX1_passes 1 (some .int), .fieldLink RX1 32 "PassNotes$Land" "passes" "I", .methodLink RX3 28 yX1_tellsNow, .instanceMethod yX1_tellsNow, .selects RX1 yX1_tellsNow yX1_tellsNow, .code yX1_tellsNow cX1_tellsNow 4 (some .int), .fieldLink RX1 15 "PassNotes$Land" "firsts" "[I", .fieldLink RX1 18 "PassNotes$Land" "seconds" "[I", .fieldLink RX1 24 "PassNotes$Land" "opens" "[Z", .fieldLink RX1 21 "PassNotes$Land" "lengths" "[I"] ++ wsX30 ++ wsX10)
def wsX2_writeSheets_r1 : List Cond := [Cond.fieldLink RX2 40 "PassNotes$Notes" "land" "LPassNotes$Land;", Cond.fieldLink RX2 18 "PassNotes$Notes" "wrote" "[I", Cond.fieldLink RX2 33 "PassNotes$Notes" "held" "[LPassNotes$Sheet;", Cond.classLink RX2 31 RX3, Cond.instantiable RX3 3, Cond.initialized RX3, Cond.fieldLink RX2 44 "PassNotes$Notes" "minute" "I", Cond.methodLink RX2 59 yX1_huts, Cond.instanceMethod yX1_huts, Cond.selects RX1 yX1_huts yX1_huts, Cond.initialized RX1, Cond.code yX1_huts cX1_huts 1 (some .int), Cond.fieldLink RX1 28 "PassNotes$Land" "huts" "I", Cond.methodLink RX2 77 yX2_mustWrite, Cond.instanceMethod yX2_mustWrite, Cond.selects RX2 yX2_mustWrite yX2_mustWrite, Cond.initialized RX2, Cond.code yX2_mustWrite cX2_mustWrite 3 (some .boolean), Cond.methodLink RX2 51 yX2_slot, Cond.static yX2_slot, Cond.code yX2_slot cX2_slot 2 (some .int), Cond.methodLink RX2 65 yX3_age, Cond.instanceMethod yX3_age, Cond.selects RX3 yX3_age yX3_age]
def wsX2_writeSheets_r2 : List Cond := [Cond.code yX3_age cX3_age 2 (some .int), Cond.fieldLink RX3 19 "PassNotes$Sheet" "written" "I", Cond.methodLink RX2 84 yX3_tellsAsNow, Cond.instanceMethod yX3_tellsAsNow, Cond.selects RX3 yX3_tellsAsNow yX3_tellsAsNow, Cond.code yX3_tellsAsNow cX3_tellsAsNow 4 (some .boolean), Cond.fieldLink RX3 9 "PassNotes$Sheet" "lengths" "[I", Cond.methodLink RX3 22 yX1_passes, Cond.instanceMethod yX1_passes, Cond.selects RX1 yX1_passes yX1_passes, Cond.code yX1_passes cX1_passes 1 (some .int), Cond.fieldLink RX1 32 "PassNotes$Land" "passes" "I", Cond.methodLink RX3 28 yX1_tellsNow, Cond.instanceMethod yX1_tellsNow, Cond.selects RX1 yX1_tellsNow yX1_tellsNow, Cond.code yX1_tellsNow cX1_tellsNow 4 (some .int), Cond.fieldLink RX1 15 "PassNotes$Land" "firsts" "[I", Cond.fieldLink RX1 18 "PassNotes$Land" "seconds" "[I", Cond.fieldLink RX1 24 "PassNotes$Land" "opens" "[Z", Cond.fieldLink RX1 21 "PassNotes$Land" "lengths" "[I", Cond.methodLink RX2 81 yX3_init, Cond.instanceMethod yX3_init, Cond.code yX3_init cX3_init 6 none, Cond.methodLink RX3 3 objectInit]
def wsX2_writeSheets_r3 : List Cond := [Cond.instanceMethod objectInit, Cond.code objectInit ⟨#[0xb1]⟩ 1 none, Cond.arrayClass .int, Cond.fieldLink RX3 15 "PassNotes$Sheet" "number" "I"]
def wsX2_writeSheets : List Cond := .code yX2_writeSheets cX2_writeSheets 3 (some .int) :: ((wsX2_writeSheets_r1 ++ (wsX2_writeSheets_r2 ++ wsX2_writeSheets_r3)) ++ wsX20 ++ wsX30 ++ wsX10)
def wsX3_number : List Cond := .code yX3_number cX3_number 1 (some .int) :: ([.fieldLink RX3 15 "PassNotes$Sheet" "number" "I"] ++ wsX30)
def wsX2_isNewer : List Cond := .code yX2_isNewer cX2_isNewer 3 (some .boolean) :: ([.methodLink RX2 112 yX3_number, .instanceMethod yX3_number, .selects RX3 yX3_number yX3_number, .initialized RX3, .code yX3_number cX3_number 1 (some .int), .fieldLink RX3 15 "PassNotes$Sheet" "number" "I"] ++ wsX30)
def wsX2_carry_r1 : List Cond := [Cond.fieldLink RX2 40 "PassNotes$Notes" "land" "LPassNotes$Land;", Cond.fieldLink RX2 33 "PassNotes$Notes" "held" "[LPassNotes$Sheet;", Cond.fieldLink RX2 37 "PassNotes$Notes" "carried" "[LPassNotes$Sheet;", Cond.methodLink RX2 59 yX1_huts, Cond.instanceMethod yX1_huts, Cond.selects RX1 yX1_huts yX1_huts, Cond.initialized RX1, Cond.code yX1_huts cX1_huts 1 (some .int), Cond.fieldLink RX1 28 "PassNotes$Land" "huts" "I", Cond.methodLink RX2 51 yX2_slot, Cond.static yX2_slot, Cond.initialized RX2, Cond.code yX2_slot cX2_slot 2 (some .int), Cond.methodLink RX2 104 yX1_takesIn, Cond.instanceMethod yX1_takesIn, Cond.selects RX1 yX1_takesIn yX1_takesIn, Cond.code yX1_takesIn cX1_takesIn 3 (some .boolean), Cond.fieldLink RX1 9 "PassNotes$Land" "areas" "[I", Cond.methodLink RX2 108 yX2_isNewer, Cond.instanceMethod yX2_isNewer, Cond.selects RX2 yX2_isNewer yX2_isNewer, Cond.code yX2_isNewer cX2_isNewer 3 (some .boolean), Cond.methodLink RX2 112 yX3_number, Cond.instanceMethod yX3_number]
def wsX2_carry_r2 : List Cond := [Cond.selects RX3 yX3_number yX3_number, Cond.initialized RX3, Cond.code yX3_number cX3_number 1 (some .int), Cond.fieldLink RX3 15 "PassNotes$Sheet" "number" "I"]
def wsX2_carry : List Cond := .code yX2_carry cX2_carry 5 none :: ((wsX2_carry_r1 ++ wsX2_carry_r2) ++ wsX20 ++ wsX10 ++ wsX30)
def wsX2_carrySheets_r1 : List Cond := [Cond.fieldLink RX2 33 "PassNotes$Notes" "held" "[LPassNotes$Sheet;", Cond.fieldLink RX2 37 "PassNotes$Notes" "carried" "[LPassNotes$Sheet;", Cond.fieldLink RX2 40 "PassNotes$Notes" "land" "LPassNotes$Land;", Cond.methodLink RX2 88 yX1_passes, Cond.instanceMethod yX1_passes, Cond.selects RX1 yX1_passes yX1_passes, Cond.initialized RX1, Cond.code yX1_passes cX1_passes 1 (some .int), Cond.fieldLink RX1 32 "PassNotes$Land" "passes" "I", Cond.methodLink RX2 91 yX1_isOpen, Cond.instanceMethod yX1_isOpen, Cond.selects RX1 yX1_isOpen yX1_isOpen, Cond.code yX1_isOpen cX1_isOpen 2 (some .boolean), Cond.fieldLink RX1 24 "PassNotes$Land" "opens" "[Z", Cond.methodLink RX2 94 yX1_first, Cond.instanceMethod yX1_first, Cond.selects RX1 yX1_first yX1_first, Cond.code yX1_first cX1_first 2 (some .int), Cond.fieldLink RX1 15 "PassNotes$Land" "firsts" "[I", Cond.methodLink RX2 97 yX1_second, Cond.instanceMethod yX1_second, Cond.selects RX1 yX1_second yX1_second, Cond.code yX1_second cX1_second 2 (some .int), Cond.fieldLink RX1 18 "PassNotes$Land" "seconds" "[I"]
def wsX2_carrySheets_r2 : List Cond := [Cond.methodLink RX2 100 yX2_carry, Cond.instanceMethod yX2_carry, Cond.selects RX2 yX2_carry yX2_carry, Cond.initialized RX2, Cond.code yX2_carry cX2_carry 5 none, Cond.methodLink RX2 59 yX1_huts, Cond.instanceMethod yX1_huts, Cond.selects RX1 yX1_huts yX1_huts, Cond.code yX1_huts cX1_huts 1 (some .int), Cond.fieldLink RX1 28 "PassNotes$Land" "huts" "I", Cond.methodLink RX2 51 yX2_slot, Cond.static yX2_slot, Cond.code yX2_slot cX2_slot 2 (some .int), Cond.methodLink RX2 104 yX1_takesIn, Cond.instanceMethod yX1_takesIn, Cond.selects RX1 yX1_takesIn yX1_takesIn, Cond.code yX1_takesIn cX1_takesIn 3 (some .boolean), Cond.fieldLink RX1 9 "PassNotes$Land" "areas" "[I", Cond.methodLink RX2 108 yX2_isNewer, Cond.instanceMethod yX2_isNewer, Cond.selects RX2 yX2_isNewer yX2_isNewer, Cond.code yX2_isNewer cX2_isNewer 3 (some .boolean), Cond.methodLink RX2 112 yX3_number, Cond.instanceMethod yX3_number]
def wsX2_carrySheets_r3 : List Cond := [Cond.selects RX3 yX3_number yX3_number, Cond.initialized RX3, Cond.code yX3_number cX3_number 1 (some .int), Cond.fieldLink RX3 15 "PassNotes$Sheet" "number" "I"]
def wsX2_carrySheets : List Cond := .code yX2_carrySheets cX2_carrySheets 2 none :: ((wsX2_carrySheets_r1 ++ (wsX2_carrySheets_r2 ++ wsX2_carrySheets_r3)) ++ wsX20 ++ wsX10 ++ wsX30)
def wsX2_throwOldAway : List Cond := .code yX2_throwOldAway cX2_throwOldAway 3 none :: ([.fieldLink RX2 33 "PassNotes$Notes" "held" "[LPassNotes$Sheet;", .fieldLink RX2 44 "PassNotes$Notes" "minute" "I", .methodLink RX2 65 yX3_age, .instanceMethod yX3_age, .selects RX3 yX3_age yX3_age, .initialized RX3, .code yX3_age cX3_age 2 (some .int), .fieldLink RX3 19 "PassNotes$Sheet" "written" "I"] ++ wsX20 ++ wsX30)
def wsX2_passMinutes_r1 : List Cond := [Cond.fieldLink RX2 44 "PassNotes$Notes" "minute" "I", Cond.methodLink RX2 68 yX2_writeSheets, Cond.instanceMethod yX2_writeSheets, Cond.selects RX2 yX2_writeSheets yX2_writeSheets, Cond.initialized RX2, Cond.code yX2_writeSheets cX2_writeSheets 3 (some .int), Cond.fieldLink RX2 40 "PassNotes$Notes" "land" "LPassNotes$Land;", Cond.fieldLink RX2 18 "PassNotes$Notes" "wrote" "[I", Cond.fieldLink RX2 33 "PassNotes$Notes" "held" "[LPassNotes$Sheet;", Cond.classLink RX2 31 RX3, Cond.instantiable RX3 3, Cond.initialized RX3, Cond.methodLink RX2 59 yX1_huts, Cond.instanceMethod yX1_huts, Cond.selects RX1 yX1_huts yX1_huts, Cond.initialized RX1, Cond.code yX1_huts cX1_huts 1 (some .int), Cond.fieldLink RX1 28 "PassNotes$Land" "huts" "I", Cond.methodLink RX2 77 yX2_mustWrite, Cond.instanceMethod yX2_mustWrite, Cond.selects RX2 yX2_mustWrite yX2_mustWrite, Cond.code yX2_mustWrite cX2_mustWrite 3 (some .boolean), Cond.methodLink RX2 51 yX2_slot, Cond.static yX2_slot]
def wsX2_passMinutes_r2 : List Cond := [Cond.code yX2_slot cX2_slot 2 (some .int), Cond.methodLink RX2 65 yX3_age, Cond.instanceMethod yX3_age, Cond.selects RX3 yX3_age yX3_age, Cond.code yX3_age cX3_age 2 (some .int), Cond.fieldLink RX3 19 "PassNotes$Sheet" "written" "I", Cond.methodLink RX2 84 yX3_tellsAsNow, Cond.instanceMethod yX3_tellsAsNow, Cond.selects RX3 yX3_tellsAsNow yX3_tellsAsNow, Cond.code yX3_tellsAsNow cX3_tellsAsNow 4 (some .boolean), Cond.fieldLink RX3 9 "PassNotes$Sheet" "lengths" "[I", Cond.methodLink RX3 22 yX1_passes, Cond.instanceMethod yX1_passes, Cond.selects RX1 yX1_passes yX1_passes, Cond.code yX1_passes cX1_passes 1 (some .int), Cond.fieldLink RX1 32 "PassNotes$Land" "passes" "I", Cond.methodLink RX3 28 yX1_tellsNow, Cond.instanceMethod yX1_tellsNow, Cond.selects RX1 yX1_tellsNow yX1_tellsNow, Cond.code yX1_tellsNow cX1_tellsNow 4 (some .int), Cond.fieldLink RX1 15 "PassNotes$Land" "firsts" "[I", Cond.fieldLink RX1 18 "PassNotes$Land" "seconds" "[I", Cond.fieldLink RX1 24 "PassNotes$Land" "opens" "[Z", Cond.fieldLink RX1 21 "PassNotes$Land" "lengths" "[I"]
def wsX2_passMinutes_r3 : List Cond := [Cond.methodLink RX2 81 yX3_init, Cond.instanceMethod yX3_init, Cond.code yX3_init cX3_init 6 none, Cond.methodLink RX3 3 objectInit, Cond.instanceMethod objectInit, Cond.code objectInit ⟨#[0xb1]⟩ 1 none, Cond.arrayClass .int, Cond.fieldLink RX3 15 "PassNotes$Sheet" "number" "I", Cond.methodLink RX2 71 yX2_carrySheets, Cond.instanceMethod yX2_carrySheets, Cond.selects RX2 yX2_carrySheets yX2_carrySheets, Cond.code yX2_carrySheets cX2_carrySheets 2 none, Cond.fieldLink RX2 37 "PassNotes$Notes" "carried" "[LPassNotes$Sheet;", Cond.methodLink RX2 88 yX1_passes, Cond.methodLink RX2 91 yX1_isOpen, Cond.instanceMethod yX1_isOpen, Cond.selects RX1 yX1_isOpen yX1_isOpen, Cond.code yX1_isOpen cX1_isOpen 2 (some .boolean), Cond.methodLink RX2 94 yX1_first, Cond.instanceMethod yX1_first, Cond.selects RX1 yX1_first yX1_first, Cond.code yX1_first cX1_first 2 (some .int), Cond.methodLink RX2 97 yX1_second, Cond.instanceMethod yX1_second]
def wsX2_passMinutes_r4 : List Cond := [Cond.selects RX1 yX1_second yX1_second, Cond.code yX1_second cX1_second 2 (some .int), Cond.methodLink RX2 100 yX2_carry, Cond.instanceMethod yX2_carry, Cond.selects RX2 yX2_carry yX2_carry, Cond.code yX2_carry cX2_carry 5 none, Cond.methodLink RX2 104 yX1_takesIn, Cond.instanceMethod yX1_takesIn, Cond.selects RX1 yX1_takesIn yX1_takesIn, Cond.code yX1_takesIn cX1_takesIn 3 (some .boolean), Cond.fieldLink RX1 9 "PassNotes$Land" "areas" "[I", Cond.methodLink RX2 108 yX2_isNewer, Cond.instanceMethod yX2_isNewer, Cond.selects RX2 yX2_isNewer yX2_isNewer, Cond.code yX2_isNewer cX2_isNewer 3 (some .boolean), Cond.methodLink RX2 112 yX3_number, Cond.instanceMethod yX3_number, Cond.selects RX3 yX3_number yX3_number, Cond.code yX3_number cX3_number 1 (some .int), Cond.methodLink RX2 74 yX2_throwOldAway, Cond.instanceMethod yX2_throwOldAway, Cond.selects RX2 yX2_throwOldAway yX2_throwOldAway, Cond.code yX2_throwOldAway cX2_throwOldAway 3 none, Cond.methodLink RX2 48 yX2_forgetWays]
def wsX2_passMinutes_r5 : List Cond := [Cond.instanceMethod yX2_forgetWays, Cond.selects RX2 yX2_forgetWays yX2_forgetWays, Cond.code yX2_forgetWays cX2_forgetWays 2 none, Cond.fieldLink RX2 27 "PassNotes$Notes" "waysFound" "[Z"]
def wsX2_passMinutes : List Cond := .code yX2_passMinutes cX2_passMinutes 4 (some .int) :: ((wsX2_passMinutes_r1 ++ (wsX2_passMinutes_r2 ++ (wsX2_passMinutes_r3 ++ (wsX2_passMinutes_r4 ++ wsX2_passMinutes_r5)))) ++ wsX20 ++ wsX30 ++ wsX10)
def wsX3_tells : List Cond := .code yX3_tells cX3_tells 2 (some .boolean) :: ([.fieldLink RX3 9 "PassNotes$Sheet" "lengths" "[I"] ++ wsX30)
def wsX2_takesForOpen : List Cond := .code yX2_takesForOpen cX2_takesForOpen 5 (some .boolean) :: ([.fieldLink RX2 33 "PassNotes$Notes" "held" "[LPassNotes$Sheet;", .fieldLink RX2 40 "PassNotes$Notes" "land" "LPassNotes$Land;", .methodLink RX2 94 yX1_first, .instanceMethod yX1_first, .selects RX1 yX1_first yX1_first, .initialized RX1, .code yX1_first cX1_first 2 (some .int), .fieldLink RX1 15 "PassNotes$Land" "firsts" "[I", .methodLink RX2 51 yX2_slot, .static yX2_slot, .initialized RX2, .code yX2_slot cX2_slot 2 (some .int), .methodLink RX2 97 yX1_second, .instanceMethod yX1_second, .selects RX1 yX1_second yX1_second, .code yX1_second cX1_second 2 (some .int), .fieldLink RX1 18 "PassNotes$Land" "seconds" "[I", .methodLink RX2 115 yX3_tells, .instanceMethod yX3_tells, .selects RX3 yX3_tells yX3_tells, .initialized RX3, .code yX3_tells cX3_tells 2 (some .boolean), .fieldLink RX3 9 "PassNotes$Sheet" "lengths" "[I"] ++ wsX20 ++ wsX10 ++ wsX30)
def wsX2_takersForOpen_r1 : List Cond := [Cond.fieldLink RX2 40 "PassNotes$Notes" "land" "LPassNotes$Land;", Cond.methodLink RX2 59 yX1_huts, Cond.instanceMethod yX1_huts, Cond.selects RX1 yX1_huts yX1_huts, Cond.initialized RX1, Cond.code yX1_huts cX1_huts 1 (some .int), Cond.fieldLink RX1 28 "PassNotes$Land" "huts" "I", Cond.methodLink RX2 118 yX2_takesForOpen, Cond.instanceMethod yX2_takesForOpen, Cond.selects RX2 yX2_takesForOpen yX2_takesForOpen, Cond.initialized RX2, Cond.code yX2_takesForOpen cX2_takesForOpen 5 (some .boolean), Cond.fieldLink RX2 33 "PassNotes$Notes" "held" "[LPassNotes$Sheet;", Cond.methodLink RX2 94 yX1_first, Cond.instanceMethod yX1_first, Cond.selects RX1 yX1_first yX1_first, Cond.code yX1_first cX1_first 2 (some .int), Cond.fieldLink RX1 15 "PassNotes$Land" "firsts" "[I", Cond.methodLink RX2 51 yX2_slot, Cond.static yX2_slot, Cond.code yX2_slot cX2_slot 2 (some .int), Cond.methodLink RX2 97 yX1_second, Cond.instanceMethod yX1_second, Cond.selects RX1 yX1_second yX1_second]
def wsX2_takersForOpen_r2 : List Cond := [Cond.code yX1_second cX1_second 2 (some .int), Cond.fieldLink RX1 18 "PassNotes$Land" "seconds" "[I", Cond.methodLink RX2 115 yX3_tells, Cond.instanceMethod yX3_tells, Cond.selects RX3 yX3_tells yX3_tells, Cond.initialized RX3, Cond.code yX3_tells cX3_tells 2 (some .boolean), Cond.fieldLink RX3 9 "PassNotes$Sheet" "lengths" "[I"]
def wsX2_takersForOpen : List Cond := .code yX2_takersForOpen cX2_takersForOpen 4 (some .int) :: ((wsX2_takersForOpen_r1 ++ wsX2_takersForOpen_r2) ++ wsX20 ++ wsX10 ++ wsX30)
def wsX3_length : List Cond := .code yX3_length cX3_length 2 (some .int) :: ([.fieldLink RX3 9 "PassNotes$Sheet" "lengths" "[I"] ++ wsX30)
def wsX2_findWays_r1 : List Cond := [Cond.fieldLink RX2 12 "PassNotes$Notes" "chart" "LPassNotes$Chart;", Cond.fieldLink RX2 40 "PassNotes$Notes" "land" "LPassNotes$Land;", Cond.fieldLink RX2 33 "PassNotes$Notes" "held" "[LPassNotes$Sheet;", Cond.fieldLink RX2 24 "PassNotes$Notes" "ways" "[[I", Cond.fieldLink RX2 27 "PassNotes$Notes" "waysFound" "[Z", Cond.methodLink RX2 125 yX0_clear, Cond.instanceMethod yX0_clear, Cond.selects RX0 yX0_clear yX0_clear, Cond.initialized RX0, Cond.code yX0_clear cX0_clear 1 none, Cond.fieldLink RX0 21 "PassNotes$Chart" "steps" "I", Cond.methodLink RX2 88 yX1_passes, Cond.instanceMethod yX1_passes, Cond.selects RX1 yX1_passes yX1_passes, Cond.initialized RX1, Cond.code yX1_passes cX1_passes 1 (some .int), Cond.fieldLink RX1 32 "PassNotes$Land" "passes" "I", Cond.methodLink RX2 94 yX1_first, Cond.instanceMethod yX1_first, Cond.selects RX1 yX1_first yX1_first, Cond.code yX1_first cX1_first 2 (some .int), Cond.fieldLink RX1 15 "PassNotes$Land" "firsts" "[I", Cond.methodLink RX2 97 yX1_second, Cond.instanceMethod yX1_second]
def wsX2_findWays_r2 : List Cond := [Cond.selects RX1 yX1_second yX1_second, Cond.code yX1_second cX1_second 2 (some .int), Cond.fieldLink RX1 18 "PassNotes$Land" "seconds" "[I", Cond.methodLink RX2 51 yX2_slot, Cond.static yX2_slot, Cond.initialized RX2, Cond.code yX2_slot cX2_slot 2 (some .int), Cond.methodLink RX2 115 yX3_tells, Cond.instanceMethod yX3_tells, Cond.selects RX3 yX3_tells yX3_tells, Cond.initialized RX3, Cond.code yX3_tells cX3_tells 2 (some .boolean), Cond.fieldLink RX3 9 "PassNotes$Sheet" "lengths" "[I", Cond.methodLink RX2 128 yX3_length, Cond.instanceMethod yX3_length, Cond.selects RX3 yX3_length yX3_length, Cond.code yX3_length cX3_length 2 (some .int), Cond.methodLink RX2 131 yX0_addStep, Cond.instanceMethod yX0_addStep, Cond.selects RX0 yX0_addStep yX0_addStep, Cond.code yX0_addStep cX0_addStep 4 none, Cond.fieldLink RX0 9 "PassNotes$Chart" "froms" "[I", Cond.fieldLink RX0 15 "PassNotes$Chart" "tos" "[I", Cond.fieldLink RX0 18 "PassNotes$Chart" "lengths" "[I"]
def wsX2_findWays_r3 : List Cond := [Cond.methodLink RX2 135 yX0_search, Cond.instanceMethod yX0_search, Cond.selects RX0 yX0_search yX0_search, Cond.code yX0_search cX0_search 7 none, Cond.constant RX0 25 (1073741824)]
def wsX2_findWays : List Cond := .code yX2_findWays cX2_findWays 7 none :: ((wsX2_findWays_r1 ++ (wsX2_findWays_r2 ++ wsX2_findWays_r3)) ++ wsX20 ++ wsX00 ++ wsX10 ++ wsX30)
def wsX2_knownWay_r1 : List Cond := [Cond.fieldLink RX2 27 "PassNotes$Notes" "waysFound" "[Z", Cond.fieldLink RX2 24 "PassNotes$Notes" "ways" "[[I", Cond.methodLink RX2 121 yX2_findWays, Cond.instanceMethod yX2_findWays, Cond.selects RX2 yX2_findWays yX2_findWays, Cond.initialized RX2, Cond.code yX2_findWays cX2_findWays 7 none, Cond.fieldLink RX2 12 "PassNotes$Notes" "chart" "LPassNotes$Chart;", Cond.fieldLink RX2 40 "PassNotes$Notes" "land" "LPassNotes$Land;", Cond.fieldLink RX2 33 "PassNotes$Notes" "held" "[LPassNotes$Sheet;", Cond.methodLink RX2 125 yX0_clear, Cond.instanceMethod yX0_clear, Cond.selects RX0 yX0_clear yX0_clear, Cond.initialized RX0, Cond.code yX0_clear cX0_clear 1 none, Cond.fieldLink RX0 21 "PassNotes$Chart" "steps" "I", Cond.methodLink RX2 88 yX1_passes, Cond.instanceMethod yX1_passes, Cond.selects RX1 yX1_passes yX1_passes, Cond.initialized RX1, Cond.code yX1_passes cX1_passes 1 (some .int), Cond.fieldLink RX1 32 "PassNotes$Land" "passes" "I", Cond.methodLink RX2 94 yX1_first, Cond.instanceMethod yX1_first]
def wsX2_knownWay_r2 : List Cond := [Cond.selects RX1 yX1_first yX1_first, Cond.code yX1_first cX1_first 2 (some .int), Cond.fieldLink RX1 15 "PassNotes$Land" "firsts" "[I", Cond.methodLink RX2 97 yX1_second, Cond.instanceMethod yX1_second, Cond.selects RX1 yX1_second yX1_second, Cond.code yX1_second cX1_second 2 (some .int), Cond.fieldLink RX1 18 "PassNotes$Land" "seconds" "[I", Cond.methodLink RX2 51 yX2_slot, Cond.static yX2_slot, Cond.code yX2_slot cX2_slot 2 (some .int), Cond.methodLink RX2 115 yX3_tells, Cond.instanceMethod yX3_tells, Cond.selects RX3 yX3_tells yX3_tells, Cond.initialized RX3, Cond.code yX3_tells cX3_tells 2 (some .boolean), Cond.fieldLink RX3 9 "PassNotes$Sheet" "lengths" "[I", Cond.methodLink RX2 128 yX3_length, Cond.instanceMethod yX3_length, Cond.selects RX3 yX3_length yX3_length, Cond.code yX3_length cX3_length 2 (some .int), Cond.methodLink RX2 131 yX0_addStep, Cond.instanceMethod yX0_addStep, Cond.selects RX0 yX0_addStep yX0_addStep]
def wsX2_knownWay_r3 : List Cond := [Cond.code yX0_addStep cX0_addStep 4 none, Cond.fieldLink RX0 9 "PassNotes$Chart" "froms" "[I", Cond.fieldLink RX0 15 "PassNotes$Chart" "tos" "[I", Cond.fieldLink RX0 18 "PassNotes$Chart" "lengths" "[I", Cond.methodLink RX2 135 yX0_search, Cond.instanceMethod yX0_search, Cond.selects RX0 yX0_search yX0_search, Cond.code yX0_search cX0_search 7 none, Cond.constant RX0 25 (1073741824)]
def wsX2_knownWay : List Cond := .code yX2_knownWay cX2_knownWay 3 (some .int) :: ((wsX2_knownWay_r1 ++ (wsX2_knownWay_r2 ++ wsX2_knownWay_r3)) ++ wsX20 ++ wsX00 ++ wsX10 ++ wsX30)
def wsX2_knownHuts_r1 : List Cond := [Cond.fieldLink RX2 40 "PassNotes$Notes" "land" "LPassNotes$Land;", Cond.constant RX2 142 (1073741824), Cond.methodLink RX2 59 yX1_huts, Cond.instanceMethod yX1_huts, Cond.selects RX1 yX1_huts yX1_huts, Cond.initialized RX1, Cond.code yX1_huts cX1_huts 1 (some .int), Cond.fieldLink RX1 28 "PassNotes$Land" "huts" "I", Cond.methodLink RX2 139 yX2_knownWay, Cond.instanceMethod yX2_knownWay, Cond.selects RX2 yX2_knownWay yX2_knownWay, Cond.initialized RX2, Cond.code yX2_knownWay cX2_knownWay 3 (some .int), Cond.fieldLink RX2 27 "PassNotes$Notes" "waysFound" "[Z", Cond.fieldLink RX2 24 "PassNotes$Notes" "ways" "[[I", Cond.methodLink RX2 121 yX2_findWays, Cond.instanceMethod yX2_findWays, Cond.selects RX2 yX2_findWays yX2_findWays, Cond.code yX2_findWays cX2_findWays 7 none, Cond.fieldLink RX2 12 "PassNotes$Notes" "chart" "LPassNotes$Chart;", Cond.fieldLink RX2 33 "PassNotes$Notes" "held" "[LPassNotes$Sheet;", Cond.methodLink RX2 125 yX0_clear, Cond.instanceMethod yX0_clear, Cond.selects RX0 yX0_clear yX0_clear]
def wsX2_knownHuts_r2 : List Cond := [Cond.initialized RX0, Cond.code yX0_clear cX0_clear 1 none, Cond.fieldLink RX0 21 "PassNotes$Chart" "steps" "I", Cond.methodLink RX2 88 yX1_passes, Cond.instanceMethod yX1_passes, Cond.selects RX1 yX1_passes yX1_passes, Cond.code yX1_passes cX1_passes 1 (some .int), Cond.fieldLink RX1 32 "PassNotes$Land" "passes" "I", Cond.methodLink RX2 94 yX1_first, Cond.instanceMethod yX1_first, Cond.selects RX1 yX1_first yX1_first, Cond.code yX1_first cX1_first 2 (some .int), Cond.fieldLink RX1 15 "PassNotes$Land" "firsts" "[I", Cond.methodLink RX2 97 yX1_second, Cond.instanceMethod yX1_second, Cond.selects RX1 yX1_second yX1_second, Cond.code yX1_second cX1_second 2 (some .int), Cond.fieldLink RX1 18 "PassNotes$Land" "seconds" "[I", Cond.methodLink RX2 51 yX2_slot, Cond.static yX2_slot, Cond.code yX2_slot cX2_slot 2 (some .int), Cond.methodLink RX2 115 yX3_tells, Cond.instanceMethod yX3_tells, Cond.selects RX3 yX3_tells yX3_tells]
def wsX2_knownHuts_r3 : List Cond := [Cond.initialized RX3, Cond.code yX3_tells cX3_tells 2 (some .boolean), Cond.fieldLink RX3 9 "PassNotes$Sheet" "lengths" "[I", Cond.methodLink RX2 128 yX3_length, Cond.instanceMethod yX3_length, Cond.selects RX3 yX3_length yX3_length, Cond.code yX3_length cX3_length 2 (some .int), Cond.methodLink RX2 131 yX0_addStep, Cond.instanceMethod yX0_addStep, Cond.selects RX0 yX0_addStep yX0_addStep, Cond.code yX0_addStep cX0_addStep 4 none, Cond.fieldLink RX0 9 "PassNotes$Chart" "froms" "[I", Cond.fieldLink RX0 15 "PassNotes$Chart" "tos" "[I", Cond.fieldLink RX0 18 "PassNotes$Chart" "lengths" "[I", Cond.methodLink RX2 135 yX0_search, Cond.instanceMethod yX0_search, Cond.selects RX0 yX0_search yX0_search, Cond.code yX0_search cX0_search 7 none, Cond.constant RX0 25 (1073741824)]
def wsX2_knownHuts : List Cond := .code yX2_knownHuts cX2_knownHuts 4 (some .int) :: ((wsX2_knownHuts_r1 ++ (wsX2_knownHuts_r2 ++ wsX2_knownHuts_r3)) ++ wsX20 ++ wsX10 ++ wsX00 ++ wsX30)
def wsX2_letter_r1 : List Cond := [Cond.constant RX2 142 (1073741824), Cond.fieldLink RX2 40 "PassNotes$Notes" "land" "LPassNotes$Land;", Cond.methodLink RX2 139 yX2_knownWay, Cond.instanceMethod yX2_knownWay, Cond.selects RX2 yX2_knownWay yX2_knownWay, Cond.initialized RX2, Cond.code yX2_knownWay cX2_knownWay 3 (some .int), Cond.fieldLink RX2 27 "PassNotes$Notes" "waysFound" "[Z", Cond.fieldLink RX2 24 "PassNotes$Notes" "ways" "[[I", Cond.methodLink RX2 121 yX2_findWays, Cond.instanceMethod yX2_findWays, Cond.selects RX2 yX2_findWays yX2_findWays, Cond.code yX2_findWays cX2_findWays 7 none, Cond.fieldLink RX2 12 "PassNotes$Notes" "chart" "LPassNotes$Chart;", Cond.fieldLink RX2 33 "PassNotes$Notes" "held" "[LPassNotes$Sheet;", Cond.methodLink RX2 125 yX0_clear, Cond.instanceMethod yX0_clear, Cond.selects RX0 yX0_clear yX0_clear, Cond.initialized RX0, Cond.code yX0_clear cX0_clear 1 none, Cond.fieldLink RX0 21 "PassNotes$Chart" "steps" "I", Cond.methodLink RX2 88 yX1_passes, Cond.instanceMethod yX1_passes, Cond.selects RX1 yX1_passes yX1_passes]
def wsX2_letter_r2 : List Cond := [Cond.initialized RX1, Cond.code yX1_passes cX1_passes 1 (some .int), Cond.fieldLink RX1 32 "PassNotes$Land" "passes" "I", Cond.methodLink RX2 94 yX1_first, Cond.instanceMethod yX1_first, Cond.selects RX1 yX1_first yX1_first, Cond.code yX1_first cX1_first 2 (some .int), Cond.fieldLink RX1 15 "PassNotes$Land" "firsts" "[I", Cond.methodLink RX2 97 yX1_second, Cond.instanceMethod yX1_second, Cond.selects RX1 yX1_second yX1_second, Cond.code yX1_second cX1_second 2 (some .int), Cond.fieldLink RX1 18 "PassNotes$Land" "seconds" "[I", Cond.methodLink RX2 51 yX2_slot, Cond.static yX2_slot, Cond.code yX2_slot cX2_slot 2 (some .int), Cond.methodLink RX2 115 yX3_tells, Cond.instanceMethod yX3_tells, Cond.selects RX3 yX3_tells yX3_tells, Cond.initialized RX3, Cond.code yX3_tells cX3_tells 2 (some .boolean), Cond.fieldLink RX3 9 "PassNotes$Sheet" "lengths" "[I", Cond.methodLink RX2 128 yX3_length, Cond.instanceMethod yX3_length]
def wsX2_letter_r3 : List Cond := [Cond.selects RX3 yX3_length yX3_length, Cond.code yX3_length cX3_length 2 (some .int), Cond.methodLink RX2 131 yX0_addStep, Cond.instanceMethod yX0_addStep, Cond.selects RX0 yX0_addStep yX0_addStep, Cond.code yX0_addStep cX0_addStep 4 none, Cond.fieldLink RX0 9 "PassNotes$Chart" "froms" "[I", Cond.fieldLink RX0 15 "PassNotes$Chart" "tos" "[I", Cond.fieldLink RX0 18 "PassNotes$Chart" "lengths" "[I", Cond.methodLink RX2 135 yX0_search, Cond.instanceMethod yX0_search, Cond.selects RX0 yX0_search yX0_search, Cond.code yX0_search cX0_search 7 none, Cond.constant RX0 25 (1073741824), Cond.methodLink RX2 143 yX1_isStep, Cond.instanceMethod yX1_isStep, Cond.selects RX1 yX1_isStep yX1_isStep, Cond.code yX1_isStep cX1_isStep 6 (some .boolean), Cond.fieldLink RX1 24 "PassNotes$Land" "opens" "[Z"]
def wsX2_letter : List Cond := .code yX2_letter cX2_letter 6 (some .int) :: ((wsX2_letter_r1 ++ (wsX2_letter_r2 ++ wsX2_letter_r3)) ++ wsX20 ++ wsX00 ++ wsX10 ++ wsX30)
def wsX2_reachedHuts_r1 : List Cond := [Cond.fieldLink RX2 40 "PassNotes$Notes" "land" "LPassNotes$Land;", Cond.methodLink RX2 59 yX1_huts, Cond.instanceMethod yX1_huts, Cond.selects RX1 yX1_huts yX1_huts, Cond.initialized RX1, Cond.code yX1_huts cX1_huts 1 (some .int), Cond.fieldLink RX1 28 "PassNotes$Land" "huts" "I", Cond.methodLink RX2 146 yX2_letter, Cond.instanceMethod yX2_letter, Cond.selects RX2 yX2_letter yX2_letter, Cond.initialized RX2, Cond.code yX2_letter cX2_letter 6 (some .int), Cond.constant RX2 142 (1073741824), Cond.methodLink RX2 139 yX2_knownWay, Cond.instanceMethod yX2_knownWay, Cond.selects RX2 yX2_knownWay yX2_knownWay, Cond.code yX2_knownWay cX2_knownWay 3 (some .int), Cond.fieldLink RX2 27 "PassNotes$Notes" "waysFound" "[Z", Cond.fieldLink RX2 24 "PassNotes$Notes" "ways" "[[I", Cond.methodLink RX2 121 yX2_findWays, Cond.instanceMethod yX2_findWays, Cond.selects RX2 yX2_findWays yX2_findWays, Cond.code yX2_findWays cX2_findWays 7 none, Cond.fieldLink RX2 12 "PassNotes$Notes" "chart" "LPassNotes$Chart;"]
def wsX2_reachedHuts_r2 : List Cond := [Cond.fieldLink RX2 33 "PassNotes$Notes" "held" "[LPassNotes$Sheet;", Cond.methodLink RX2 125 yX0_clear, Cond.instanceMethod yX0_clear, Cond.selects RX0 yX0_clear yX0_clear, Cond.initialized RX0, Cond.code yX0_clear cX0_clear 1 none, Cond.fieldLink RX0 21 "PassNotes$Chart" "steps" "I", Cond.methodLink RX2 88 yX1_passes, Cond.instanceMethod yX1_passes, Cond.selects RX1 yX1_passes yX1_passes, Cond.code yX1_passes cX1_passes 1 (some .int), Cond.fieldLink RX1 32 "PassNotes$Land" "passes" "I", Cond.methodLink RX2 94 yX1_first, Cond.instanceMethod yX1_first, Cond.selects RX1 yX1_first yX1_first, Cond.code yX1_first cX1_first 2 (some .int), Cond.fieldLink RX1 15 "PassNotes$Land" "firsts" "[I", Cond.methodLink RX2 97 yX1_second, Cond.instanceMethod yX1_second, Cond.selects RX1 yX1_second yX1_second, Cond.code yX1_second cX1_second 2 (some .int), Cond.fieldLink RX1 18 "PassNotes$Land" "seconds" "[I", Cond.methodLink RX2 51 yX2_slot, Cond.static yX2_slot]
def wsX2_reachedHuts_r3 : List Cond := [Cond.code yX2_slot cX2_slot 2 (some .int), Cond.methodLink RX2 115 yX3_tells, Cond.instanceMethod yX3_tells, Cond.selects RX3 yX3_tells yX3_tells, Cond.initialized RX3, Cond.code yX3_tells cX3_tells 2 (some .boolean), Cond.fieldLink RX3 9 "PassNotes$Sheet" "lengths" "[I", Cond.methodLink RX2 128 yX3_length, Cond.instanceMethod yX3_length, Cond.selects RX3 yX3_length yX3_length, Cond.code yX3_length cX3_length 2 (some .int), Cond.methodLink RX2 131 yX0_addStep, Cond.instanceMethod yX0_addStep, Cond.selects RX0 yX0_addStep yX0_addStep, Cond.code yX0_addStep cX0_addStep 4 none, Cond.fieldLink RX0 9 "PassNotes$Chart" "froms" "[I", Cond.fieldLink RX0 15 "PassNotes$Chart" "tos" "[I", Cond.fieldLink RX0 18 "PassNotes$Chart" "lengths" "[I", Cond.methodLink RX2 135 yX0_search, Cond.instanceMethod yX0_search, Cond.selects RX0 yX0_search yX0_search, Cond.code yX0_search cX0_search 7 none, Cond.constant RX0 25 (1073741824), Cond.methodLink RX2 143 yX1_isStep]
def wsX2_reachedHuts_r4 : List Cond := [Cond.instanceMethod yX1_isStep, Cond.selects RX1 yX1_isStep yX1_isStep, Cond.code yX1_isStep cX1_isStep 6 (some .boolean), Cond.fieldLink RX1 24 "PassNotes$Land" "opens" "[Z"]
def wsX2_reachedHuts : List Cond := .code yX2_reachedHuts cX2_reachedHuts 4 (some .int) :: ((wsX2_reachedHuts_r1 ++ (wsX2_reachedHuts_r2 ++ (wsX2_reachedHuts_r3 ++ wsX2_reachedHuts_r4))) ++ wsX20 ++ wsX10 ++ wsX00 ++ wsX30)
def wsX2_reachedPairs_r1 : List Cond := [Cond.fieldLink RX2 40 "PassNotes$Notes" "land" "LPassNotes$Land;", Cond.methodLink RX2 59 yX1_huts, Cond.instanceMethod yX1_huts, Cond.selects RX1 yX1_huts yX1_huts, Cond.initialized RX1, Cond.code yX1_huts cX1_huts 1 (some .int), Cond.fieldLink RX1 28 "PassNotes$Land" "huts" "I", Cond.methodLink RX2 146 yX2_letter, Cond.instanceMethod yX2_letter, Cond.selects RX2 yX2_letter yX2_letter, Cond.initialized RX2, Cond.code yX2_letter cX2_letter 6 (some .int), Cond.constant RX2 142 (1073741824), Cond.methodLink RX2 139 yX2_knownWay, Cond.instanceMethod yX2_knownWay, Cond.selects RX2 yX2_knownWay yX2_knownWay, Cond.code yX2_knownWay cX2_knownWay 3 (some .int), Cond.fieldLink RX2 27 "PassNotes$Notes" "waysFound" "[Z", Cond.fieldLink RX2 24 "PassNotes$Notes" "ways" "[[I", Cond.methodLink RX2 121 yX2_findWays, Cond.instanceMethod yX2_findWays, Cond.selects RX2 yX2_findWays yX2_findWays, Cond.code yX2_findWays cX2_findWays 7 none, Cond.fieldLink RX2 12 "PassNotes$Notes" "chart" "LPassNotes$Chart;"]
def wsX2_reachedPairs_r2 : List Cond := [Cond.fieldLink RX2 33 "PassNotes$Notes" "held" "[LPassNotes$Sheet;", Cond.methodLink RX2 125 yX0_clear, Cond.instanceMethod yX0_clear, Cond.selects RX0 yX0_clear yX0_clear, Cond.initialized RX0, Cond.code yX0_clear cX0_clear 1 none, Cond.fieldLink RX0 21 "PassNotes$Chart" "steps" "I", Cond.methodLink RX2 88 yX1_passes, Cond.instanceMethod yX1_passes, Cond.selects RX1 yX1_passes yX1_passes, Cond.code yX1_passes cX1_passes 1 (some .int), Cond.fieldLink RX1 32 "PassNotes$Land" "passes" "I", Cond.methodLink RX2 94 yX1_first, Cond.instanceMethod yX1_first, Cond.selects RX1 yX1_first yX1_first, Cond.code yX1_first cX1_first 2 (some .int), Cond.fieldLink RX1 15 "PassNotes$Land" "firsts" "[I", Cond.methodLink RX2 97 yX1_second, Cond.instanceMethod yX1_second, Cond.selects RX1 yX1_second yX1_second, Cond.code yX1_second cX1_second 2 (some .int), Cond.fieldLink RX1 18 "PassNotes$Land" "seconds" "[I", Cond.methodLink RX2 51 yX2_slot, Cond.static yX2_slot]
def wsX2_reachedPairs_r3 : List Cond := [Cond.code yX2_slot cX2_slot 2 (some .int), Cond.methodLink RX2 115 yX3_tells, Cond.instanceMethod yX3_tells, Cond.selects RX3 yX3_tells yX3_tells, Cond.initialized RX3, Cond.code yX3_tells cX3_tells 2 (some .boolean), Cond.fieldLink RX3 9 "PassNotes$Sheet" "lengths" "[I", Cond.methodLink RX2 128 yX3_length, Cond.instanceMethod yX3_length, Cond.selects RX3 yX3_length yX3_length, Cond.code yX3_length cX3_length 2 (some .int), Cond.methodLink RX2 131 yX0_addStep, Cond.instanceMethod yX0_addStep, Cond.selects RX0 yX0_addStep yX0_addStep, Cond.code yX0_addStep cX0_addStep 4 none, Cond.fieldLink RX0 9 "PassNotes$Chart" "froms" "[I", Cond.fieldLink RX0 15 "PassNotes$Chart" "tos" "[I", Cond.fieldLink RX0 18 "PassNotes$Chart" "lengths" "[I", Cond.methodLink RX2 135 yX0_search, Cond.instanceMethod yX0_search, Cond.selects RX0 yX0_search yX0_search, Cond.code yX0_search cX0_search 7 none, Cond.constant RX0 25 (1073741824), Cond.methodLink RX2 143 yX1_isStep]
def wsX2_reachedPairs_r4 : List Cond := [Cond.instanceMethod yX1_isStep, Cond.selects RX1 yX1_isStep yX1_isStep, Cond.code yX1_isStep cX1_isStep 6 (some .boolean), Cond.fieldLink RX1 24 "PassNotes$Land" "opens" "[Z"]
def wsX2_reachedPairs : List Cond := .code yX2_reachedPairs cX2_reachedPairs 4 (some .int) :: ((wsX2_reachedPairs_r1 ++ (wsX2_reachedPairs_r2 ++ (wsX2_reachedPairs_r3 ++ wsX2_reachedPairs_r4))) ++ wsX20 ++ wsX10 ++ wsX00 ++ wsX30)
def wsX3_passesTold : List Cond := .code yX3_passesTold cX3_passesTold 3 (some .int) :: ([.fieldLink RX3 9 "PassNotes$Sheet" "lengths" "[I", .methodLink RX3 32 yX3_tells, .instanceMethod yX3_tells, .selects RX3 yX3_tells yX3_tells, .initialized RX3, .code yX3_tells cX3_tells 2 (some .boolean)] ++ wsX30)
def wsX4_init_r1 : List Cond := [Cond.methodLink RX4 1 objectInit, Cond.instanceMethod objectInit, Cond.code objectInit ⟨#[0xb1]⟩ 1 none, Cond.classLink RX4 7 RX1, Cond.instantiable RX1 7, Cond.initialized RX1, Cond.fieldLink RX4 10 "PassNotes" "land" "LPassNotes$Land;", Cond.classLink RX4 16 RX2, Cond.instantiable RX2 8, Cond.initialized RX2, Cond.fieldLink RX4 21 "PassNotes" "now" "LPassNotes$Notes;", Cond.fieldLink RX4 25 "PassNotes" "later" "LPassNotes$Notes;", Cond.classLink RX4 28 RX0, Cond.instantiable RX0 4, Cond.initialized RX0, Cond.fieldLink RX4 31 "PassNotes" "truthChart" "LPassNotes$Chart;", Cond.arrayClass .int, Cond.fieldLink RX4 35 "PassNotes" "truthWays" "[I", Cond.instanceMethod yX1_init, Cond.code yX1_init cX1_init 1 none, Cond.methodLink RX1 3 objectInit, Cond.fieldLink RX1 9 "PassNotes$Land" "areas" "[I", Cond.fieldLink RX1 15 "PassNotes$Land" "firsts" "[I", Cond.fieldLink RX1 18 "PassNotes$Land" "seconds" "[I"]
def wsX4_init_r2 : List Cond := [Cond.fieldLink RX1 21 "PassNotes$Land" "lengths" "[I", Cond.arrayClass .boolean, Cond.fieldLink RX1 24 "PassNotes$Land" "opens" "[Z", Cond.methodLink RX4 18 yX2_init, Cond.instanceMethod yX2_init, Cond.code yX2_init cX2_init 2 none, Cond.methodLink RX2 3 objectInit, Cond.classLink RX2 9 RX0, Cond.fieldLink RX2 12 "PassNotes$Notes" "chart" "LPassNotes$Chart;", Cond.fieldLink RX2 18 "PassNotes$Notes" "wrote" "[I", Cond.classLink RX2 22 "[[I", Cond.fieldLink RX2 24 "PassNotes$Notes" "ways" "[[I", Cond.fieldLink RX2 27 "PassNotes$Notes" "waysFound" "[Z", Cond.classLink RX2 31 RX3, Cond.fieldLink RX2 33 "PassNotes$Notes" "held" "[LPassNotes$Sheet;", Cond.fieldLink RX2 37 "PassNotes$Notes" "carried" "[LPassNotes$Sheet;", Cond.fieldLink RX2 40 "PassNotes$Notes" "land" "LPassNotes$Land;", Cond.instanceMethod yX0_init, Cond.code yX0_init cX0_init 1 none, Cond.methodLink RX0 3 objectInit, Cond.fieldLink RX0 9 "PassNotes$Chart" "froms" "[I", Cond.fieldLink RX0 15 "PassNotes$Chart" "tos" "[I", Cond.fieldLink RX0 18 "PassNotes$Chart" "lengths" "[I"]
def wsX4_init : List Cond := .code yX4_init cX4_init 1 none :: ((wsX4_init_r1 ++ wsX4_init_r2) ++ wsX10 ++ wsX40 ++ wsX20 ++ wsX00)
def wsX4_hut : List Cond := .code yX4_hut cX4_hut 2 (some .int) :: ([.classLink RX4 39 "java/lang/IllegalArgumentException", .initialized "java/lang/IllegalArgumentException", .classLink RX4 50 "java/lang/IllegalStateException", .initialized "java/lang/IllegalStateException", .fieldLink RX4 10 "PassNotes" "land" "LPassNotes$Land;", .methodLink RX4 46 yX1_huts, .instanceMethod yX1_huts, .selects RX1 yX1_huts yX1_huts, .initialized RX1, .code yX1_huts cX1_huts 1 (some .int), .fieldLink RX1 28 "PassNotes$Land" "huts" "I", .methodLink RX4 55 yX1_addHut, .instanceMethod yX1_addHut, .selects RX1 yX1_addHut yX1_addHut, .code yX1_addHut cX1_addHut 2 (some .int), .fieldLink RX1 9 "PassNotes$Land" "areas" "[I"] ++ wsX40 ++ wsX10 ++ (vx_atS RX4 43 "java/lang/IllegalArgumentException" ["java/lang/RuntimeException", "java/lang/Exception"]).filter goodWord ++ (vx_atS RX4 54 "java/lang/IllegalStateException" ["java/lang/RuntimeException", "java/lang/Exception"]).filter goodWord)
def wsX4_checkHut : List Cond := .code yX4_checkHut cX4_checkHut 2 none :: ([.classLink RX4 144 "java/lang/IndexOutOfBoundsException", .initialized "java/lang/IndexOutOfBoundsException", .fieldLink RX4 10 "PassNotes" "land" "LPassNotes$Land;", .methodLink RX4 46 yX1_huts, .instanceMethod yX1_huts, .selects RX1 yX1_huts yX1_huts, .initialized RX1, .code yX1_huts cX1_huts 1 (some .int), .fieldLink RX1 28 "PassNotes$Land" "huts" "I"] ++ wsX40 ++ wsX10 ++ (vx_atS RX4 148 "java/lang/IndexOutOfBoundsException" ["java/lang/RuntimeException", "java/lang/Exception"]).filter goodWord)
def wsX4_checkLength : List Cond := .code yX4_checkLength cX4_checkLength 2 none :: ([.classLink RX4 39 "java/lang/IllegalArgumentException", .initialized "java/lang/IllegalArgumentException"] ++ (vx_atS RX4 43 "java/lang/IllegalArgumentException" ["java/lang/RuntimeException", "java/lang/Exception"]).filter goodWord)
def wsX4_pass_r1 : List Cond := [Cond.classLink RX4 39 "java/lang/IllegalArgumentException", Cond.initialized "java/lang/IllegalArgumentException", Cond.classLink RX4 50 "java/lang/IllegalStateException", Cond.initialized "java/lang/IllegalStateException", Cond.fieldLink RX4 10 "PassNotes" "land" "LPassNotes$Land;", Cond.methodLink RX4 59 yX4_checkHut, Cond.instanceMethod yX4_checkHut, Cond.selects RX4 yX4_checkHut yX4_checkHut, Cond.initialized RX4, Cond.code yX4_checkHut cX4_checkHut 2 none, Cond.classLink RX4 144 "java/lang/IndexOutOfBoundsException", Cond.initialized "java/lang/IndexOutOfBoundsException", Cond.methodLink RX4 46 yX1_huts, Cond.instanceMethod yX1_huts, Cond.selects RX1 yX1_huts yX1_huts, Cond.initialized RX1, Cond.code yX1_huts cX1_huts 1 (some .int), Cond.fieldLink RX1 28 "PassNotes$Land" "huts" "I", Cond.methodLink RX4 65 yX4_checkLength, Cond.instanceMethod yX4_checkLength, Cond.selects RX4 yX4_checkLength yX4_checkLength, Cond.code yX4_checkLength cX4_checkLength 2 none, Cond.methodLink RX4 68 yX1_passes, Cond.instanceMethod yX1_passes]
def wsX4_pass_r2 : List Cond := [Cond.selects RX1 yX1_passes yX1_passes, Cond.code yX1_passes cX1_passes 1 (some .int), Cond.fieldLink RX1 32 "PassNotes$Land" "passes" "I", Cond.methodLink RX4 73 yX1_addPass, Cond.instanceMethod yX1_addPass, Cond.selects RX1 yX1_addPass yX1_addPass, Cond.code yX1_addPass cX1_addPass 4 (some .int), Cond.fieldLink RX1 15 "PassNotes$Land" "firsts" "[I", Cond.fieldLink RX1 18 "PassNotes$Land" "seconds" "[I", Cond.fieldLink RX1 21 "PassNotes$Land" "lengths" "[I", Cond.fieldLink RX1 24 "PassNotes$Land" "opens" "[Z"]
def wsX4_pass : List Cond := .code yX4_pass cX4_pass 4 (some .int) :: ((wsX4_pass_r1 ++ wsX4_pass_r2) ++ wsX40 ++ wsX10 ++ (vx_atS RX4 43 "java/lang/IllegalArgumentException" ["java/lang/RuntimeException", "java/lang/Exception"]).filter goodWord ++ (vx_atS RX4 54 "java/lang/IllegalStateException" ["java/lang/RuntimeException", "java/lang/Exception"]).filter goodWord ++ (vx_atS RX4 148 "java/lang/IndexOutOfBoundsException" ["java/lang/RuntimeException", "java/lang/Exception"]).filter goodWord)
def wsX4_checkPass : List Cond := .code yX4_checkPass cX4_checkPass 2 none :: ([.classLink RX4 144 "java/lang/IndexOutOfBoundsException", .initialized "java/lang/IndexOutOfBoundsException", .fieldLink RX4 10 "PassNotes" "land" "LPassNotes$Land;", .methodLink RX4 68 yX1_passes, .instanceMethod yX1_passes, .selects RX1 yX1_passes yX1_passes, .initialized RX1, .code yX1_passes cX1_passes 1 (some .int), .fieldLink RX1 32 "PassNotes$Land" "passes" "I"] ++ wsX40 ++ wsX10 ++ (vx_atS RX4 148 "java/lang/IndexOutOfBoundsException" ["java/lang/RuntimeException", "java/lang/Exception"]).filter goodWord)
def wsX4_setLength_r1 : List Cond := [Cond.fieldLink RX4 10 "PassNotes" "land" "LPassNotes$Land;", Cond.methodLink RX4 77 yX4_checkPass, Cond.instanceMethod yX4_checkPass, Cond.selects RX4 yX4_checkPass yX4_checkPass, Cond.initialized RX4, Cond.code yX4_checkPass cX4_checkPass 2 none, Cond.classLink RX4 144 "java/lang/IndexOutOfBoundsException", Cond.initialized "java/lang/IndexOutOfBoundsException", Cond.methodLink RX4 68 yX1_passes, Cond.instanceMethod yX1_passes, Cond.selects RX1 yX1_passes yX1_passes, Cond.initialized RX1, Cond.code yX1_passes cX1_passes 1 (some .int), Cond.fieldLink RX1 32 "PassNotes$Land" "passes" "I", Cond.methodLink RX4 65 yX4_checkLength, Cond.instanceMethod yX4_checkLength, Cond.selects RX4 yX4_checkLength yX4_checkLength, Cond.code yX4_checkLength cX4_checkLength 2 none, Cond.classLink RX4 39 "java/lang/IllegalArgumentException", Cond.initialized "java/lang/IllegalArgumentException", Cond.methodLink RX4 80 yX1_changeLength, Cond.instanceMethod yX1_changeLength, Cond.selects RX1 yX1_changeLength yX1_changeLength, Cond.code yX1_changeLength cX1_changeLength 4 (some .int)]
def wsX4_setLength_r2 : List Cond := [Cond.fieldLink RX1 21 "PassNotes$Land" "lengths" "[I"]
def wsX4_setLength : List Cond := .code yX4_setLength cX4_setLength 3 (some .int) :: ((wsX4_setLength_r1 ++ wsX4_setLength_r2) ++ wsX40 ++ wsX10 ++ (vx_atS RX4 148 "java/lang/IndexOutOfBoundsException" ["java/lang/RuntimeException", "java/lang/Exception"]).filter goodWord ++ (vx_atS RX4 43 "java/lang/IllegalArgumentException" ["java/lang/RuntimeException", "java/lang/Exception"]).filter goodWord)
def wsX4_setOpen : List Cond := .code yX4_setOpen cX4_setOpen 3 (some .boolean) :: ([.fieldLink RX4 10 "PassNotes" "land" "LPassNotes$Land;", .methodLink RX4 77 yX4_checkPass, .instanceMethod yX4_checkPass, .selects RX4 yX4_checkPass yX4_checkPass, .initialized RX4, .code yX4_checkPass cX4_checkPass 2 none, .classLink RX4 144 "java/lang/IndexOutOfBoundsException", .initialized "java/lang/IndexOutOfBoundsException", .methodLink RX4 68 yX1_passes, .instanceMethod yX1_passes, .selects RX1 yX1_passes yX1_passes, .initialized RX1, .code yX1_passes cX1_passes 1 (some .int), .fieldLink RX1 32 "PassNotes$Land" "passes" "I", .methodLink RX4 84 yX1_changeOpen, .instanceMethod yX1_changeOpen, .selects RX1 yX1_changeOpen yX1_changeOpen, .code yX1_changeOpen cX1_changeOpen 4 (some .boolean), .fieldLink RX1 24 "PassNotes$Land" "opens" "[Z"] ++ wsX40 ++ wsX10 ++ (vx_atS RX4 148 "java/lang/IndexOutOfBoundsException" ["java/lang/RuntimeException", "java/lang/Exception"]).filter goodWord)
def wsX4_burn_r1 : List Cond := [Cond.fieldLink RX4 21 "PassNotes" "now" "LPassNotes$Notes;", Cond.methodLink RX4 59 yX4_checkHut, Cond.instanceMethod yX4_checkHut, Cond.selects RX4 yX4_checkHut yX4_checkHut, Cond.initialized RX4, Cond.code yX4_checkHut cX4_checkHut 2 none, Cond.classLink RX4 144 "java/lang/IndexOutOfBoundsException", Cond.initialized "java/lang/IndexOutOfBoundsException", Cond.fieldLink RX4 10 "PassNotes" "land" "LPassNotes$Land;", Cond.methodLink RX4 46 yX1_huts, Cond.instanceMethod yX1_huts, Cond.selects RX1 yX1_huts yX1_huts, Cond.initialized RX1, Cond.code yX1_huts cX1_huts 1 (some .int), Cond.fieldLink RX1 28 "PassNotes$Land" "huts" "I", Cond.methodLink RX4 88 yX2_burnAll, Cond.instanceMethod yX2_burnAll, Cond.selects RX2 yX2_burnAll yX2_burnAll, Cond.initialized RX2, Cond.code yX2_burnAll cX2_burnAll 4 (some .int), Cond.fieldLink RX2 33 "PassNotes$Notes" "held" "[LPassNotes$Sheet;", Cond.methodLink RX2 55 yX2_sheetsOf, Cond.instanceMethod yX2_sheetsOf, Cond.selects RX2 yX2_sheetsOf yX2_sheetsOf]
def wsX4_burn_r2 : List Cond := [Cond.code yX2_sheetsOf cX2_sheetsOf 4 (some .int), Cond.methodLink RX2 51 yX2_slot, Cond.static yX2_slot, Cond.code yX2_slot cX2_slot 2 (some .int), Cond.methodLink RX2 48 yX2_forgetWays, Cond.instanceMethod yX2_forgetWays, Cond.selects RX2 yX2_forgetWays yX2_forgetWays, Cond.code yX2_forgetWays cX2_forgetWays 2 none, Cond.fieldLink RX2 27 "PassNotes$Notes" "waysFound" "[Z"]
def wsX4_burn : List Cond := .code yX4_burn cX4_burn 2 (some .int) :: ((wsX4_burn_r1 ++ wsX4_burn_r2) ++ wsX40 ++ wsX10 ++ wsX20 ++ (vx_atS RX4 148 "java/lang/IndexOutOfBoundsException" ["java/lang/RuntimeException", "java/lang/Exception"]).filter goodWord)
def wsX4_checkWhat : List Cond := .code yX4_checkWhat cX4_checkWhat 3 none :: ([.classLink RX4 144 "java/lang/IndexOutOfBoundsException", .initialized "java/lang/IndexOutOfBoundsException"] ++ (vx_atS RX4 148 "java/lang/IndexOutOfBoundsException" ["java/lang/RuntimeException", "java/lang/Exception"]).filter goodWord)
def wsX4_sheet_r1 : List Cond := [Cond.fieldLink RX4 21 "PassNotes" "now" "LPassNotes$Notes;", Cond.methodLink RX4 59 yX4_checkHut, Cond.instanceMethod yX4_checkHut, Cond.selects RX4 yX4_checkHut yX4_checkHut, Cond.initialized RX4, Cond.code yX4_checkHut cX4_checkHut 2 none, Cond.classLink RX4 144 "java/lang/IndexOutOfBoundsException", Cond.initialized "java/lang/IndexOutOfBoundsException", Cond.fieldLink RX4 10 "PassNotes" "land" "LPassNotes$Land;", Cond.methodLink RX4 46 yX1_huts, Cond.instanceMethod yX1_huts, Cond.selects RX1 yX1_huts yX1_huts, Cond.initialized RX1, Cond.code yX1_huts cX1_huts 1 (some .int), Cond.fieldLink RX1 28 "PassNotes$Land" "huts" "I", Cond.methodLink RX4 91 yX4_checkWhat, Cond.instanceMethod yX4_checkWhat, Cond.selects RX4 yX4_checkWhat yX4_checkWhat, Cond.code yX4_checkWhat cX4_checkWhat 3 none, Cond.methodLink RX4 95 yX2_held, Cond.instanceMethod yX2_held, Cond.selects RX2 yX2_held yX2_held, Cond.initialized RX2, Cond.code yX2_held cX2_held 3 (some (.object "PassNotes$Sheet"))]
def wsX4_sheet_r2 : List Cond := [Cond.fieldLink RX2 33 "PassNotes$Notes" "held" "[LPassNotes$Sheet;", Cond.methodLink RX2 51 yX2_slot, Cond.static yX2_slot, Cond.code yX2_slot cX2_slot 2 (some .int), Cond.methodLink RX4 99 yX3_number, Cond.instanceMethod yX3_number, Cond.selects RX3 yX3_number yX3_number, Cond.initialized RX3, Cond.code yX3_number cX3_number 1 (some .int), Cond.fieldLink RX3 15 "PassNotes$Sheet" "number" "I", Cond.methodLink RX4 104 yX2_minute, Cond.instanceMethod yX2_minute, Cond.selects RX2 yX2_minute yX2_minute, Cond.code yX2_minute cX2_minute 1 (some .int), Cond.fieldLink RX2 44 "PassNotes$Notes" "minute" "I", Cond.methodLink RX4 107 yX3_age, Cond.instanceMethod yX3_age, Cond.selects RX3 yX3_age yX3_age, Cond.code yX3_age cX3_age 2 (some .int), Cond.fieldLink RX3 19 "PassNotes$Sheet" "written" "I", Cond.methodLink RX4 110 yX3_passesTold, Cond.instanceMethod yX3_passesTold, Cond.selects RX3 yX3_passesTold yX3_passesTold, Cond.code yX3_passesTold cX3_passesTold 3 (some .int)]
def wsX4_sheet_r3 : List Cond := [Cond.fieldLink RX3 9 "PassNotes$Sheet" "lengths" "[I", Cond.methodLink RX3 32 yX3_tells, Cond.instanceMethod yX3_tells, Cond.selects RX3 yX3_tells yX3_tells, Cond.code yX3_tells cX3_tells 2 (some .boolean)]
def wsX4_sheet : List Cond := .code yX4_sheet cX4_sheet 5 (some .int) :: ((wsX4_sheet_r1 ++ (wsX4_sheet_r2 ++ wsX4_sheet_r3)) ++ wsX40 ++ wsX10 ++ wsX20 ++ wsX30 ++ (vx_atS RX4 148 "java/lang/IndexOutOfBoundsException" ["java/lang/RuntimeException", "java/lang/Exception"]).filter goodWord)
def wsX4_way_r1 : List Cond := [Cond.fieldLink RX4 21 "PassNotes" "now" "LPassNotes$Notes;", Cond.constant RX4 116 (1073741824), Cond.methodLink RX4 59 yX4_checkHut, Cond.instanceMethod yX4_checkHut, Cond.selects RX4 yX4_checkHut yX4_checkHut, Cond.initialized RX4, Cond.code yX4_checkHut cX4_checkHut 2 none, Cond.classLink RX4 144 "java/lang/IndexOutOfBoundsException", Cond.initialized "java/lang/IndexOutOfBoundsException", Cond.fieldLink RX4 10 "PassNotes" "land" "LPassNotes$Land;", Cond.methodLink RX4 46 yX1_huts, Cond.instanceMethod yX1_huts, Cond.selects RX1 yX1_huts yX1_huts, Cond.initialized RX1, Cond.code yX1_huts cX1_huts 1 (some .int), Cond.fieldLink RX1 28 "PassNotes$Land" "huts" "I", Cond.methodLink RX4 91 yX4_checkWhat, Cond.instanceMethod yX4_checkWhat, Cond.selects RX4 yX4_checkWhat yX4_checkWhat, Cond.code yX4_checkWhat cX4_checkWhat 3 none, Cond.methodLink RX4 113 yX2_knownWay, Cond.instanceMethod yX2_knownWay, Cond.selects RX2 yX2_knownWay yX2_knownWay, Cond.initialized RX2]
def wsX4_way_r2 : List Cond := [Cond.code yX2_knownWay cX2_knownWay 3 (some .int), Cond.fieldLink RX2 27 "PassNotes$Notes" "waysFound" "[Z", Cond.fieldLink RX2 24 "PassNotes$Notes" "ways" "[[I", Cond.methodLink RX2 121 yX2_findWays, Cond.instanceMethod yX2_findWays, Cond.selects RX2 yX2_findWays yX2_findWays, Cond.code yX2_findWays cX2_findWays 7 none, Cond.fieldLink RX2 12 "PassNotes$Notes" "chart" "LPassNotes$Chart;", Cond.fieldLink RX2 40 "PassNotes$Notes" "land" "LPassNotes$Land;", Cond.fieldLink RX2 33 "PassNotes$Notes" "held" "[LPassNotes$Sheet;", Cond.methodLink RX2 125 yX0_clear, Cond.instanceMethod yX0_clear, Cond.selects RX0 yX0_clear yX0_clear, Cond.initialized RX0, Cond.code yX0_clear cX0_clear 1 none, Cond.fieldLink RX0 21 "PassNotes$Chart" "steps" "I", Cond.methodLink RX2 88 yX1_passes, Cond.instanceMethod yX1_passes, Cond.selects RX1 yX1_passes yX1_passes, Cond.code yX1_passes cX1_passes 1 (some .int), Cond.fieldLink RX1 32 "PassNotes$Land" "passes" "I", Cond.methodLink RX2 94 yX1_first, Cond.instanceMethod yX1_first, Cond.selects RX1 yX1_first yX1_first]
def wsX4_way_r3 : List Cond := [Cond.code yX1_first cX1_first 2 (some .int), Cond.fieldLink RX1 15 "PassNotes$Land" "firsts" "[I", Cond.methodLink RX2 97 yX1_second, Cond.instanceMethod yX1_second, Cond.selects RX1 yX1_second yX1_second, Cond.code yX1_second cX1_second 2 (some .int), Cond.fieldLink RX1 18 "PassNotes$Land" "seconds" "[I", Cond.methodLink RX2 51 yX2_slot, Cond.static yX2_slot, Cond.code yX2_slot cX2_slot 2 (some .int), Cond.methodLink RX2 115 yX3_tells, Cond.instanceMethod yX3_tells, Cond.selects RX3 yX3_tells yX3_tells, Cond.initialized RX3, Cond.code yX3_tells cX3_tells 2 (some .boolean), Cond.fieldLink RX3 9 "PassNotes$Sheet" "lengths" "[I", Cond.methodLink RX2 128 yX3_length, Cond.instanceMethod yX3_length, Cond.selects RX3 yX3_length yX3_length, Cond.code yX3_length cX3_length 2 (some .int), Cond.methodLink RX2 131 yX0_addStep, Cond.instanceMethod yX0_addStep, Cond.selects RX0 yX0_addStep yX0_addStep, Cond.code yX0_addStep cX0_addStep 4 none]
def wsX4_way_r4 : List Cond := [Cond.fieldLink RX0 9 "PassNotes$Chart" "froms" "[I", Cond.fieldLink RX0 15 "PassNotes$Chart" "tos" "[I", Cond.fieldLink RX0 18 "PassNotes$Chart" "lengths" "[I", Cond.methodLink RX2 135 yX0_search, Cond.instanceMethod yX0_search, Cond.selects RX0 yX0_search yX0_search, Cond.code yX0_search cX0_search 7 none, Cond.constant RX0 25 (1073741824)]
def wsX4_way : List Cond := .code yX4_way cX4_way 5 (some .int) :: ((wsX4_way_r1 ++ (wsX4_way_r2 ++ (wsX4_way_r3 ++ wsX4_way_r4))) ++ wsX40 ++ wsX10 ++ wsX20 ++ wsX00 ++ wsX30 ++ (vx_atS RX4 148 "java/lang/IndexOutOfBoundsException" ["java/lang/RuntimeException", "java/lang/Exception"]).filter goodWord)
def wsX4_post_r1 : List Cond := [Cond.fieldLink RX4 21 "PassNotes" "now" "LPassNotes$Notes;", Cond.methodLink RX4 59 yX4_checkHut, Cond.instanceMethod yX4_checkHut, Cond.selects RX4 yX4_checkHut yX4_checkHut, Cond.initialized RX4, Cond.code yX4_checkHut cX4_checkHut 2 none, Cond.classLink RX4 144 "java/lang/IndexOutOfBoundsException", Cond.initialized "java/lang/IndexOutOfBoundsException", Cond.fieldLink RX4 10 "PassNotes" "land" "LPassNotes$Land;", Cond.methodLink RX4 46 yX1_huts, Cond.instanceMethod yX1_huts, Cond.selects RX1 yX1_huts yX1_huts, Cond.initialized RX1, Cond.code yX1_huts cX1_huts 1 (some .int), Cond.fieldLink RX1 28 "PassNotes$Land" "huts" "I", Cond.methodLink RX4 117 yX2_letter, Cond.instanceMethod yX2_letter, Cond.selects RX2 yX2_letter yX2_letter, Cond.initialized RX2, Cond.code yX2_letter cX2_letter 6 (some .int), Cond.constant RX2 142 (1073741824), Cond.fieldLink RX2 40 "PassNotes$Notes" "land" "LPassNotes$Land;", Cond.methodLink RX2 139 yX2_knownWay, Cond.instanceMethod yX2_knownWay]
def wsX4_post_r2 : List Cond := [Cond.selects RX2 yX2_knownWay yX2_knownWay, Cond.code yX2_knownWay cX2_knownWay 3 (some .int), Cond.fieldLink RX2 27 "PassNotes$Notes" "waysFound" "[Z", Cond.fieldLink RX2 24 "PassNotes$Notes" "ways" "[[I", Cond.methodLink RX2 121 yX2_findWays, Cond.instanceMethod yX2_findWays, Cond.selects RX2 yX2_findWays yX2_findWays, Cond.code yX2_findWays cX2_findWays 7 none, Cond.fieldLink RX2 12 "PassNotes$Notes" "chart" "LPassNotes$Chart;", Cond.fieldLink RX2 33 "PassNotes$Notes" "held" "[LPassNotes$Sheet;", Cond.methodLink RX2 125 yX0_clear, Cond.instanceMethod yX0_clear, Cond.selects RX0 yX0_clear yX0_clear, Cond.initialized RX0, Cond.code yX0_clear cX0_clear 1 none, Cond.fieldLink RX0 21 "PassNotes$Chart" "steps" "I", Cond.methodLink RX2 88 yX1_passes, Cond.instanceMethod yX1_passes, Cond.selects RX1 yX1_passes yX1_passes, Cond.code yX1_passes cX1_passes 1 (some .int), Cond.fieldLink RX1 32 "PassNotes$Land" "passes" "I", Cond.methodLink RX2 94 yX1_first, Cond.instanceMethod yX1_first, Cond.selects RX1 yX1_first yX1_first]
def wsX4_post_r3 : List Cond := [Cond.code yX1_first cX1_first 2 (some .int), Cond.fieldLink RX1 15 "PassNotes$Land" "firsts" "[I", Cond.methodLink RX2 97 yX1_second, Cond.instanceMethod yX1_second, Cond.selects RX1 yX1_second yX1_second, Cond.code yX1_second cX1_second 2 (some .int), Cond.fieldLink RX1 18 "PassNotes$Land" "seconds" "[I", Cond.methodLink RX2 51 yX2_slot, Cond.static yX2_slot, Cond.code yX2_slot cX2_slot 2 (some .int), Cond.methodLink RX2 115 yX3_tells, Cond.instanceMethod yX3_tells, Cond.selects RX3 yX3_tells yX3_tells, Cond.initialized RX3, Cond.code yX3_tells cX3_tells 2 (some .boolean), Cond.fieldLink RX3 9 "PassNotes$Sheet" "lengths" "[I", Cond.methodLink RX2 128 yX3_length, Cond.instanceMethod yX3_length, Cond.selects RX3 yX3_length yX3_length, Cond.code yX3_length cX3_length 2 (some .int), Cond.methodLink RX2 131 yX0_addStep, Cond.instanceMethod yX0_addStep, Cond.selects RX0 yX0_addStep yX0_addStep, Cond.code yX0_addStep cX0_addStep 4 none]
def wsX4_post_r4 : List Cond := [Cond.fieldLink RX0 9 "PassNotes$Chart" "froms" "[I", Cond.fieldLink RX0 15 "PassNotes$Chart" "tos" "[I", Cond.fieldLink RX0 18 "PassNotes$Chart" "lengths" "[I", Cond.methodLink RX2 135 yX0_search, Cond.instanceMethod yX0_search, Cond.selects RX0 yX0_search yX0_search, Cond.code yX0_search cX0_search 7 none, Cond.constant RX0 25 (1073741824), Cond.methodLink RX2 143 yX1_isStep, Cond.instanceMethod yX1_isStep, Cond.selects RX1 yX1_isStep yX1_isStep, Cond.code yX1_isStep cX1_isStep 6 (some .boolean), Cond.fieldLink RX1 24 "PassNotes$Land" "opens" "[Z"]
def wsX4_post : List Cond := .code yX4_post cX4_post 3 (some .int) :: ((wsX4_post_r1 ++ (wsX4_post_r2 ++ (wsX4_post_r3 ++ wsX4_post_r4))) ++ wsX40 ++ wsX10 ++ wsX20 ++ wsX00 ++ wsX30 ++ (vx_atS RX4 148 "java/lang/IndexOutOfBoundsException" ["java/lang/RuntimeException", "java/lang/Exception"]).filter goodWord)
def wsX4_truth_r1 : List Cond := [Cond.fieldLink RX4 10 "PassNotes" "land" "LPassNotes$Land;", Cond.fieldLink RX4 31 "PassNotes" "truthChart" "LPassNotes$Chart;", Cond.fieldLink RX4 35 "PassNotes" "truthWays" "[I", Cond.constant RX4 116 (1073741824), Cond.methodLink RX4 59 yX4_checkHut, Cond.instanceMethod yX4_checkHut, Cond.selects RX4 yX4_checkHut yX4_checkHut, Cond.initialized RX4, Cond.code yX4_checkHut cX4_checkHut 2 none, Cond.classLink RX4 144 "java/lang/IndexOutOfBoundsException", Cond.initialized "java/lang/IndexOutOfBoundsException", Cond.methodLink RX4 46 yX1_huts, Cond.instanceMethod yX1_huts, Cond.selects RX1 yX1_huts yX1_huts, Cond.initialized RX1, Cond.code yX1_huts cX1_huts 1 (some .int), Cond.fieldLink RX1 28 "PassNotes$Land" "huts" "I", Cond.methodLink RX4 120 yX1_draw, Cond.instanceMethod yX1_draw, Cond.selects RX1 yX1_draw yX1_draw, Cond.code yX1_draw cX1_draw 3 none, Cond.fieldLink RX1 32 "PassNotes$Land" "passes" "I", Cond.fieldLink RX1 24 "PassNotes$Land" "opens" "[Z", Cond.fieldLink RX1 15 "PassNotes$Land" "firsts" "[I"]
def wsX4_truth_r2 : List Cond := [Cond.fieldLink RX1 18 "PassNotes$Land" "seconds" "[I", Cond.fieldLink RX1 21 "PassNotes$Land" "lengths" "[I", Cond.methodLink RX1 35 yX0_clear, Cond.instanceMethod yX0_clear, Cond.selects RX0 yX0_clear yX0_clear, Cond.initialized RX0, Cond.code yX0_clear cX0_clear 1 none, Cond.fieldLink RX0 21 "PassNotes$Chart" "steps" "I", Cond.methodLink RX1 40 yX0_addStep, Cond.instanceMethod yX0_addStep, Cond.selects RX0 yX0_addStep yX0_addStep, Cond.code yX0_addStep cX0_addStep 4 none, Cond.fieldLink RX0 9 "PassNotes$Chart" "froms" "[I", Cond.fieldLink RX0 15 "PassNotes$Chart" "tos" "[I", Cond.fieldLink RX0 18 "PassNotes$Chart" "lengths" "[I", Cond.methodLink RX4 124 yX0_search, Cond.instanceMethod yX0_search, Cond.selects RX0 yX0_search yX0_search, Cond.code yX0_search cX0_search 7 none, Cond.constant RX0 25 (1073741824)]
def wsX4_truth : List Cond := .code yX4_truth cX4_truth 4 (some .int) :: ((wsX4_truth_r1 ++ wsX4_truth_r2) ++ wsX40 ++ wsX10 ++ wsX00 ++ (vx_atS RX4 148 "java/lang/IndexOutOfBoundsException" ["java/lang/RuntimeException", "java/lang/Exception"]).filter goodWord)
def wsX4_about_r1 : List Cond := [Cond.classLink RX4 144 "java/lang/IndexOutOfBoundsException", Cond.initialized "java/lang/IndexOutOfBoundsException", Cond.fieldLink RX4 10 "PassNotes" "land" "LPassNotes$Land;", Cond.fieldLink RX4 21 "PassNotes" "now" "LPassNotes$Notes;", Cond.methodLink RX4 77 yX4_checkPass, Cond.instanceMethod yX4_checkPass, Cond.selects RX4 yX4_checkPass yX4_checkPass, Cond.initialized RX4, Cond.code yX4_checkPass cX4_checkPass 2 none, Cond.methodLink RX4 68 yX1_passes, Cond.instanceMethod yX1_passes, Cond.selects RX1 yX1_passes yX1_passes, Cond.initialized RX1, Cond.code yX1_passes cX1_passes 1 (some .int), Cond.fieldLink RX1 32 "PassNotes$Land" "passes" "I", Cond.methodLink RX4 128 yX1_first, Cond.instanceMethod yX1_first, Cond.selects RX1 yX1_first yX1_first, Cond.code yX1_first cX1_first 2 (some .int), Cond.fieldLink RX1 15 "PassNotes$Land" "firsts" "[I", Cond.methodLink RX4 131 yX1_second, Cond.instanceMethod yX1_second, Cond.selects RX1 yX1_second yX1_second, Cond.code yX1_second cX1_second 2 (some .int)]
def wsX4_about_r2 : List Cond := [Cond.fieldLink RX1 18 "PassNotes$Land" "seconds" "[I", Cond.methodLink RX4 134 yX1_length, Cond.instanceMethod yX1_length, Cond.selects RX1 yX1_length yX1_length, Cond.code yX1_length cX1_length 2 (some .int), Cond.fieldLink RX1 21 "PassNotes$Land" "lengths" "[I", Cond.methodLink RX4 137 yX1_isOpen, Cond.instanceMethod yX1_isOpen, Cond.selects RX1 yX1_isOpen yX1_isOpen, Cond.code yX1_isOpen cX1_isOpen 2 (some .boolean), Cond.fieldLink RX1 24 "PassNotes$Land" "opens" "[Z", Cond.methodLink RX4 141 yX2_takersForOpen, Cond.instanceMethod yX2_takersForOpen, Cond.selects RX2 yX2_takersForOpen yX2_takersForOpen, Cond.initialized RX2, Cond.code yX2_takersForOpen cX2_takersForOpen 4 (some .int), Cond.fieldLink RX2 40 "PassNotes$Notes" "land" "LPassNotes$Land;", Cond.methodLink RX2 59 yX1_huts, Cond.instanceMethod yX1_huts, Cond.selects RX1 yX1_huts yX1_huts, Cond.code yX1_huts cX1_huts 1 (some .int), Cond.fieldLink RX1 28 "PassNotes$Land" "huts" "I", Cond.methodLink RX2 118 yX2_takesForOpen, Cond.instanceMethod yX2_takesForOpen]
def wsX4_about_r3 : List Cond := [Cond.selects RX2 yX2_takesForOpen yX2_takesForOpen, Cond.code yX2_takesForOpen cX2_takesForOpen 5 (some .boolean), Cond.fieldLink RX2 33 "PassNotes$Notes" "held" "[LPassNotes$Sheet;", Cond.methodLink RX2 94 yX1_first, Cond.methodLink RX2 51 yX2_slot, Cond.static yX2_slot, Cond.code yX2_slot cX2_slot 2 (some .int), Cond.methodLink RX2 97 yX1_second, Cond.methodLink RX2 115 yX3_tells, Cond.instanceMethod yX3_tells, Cond.selects RX3 yX3_tells yX3_tells, Cond.initialized RX3, Cond.code yX3_tells cX3_tells 2 (some .boolean), Cond.fieldLink RX3 9 "PassNotes$Sheet" "lengths" "[I"]
def wsX4_about : List Cond := .code yX4_about cX4_about 3 (some .int) :: ((wsX4_about_r1 ++ (wsX4_about_r2 ++ wsX4_about_r3)) ++ wsX40 ++ wsX10 ++ wsX20 ++ wsX30 ++ (vx_atS RX4 148 "java/lang/IndexOutOfBoundsException" ["java/lang/RuntimeException", "java/lang/Exception"]).filter goodWord)
def wsX4_told_r1 : List Cond := [Cond.classLink RX4 144 "java/lang/IndexOutOfBoundsException", Cond.initialized "java/lang/IndexOutOfBoundsException", Cond.fieldLink RX4 10 "PassNotes" "land" "LPassNotes$Land;", Cond.fieldLink RX4 21 "PassNotes" "now" "LPassNotes$Notes;", Cond.methodLink RX4 59 yX4_checkHut, Cond.instanceMethod yX4_checkHut, Cond.selects RX4 yX4_checkHut yX4_checkHut, Cond.initialized RX4, Cond.code yX4_checkHut cX4_checkHut 2 none, Cond.methodLink RX4 46 yX1_huts, Cond.instanceMethod yX1_huts, Cond.selects RX1 yX1_huts yX1_huts, Cond.initialized RX1, Cond.code yX1_huts cX1_huts 1 (some .int), Cond.fieldLink RX1 28 "PassNotes$Land" "huts" "I", Cond.methodLink RX4 149 yX1_area, Cond.instanceMethod yX1_area, Cond.selects RX1 yX1_area yX1_area, Cond.code yX1_area cX1_area 2 (some .int), Cond.fieldLink RX1 9 "PassNotes$Land" "areas" "[I", Cond.methodLink RX4 152 yX2_sheetsOf, Cond.instanceMethod yX2_sheetsOf, Cond.selects RX2 yX2_sheetsOf yX2_sheetsOf, Cond.initialized RX2]
def wsX4_told_r2 : List Cond := [Cond.code yX2_sheetsOf cX2_sheetsOf 4 (some .int), Cond.fieldLink RX2 33 "PassNotes$Notes" "held" "[LPassNotes$Sheet;", Cond.methodLink RX2 51 yX2_slot, Cond.static yX2_slot, Cond.code yX2_slot cX2_slot 2 (some .int), Cond.methodLink RX4 155 yX2_wroteInAll, Cond.instanceMethod yX2_wroteInAll, Cond.selects RX2 yX2_wroteInAll yX2_wroteInAll, Cond.code yX2_wroteInAll cX2_wroteInAll 2 (some .int), Cond.fieldLink RX2 18 "PassNotes$Notes" "wrote" "[I", Cond.methodLink RX4 158 yX2_knownHuts, Cond.instanceMethod yX2_knownHuts, Cond.selects RX2 yX2_knownHuts yX2_knownHuts, Cond.code yX2_knownHuts cX2_knownHuts 4 (some .int), Cond.fieldLink RX2 40 "PassNotes$Notes" "land" "LPassNotes$Land;", Cond.constant RX2 142 (1073741824), Cond.methodLink RX2 59 yX1_huts, Cond.methodLink RX2 139 yX2_knownWay, Cond.instanceMethod yX2_knownWay, Cond.selects RX2 yX2_knownWay yX2_knownWay, Cond.code yX2_knownWay cX2_knownWay 3 (some .int), Cond.fieldLink RX2 27 "PassNotes$Notes" "waysFound" "[Z", Cond.fieldLink RX2 24 "PassNotes$Notes" "ways" "[[I", Cond.methodLink RX2 121 yX2_findWays]
def wsX4_told_r3 : List Cond := [Cond.instanceMethod yX2_findWays, Cond.selects RX2 yX2_findWays yX2_findWays, Cond.code yX2_findWays cX2_findWays 7 none, Cond.fieldLink RX2 12 "PassNotes$Notes" "chart" "LPassNotes$Chart;", Cond.methodLink RX2 125 yX0_clear, Cond.instanceMethod yX0_clear, Cond.selects RX0 yX0_clear yX0_clear, Cond.initialized RX0, Cond.code yX0_clear cX0_clear 1 none, Cond.fieldLink RX0 21 "PassNotes$Chart" "steps" "I", Cond.methodLink RX2 88 yX1_passes, Cond.instanceMethod yX1_passes, Cond.selects RX1 yX1_passes yX1_passes, Cond.code yX1_passes cX1_passes 1 (some .int), Cond.fieldLink RX1 32 "PassNotes$Land" "passes" "I", Cond.methodLink RX2 94 yX1_first, Cond.instanceMethod yX1_first, Cond.selects RX1 yX1_first yX1_first, Cond.code yX1_first cX1_first 2 (some .int), Cond.fieldLink RX1 15 "PassNotes$Land" "firsts" "[I", Cond.methodLink RX2 97 yX1_second, Cond.instanceMethod yX1_second, Cond.selects RX1 yX1_second yX1_second, Cond.code yX1_second cX1_second 2 (some .int)]
def wsX4_told_r4 : List Cond := [Cond.fieldLink RX1 18 "PassNotes$Land" "seconds" "[I", Cond.methodLink RX2 115 yX3_tells, Cond.instanceMethod yX3_tells, Cond.selects RX3 yX3_tells yX3_tells, Cond.initialized RX3, Cond.code yX3_tells cX3_tells 2 (some .boolean), Cond.fieldLink RX3 9 "PassNotes$Sheet" "lengths" "[I", Cond.methodLink RX2 128 yX3_length, Cond.instanceMethod yX3_length, Cond.selects RX3 yX3_length yX3_length, Cond.code yX3_length cX3_length 2 (some .int), Cond.methodLink RX2 131 yX0_addStep, Cond.instanceMethod yX0_addStep, Cond.selects RX0 yX0_addStep yX0_addStep, Cond.code yX0_addStep cX0_addStep 4 none, Cond.fieldLink RX0 9 "PassNotes$Chart" "froms" "[I", Cond.fieldLink RX0 15 "PassNotes$Chart" "tos" "[I", Cond.fieldLink RX0 18 "PassNotes$Chart" "lengths" "[I", Cond.methodLink RX2 135 yX0_search, Cond.instanceMethod yX0_search, Cond.selects RX0 yX0_search yX0_search, Cond.code yX0_search cX0_search 7 none, Cond.constant RX0 25 (1073741824), Cond.methodLink RX4 161 yX2_reachedHuts]
def wsX4_told_r5 : List Cond := [Cond.instanceMethod yX2_reachedHuts, Cond.selects RX2 yX2_reachedHuts yX2_reachedHuts, Cond.code yX2_reachedHuts cX2_reachedHuts 4 (some .int), Cond.methodLink RX2 146 yX2_letter, Cond.instanceMethod yX2_letter, Cond.selects RX2 yX2_letter yX2_letter, Cond.code yX2_letter cX2_letter 6 (some .int), Cond.methodLink RX2 143 yX1_isStep, Cond.instanceMethod yX1_isStep, Cond.selects RX1 yX1_isStep yX1_isStep, Cond.code yX1_isStep cX1_isStep 6 (some .boolean), Cond.fieldLink RX1 24 "PassNotes$Land" "opens" "[Z"]
def wsX4_told : List Cond := .code yX4_told cX4_told 3 (some .int) :: ((wsX4_told_r1 ++ (wsX4_told_r2 ++ (wsX4_told_r3 ++ (wsX4_told_r4 ++ wsX4_told_r5)))) ++ wsX40 ++ wsX10 ++ wsX20 ++ wsX00 ++ wsX30 ++ (vx_atS RX4 148 "java/lang/IndexOutOfBoundsException" ["java/lang/RuntimeException", "java/lang/Exception"]).filter goodWord)
def wsX4_count_r1 : List Cond := [Cond.classLink RX4 144 "java/lang/IndexOutOfBoundsException", Cond.initialized "java/lang/IndexOutOfBoundsException", Cond.fieldLink RX4 21 "PassNotes" "now" "LPassNotes$Notes;", Cond.fieldLink RX4 10 "PassNotes" "land" "LPassNotes$Land;", Cond.methodLink RX4 104 yX2_minute, Cond.instanceMethod yX2_minute, Cond.selects RX2 yX2_minute yX2_minute, Cond.initialized RX2, Cond.code yX2_minute cX2_minute 1 (some .int), Cond.fieldLink RX2 44 "PassNotes$Notes" "minute" "I", Cond.methodLink RX4 46 yX1_huts, Cond.instanceMethod yX1_huts, Cond.selects RX1 yX1_huts yX1_huts, Cond.initialized RX1, Cond.code yX1_huts cX1_huts 1 (some .int), Cond.fieldLink RX1 28 "PassNotes$Land" "huts" "I", Cond.methodLink RX4 68 yX1_passes, Cond.instanceMethod yX1_passes, Cond.selects RX1 yX1_passes yX1_passes, Cond.code yX1_passes cX1_passes 1 (some .int), Cond.fieldLink RX1 32 "PassNotes$Land" "passes" "I", Cond.methodLink RX4 164 yX1_openPasses, Cond.instanceMethod yX1_openPasses, Cond.selects RX1 yX1_openPasses yX1_openPasses]
def wsX4_count_r2 : List Cond := [Cond.code yX1_openPasses cX1_openPasses 3 (some .int), Cond.fieldLink RX1 24 "PassNotes$Land" "opens" "[Z", Cond.methodLink RX4 167 yX2_sheets, Cond.instanceMethod yX2_sheets, Cond.selects RX2 yX2_sheets yX2_sheets, Cond.code yX2_sheets cX2_sheets 3 (some .int), Cond.fieldLink RX2 40 "PassNotes$Notes" "land" "LPassNotes$Land;", Cond.methodLink RX2 59 yX1_huts, Cond.methodLink RX2 55 yX2_sheetsOf, Cond.instanceMethod yX2_sheetsOf, Cond.selects RX2 yX2_sheetsOf yX2_sheetsOf, Cond.code yX2_sheetsOf cX2_sheetsOf 4 (some .int), Cond.fieldLink RX2 33 "PassNotes$Notes" "held" "[LPassNotes$Sheet;", Cond.methodLink RX2 51 yX2_slot, Cond.static yX2_slot, Cond.code yX2_slot cX2_slot 2 (some .int), Cond.methodLink RX4 170 yX2_reachedPairs, Cond.instanceMethod yX2_reachedPairs, Cond.selects RX2 yX2_reachedPairs yX2_reachedPairs, Cond.code yX2_reachedPairs cX2_reachedPairs 4 (some .int), Cond.methodLink RX2 146 yX2_letter, Cond.instanceMethod yX2_letter, Cond.selects RX2 yX2_letter yX2_letter, Cond.code yX2_letter cX2_letter 6 (some .int)]
def wsX4_count_r3 : List Cond := [Cond.constant RX2 142 (1073741824), Cond.methodLink RX2 139 yX2_knownWay, Cond.instanceMethod yX2_knownWay, Cond.selects RX2 yX2_knownWay yX2_knownWay, Cond.code yX2_knownWay cX2_knownWay 3 (some .int), Cond.fieldLink RX2 27 "PassNotes$Notes" "waysFound" "[Z", Cond.fieldLink RX2 24 "PassNotes$Notes" "ways" "[[I", Cond.methodLink RX2 121 yX2_findWays, Cond.instanceMethod yX2_findWays, Cond.selects RX2 yX2_findWays yX2_findWays, Cond.code yX2_findWays cX2_findWays 7 none, Cond.fieldLink RX2 12 "PassNotes$Notes" "chart" "LPassNotes$Chart;", Cond.methodLink RX2 125 yX0_clear, Cond.instanceMethod yX0_clear, Cond.selects RX0 yX0_clear yX0_clear, Cond.initialized RX0, Cond.code yX0_clear cX0_clear 1 none, Cond.fieldLink RX0 21 "PassNotes$Chart" "steps" "I", Cond.methodLink RX2 88 yX1_passes, Cond.methodLink RX2 94 yX1_first, Cond.instanceMethod yX1_first, Cond.selects RX1 yX1_first yX1_first, Cond.code yX1_first cX1_first 2 (some .int), Cond.fieldLink RX1 15 "PassNotes$Land" "firsts" "[I"]
def wsX4_count_r4 : List Cond := [Cond.methodLink RX2 97 yX1_second, Cond.instanceMethod yX1_second, Cond.selects RX1 yX1_second yX1_second, Cond.code yX1_second cX1_second 2 (some .int), Cond.fieldLink RX1 18 "PassNotes$Land" "seconds" "[I", Cond.methodLink RX2 115 yX3_tells, Cond.instanceMethod yX3_tells, Cond.selects RX3 yX3_tells yX3_tells, Cond.initialized RX3, Cond.code yX3_tells cX3_tells 2 (some .boolean), Cond.fieldLink RX3 9 "PassNotes$Sheet" "lengths" "[I", Cond.methodLink RX2 128 yX3_length, Cond.instanceMethod yX3_length, Cond.selects RX3 yX3_length yX3_length, Cond.code yX3_length cX3_length 2 (some .int), Cond.methodLink RX2 131 yX0_addStep, Cond.instanceMethod yX0_addStep, Cond.selects RX0 yX0_addStep yX0_addStep, Cond.code yX0_addStep cX0_addStep 4 none, Cond.fieldLink RX0 9 "PassNotes$Chart" "froms" "[I", Cond.fieldLink RX0 15 "PassNotes$Chart" "tos" "[I", Cond.fieldLink RX0 18 "PassNotes$Chart" "lengths" "[I", Cond.methodLink RX2 135 yX0_search, Cond.instanceMethod yX0_search]
def wsX4_count_r5 : List Cond := [Cond.selects RX0 yX0_search yX0_search, Cond.code yX0_search cX0_search 7 none, Cond.constant RX0 25 (1073741824), Cond.methodLink RX2 143 yX1_isStep, Cond.instanceMethod yX1_isStep, Cond.selects RX1 yX1_isStep yX1_isStep, Cond.code yX1_isStep cX1_isStep 6 (some .boolean), Cond.methodLink RX4 173 yX1_joinedPairs, Cond.instanceMethod yX1_joinedPairs, Cond.selects RX1 yX1_joinedPairs yX1_joinedPairs, Cond.code yX1_joinedPairs cX1_joinedPairs 7 (some .int), Cond.methodLink RX1 44 yX1_groupOf, Cond.instanceMethod yX1_groupOf, Cond.selects RX1 yX1_groupOf yX1_groupOf, Cond.code yX1_groupOf cX1_groupOf 9 (some .int), Cond.methodLink RX1 48 yJ6_bitCount_0f7a4, Cond.static yJ6_bitCount_0f7a4, Cond.initialized RJ6, Cond.code yJ6_bitCount_0f7a4 cJ6_bitCount_0f7a4 1 (some .int), Cond.constant RJ6 265 (1431655765), Cond.constant RJ6 266 (858993459), Cond.constant RJ6 267 (252645135)]
def wsX4_count : List Cond := .code yX4_count cX4_count 2 (some .int) :: ((wsX4_count_r1 ++ (wsX4_count_r2 ++ (wsX4_count_r3 ++ (wsX4_count_r4 ++ wsX4_count_r5)))) ++ wsX40 ++ wsX20 ++ wsX10 ++ wsX00 ++ wsX30 ++ (vx_atS RX4 148 "java/lang/IndexOutOfBoundsException" ["java/lang/RuntimeException", "java/lang/Exception"]).filter goodWord)
def wsX4_checkMinutes : List Cond := .code yX4_checkMinutes cX4_checkMinutes 2 none :: ([.classLink RX4 39 "java/lang/IllegalArgumentException", .initialized "java/lang/IllegalArgumentException"] ++ (vx_atS RX4 43 "java/lang/IllegalArgumentException" ["java/lang/RuntimeException", "java/lang/Exception"]).filter goodWord)
def wsX4_go_r1 : List Cond := [Cond.fieldLink RX4 21 "PassNotes" "now" "LPassNotes$Notes;", Cond.methodLink RX4 178 yX4_checkMinutes, Cond.instanceMethod yX4_checkMinutes, Cond.selects RX4 yX4_checkMinutes yX4_checkMinutes, Cond.initialized RX4, Cond.code yX4_checkMinutes cX4_checkMinutes 2 none, Cond.classLink RX4 39 "java/lang/IllegalArgumentException", Cond.initialized "java/lang/IllegalArgumentException", Cond.methodLink RX4 181 yX2_passMinutes, Cond.instanceMethod yX2_passMinutes, Cond.selects RX2 yX2_passMinutes yX2_passMinutes, Cond.initialized RX2, Cond.code yX2_passMinutes cX2_passMinutes 4 (some .int), Cond.fieldLink RX2 44 "PassNotes$Notes" "minute" "I", Cond.methodLink RX2 68 yX2_writeSheets, Cond.instanceMethod yX2_writeSheets, Cond.selects RX2 yX2_writeSheets yX2_writeSheets, Cond.code yX2_writeSheets cX2_writeSheets 3 (some .int), Cond.fieldLink RX2 40 "PassNotes$Notes" "land" "LPassNotes$Land;", Cond.fieldLink RX2 18 "PassNotes$Notes" "wrote" "[I", Cond.fieldLink RX2 33 "PassNotes$Notes" "held" "[LPassNotes$Sheet;", Cond.classLink RX2 31 RX3, Cond.instantiable RX3 3, Cond.initialized RX3]
def wsX4_go_r2 : List Cond := [Cond.methodLink RX2 59 yX1_huts, Cond.instanceMethod yX1_huts, Cond.selects RX1 yX1_huts yX1_huts, Cond.initialized RX1, Cond.code yX1_huts cX1_huts 1 (some .int), Cond.fieldLink RX1 28 "PassNotes$Land" "huts" "I", Cond.methodLink RX2 77 yX2_mustWrite, Cond.instanceMethod yX2_mustWrite, Cond.selects RX2 yX2_mustWrite yX2_mustWrite, Cond.code yX2_mustWrite cX2_mustWrite 3 (some .boolean), Cond.methodLink RX2 51 yX2_slot, Cond.static yX2_slot, Cond.code yX2_slot cX2_slot 2 (some .int), Cond.methodLink RX2 65 yX3_age, Cond.instanceMethod yX3_age, Cond.selects RX3 yX3_age yX3_age, Cond.code yX3_age cX3_age 2 (some .int), Cond.fieldLink RX3 19 "PassNotes$Sheet" "written" "I", Cond.methodLink RX2 84 yX3_tellsAsNow, Cond.instanceMethod yX3_tellsAsNow, Cond.selects RX3 yX3_tellsAsNow yX3_tellsAsNow, Cond.code yX3_tellsAsNow cX3_tellsAsNow 4 (some .boolean), Cond.fieldLink RX3 9 "PassNotes$Sheet" "lengths" "[I", Cond.methodLink RX3 22 yX1_passes]
def wsX4_go_r3 : List Cond := [Cond.instanceMethod yX1_passes, Cond.selects RX1 yX1_passes yX1_passes, Cond.code yX1_passes cX1_passes 1 (some .int), Cond.fieldLink RX1 32 "PassNotes$Land" "passes" "I", Cond.methodLink RX3 28 yX1_tellsNow, Cond.instanceMethod yX1_tellsNow, Cond.selects RX1 yX1_tellsNow yX1_tellsNow, Cond.code yX1_tellsNow cX1_tellsNow 4 (some .int), Cond.fieldLink RX1 15 "PassNotes$Land" "firsts" "[I", Cond.fieldLink RX1 18 "PassNotes$Land" "seconds" "[I", Cond.fieldLink RX1 24 "PassNotes$Land" "opens" "[Z", Cond.fieldLink RX1 21 "PassNotes$Land" "lengths" "[I", Cond.methodLink RX2 81 yX3_init, Cond.instanceMethod yX3_init, Cond.code yX3_init cX3_init 6 none, Cond.methodLink RX3 3 objectInit, Cond.instanceMethod objectInit, Cond.code objectInit ⟨#[0xb1]⟩ 1 none, Cond.arrayClass .int, Cond.fieldLink RX3 15 "PassNotes$Sheet" "number" "I", Cond.methodLink RX2 71 yX2_carrySheets, Cond.instanceMethod yX2_carrySheets, Cond.selects RX2 yX2_carrySheets yX2_carrySheets, Cond.code yX2_carrySheets cX2_carrySheets 2 none]
def wsX4_go_r4 : List Cond := [Cond.fieldLink RX2 37 "PassNotes$Notes" "carried" "[LPassNotes$Sheet;", Cond.methodLink RX2 88 yX1_passes, Cond.methodLink RX2 91 yX1_isOpen, Cond.instanceMethod yX1_isOpen, Cond.selects RX1 yX1_isOpen yX1_isOpen, Cond.code yX1_isOpen cX1_isOpen 2 (some .boolean), Cond.methodLink RX2 94 yX1_first, Cond.instanceMethod yX1_first, Cond.selects RX1 yX1_first yX1_first, Cond.code yX1_first cX1_first 2 (some .int), Cond.methodLink RX2 97 yX1_second, Cond.instanceMethod yX1_second, Cond.selects RX1 yX1_second yX1_second, Cond.code yX1_second cX1_second 2 (some .int), Cond.methodLink RX2 100 yX2_carry, Cond.instanceMethod yX2_carry, Cond.selects RX2 yX2_carry yX2_carry, Cond.code yX2_carry cX2_carry 5 none, Cond.methodLink RX2 104 yX1_takesIn, Cond.instanceMethod yX1_takesIn, Cond.selects RX1 yX1_takesIn yX1_takesIn, Cond.code yX1_takesIn cX1_takesIn 3 (some .boolean), Cond.fieldLink RX1 9 "PassNotes$Land" "areas" "[I", Cond.methodLink RX2 108 yX2_isNewer]
def wsX4_go_r5 : List Cond := [Cond.instanceMethod yX2_isNewer, Cond.selects RX2 yX2_isNewer yX2_isNewer, Cond.code yX2_isNewer cX2_isNewer 3 (some .boolean), Cond.methodLink RX2 112 yX3_number, Cond.instanceMethod yX3_number, Cond.selects RX3 yX3_number yX3_number, Cond.code yX3_number cX3_number 1 (some .int), Cond.methodLink RX2 74 yX2_throwOldAway, Cond.instanceMethod yX2_throwOldAway, Cond.selects RX2 yX2_throwOldAway yX2_throwOldAway, Cond.code yX2_throwOldAway cX2_throwOldAway 3 none, Cond.methodLink RX2 48 yX2_forgetWays, Cond.instanceMethod yX2_forgetWays, Cond.selects RX2 yX2_forgetWays yX2_forgetWays, Cond.code yX2_forgetWays cX2_forgetWays 2 none, Cond.fieldLink RX2 27 "PassNotes$Notes" "waysFound" "[Z"]
def wsX4_go : List Cond := .code yX4_go cX4_go 2 (some .int) :: ((wsX4_go_r1 ++ (wsX4_go_r2 ++ (wsX4_go_r3 ++ (wsX4_go_r4 ++ wsX4_go_r5)))) ++ wsX40 ++ wsX20 ++ wsX30 ++ wsX10 ++ (vx_atS RX4 43 "java/lang/IllegalArgumentException" ["java/lang/RuntimeException", "java/lang/Exception"]).filter goodWord)
def wsX4_foresee_r1 : List Cond := [Cond.classLink RX4 144 "java/lang/IndexOutOfBoundsException", Cond.initialized "java/lang/IndexOutOfBoundsException", Cond.fieldLink RX4 25 "PassNotes" "later" "LPassNotes$Notes;", Cond.fieldLink RX4 21 "PassNotes" "now" "LPassNotes$Notes;", Cond.methodLink RX4 178 yX4_checkMinutes, Cond.instanceMethod yX4_checkMinutes, Cond.selects RX4 yX4_checkMinutes yX4_checkMinutes, Cond.initialized RX4, Cond.code yX4_checkMinutes cX4_checkMinutes 2 none, Cond.classLink RX4 39 "java/lang/IllegalArgumentException", Cond.initialized "java/lang/IllegalArgumentException", Cond.methodLink RX4 186 yX2_copy, Cond.instanceMethod yX2_copy, Cond.selects RX2 yX2_copy yX2_copy, Cond.initialized RX2, Cond.code yX2_copy cX2_copy 3 none, Cond.fieldLink RX2 44 "PassNotes$Notes" "minute" "I", Cond.fieldLink RX2 18 "PassNotes$Notes" "wrote" "[I", Cond.fieldLink RX2 33 "PassNotes$Notes" "held" "[LPassNotes$Sheet;", Cond.methodLink RX2 48 yX2_forgetWays, Cond.instanceMethod yX2_forgetWays, Cond.selects RX2 yX2_forgetWays yX2_forgetWays, Cond.code yX2_forgetWays cX2_forgetWays 2 none, Cond.fieldLink RX2 27 "PassNotes$Notes" "waysFound" "[Z"]
def wsX4_foresee_r2 : List Cond := [Cond.methodLink RX4 181 yX2_passMinutes, Cond.instanceMethod yX2_passMinutes, Cond.selects RX2 yX2_passMinutes yX2_passMinutes, Cond.code yX2_passMinutes cX2_passMinutes 4 (some .int), Cond.methodLink RX2 68 yX2_writeSheets, Cond.instanceMethod yX2_writeSheets, Cond.selects RX2 yX2_writeSheets yX2_writeSheets, Cond.code yX2_writeSheets cX2_writeSheets 3 (some .int), Cond.fieldLink RX2 40 "PassNotes$Notes" "land" "LPassNotes$Land;", Cond.classLink RX2 31 RX3, Cond.instantiable RX3 3, Cond.initialized RX3, Cond.methodLink RX2 59 yX1_huts, Cond.instanceMethod yX1_huts, Cond.selects RX1 yX1_huts yX1_huts, Cond.initialized RX1, Cond.code yX1_huts cX1_huts 1 (some .int), Cond.fieldLink RX1 28 "PassNotes$Land" "huts" "I", Cond.methodLink RX2 77 yX2_mustWrite, Cond.instanceMethod yX2_mustWrite, Cond.selects RX2 yX2_mustWrite yX2_mustWrite, Cond.code yX2_mustWrite cX2_mustWrite 3 (some .boolean), Cond.methodLink RX2 51 yX2_slot, Cond.static yX2_slot]
def wsX4_foresee_r3 : List Cond := [Cond.code yX2_slot cX2_slot 2 (some .int), Cond.methodLink RX2 65 yX3_age, Cond.instanceMethod yX3_age, Cond.selects RX3 yX3_age yX3_age, Cond.code yX3_age cX3_age 2 (some .int), Cond.fieldLink RX3 19 "PassNotes$Sheet" "written" "I", Cond.methodLink RX2 84 yX3_tellsAsNow, Cond.instanceMethod yX3_tellsAsNow, Cond.selects RX3 yX3_tellsAsNow yX3_tellsAsNow, Cond.code yX3_tellsAsNow cX3_tellsAsNow 4 (some .boolean), Cond.fieldLink RX3 9 "PassNotes$Sheet" "lengths" "[I", Cond.methodLink RX3 22 yX1_passes, Cond.instanceMethod yX1_passes, Cond.selects RX1 yX1_passes yX1_passes, Cond.code yX1_passes cX1_passes 1 (some .int), Cond.fieldLink RX1 32 "PassNotes$Land" "passes" "I", Cond.methodLink RX3 28 yX1_tellsNow, Cond.instanceMethod yX1_tellsNow, Cond.selects RX1 yX1_tellsNow yX1_tellsNow, Cond.code yX1_tellsNow cX1_tellsNow 4 (some .int), Cond.fieldLink RX1 15 "PassNotes$Land" "firsts" "[I", Cond.fieldLink RX1 18 "PassNotes$Land" "seconds" "[I", Cond.fieldLink RX1 24 "PassNotes$Land" "opens" "[Z", Cond.fieldLink RX1 21 "PassNotes$Land" "lengths" "[I"]
def wsX4_foresee_r4 : List Cond := [Cond.methodLink RX2 81 yX3_init, Cond.instanceMethod yX3_init, Cond.code yX3_init cX3_init 6 none, Cond.methodLink RX3 3 objectInit, Cond.instanceMethod objectInit, Cond.code objectInit ⟨#[0xb1]⟩ 1 none, Cond.arrayClass .int, Cond.fieldLink RX3 15 "PassNotes$Sheet" "number" "I", Cond.methodLink RX2 71 yX2_carrySheets, Cond.instanceMethod yX2_carrySheets, Cond.selects RX2 yX2_carrySheets yX2_carrySheets, Cond.code yX2_carrySheets cX2_carrySheets 2 none, Cond.fieldLink RX2 37 "PassNotes$Notes" "carried" "[LPassNotes$Sheet;", Cond.methodLink RX2 88 yX1_passes, Cond.methodLink RX2 91 yX1_isOpen, Cond.instanceMethod yX1_isOpen, Cond.selects RX1 yX1_isOpen yX1_isOpen, Cond.code yX1_isOpen cX1_isOpen 2 (some .boolean), Cond.methodLink RX2 94 yX1_first, Cond.instanceMethod yX1_first, Cond.selects RX1 yX1_first yX1_first, Cond.code yX1_first cX1_first 2 (some .int), Cond.methodLink RX2 97 yX1_second, Cond.instanceMethod yX1_second]
def wsX4_foresee_r5 : List Cond := [Cond.selects RX1 yX1_second yX1_second, Cond.code yX1_second cX1_second 2 (some .int), Cond.methodLink RX2 100 yX2_carry, Cond.instanceMethod yX2_carry, Cond.selects RX2 yX2_carry yX2_carry, Cond.code yX2_carry cX2_carry 5 none, Cond.methodLink RX2 104 yX1_takesIn, Cond.instanceMethod yX1_takesIn, Cond.selects RX1 yX1_takesIn yX1_takesIn, Cond.code yX1_takesIn cX1_takesIn 3 (some .boolean), Cond.fieldLink RX1 9 "PassNotes$Land" "areas" "[I", Cond.methodLink RX2 108 yX2_isNewer, Cond.instanceMethod yX2_isNewer, Cond.selects RX2 yX2_isNewer yX2_isNewer, Cond.code yX2_isNewer cX2_isNewer 3 (some .boolean), Cond.methodLink RX2 112 yX3_number, Cond.instanceMethod yX3_number, Cond.selects RX3 yX3_number yX3_number, Cond.code yX3_number cX3_number 1 (some .int), Cond.methodLink RX2 74 yX2_throwOldAway, Cond.instanceMethod yX2_throwOldAway, Cond.selects RX2 yX2_throwOldAway yX2_throwOldAway, Cond.code yX2_throwOldAway cX2_throwOldAway 3 none, Cond.methodLink RX4 167 yX2_sheets]
def wsX4_foresee_r6 : List Cond := [Cond.instanceMethod yX2_sheets, Cond.selects RX2 yX2_sheets yX2_sheets, Cond.code yX2_sheets cX2_sheets 3 (some .int), Cond.methodLink RX2 55 yX2_sheetsOf, Cond.instanceMethod yX2_sheetsOf, Cond.selects RX2 yX2_sheetsOf yX2_sheetsOf, Cond.code yX2_sheetsOf cX2_sheetsOf 4 (some .int), Cond.methodLink RX4 170 yX2_reachedPairs, Cond.instanceMethod yX2_reachedPairs, Cond.selects RX2 yX2_reachedPairs yX2_reachedPairs, Cond.code yX2_reachedPairs cX2_reachedPairs 4 (some .int), Cond.methodLink RX2 146 yX2_letter, Cond.instanceMethod yX2_letter, Cond.selects RX2 yX2_letter yX2_letter, Cond.code yX2_letter cX2_letter 6 (some .int), Cond.constant RX2 142 (1073741824), Cond.methodLink RX2 139 yX2_knownWay, Cond.instanceMethod yX2_knownWay, Cond.selects RX2 yX2_knownWay yX2_knownWay, Cond.code yX2_knownWay cX2_knownWay 3 (some .int), Cond.fieldLink RX2 24 "PassNotes$Notes" "ways" "[[I", Cond.methodLink RX2 121 yX2_findWays, Cond.instanceMethod yX2_findWays, Cond.selects RX2 yX2_findWays yX2_findWays]
def wsX4_foresee_r7 : List Cond := [Cond.code yX2_findWays cX2_findWays 7 none, Cond.fieldLink RX2 12 "PassNotes$Notes" "chart" "LPassNotes$Chart;", Cond.methodLink RX2 125 yX0_clear, Cond.instanceMethod yX0_clear, Cond.selects RX0 yX0_clear yX0_clear, Cond.initialized RX0, Cond.code yX0_clear cX0_clear 1 none, Cond.fieldLink RX0 21 "PassNotes$Chart" "steps" "I", Cond.methodLink RX2 115 yX3_tells, Cond.instanceMethod yX3_tells, Cond.selects RX3 yX3_tells yX3_tells, Cond.code yX3_tells cX3_tells 2 (some .boolean), Cond.methodLink RX2 128 yX3_length, Cond.instanceMethod yX3_length, Cond.selects RX3 yX3_length yX3_length, Cond.code yX3_length cX3_length 2 (some .int), Cond.methodLink RX2 131 yX0_addStep, Cond.instanceMethod yX0_addStep, Cond.selects RX0 yX0_addStep yX0_addStep, Cond.code yX0_addStep cX0_addStep 4 none, Cond.fieldLink RX0 9 "PassNotes$Chart" "froms" "[I", Cond.fieldLink RX0 15 "PassNotes$Chart" "tos" "[I", Cond.fieldLink RX0 18 "PassNotes$Chart" "lengths" "[I", Cond.methodLink RX2 135 yX0_search]
def wsX4_foresee_r8 : List Cond := [Cond.instanceMethod yX0_search, Cond.selects RX0 yX0_search yX0_search, Cond.code yX0_search cX0_search 7 none, Cond.constant RX0 25 (1073741824), Cond.methodLink RX2 143 yX1_isStep, Cond.instanceMethod yX1_isStep, Cond.selects RX1 yX1_isStep yX1_isStep, Cond.code yX1_isStep cX1_isStep 6 (some .boolean)]
def wsX4_foresee : List Cond := .code yX4_foresee cX4_foresee 3 (some .int) :: ((wsX4_foresee_r1 ++ (wsX4_foresee_r2 ++ (wsX4_foresee_r3 ++ (wsX4_foresee_r4 ++ (wsX4_foresee_r5 ++ (wsX4_foresee_r6 ++ (wsX4_foresee_r7 ++ wsX4_foresee_r8))))))) ++ wsX40 ++ wsX20 ++ wsX30 ++ wsX10 ++ wsX00 ++ (vx_atS RX4 148 "java/lang/IndexOutOfBoundsException" ["java/lang/RuntimeException", "java/lang/Exception"]).filter goodWord ++ (vx_atS RX4 43 "java/lang/IllegalArgumentException" ["java/lang/RuntimeException", "java/lang/Exception"]).filter goodWord)
def wsX4_settles_r1 : List Cond := [Cond.fieldLink RX4 10 "PassNotes" "land" "LPassNotes$Land;", Cond.fieldLink RX4 21 "PassNotes" "now" "LPassNotes$Notes;", Cond.fieldLink RX4 25 "PassNotes" "later" "LPassNotes$Notes;", Cond.methodLink RX4 173 yX1_joinedPairs, Cond.instanceMethod yX1_joinedPairs, Cond.selects RX1 yX1_joinedPairs yX1_joinedPairs, Cond.initialized RX1, Cond.code yX1_joinedPairs cX1_joinedPairs 7 (some .int), Cond.fieldLink RX1 28 "PassNotes$Land" "huts" "I", Cond.methodLink RX1 44 yX1_groupOf, Cond.instanceMethod yX1_groupOf, Cond.selects RX1 yX1_groupOf yX1_groupOf, Cond.code yX1_groupOf cX1_groupOf 9 (some .int), Cond.fieldLink RX1 32 "PassNotes$Land" "passes" "I", Cond.fieldLink RX1 15 "PassNotes$Land" "firsts" "[I", Cond.fieldLink RX1 18 "PassNotes$Land" "seconds" "[I", Cond.fieldLink RX1 24 "PassNotes$Land" "opens" "[Z", Cond.methodLink RX1 48 yJ6_bitCount_0f7a4, Cond.static yJ6_bitCount_0f7a4, Cond.initialized RJ6, Cond.code yJ6_bitCount_0f7a4 cJ6_bitCount_0f7a4 1 (some .int), Cond.constant RJ6 265 (1431655765), Cond.constant RJ6 266 (858993459), Cond.constant RJ6 267 (252645135)]
def wsX4_settles_r2 : List Cond := [Cond.methodLink RX4 170 yX2_reachedPairs, Cond.instanceMethod yX2_reachedPairs, Cond.selects RX2 yX2_reachedPairs yX2_reachedPairs, Cond.initialized RX2, Cond.code yX2_reachedPairs cX2_reachedPairs 4 (some .int), Cond.fieldLink RX2 40 "PassNotes$Notes" "land" "LPassNotes$Land;", Cond.methodLink RX2 59 yX1_huts, Cond.instanceMethod yX1_huts, Cond.selects RX1 yX1_huts yX1_huts, Cond.code yX1_huts cX1_huts 1 (some .int), Cond.methodLink RX2 146 yX2_letter, Cond.instanceMethod yX2_letter, Cond.selects RX2 yX2_letter yX2_letter, Cond.code yX2_letter cX2_letter 6 (some .int), Cond.constant RX2 142 (1073741824), Cond.methodLink RX2 139 yX2_knownWay, Cond.instanceMethod yX2_knownWay, Cond.selects RX2 yX2_knownWay yX2_knownWay, Cond.code yX2_knownWay cX2_knownWay 3 (some .int), Cond.fieldLink RX2 27 "PassNotes$Notes" "waysFound" "[Z", Cond.fieldLink RX2 24 "PassNotes$Notes" "ways" "[[I", Cond.methodLink RX2 121 yX2_findWays, Cond.instanceMethod yX2_findWays, Cond.selects RX2 yX2_findWays yX2_findWays]
def wsX4_settles_r3 : List Cond := [Cond.code yX2_findWays cX2_findWays 7 none, Cond.fieldLink RX2 12 "PassNotes$Notes" "chart" "LPassNotes$Chart;", Cond.fieldLink RX2 33 "PassNotes$Notes" "held" "[LPassNotes$Sheet;", Cond.methodLink RX2 125 yX0_clear, Cond.instanceMethod yX0_clear, Cond.selects RX0 yX0_clear yX0_clear, Cond.initialized RX0, Cond.code yX0_clear cX0_clear 1 none, Cond.fieldLink RX0 21 "PassNotes$Chart" "steps" "I", Cond.methodLink RX2 88 yX1_passes, Cond.instanceMethod yX1_passes, Cond.selects RX1 yX1_passes yX1_passes, Cond.code yX1_passes cX1_passes 1 (some .int), Cond.methodLink RX2 94 yX1_first, Cond.instanceMethod yX1_first, Cond.selects RX1 yX1_first yX1_first, Cond.code yX1_first cX1_first 2 (some .int), Cond.methodLink RX2 97 yX1_second, Cond.instanceMethod yX1_second, Cond.selects RX1 yX1_second yX1_second, Cond.code yX1_second cX1_second 2 (some .int), Cond.methodLink RX2 51 yX2_slot, Cond.static yX2_slot, Cond.code yX2_slot cX2_slot 2 (some .int)]
def wsX4_settles_r4 : List Cond := [Cond.methodLink RX2 115 yX3_tells, Cond.instanceMethod yX3_tells, Cond.selects RX3 yX3_tells yX3_tells, Cond.initialized RX3, Cond.code yX3_tells cX3_tells 2 (some .boolean), Cond.fieldLink RX3 9 "PassNotes$Sheet" "lengths" "[I", Cond.methodLink RX2 128 yX3_length, Cond.instanceMethod yX3_length, Cond.selects RX3 yX3_length yX3_length, Cond.code yX3_length cX3_length 2 (some .int), Cond.methodLink RX2 131 yX0_addStep, Cond.instanceMethod yX0_addStep, Cond.selects RX0 yX0_addStep yX0_addStep, Cond.code yX0_addStep cX0_addStep 4 none, Cond.fieldLink RX0 9 "PassNotes$Chart" "froms" "[I", Cond.fieldLink RX0 15 "PassNotes$Chart" "tos" "[I", Cond.fieldLink RX0 18 "PassNotes$Chart" "lengths" "[I", Cond.methodLink RX2 135 yX0_search, Cond.instanceMethod yX0_search, Cond.selects RX0 yX0_search yX0_search, Cond.code yX0_search cX0_search 7 none, Cond.constant RX0 25 (1073741824), Cond.methodLink RX2 143 yX1_isStep, Cond.instanceMethod yX1_isStep]
def wsX4_settles_r5 : List Cond := [Cond.selects RX1 yX1_isStep yX1_isStep, Cond.code yX1_isStep cX1_isStep 6 (some .boolean), Cond.methodLink RX4 186 yX2_copy, Cond.instanceMethod yX2_copy, Cond.selects RX2 yX2_copy yX2_copy, Cond.code yX2_copy cX2_copy 3 none, Cond.fieldLink RX2 44 "PassNotes$Notes" "minute" "I", Cond.fieldLink RX2 18 "PassNotes$Notes" "wrote" "[I", Cond.methodLink RX2 48 yX2_forgetWays, Cond.instanceMethod yX2_forgetWays, Cond.selects RX2 yX2_forgetWays yX2_forgetWays, Cond.code yX2_forgetWays cX2_forgetWays 2 none, Cond.methodLink RX4 181 yX2_passMinutes, Cond.instanceMethod yX2_passMinutes, Cond.selects RX2 yX2_passMinutes yX2_passMinutes, Cond.code yX2_passMinutes cX2_passMinutes 4 (some .int), Cond.methodLink RX2 68 yX2_writeSheets, Cond.instanceMethod yX2_writeSheets, Cond.selects RX2 yX2_writeSheets yX2_writeSheets, Cond.code yX2_writeSheets cX2_writeSheets 3 (some .int), Cond.classLink RX2 31 RX3, Cond.instantiable RX3 3, Cond.methodLink RX2 77 yX2_mustWrite, Cond.instanceMethod yX2_mustWrite]
def wsX4_settles_r6 : List Cond := [Cond.selects RX2 yX2_mustWrite yX2_mustWrite, Cond.code yX2_mustWrite cX2_mustWrite 3 (some .boolean), Cond.methodLink RX2 65 yX3_age, Cond.instanceMethod yX3_age, Cond.selects RX3 yX3_age yX3_age, Cond.code yX3_age cX3_age 2 (some .int), Cond.fieldLink RX3 19 "PassNotes$Sheet" "written" "I", Cond.methodLink RX2 84 yX3_tellsAsNow, Cond.instanceMethod yX3_tellsAsNow, Cond.selects RX3 yX3_tellsAsNow yX3_tellsAsNow, Cond.code yX3_tellsAsNow cX3_tellsAsNow 4 (some .boolean), Cond.methodLink RX3 22 yX1_passes, Cond.methodLink RX3 28 yX1_tellsNow, Cond.instanceMethod yX1_tellsNow, Cond.selects RX1 yX1_tellsNow yX1_tellsNow, Cond.code yX1_tellsNow cX1_tellsNow 4 (some .int), Cond.fieldLink RX1 21 "PassNotes$Land" "lengths" "[I", Cond.methodLink RX2 81 yX3_init, Cond.instanceMethod yX3_init, Cond.code yX3_init cX3_init 6 none, Cond.methodLink RX3 3 objectInit, Cond.instanceMethod objectInit, Cond.code objectInit ⟨#[0xb1]⟩ 1 none, Cond.arrayClass .int]
def wsX4_settles_r7 : List Cond := [Cond.fieldLink RX3 15 "PassNotes$Sheet" "number" "I", Cond.methodLink RX2 71 yX2_carrySheets, Cond.instanceMethod yX2_carrySheets, Cond.selects RX2 yX2_carrySheets yX2_carrySheets, Cond.code yX2_carrySheets cX2_carrySheets 2 none, Cond.fieldLink RX2 37 "PassNotes$Notes" "carried" "[LPassNotes$Sheet;", Cond.methodLink RX2 91 yX1_isOpen, Cond.instanceMethod yX1_isOpen, Cond.selects RX1 yX1_isOpen yX1_isOpen, Cond.code yX1_isOpen cX1_isOpen 2 (some .boolean), Cond.methodLink RX2 100 yX2_carry, Cond.instanceMethod yX2_carry, Cond.selects RX2 yX2_carry yX2_carry, Cond.code yX2_carry cX2_carry 5 none, Cond.methodLink RX2 104 yX1_takesIn, Cond.instanceMethod yX1_takesIn, Cond.selects RX1 yX1_takesIn yX1_takesIn, Cond.code yX1_takesIn cX1_takesIn 3 (some .boolean), Cond.fieldLink RX1 9 "PassNotes$Land" "areas" "[I", Cond.methodLink RX2 108 yX2_isNewer, Cond.instanceMethod yX2_isNewer, Cond.selects RX2 yX2_isNewer yX2_isNewer, Cond.code yX2_isNewer cX2_isNewer 3 (some .boolean), Cond.methodLink RX2 112 yX3_number]
def wsX4_settles_r8 : List Cond := [Cond.instanceMethod yX3_number, Cond.selects RX3 yX3_number yX3_number, Cond.code yX3_number cX3_number 1 (some .int), Cond.methodLink RX2 74 yX2_throwOldAway, Cond.instanceMethod yX2_throwOldAway, Cond.selects RX2 yX2_throwOldAway yX2_throwOldAway, Cond.code yX2_throwOldAway cX2_throwOldAway 3 none]
def wsX4_settles : List Cond := .code yX4_settles cX4_settles 3 (some .int) :: ((wsX4_settles_r1 ++ (wsX4_settles_r2 ++ (wsX4_settles_r3 ++ (wsX4_settles_r4 ++ (wsX4_settles_r5 ++ (wsX4_settles_r6 ++ (wsX4_settles_r7 ++ wsX4_settles_r8))))))) ++ wsX40 ++ wsX10 ++ wsX20 ++ wsX00 ++ wsX30)
def wsX4_advise_r1 : List Cond := [Cond.fieldLink RX4 10 "PassNotes" "land" "LPassNotes$Land;", Cond.methodLink RX4 68 yX1_passes, Cond.instanceMethod yX1_passes, Cond.selects RX1 yX1_passes yX1_passes, Cond.initialized RX1, Cond.code yX1_passes cX1_passes 1 (some .int), Cond.fieldLink RX1 32 "PassNotes$Land" "passes" "I", Cond.methodLink RX4 137 yX1_isOpen, Cond.instanceMethod yX1_isOpen, Cond.selects RX1 yX1_isOpen yX1_isOpen, Cond.code yX1_isOpen cX1_isOpen 2 (some .boolean), Cond.fieldLink RX1 24 "PassNotes$Land" "opens" "[Z", Cond.methodLink RX4 173 yX1_joinedPairs, Cond.instanceMethod yX1_joinedPairs, Cond.selects RX1 yX1_joinedPairs yX1_joinedPairs, Cond.code yX1_joinedPairs cX1_joinedPairs 7 (some .int), Cond.fieldLink RX1 28 "PassNotes$Land" "huts" "I", Cond.methodLink RX1 44 yX1_groupOf, Cond.instanceMethod yX1_groupOf, Cond.selects RX1 yX1_groupOf yX1_groupOf, Cond.code yX1_groupOf cX1_groupOf 9 (some .int), Cond.fieldLink RX1 15 "PassNotes$Land" "firsts" "[I", Cond.fieldLink RX1 18 "PassNotes$Land" "seconds" "[I", Cond.methodLink RX1 48 yJ6_bitCount_0f7a4]
def wsX4_advise_r2 : List Cond := [Cond.static yJ6_bitCount_0f7a4, Cond.initialized RJ6, Cond.code yJ6_bitCount_0f7a4 cJ6_bitCount_0f7a4 1 (some .int), Cond.constant RJ6 265 (1431655765), Cond.constant RJ6 266 (858993459), Cond.constant RJ6 267 (252645135)]
def wsX4_advise : List Cond := .code yX4_advise cX4_advise 5 (some .int) :: ((wsX4_advise_r1 ++ wsX4_advise_r2) ++ wsX40 ++ wsX10)
def wsX4_mean_r1 : List Cond := [Cond.fieldLink RX4 21 "PassNotes" "now" "LPassNotes$Notes;", Cond.methodLink RX4 167 yX2_sheets, Cond.instanceMethod yX2_sheets, Cond.selects RX2 yX2_sheets yX2_sheets, Cond.initialized RX2, Cond.code yX2_sheets cX2_sheets 3 (some .int), Cond.fieldLink RX2 40 "PassNotes$Notes" "land" "LPassNotes$Land;", Cond.methodLink RX2 59 yX1_huts, Cond.instanceMethod yX1_huts, Cond.selects RX1 yX1_huts yX1_huts, Cond.initialized RX1, Cond.code yX1_huts cX1_huts 1 (some .int), Cond.fieldLink RX1 28 "PassNotes$Land" "huts" "I", Cond.methodLink RX2 55 yX2_sheetsOf, Cond.instanceMethod yX2_sheetsOf, Cond.selects RX2 yX2_sheetsOf yX2_sheetsOf, Cond.code yX2_sheetsOf cX2_sheetsOf 4 (some .int), Cond.fieldLink RX2 33 "PassNotes$Notes" "held" "[LPassNotes$Sheet;", Cond.methodLink RX2 51 yX2_slot, Cond.static yX2_slot, Cond.code yX2_slot cX2_slot 2 (some .int), Cond.methodLink RX4 190 yX2_ages, Cond.instanceMethod yX2_ages, Cond.selects RX2 yX2_ages yX2_ages]
def wsX4_mean_r2 : List Cond := [Cond.code yX2_ages cX2_ages 4 (some .int), Cond.fieldLink RX2 44 "PassNotes$Notes" "minute" "I", Cond.methodLink RX2 65 yX3_age, Cond.instanceMethod yX3_age, Cond.selects RX3 yX3_age yX3_age, Cond.initialized RX3, Cond.code yX3_age cX3_age 2 (some .int), Cond.fieldLink RX3 19 "PassNotes$Sheet" "written" "I"]
def wsX4_mean : List Cond := .code yX4_mean cX4_mean 2 (some .double) :: ((wsX4_mean_r1 ++ wsX4_mean_r2) ++ wsX40 ++ wsX20 ++ wsX10 ++ wsX30)
def wsX4_digestOfPair_r1 : List Cond := [Cond.constantLong RX4 195 (31), Cond.methodLink RX4 210 yX4_sheet, Cond.instanceMethod yX4_sheet, Cond.selects RX4 yX4_sheet yX4_sheet, Cond.initialized RX4, Cond.code yX4_sheet cX4_sheet 5 (some .int), Cond.fieldLink RX4 21 "PassNotes" "now" "LPassNotes$Notes;", Cond.methodLink RX4 59 yX4_checkHut, Cond.instanceMethod yX4_checkHut, Cond.selects RX4 yX4_checkHut yX4_checkHut, Cond.code yX4_checkHut cX4_checkHut 2 none, Cond.classLink RX4 144 "java/lang/IndexOutOfBoundsException", Cond.initialized "java/lang/IndexOutOfBoundsException", Cond.fieldLink RX4 10 "PassNotes" "land" "LPassNotes$Land;", Cond.methodLink RX4 46 yX1_huts, Cond.instanceMethod yX1_huts, Cond.selects RX1 yX1_huts yX1_huts, Cond.initialized RX1, Cond.code yX1_huts cX1_huts 1 (some .int), Cond.fieldLink RX1 28 "PassNotes$Land" "huts" "I", Cond.methodLink RX4 91 yX4_checkWhat, Cond.instanceMethod yX4_checkWhat, Cond.selects RX4 yX4_checkWhat yX4_checkWhat, Cond.code yX4_checkWhat cX4_checkWhat 3 none]
def wsX4_digestOfPair_r2 : List Cond := [Cond.methodLink RX4 95 yX2_held, Cond.instanceMethod yX2_held, Cond.selects RX2 yX2_held yX2_held, Cond.initialized RX2, Cond.code yX2_held cX2_held 3 (some (.object "PassNotes$Sheet")), Cond.fieldLink RX2 33 "PassNotes$Notes" "held" "[LPassNotes$Sheet;", Cond.methodLink RX2 51 yX2_slot, Cond.static yX2_slot, Cond.code yX2_slot cX2_slot 2 (some .int), Cond.methodLink RX4 99 yX3_number, Cond.instanceMethod yX3_number, Cond.selects RX3 yX3_number yX3_number, Cond.initialized RX3, Cond.code yX3_number cX3_number 1 (some .int), Cond.fieldLink RX3 15 "PassNotes$Sheet" "number" "I", Cond.methodLink RX4 104 yX2_minute, Cond.instanceMethod yX2_minute, Cond.selects RX2 yX2_minute yX2_minute, Cond.code yX2_minute cX2_minute 1 (some .int), Cond.fieldLink RX2 44 "PassNotes$Notes" "minute" "I", Cond.methodLink RX4 107 yX3_age, Cond.instanceMethod yX3_age, Cond.selects RX3 yX3_age yX3_age, Cond.code yX3_age cX3_age 2 (some .int)]
def wsX4_digestOfPair_r3 : List Cond := [Cond.fieldLink RX3 19 "PassNotes$Sheet" "written" "I", Cond.methodLink RX4 110 yX3_passesTold, Cond.instanceMethod yX3_passesTold, Cond.selects RX3 yX3_passesTold yX3_passesTold, Cond.code yX3_passesTold cX3_passesTold 3 (some .int), Cond.fieldLink RX3 9 "PassNotes$Sheet" "lengths" "[I", Cond.methodLink RX3 32 yX3_tells, Cond.instanceMethod yX3_tells, Cond.selects RX3 yX3_tells yX3_tells, Cond.code yX3_tells cX3_tells 2 (some .boolean), Cond.methodLink RX4 213 yX4_way, Cond.instanceMethod yX4_way, Cond.selects RX4 yX4_way yX4_way, Cond.code yX4_way cX4_way 5 (some .int), Cond.constant RX4 116 (1073741824), Cond.methodLink RX4 113 yX2_knownWay, Cond.instanceMethod yX2_knownWay, Cond.selects RX2 yX2_knownWay yX2_knownWay, Cond.code yX2_knownWay cX2_knownWay 3 (some .int), Cond.fieldLink RX2 27 "PassNotes$Notes" "waysFound" "[Z", Cond.fieldLink RX2 24 "PassNotes$Notes" "ways" "[[I", Cond.methodLink RX2 121 yX2_findWays, Cond.instanceMethod yX2_findWays, Cond.selects RX2 yX2_findWays yX2_findWays]
def wsX4_digestOfPair_r4 : List Cond := [Cond.code yX2_findWays cX2_findWays 7 none, Cond.fieldLink RX2 12 "PassNotes$Notes" "chart" "LPassNotes$Chart;", Cond.fieldLink RX2 40 "PassNotes$Notes" "land" "LPassNotes$Land;", Cond.methodLink RX2 125 yX0_clear, Cond.instanceMethod yX0_clear, Cond.selects RX0 yX0_clear yX0_clear, Cond.initialized RX0, Cond.code yX0_clear cX0_clear 1 none, Cond.fieldLink RX0 21 "PassNotes$Chart" "steps" "I", Cond.methodLink RX2 88 yX1_passes, Cond.instanceMethod yX1_passes, Cond.selects RX1 yX1_passes yX1_passes, Cond.code yX1_passes cX1_passes 1 (some .int), Cond.fieldLink RX1 32 "PassNotes$Land" "passes" "I", Cond.methodLink RX2 94 yX1_first, Cond.instanceMethod yX1_first, Cond.selects RX1 yX1_first yX1_first, Cond.code yX1_first cX1_first 2 (some .int), Cond.fieldLink RX1 15 "PassNotes$Land" "firsts" "[I", Cond.methodLink RX2 97 yX1_second, Cond.instanceMethod yX1_second, Cond.selects RX1 yX1_second yX1_second, Cond.code yX1_second cX1_second 2 (some .int), Cond.fieldLink RX1 18 "PassNotes$Land" "seconds" "[I"]
def wsX4_digestOfPair_r5 : List Cond := [Cond.methodLink RX2 115 yX3_tells, Cond.methodLink RX2 128 yX3_length, Cond.instanceMethod yX3_length, Cond.selects RX3 yX3_length yX3_length, Cond.code yX3_length cX3_length 2 (some .int), Cond.methodLink RX2 131 yX0_addStep, Cond.instanceMethod yX0_addStep, Cond.selects RX0 yX0_addStep yX0_addStep, Cond.code yX0_addStep cX0_addStep 4 none, Cond.fieldLink RX0 9 "PassNotes$Chart" "froms" "[I", Cond.fieldLink RX0 15 "PassNotes$Chart" "tos" "[I", Cond.fieldLink RX0 18 "PassNotes$Chart" "lengths" "[I", Cond.methodLink RX2 135 yX0_search, Cond.instanceMethod yX0_search, Cond.selects RX0 yX0_search yX0_search, Cond.code yX0_search cX0_search 7 none, Cond.constant RX0 25 (1073741824)]
def wsX4_digestOfPair : List Cond := .code yX4_digestOfPair cX4_digestOfPair 8 (some .long) :: ((wsX4_digestOfPair_r1 ++ (wsX4_digestOfPair_r2 ++ (wsX4_digestOfPair_r3 ++ (wsX4_digestOfPair_r4 ++ wsX4_digestOfPair_r5)))) ++ wsX40 ++ wsX10 ++ wsX20 ++ wsX30 ++ wsX00 ++ (vx_atS RX4 148 "java/lang/IndexOutOfBoundsException" ["java/lang/RuntimeException", "java/lang/Exception"]).filter goodWord)
def wsX4_digest_r1 : List Cond := [Cond.constantLong RX4 193 (1627), Cond.constantLong RX4 195 (31), Cond.fieldLink RX4 10 "PassNotes" "land" "LPassNotes$Land;", Cond.methodLink RX4 197 yX4_count, Cond.instanceMethod yX4_count, Cond.selects RX4 yX4_count yX4_count, Cond.initialized RX4, Cond.code yX4_count cX4_count 2 (some .int), Cond.classLink RX4 144 "java/lang/IndexOutOfBoundsException", Cond.initialized "java/lang/IndexOutOfBoundsException", Cond.fieldLink RX4 21 "PassNotes" "now" "LPassNotes$Notes;", Cond.methodLink RX4 104 yX2_minute, Cond.instanceMethod yX2_minute, Cond.selects RX2 yX2_minute yX2_minute, Cond.initialized RX2, Cond.code yX2_minute cX2_minute 1 (some .int), Cond.fieldLink RX2 44 "PassNotes$Notes" "minute" "I", Cond.methodLink RX4 46 yX1_huts, Cond.instanceMethod yX1_huts, Cond.selects RX1 yX1_huts yX1_huts, Cond.initialized RX1, Cond.code yX1_huts cX1_huts 1 (some .int), Cond.fieldLink RX1 28 "PassNotes$Land" "huts" "I", Cond.methodLink RX4 68 yX1_passes]
def wsX4_digest_r2 : List Cond := [Cond.instanceMethod yX1_passes, Cond.selects RX1 yX1_passes yX1_passes, Cond.code yX1_passes cX1_passes 1 (some .int), Cond.fieldLink RX1 32 "PassNotes$Land" "passes" "I", Cond.methodLink RX4 164 yX1_openPasses, Cond.instanceMethod yX1_openPasses, Cond.selects RX1 yX1_openPasses yX1_openPasses, Cond.code yX1_openPasses cX1_openPasses 3 (some .int), Cond.fieldLink RX1 24 "PassNotes$Land" "opens" "[Z", Cond.methodLink RX4 167 yX2_sheets, Cond.instanceMethod yX2_sheets, Cond.selects RX2 yX2_sheets yX2_sheets, Cond.code yX2_sheets cX2_sheets 3 (some .int), Cond.fieldLink RX2 40 "PassNotes$Notes" "land" "LPassNotes$Land;", Cond.methodLink RX2 59 yX1_huts, Cond.methodLink RX2 55 yX2_sheetsOf, Cond.instanceMethod yX2_sheetsOf, Cond.selects RX2 yX2_sheetsOf yX2_sheetsOf, Cond.code yX2_sheetsOf cX2_sheetsOf 4 (some .int), Cond.fieldLink RX2 33 "PassNotes$Notes" "held" "[LPassNotes$Sheet;", Cond.methodLink RX2 51 yX2_slot, Cond.static yX2_slot, Cond.code yX2_slot cX2_slot 2 (some .int), Cond.methodLink RX4 170 yX2_reachedPairs]
def wsX4_digest_r3 : List Cond := [Cond.instanceMethod yX2_reachedPairs, Cond.selects RX2 yX2_reachedPairs yX2_reachedPairs, Cond.code yX2_reachedPairs cX2_reachedPairs 4 (some .int), Cond.methodLink RX2 146 yX2_letter, Cond.instanceMethod yX2_letter, Cond.selects RX2 yX2_letter yX2_letter, Cond.code yX2_letter cX2_letter 6 (some .int), Cond.constant RX2 142 (1073741824), Cond.methodLink RX2 139 yX2_knownWay, Cond.instanceMethod yX2_knownWay, Cond.selects RX2 yX2_knownWay yX2_knownWay, Cond.code yX2_knownWay cX2_knownWay 3 (some .int), Cond.fieldLink RX2 27 "PassNotes$Notes" "waysFound" "[Z", Cond.fieldLink RX2 24 "PassNotes$Notes" "ways" "[[I", Cond.methodLink RX2 121 yX2_findWays, Cond.instanceMethod yX2_findWays, Cond.selects RX2 yX2_findWays yX2_findWays, Cond.code yX2_findWays cX2_findWays 7 none, Cond.fieldLink RX2 12 "PassNotes$Notes" "chart" "LPassNotes$Chart;", Cond.methodLink RX2 125 yX0_clear, Cond.instanceMethod yX0_clear, Cond.selects RX0 yX0_clear yX0_clear, Cond.initialized RX0, Cond.code yX0_clear cX0_clear 1 none]
def wsX4_digest_r4 : List Cond := [Cond.fieldLink RX0 21 "PassNotes$Chart" "steps" "I", Cond.methodLink RX2 88 yX1_passes, Cond.methodLink RX2 94 yX1_first, Cond.instanceMethod yX1_first, Cond.selects RX1 yX1_first yX1_first, Cond.code yX1_first cX1_first 2 (some .int), Cond.fieldLink RX1 15 "PassNotes$Land" "firsts" "[I", Cond.methodLink RX2 97 yX1_second, Cond.instanceMethod yX1_second, Cond.selects RX1 yX1_second yX1_second, Cond.code yX1_second cX1_second 2 (some .int), Cond.fieldLink RX1 18 "PassNotes$Land" "seconds" "[I", Cond.methodLink RX2 115 yX3_tells, Cond.instanceMethod yX3_tells, Cond.selects RX3 yX3_tells yX3_tells, Cond.initialized RX3, Cond.code yX3_tells cX3_tells 2 (some .boolean), Cond.fieldLink RX3 9 "PassNotes$Sheet" "lengths" "[I", Cond.methodLink RX2 128 yX3_length, Cond.instanceMethod yX3_length, Cond.selects RX3 yX3_length yX3_length, Cond.code yX3_length cX3_length 2 (some .int), Cond.methodLink RX2 131 yX0_addStep, Cond.instanceMethod yX0_addStep]
def wsX4_digest_r5 : List Cond := [Cond.selects RX0 yX0_addStep yX0_addStep, Cond.code yX0_addStep cX0_addStep 4 none, Cond.fieldLink RX0 9 "PassNotes$Chart" "froms" "[I", Cond.fieldLink RX0 15 "PassNotes$Chart" "tos" "[I", Cond.fieldLink RX0 18 "PassNotes$Chart" "lengths" "[I", Cond.methodLink RX2 135 yX0_search, Cond.instanceMethod yX0_search, Cond.selects RX0 yX0_search yX0_search, Cond.code yX0_search cX0_search 7 none, Cond.constant RX0 25 (1073741824), Cond.methodLink RX2 143 yX1_isStep, Cond.instanceMethod yX1_isStep, Cond.selects RX1 yX1_isStep yX1_isStep, Cond.code yX1_isStep cX1_isStep 6 (some .boolean), Cond.methodLink RX4 173 yX1_joinedPairs, Cond.instanceMethod yX1_joinedPairs, Cond.selects RX1 yX1_joinedPairs yX1_joinedPairs, Cond.code yX1_joinedPairs cX1_joinedPairs 7 (some .int), Cond.methodLink RX1 44 yX1_groupOf, Cond.instanceMethod yX1_groupOf, Cond.selects RX1 yX1_groupOf yX1_groupOf, Cond.code yX1_groupOf cX1_groupOf 9 (some .int), Cond.methodLink RX1 48 yJ6_bitCount_0f7a4, Cond.static yJ6_bitCount_0f7a4]
def wsX4_digest_r6 : List Cond := [Cond.initialized RJ6, Cond.code yJ6_bitCount_0f7a4 cJ6_bitCount_0f7a4 1 (some .int), Cond.constant RJ6 265 (1431655765), Cond.constant RJ6 266 (858993459), Cond.constant RJ6 267 (252645135), Cond.methodLink RX4 200 yX4_told, Cond.instanceMethod yX4_told, Cond.selects RX4 yX4_told yX4_told, Cond.code yX4_told cX4_told 3 (some .int), Cond.methodLink RX4 59 yX4_checkHut, Cond.instanceMethod yX4_checkHut, Cond.selects RX4 yX4_checkHut yX4_checkHut, Cond.code yX4_checkHut cX4_checkHut 2 none, Cond.methodLink RX4 149 yX1_area, Cond.instanceMethod yX1_area, Cond.selects RX1 yX1_area yX1_area, Cond.code yX1_area cX1_area 2 (some .int), Cond.fieldLink RX1 9 "PassNotes$Land" "areas" "[I", Cond.methodLink RX4 152 yX2_sheetsOf, Cond.methodLink RX4 155 yX2_wroteInAll, Cond.instanceMethod yX2_wroteInAll, Cond.selects RX2 yX2_wroteInAll yX2_wroteInAll, Cond.code yX2_wroteInAll cX2_wroteInAll 2 (some .int), Cond.fieldLink RX2 18 "PassNotes$Notes" "wrote" "[I"]
def wsX4_digest_r7 : List Cond := [Cond.methodLink RX4 158 yX2_knownHuts, Cond.instanceMethod yX2_knownHuts, Cond.selects RX2 yX2_knownHuts yX2_knownHuts, Cond.code yX2_knownHuts cX2_knownHuts 4 (some .int), Cond.methodLink RX4 161 yX2_reachedHuts, Cond.instanceMethod yX2_reachedHuts, Cond.selects RX2 yX2_reachedHuts yX2_reachedHuts, Cond.code yX2_reachedHuts cX2_reachedHuts 4 (some .int), Cond.methodLink RX4 203 yX4_about, Cond.instanceMethod yX4_about, Cond.selects RX4 yX4_about yX4_about, Cond.code yX4_about cX4_about 3 (some .int), Cond.methodLink RX4 77 yX4_checkPass, Cond.instanceMethod yX4_checkPass, Cond.selects RX4 yX4_checkPass yX4_checkPass, Cond.code yX4_checkPass cX4_checkPass 2 none, Cond.methodLink RX4 128 yX1_first, Cond.methodLink RX4 131 yX1_second, Cond.methodLink RX4 134 yX1_length, Cond.instanceMethod yX1_length, Cond.selects RX1 yX1_length yX1_length, Cond.code yX1_length cX1_length 2 (some .int), Cond.fieldLink RX1 21 "PassNotes$Land" "lengths" "[I", Cond.methodLink RX4 137 yX1_isOpen]
def wsX4_digest_r8 : List Cond := [Cond.instanceMethod yX1_isOpen, Cond.selects RX1 yX1_isOpen yX1_isOpen, Cond.code yX1_isOpen cX1_isOpen 2 (some .boolean), Cond.methodLink RX4 141 yX2_takersForOpen, Cond.instanceMethod yX2_takersForOpen, Cond.selects RX2 yX2_takersForOpen yX2_takersForOpen, Cond.code yX2_takersForOpen cX2_takersForOpen 4 (some .int), Cond.methodLink RX2 118 yX2_takesForOpen, Cond.instanceMethod yX2_takesForOpen, Cond.selects RX2 yX2_takesForOpen yX2_takesForOpen, Cond.code yX2_takesForOpen cX2_takesForOpen 5 (some .boolean), Cond.methodLink RX4 206 yX4_digestOfPair, Cond.instanceMethod yX4_digestOfPair, Cond.selects RX4 yX4_digestOfPair yX4_digestOfPair, Cond.code yX4_digestOfPair cX4_digestOfPair 8 (some .long), Cond.methodLink RX4 210 yX4_sheet, Cond.instanceMethod yX4_sheet, Cond.selects RX4 yX4_sheet yX4_sheet, Cond.code yX4_sheet cX4_sheet 5 (some .int), Cond.methodLink RX4 91 yX4_checkWhat, Cond.instanceMethod yX4_checkWhat, Cond.selects RX4 yX4_checkWhat yX4_checkWhat, Cond.code yX4_checkWhat cX4_checkWhat 3 none, Cond.methodLink RX4 95 yX2_held]
def wsX4_digest_r9 : List Cond := [Cond.instanceMethod yX2_held, Cond.selects RX2 yX2_held yX2_held, Cond.code yX2_held cX2_held 3 (some (.object "PassNotes$Sheet")), Cond.methodLink RX4 99 yX3_number, Cond.instanceMethod yX3_number, Cond.selects RX3 yX3_number yX3_number, Cond.code yX3_number cX3_number 1 (some .int), Cond.fieldLink RX3 15 "PassNotes$Sheet" "number" "I", Cond.methodLink RX4 107 yX3_age, Cond.instanceMethod yX3_age, Cond.selects RX3 yX3_age yX3_age, Cond.code yX3_age cX3_age 2 (some .int), Cond.fieldLink RX3 19 "PassNotes$Sheet" "written" "I", Cond.methodLink RX4 110 yX3_passesTold, Cond.instanceMethod yX3_passesTold, Cond.selects RX3 yX3_passesTold yX3_passesTold, Cond.code yX3_passesTold cX3_passesTold 3 (some .int), Cond.methodLink RX3 32 yX3_tells, Cond.methodLink RX4 213 yX4_way, Cond.instanceMethod yX4_way, Cond.selects RX4 yX4_way yX4_way, Cond.code yX4_way cX4_way 5 (some .int), Cond.constant RX4 116 (1073741824), Cond.methodLink RX4 113 yX2_knownWay]
def wsX4_digest : List Cond := .code yX4_digest cX4_digest 5 (some .long) :: ((wsX4_digest_r1 ++ (wsX4_digest_r2 ++ (wsX4_digest_r3 ++ (wsX4_digest_r4 ++ (wsX4_digest_r5 ++ (wsX4_digest_r6 ++ (wsX4_digest_r7 ++ (wsX4_digest_r8 ++ wsX4_digest_r9)))))))) ++ wsX40 ++ wsX20 ++ wsX10 ++ wsX00 ++ wsX30 ++ (vx_atS RX4 148 "java/lang/IndexOutOfBoundsException" ["java/lang/RuntimeException", "java/lang/Exception"]).filter goodWord)
def wsX5_init : List Cond := .code yX5_init cX5_init 2 none :: ([.methodLink RX5 1 objectInit, .instanceMethod objectInit, .code objectInit ⟨#[0xb1]⟩ 1 none, .arrayClass .int, .fieldLink RX5 9 "PassNotesModel" "area" "[I", .fieldLink RX5 13 "PassNotesModel" "written" "[I", .classLink RX5 16 "[I", .fieldLink RX5 17 "PassNotesModel" "has" "[[I", .fieldLink RX5 21 "PassNotesModel" "one" "[I", .fieldLink RX5 24 "PassNotesModel" "other" "[I", .fieldLink RX5 27 "PassNotesModel" "length" "[I", .fieldLink RX5 30 "PassNotesModel" "far" "[I", .fieldLink RX5 33 "PassNotesModel" "hops" "[I", .fieldLink RX5 36 "PassNotesModel" "code" "[I", .fieldLink RX5 39 "PassNotesModel" "first" "[I", .fieldLink RX5 42 "PassNotesModel" "steps" "[I", .fieldLink RX5 45 "PassNotesModel" "NO_SHEET" "[I"] ++ wsX50)
def wsX5_thrown : List Cond := .code yX5_thrown cX5_thrown 1 (some .int) :: ([.fieldLink RX5 48 "PassNotesModel" "thrown" "I"] ++ wsX50)
def wsX5_no : List Cond := .code yX5_no cX5_no 2 (some .int) :: ([.fieldLink RX5 48 "PassNotesModel" "thrown" "I"] ++ wsX50)
def wsX5_isIn : List Cond := .code yX5_isIn cX5_isIn 3 (some .boolean) :: ([])
def wsX5_isHut : List Cond := .code yX5_isHut cX5_isHut 2 (some .boolean) :: ([.fieldLink RX5 52 "PassNotesModel" "huts" "I", .methodLink RX5 55 yX5_isIn, .static yX5_isIn, .initialized RX5, .code yX5_isIn cX5_isIn 3 (some .boolean)] ++ wsX50)
def wsX5_isPass : List Cond := .code yX5_isPass cX5_isPass 2 (some .boolean) :: ([.fieldLink RX5 59 "PassNotesModel" "passes" "I", .methodLink RX5 55 yX5_isIn, .static yX5_isIn, .initialized RX5, .code yX5_isIn cX5_isIn 3 (some .boolean)] ++ wsX50)
def wsX5_has : List Cond := .code yX5_has cX5_has 2 (some .boolean) :: ([])
def wsX5_of : List Cond := .code yX5_of cX5_of 3 (some (.array .int)) :: ([.fieldLink RX5 17 "PassNotesModel" "has" "[[I"] ++ wsX50)
def wsX5_isThere : List Cond := .code yX5_isThere cX5_isThere 3 (some .boolean) :: ([.methodLink RX5 62 yX5_of, .instanceMethod yX5_of, .selects RX5 yX5_of yX5_of, .initialized RX5, .code yX5_of cX5_of 3 (some (.array .int)), .fieldLink RX5 17 "PassNotesModel" "has" "[[I"] ++ wsX50)
def wsX5_age : List Cond := .code yX5_age cX5_age 3 (some .int) :: ([.fieldLink RX5 66 "PassNotesModel" "minute" "I", .methodLink RX5 62 yX5_of, .instanceMethod yX5_of, .selects RX5 yX5_of yX5_of, .initialized RX5, .code yX5_of cX5_of 3 (some (.array .int)), .fieldLink RX5 17 "PassNotesModel" "has" "[[I"] ++ wsX50)
def wsX5_isAt : List Cond := .code yX5_isAt cX5_isAt 3 (some .boolean) :: ([.fieldLink RX5 21 "PassNotesModel" "one" "[I", .fieldLink RX5 24 "PassNotesModel" "other" "[I"] ++ wsX50)
def wsX5_sheetNow : List Cond := .code yX5_sheetNow cX5_sheetNow 4 (some (.array .int)) :: ([.arrayClass .int, .fieldLink RX5 13 "PassNotesModel" "written" "[I", .fieldLink RX5 66 "PassNotesModel" "minute" "I", .fieldLink RX5 59 "PassNotesModel" "passes" "I", .fieldLink RX5 73 "PassNotesModel" "open" "I", .fieldLink RX5 27 "PassNotesModel" "length" "[I", .methodLink RX5 69 yX5_isAt, .instanceMethod yX5_isAt, .selects RX5 yX5_isAt yX5_isAt, .initialized RX5, .code yX5_isAt cX5_isAt 3 (some .boolean), .fieldLink RX5 21 "PassNotesModel" "one" "[I", .fieldLink RX5 24 "PassNotesModel" "other" "[I", .methodLink RX5 76 yX5_has, .static yX5_has, .code yX5_has cX5_has 2 (some .boolean)] ++ wsX50)
def wsX5_isTrue : List Cond := .code yX5_isTrue cX5_isTrue 5 (some .boolean) :: ([.fieldLink RX5 59 "PassNotesModel" "passes" "I", .fieldLink RX5 73 "PassNotesModel" "open" "I", .fieldLink RX5 27 "PassNotesModel" "length" "[I", .methodLink RX5 69 yX5_isAt, .instanceMethod yX5_isAt, .selects RX5 yX5_isAt yX5_isAt, .initialized RX5, .code yX5_isAt cX5_isAt 3 (some .boolean), .fieldLink RX5 21 "PassNotesModel" "one" "[I", .fieldLink RX5 24 "PassNotesModel" "other" "[I", .methodLink RX5 76 yX5_has, .static yX5_has, .code yX5_has cX5_has 2 (some .boolean)] ++ wsX50)
def wsX5_isDue_r1 : List Cond := [Cond.methodLink RX5 78 yX5_isThere, Cond.instanceMethod yX5_isThere, Cond.selects RX5 yX5_isThere yX5_isThere, Cond.initialized RX5, Cond.code yX5_isThere cX5_isThere 3 (some .boolean), Cond.methodLink RX5 62 yX5_of, Cond.instanceMethod yX5_of, Cond.selects RX5 yX5_of yX5_of, Cond.code yX5_of cX5_of 3 (some (.array .int)), Cond.fieldLink RX5 17 "PassNotesModel" "has" "[[I", Cond.methodLink RX5 81 yX5_age, Cond.instanceMethod yX5_age, Cond.selects RX5 yX5_age yX5_age, Cond.code yX5_age cX5_age 3 (some .int), Cond.fieldLink RX5 66 "PassNotesModel" "minute" "I", Cond.methodLink RX5 85 yX5_isTrue, Cond.instanceMethod yX5_isTrue, Cond.selects RX5 yX5_isTrue yX5_isTrue, Cond.code yX5_isTrue cX5_isTrue 5 (some .boolean), Cond.fieldLink RX5 59 "PassNotesModel" "passes" "I", Cond.fieldLink RX5 73 "PassNotesModel" "open" "I", Cond.fieldLink RX5 27 "PassNotesModel" "length" "[I", Cond.methodLink RX5 69 yX5_isAt, Cond.instanceMethod yX5_isAt]
def wsX5_isDue_r2 : List Cond := [Cond.selects RX5 yX5_isAt yX5_isAt, Cond.code yX5_isAt cX5_isAt 3 (some .boolean), Cond.fieldLink RX5 21 "PassNotesModel" "one" "[I", Cond.fieldLink RX5 24 "PassNotesModel" "other" "[I", Cond.methodLink RX5 76 yX5_has, Cond.static yX5_has, Cond.code yX5_has cX5_has 2 (some .boolean)]
def wsX5_isDue : List Cond := .code yX5_isDue cX5_isDue 2 (some .boolean) :: ((wsX5_isDue_r1 ++ wsX5_isDue_r2) ++ wsX50)
def wsX5_write : List Cond := .code yX5_write cX5_write 2 none :: ([.fieldLink RX5 17 "PassNotesModel" "has" "[[I", .fieldLink RX5 13 "PassNotesModel" "written" "[I", .methodLink RX5 89 yX5_sheetNow, .instanceMethod yX5_sheetNow, .selects RX5 yX5_sheetNow yX5_sheetNow, .initialized RX5, .code yX5_sheetNow cX5_sheetNow 4 (some (.array .int)), .arrayClass .int, .fieldLink RX5 66 "PassNotesModel" "minute" "I", .fieldLink RX5 59 "PassNotesModel" "passes" "I", .fieldLink RX5 73 "PassNotesModel" "open" "I", .fieldLink RX5 27 "PassNotesModel" "length" "[I", .methodLink RX5 69 yX5_isAt, .instanceMethod yX5_isAt, .selects RX5 yX5_isAt yX5_isAt, .code yX5_isAt cX5_isAt 3 (some .boolean), .fieldLink RX5 21 "PassNotesModel" "one" "[I", .fieldLink RX5 24 "PassNotesModel" "other" "[I", .methodLink RX5 76 yX5_has, .static yX5_has, .code yX5_has cX5_has 2 (some .boolean)] ++ wsX50)
def wsX5_takes : List Cond := .code yX5_takes cX5_takes 3 (some .boolean) :: ([.fieldLink RX5 9 "PassNotesModel" "area" "[I"] ++ wsX50)
def wsX5_carry : List Cond := .code yX5_carry cX5_carry 7 none :: ([.fieldLink RX5 52 "PassNotesModel" "huts" "I", .fieldLink RX5 17 "PassNotesModel" "has" "[[I", .methodLink RX5 93 yX5_takes, .instanceMethod yX5_takes, .selects RX5 yX5_takes yX5_takes, .initialized RX5, .code yX5_takes cX5_takes 3 (some .boolean), .fieldLink RX5 9 "PassNotesModel" "area" "[I", .methodLink RX5 62 yX5_of, .instanceMethod yX5_of, .selects RX5 yX5_of yX5_of, .code yX5_of cX5_of 3 (some (.array .int))] ++ wsX50)
def wsX5_step_r1 : List Cond := [Cond.fieldLink RX5 52 "PassNotesModel" "huts" "I", Cond.classLink RX5 16 "[I", Cond.fieldLink RX5 17 "PassNotesModel" "has" "[[I", Cond.methodLink RX5 104 arraycopyName, Cond.native arraycopyName, Cond.static arraycopyName, Cond.initialized "java/lang/System", Cond.fieldLink RX5 59 "PassNotesModel" "passes" "I", Cond.fieldLink RX5 73 "PassNotesModel" "open" "I", Cond.fieldLink RX5 21 "PassNotesModel" "one" "[I", Cond.fieldLink RX5 24 "PassNotesModel" "other" "[I", Cond.fieldLink RX5 66 "PassNotesModel" "minute" "I", Cond.fieldLink RX5 45 "PassNotesModel" "NO_SHEET" "[I", Cond.methodLink RX5 96 yX5_isDue, Cond.instanceMethod yX5_isDue, Cond.selects RX5 yX5_isDue yX5_isDue, Cond.initialized RX5, Cond.code yX5_isDue cX5_isDue 2 (some .boolean), Cond.methodLink RX5 78 yX5_isThere, Cond.instanceMethod yX5_isThere, Cond.selects RX5 yX5_isThere yX5_isThere, Cond.code yX5_isThere cX5_isThere 3 (some .boolean), Cond.methodLink RX5 62 yX5_of, Cond.instanceMethod yX5_of]
def wsX5_step_r2 : List Cond := [Cond.selects RX5 yX5_of yX5_of, Cond.code yX5_of cX5_of 3 (some (.array .int)), Cond.methodLink RX5 81 yX5_age, Cond.instanceMethod yX5_age, Cond.selects RX5 yX5_age yX5_age, Cond.code yX5_age cX5_age 3 (some .int), Cond.methodLink RX5 85 yX5_isTrue, Cond.instanceMethod yX5_isTrue, Cond.selects RX5 yX5_isTrue yX5_isTrue, Cond.code yX5_isTrue cX5_isTrue 5 (some .boolean), Cond.fieldLink RX5 27 "PassNotesModel" "length" "[I", Cond.methodLink RX5 69 yX5_isAt, Cond.instanceMethod yX5_isAt, Cond.selects RX5 yX5_isAt yX5_isAt, Cond.code yX5_isAt cX5_isAt 3 (some .boolean), Cond.methodLink RX5 76 yX5_has, Cond.static yX5_has, Cond.code yX5_has cX5_has 2 (some .boolean), Cond.methodLink RX5 100 yX5_write, Cond.instanceMethod yX5_write, Cond.selects RX5 yX5_write yX5_write, Cond.code yX5_write cX5_write 2 none, Cond.fieldLink RX5 13 "PassNotesModel" "written" "[I", Cond.methodLink RX5 89 yX5_sheetNow]
def wsX5_step_r3 : List Cond := [Cond.instanceMethod yX5_sheetNow, Cond.selects RX5 yX5_sheetNow yX5_sheetNow, Cond.code yX5_sheetNow cX5_sheetNow 4 (some (.array .int)), Cond.arrayClass .int, Cond.methodLink RX5 110 yX5_carry, Cond.instanceMethod yX5_carry, Cond.selects RX5 yX5_carry yX5_carry, Cond.code yX5_carry cX5_carry 7 none, Cond.methodLink RX5 93 yX5_takes, Cond.instanceMethod yX5_takes, Cond.selects RX5 yX5_takes yX5_takes, Cond.code yX5_takes cX5_takes 3 (some .boolean), Cond.fieldLink RX5 9 "PassNotesModel" "area" "[I"]
def wsX5_step : List Cond := .code yX5_step cX5_step 4 (some .int) :: ((wsX5_step_r1 ++ (wsX5_step_r2 ++ wsX5_step_r3)) ++ wsX50)
def wsX5_isTold : List Cond := .code yX5_isTold cX5_isTold 4 (some .boolean) :: ([.methodLink RX5 78 yX5_isThere, .instanceMethod yX5_isThere, .selects RX5 yX5_isThere yX5_isThere, .initialized RX5, .code yX5_isThere cX5_isThere 3 (some .boolean), .methodLink RX5 62 yX5_of, .instanceMethod yX5_of, .selects RX5 yX5_of yX5_of, .code yX5_of cX5_of 3 (some (.array .int)), .fieldLink RX5 17 "PassNotesModel" "has" "[[I", .methodLink RX5 76 yX5_has, .static yX5_has, .code yX5_has cX5_has 2 (some .boolean)] ++ wsX50)
def wsX5_isTaken : List Cond := .code yX5_isTaken cX5_isTaken 3 (some .boolean) :: ([.fieldLink RX5 21 "PassNotesModel" "one" "[I", .fieldLink RX5 24 "PassNotesModel" "other" "[I", .methodLink RX5 114 yX5_isTold, .instanceMethod yX5_isTold, .selects RX5 yX5_isTold yX5_isTold, .initialized RX5, .code yX5_isTold cX5_isTold 4 (some .boolean), .methodLink RX5 78 yX5_isThere, .instanceMethod yX5_isThere, .selects RX5 yX5_isThere yX5_isThere, .code yX5_isThere cX5_isThere 3 (some .boolean), .methodLink RX5 62 yX5_of, .instanceMethod yX5_of, .selects RX5 yX5_of yX5_of, .code yX5_of cX5_of 3 (some (.array .int)), .fieldLink RX5 17 "PassNotesModel" "has" "[[I", .methodLink RX5 76 yX5_has, .static yX5_has, .code yX5_has cX5_has 2 (some .boolean)] ++ wsX50)
def wsX5_shorten : List Cond := .code yX5_shorten cX5_shorten 5 none :: ([])
def wsX5_lengthsFor_r1 : List Cond := [Cond.arrayClass .int, Cond.fieldLink RX5 59 "PassNotesModel" "passes" "I", Cond.fieldLink RX5 21 "PassNotesModel" "one" "[I", Cond.fieldLink RX5 24 "PassNotesModel" "other" "[I", Cond.methodLink RX5 117 yX5_isTaken, Cond.instanceMethod yX5_isTaken, Cond.selects RX5 yX5_isTaken yX5_isTaken, Cond.initialized RX5, Cond.code yX5_isTaken cX5_isTaken 3 (some .boolean), Cond.methodLink RX5 114 yX5_isTold, Cond.instanceMethod yX5_isTold, Cond.selects RX5 yX5_isTold yX5_isTold, Cond.code yX5_isTold cX5_isTold 4 (some .boolean), Cond.methodLink RX5 78 yX5_isThere, Cond.instanceMethod yX5_isThere, Cond.selects RX5 yX5_isThere yX5_isThere, Cond.code yX5_isThere cX5_isThere 3 (some .boolean), Cond.methodLink RX5 62 yX5_of, Cond.instanceMethod yX5_of, Cond.selects RX5 yX5_of yX5_of, Cond.code yX5_of cX5_of 3 (some (.array .int)), Cond.fieldLink RX5 17 "PassNotesModel" "has" "[[I", Cond.methodLink RX5 76 yX5_has, Cond.static yX5_has]
def wsX5_lengthsFor_r2 : List Cond := [Cond.code yX5_has cX5_has 2 (some .boolean), Cond.methodLink RX5 120 yX5_shorten, Cond.static yX5_shorten, Cond.code yX5_shorten cX5_shorten 5 none]
def wsX5_lengthsFor : List Cond := .code yX5_lengthsFor cX5_lengthsFor 4 (some (.array .int)) :: ((wsX5_lengthsFor_r1 ++ wsX5_lengthsFor_r2) ++ wsX50)
def wsX5_isBetter : List Cond := .code yX5_isBetter cX5_isBetter 5 (some .boolean) :: ([.fieldLink RX5 30 "PassNotesModel" "far" "[I", .fieldLink RX5 33 "PassNotesModel" "hops" "[I", .fieldLink RX5 36 "PassNotesModel" "code" "[I"] ++ wsX50)
def wsX5_reach : List Cond := .code yX5_reach cX5_reach 6 none :: ([.fieldLink RX5 30 "PassNotesModel" "far" "[I", .fieldLink RX5 33 "PassNotesModel" "hops" "[I", .fieldLink RX5 36 "PassNotesModel" "code" "[I", .fieldLink RX5 39 "PassNotesModel" "first" "[I", .methodLink RX5 124 yX5_isBetter, .instanceMethod yX5_isBetter, .selects RX5 yX5_isBetter yX5_isBetter, .initialized RX5, .code yX5_isBetter cX5_isBetter 5 (some .boolean)] ++ wsX50)
def wsX5_nearest : List Cond := .code yX5_nearest cX5_nearest 4 (some .int) :: ([.fieldLink RX5 52 "PassNotesModel" "huts" "I", .fieldLink RX5 30 "PassNotesModel" "far" "[I", .fieldLink RX5 33 "PassNotesModel" "hops" "[I", .fieldLink RX5 36 "PassNotesModel" "code" "[I", .methodLink RX5 124 yX5_isBetter, .instanceMethod yX5_isBetter, .selects RX5 yX5_isBetter yX5_isBetter, .initialized RX5, .code yX5_isBetter cX5_isBetter 5 (some .boolean)] ++ wsX50)
def wsX5_look : List Cond := .code yX5_look cX5_look 7 none :: ([.arrayClass .boolean, .fieldLink RX5 30 "PassNotesModel" "far" "[I", .fieldLink RX5 52 "PassNotesModel" "huts" "I", .fieldLink RX5 33 "PassNotesModel" "hops" "[I", .fieldLink RX5 36 "PassNotesModel" "code" "[I", .fieldLink RX5 39 "PassNotesModel" "first" "[I", .methodLink RX5 128 yX5_reach, .instanceMethod yX5_reach, .selects RX5 yX5_reach yX5_reach, .initialized RX5, .code yX5_reach cX5_reach 6 none, .methodLink RX5 124 yX5_isBetter, .instanceMethod yX5_isBetter, .selects RX5 yX5_isBetter yX5_isBetter, .code yX5_isBetter cX5_isBetter 5 (some .boolean), .methodLink RX5 132 yX5_nearest, .instanceMethod yX5_nearest, .selects RX5 yX5_nearest yX5_nearest, .code yX5_nearest cX5_nearest 4 (some .int)] ++ wsX50)
def wsX5_lookBy_r1 : List Cond := [Cond.methodLink RX5 136 yX5_lengthsFor, Cond.instanceMethod yX5_lengthsFor, Cond.selects RX5 yX5_lengthsFor yX5_lengthsFor, Cond.initialized RX5, Cond.code yX5_lengthsFor cX5_lengthsFor 4 (some (.array .int)), Cond.arrayClass .int, Cond.fieldLink RX5 59 "PassNotesModel" "passes" "I", Cond.fieldLink RX5 21 "PassNotesModel" "one" "[I", Cond.fieldLink RX5 24 "PassNotesModel" "other" "[I", Cond.methodLink RX5 117 yX5_isTaken, Cond.instanceMethod yX5_isTaken, Cond.selects RX5 yX5_isTaken yX5_isTaken, Cond.code yX5_isTaken cX5_isTaken 3 (some .boolean), Cond.methodLink RX5 114 yX5_isTold, Cond.instanceMethod yX5_isTold, Cond.selects RX5 yX5_isTold yX5_isTold, Cond.code yX5_isTold cX5_isTold 4 (some .boolean), Cond.methodLink RX5 78 yX5_isThere, Cond.instanceMethod yX5_isThere, Cond.selects RX5 yX5_isThere yX5_isThere, Cond.code yX5_isThere cX5_isThere 3 (some .boolean), Cond.methodLink RX5 62 yX5_of, Cond.instanceMethod yX5_of, Cond.selects RX5 yX5_of yX5_of]
def wsX5_lookBy_r2 : List Cond := [Cond.code yX5_of cX5_of 3 (some (.array .int)), Cond.fieldLink RX5 17 "PassNotesModel" "has" "[[I", Cond.methodLink RX5 76 yX5_has, Cond.static yX5_has, Cond.code yX5_has cX5_has 2 (some .boolean), Cond.methodLink RX5 120 yX5_shorten, Cond.static yX5_shorten, Cond.code yX5_shorten cX5_shorten 5 none, Cond.methodLink RX5 139 yX5_look, Cond.instanceMethod yX5_look, Cond.selects RX5 yX5_look yX5_look, Cond.code yX5_look cX5_look 7 none, Cond.arrayClass .boolean, Cond.fieldLink RX5 30 "PassNotesModel" "far" "[I", Cond.fieldLink RX5 52 "PassNotesModel" "huts" "I", Cond.fieldLink RX5 33 "PassNotesModel" "hops" "[I", Cond.fieldLink RX5 36 "PassNotesModel" "code" "[I", Cond.fieldLink RX5 39 "PassNotesModel" "first" "[I", Cond.methodLink RX5 128 yX5_reach, Cond.instanceMethod yX5_reach, Cond.selects RX5 yX5_reach yX5_reach, Cond.code yX5_reach cX5_reach 6 none, Cond.methodLink RX5 124 yX5_isBetter, Cond.instanceMethod yX5_isBetter]
def wsX5_lookBy_r3 : List Cond := [Cond.selects RX5 yX5_isBetter yX5_isBetter, Cond.code yX5_isBetter cX5_isBetter 5 (some .boolean), Cond.methodLink RX5 132 yX5_nearest, Cond.instanceMethod yX5_nearest, Cond.selects RX5 yX5_nearest yX5_nearest, Cond.code yX5_nearest cX5_nearest 4 (some .int)]
def wsX5_lookBy : List Cond := .code yX5_lookBy cX5_lookBy 2 none :: ((wsX5_lookBy_r1 ++ (wsX5_lookBy_r2 ++ wsX5_lookBy_r3)) ++ wsX50)
def wsX5_lookAll_r1 : List Cond := [Cond.fieldLink RX5 52 "PassNotesModel" "huts" "I", Cond.fieldLink RX5 42 "PassNotesModel" "steps" "[I", Cond.fieldLink RX5 30 "PassNotesModel" "far" "[I", Cond.fieldLink RX5 39 "PassNotesModel" "first" "[I", Cond.methodLink RX5 143 yX5_lookBy, Cond.instanceMethod yX5_lookBy, Cond.selects RX5 yX5_lookBy yX5_lookBy, Cond.initialized RX5, Cond.code yX5_lookBy cX5_lookBy 2 none, Cond.methodLink RX5 136 yX5_lengthsFor, Cond.instanceMethod yX5_lengthsFor, Cond.selects RX5 yX5_lengthsFor yX5_lengthsFor, Cond.code yX5_lengthsFor cX5_lengthsFor 4 (some (.array .int)), Cond.arrayClass .int, Cond.fieldLink RX5 59 "PassNotesModel" "passes" "I", Cond.fieldLink RX5 21 "PassNotesModel" "one" "[I", Cond.fieldLink RX5 24 "PassNotesModel" "other" "[I", Cond.methodLink RX5 117 yX5_isTaken, Cond.instanceMethod yX5_isTaken, Cond.selects RX5 yX5_isTaken yX5_isTaken, Cond.code yX5_isTaken cX5_isTaken 3 (some .boolean), Cond.methodLink RX5 114 yX5_isTold, Cond.instanceMethod yX5_isTold, Cond.selects RX5 yX5_isTold yX5_isTold]
def wsX5_lookAll_r2 : List Cond := [Cond.code yX5_isTold cX5_isTold 4 (some .boolean), Cond.methodLink RX5 78 yX5_isThere, Cond.instanceMethod yX5_isThere, Cond.selects RX5 yX5_isThere yX5_isThere, Cond.code yX5_isThere cX5_isThere 3 (some .boolean), Cond.methodLink RX5 62 yX5_of, Cond.instanceMethod yX5_of, Cond.selects RX5 yX5_of yX5_of, Cond.code yX5_of cX5_of 3 (some (.array .int)), Cond.fieldLink RX5 17 "PassNotesModel" "has" "[[I", Cond.methodLink RX5 76 yX5_has, Cond.static yX5_has, Cond.code yX5_has cX5_has 2 (some .boolean), Cond.methodLink RX5 120 yX5_shorten, Cond.static yX5_shorten, Cond.code yX5_shorten cX5_shorten 5 none, Cond.methodLink RX5 139 yX5_look, Cond.instanceMethod yX5_look, Cond.selects RX5 yX5_look yX5_look, Cond.code yX5_look cX5_look 7 none, Cond.arrayClass .boolean, Cond.fieldLink RX5 33 "PassNotesModel" "hops" "[I", Cond.fieldLink RX5 36 "PassNotesModel" "code" "[I", Cond.methodLink RX5 128 yX5_reach]
def wsX5_lookAll_r3 : List Cond := [Cond.instanceMethod yX5_reach, Cond.selects RX5 yX5_reach yX5_reach, Cond.code yX5_reach cX5_reach 6 none, Cond.methodLink RX5 124 yX5_isBetter, Cond.instanceMethod yX5_isBetter, Cond.selects RX5 yX5_isBetter yX5_isBetter, Cond.code yX5_isBetter cX5_isBetter 5 (some .boolean), Cond.methodLink RX5 132 yX5_nearest, Cond.instanceMethod yX5_nearest, Cond.selects RX5 yX5_nearest yX5_nearest, Cond.code yX5_nearest cX5_nearest 4 (some .int)]
def wsX5_lookAll : List Cond := .code yX5_lookAll cX5_lookAll 3 none :: ((wsX5_lookAll_r1 ++ (wsX5_lookAll_r2 ++ wsX5_lookAll_r3)) ++ wsX50)
def wsX5_isOpenBetween : List Cond := .code yX5_isOpenBetween cX5_isOpenBetween 4 (some .boolean) :: ([.fieldLink RX5 59 "PassNotesModel" "passes" "I", .fieldLink RX5 73 "PassNotesModel" "open" "I", .methodLink RX5 76 yX5_has, .static yX5_has, .initialized RX5, .code yX5_has cX5_has 2 (some .boolean), .methodLink RX5 69 yX5_isAt, .instanceMethod yX5_isAt, .selects RX5 yX5_isAt yX5_isAt, .code yX5_isAt cX5_isAt 3 (some .boolean), .fieldLink RX5 21 "PassNotesModel" "one" "[I", .fieldLink RX5 24 "PassNotesModel" "other" "[I"] ++ wsX50)
def wsX5_letter : List Cond := .code yX5_letter cX5_letter 6 (some .int) :: ([.fieldLink RX5 42 "PassNotesModel" "steps" "[I", .methodLink RX5 146 yX5_isOpenBetween, .instanceMethod yX5_isOpenBetween, .selects RX5 yX5_isOpenBetween yX5_isOpenBetween, .initialized RX5, .code yX5_isOpenBetween cX5_isOpenBetween 4 (some .boolean), .fieldLink RX5 59 "PassNotesModel" "passes" "I", .fieldLink RX5 73 "PassNotesModel" "open" "I", .methodLink RX5 76 yX5_has, .static yX5_has, .code yX5_has cX5_has 2 (some .boolean), .methodLink RX5 69 yX5_isAt, .instanceMethod yX5_isAt, .selects RX5 yX5_isAt yX5_isAt, .code yX5_isAt cX5_isAt 3 (some .boolean), .fieldLink RX5 21 "PassNotesModel" "one" "[I", .fieldLink RX5 24 "PassNotesModel" "other" "[I"] ++ wsX50)
def wsX5_lengthsNow : List Cond := .code yX5_lengthsNow cX5_lengthsNow 4 (some (.array .int)) :: ([.arrayClass .int, .fieldLink RX5 59 "PassNotesModel" "passes" "I", .fieldLink RX5 21 "PassNotesModel" "one" "[I", .fieldLink RX5 24 "PassNotesModel" "other" "[I", .fieldLink RX5 27 "PassNotesModel" "length" "[I", .methodLink RX5 76 yX5_has, .static yX5_has, .initialized RX5, .code yX5_has cX5_has 2 (some .boolean), .methodLink RX5 120 yX5_shorten, .static yX5_shorten, .code yX5_shorten cX5_shorten 5 none] ++ wsX50)
def wsX5_pairsOver_r1 : List Cond := [Cond.fieldLink RX5 52 "PassNotesModel" "huts" "I", Cond.fieldLink RX5 30 "PassNotesModel" "far" "[I", Cond.methodLink RX5 149 yX5_lengthsNow, Cond.instanceMethod yX5_lengthsNow, Cond.selects RX5 yX5_lengthsNow yX5_lengthsNow, Cond.initialized RX5, Cond.code yX5_lengthsNow cX5_lengthsNow 4 (some (.array .int)), Cond.arrayClass .int, Cond.fieldLink RX5 59 "PassNotesModel" "passes" "I", Cond.fieldLink RX5 21 "PassNotesModel" "one" "[I", Cond.fieldLink RX5 24 "PassNotesModel" "other" "[I", Cond.fieldLink RX5 27 "PassNotesModel" "length" "[I", Cond.methodLink RX5 76 yX5_has, Cond.static yX5_has, Cond.code yX5_has cX5_has 2 (some .boolean), Cond.methodLink RX5 120 yX5_shorten, Cond.static yX5_shorten, Cond.code yX5_shorten cX5_shorten 5 none, Cond.methodLink RX5 139 yX5_look, Cond.instanceMethod yX5_look, Cond.selects RX5 yX5_look yX5_look, Cond.code yX5_look cX5_look 7 none, Cond.arrayClass .boolean, Cond.fieldLink RX5 33 "PassNotesModel" "hops" "[I"]
def wsX5_pairsOver_r2 : List Cond := [Cond.fieldLink RX5 36 "PassNotesModel" "code" "[I", Cond.fieldLink RX5 39 "PassNotesModel" "first" "[I", Cond.methodLink RX5 128 yX5_reach, Cond.instanceMethod yX5_reach, Cond.selects RX5 yX5_reach yX5_reach, Cond.code yX5_reach cX5_reach 6 none, Cond.methodLink RX5 124 yX5_isBetter, Cond.instanceMethod yX5_isBetter, Cond.selects RX5 yX5_isBetter yX5_isBetter, Cond.code yX5_isBetter cX5_isBetter 5 (some .boolean), Cond.methodLink RX5 132 yX5_nearest, Cond.instanceMethod yX5_nearest, Cond.selects RX5 yX5_nearest yX5_nearest, Cond.code yX5_nearest cX5_nearest 4 (some .int)]
def wsX5_pairsOver : List Cond := .code yX5_pairsOver cX5_pairsOver 6 (some .int) :: ((wsX5_pairsOver_r1 ++ wsX5_pairsOver_r2) ++ wsX50)
def wsX5_letters_r1 : List Cond := [Cond.fieldLink RX5 52 "PassNotesModel" "huts" "I", Cond.methodLink RX5 152 yX5_lookAll, Cond.instanceMethod yX5_lookAll, Cond.selects RX5 yX5_lookAll yX5_lookAll, Cond.initialized RX5, Cond.code yX5_lookAll cX5_lookAll 3 none, Cond.fieldLink RX5 42 "PassNotesModel" "steps" "[I", Cond.fieldLink RX5 30 "PassNotesModel" "far" "[I", Cond.fieldLink RX5 39 "PassNotesModel" "first" "[I", Cond.methodLink RX5 143 yX5_lookBy, Cond.instanceMethod yX5_lookBy, Cond.selects RX5 yX5_lookBy yX5_lookBy, Cond.code yX5_lookBy cX5_lookBy 2 none, Cond.methodLink RX5 136 yX5_lengthsFor, Cond.instanceMethod yX5_lengthsFor, Cond.selects RX5 yX5_lengthsFor yX5_lengthsFor, Cond.code yX5_lengthsFor cX5_lengthsFor 4 (some (.array .int)), Cond.arrayClass .int, Cond.fieldLink RX5 59 "PassNotesModel" "passes" "I", Cond.fieldLink RX5 21 "PassNotesModel" "one" "[I", Cond.fieldLink RX5 24 "PassNotesModel" "other" "[I", Cond.methodLink RX5 117 yX5_isTaken, Cond.instanceMethod yX5_isTaken, Cond.selects RX5 yX5_isTaken yX5_isTaken]
def wsX5_letters_r2 : List Cond := [Cond.code yX5_isTaken cX5_isTaken 3 (some .boolean), Cond.methodLink RX5 114 yX5_isTold, Cond.instanceMethod yX5_isTold, Cond.selects RX5 yX5_isTold yX5_isTold, Cond.code yX5_isTold cX5_isTold 4 (some .boolean), Cond.methodLink RX5 78 yX5_isThere, Cond.instanceMethod yX5_isThere, Cond.selects RX5 yX5_isThere yX5_isThere, Cond.code yX5_isThere cX5_isThere 3 (some .boolean), Cond.methodLink RX5 62 yX5_of, Cond.instanceMethod yX5_of, Cond.selects RX5 yX5_of yX5_of, Cond.code yX5_of cX5_of 3 (some (.array .int)), Cond.fieldLink RX5 17 "PassNotesModel" "has" "[[I", Cond.methodLink RX5 76 yX5_has, Cond.static yX5_has, Cond.code yX5_has cX5_has 2 (some .boolean), Cond.methodLink RX5 120 yX5_shorten, Cond.static yX5_shorten, Cond.code yX5_shorten cX5_shorten 5 none, Cond.methodLink RX5 139 yX5_look, Cond.instanceMethod yX5_look, Cond.selects RX5 yX5_look yX5_look, Cond.code yX5_look cX5_look 7 none]
def wsX5_letters_r3 : List Cond := [Cond.arrayClass .boolean, Cond.fieldLink RX5 33 "PassNotesModel" "hops" "[I", Cond.fieldLink RX5 36 "PassNotesModel" "code" "[I", Cond.methodLink RX5 128 yX5_reach, Cond.instanceMethod yX5_reach, Cond.selects RX5 yX5_reach yX5_reach, Cond.code yX5_reach cX5_reach 6 none, Cond.methodLink RX5 124 yX5_isBetter, Cond.instanceMethod yX5_isBetter, Cond.selects RX5 yX5_isBetter yX5_isBetter, Cond.code yX5_isBetter cX5_isBetter 5 (some .boolean), Cond.methodLink RX5 132 yX5_nearest, Cond.instanceMethod yX5_nearest, Cond.selects RX5 yX5_nearest yX5_nearest, Cond.code yX5_nearest cX5_nearest 4 (some .int), Cond.methodLink RX5 155 yX5_letter, Cond.instanceMethod yX5_letter, Cond.selects RX5 yX5_letter yX5_letter, Cond.code yX5_letter cX5_letter 6 (some .int), Cond.methodLink RX5 146 yX5_isOpenBetween, Cond.instanceMethod yX5_isOpenBetween, Cond.selects RX5 yX5_isOpenBetween yX5_isOpenBetween, Cond.code yX5_isOpenBetween cX5_isOpenBetween 4 (some .boolean), Cond.fieldLink RX5 73 "PassNotesModel" "open" "I"]
def wsX5_letters_r4 : List Cond := [Cond.methodLink RX5 69 yX5_isAt, Cond.instanceMethod yX5_isAt, Cond.selects RX5 yX5_isAt yX5_isAt, Cond.code yX5_isAt cX5_isAt 3 (some .boolean)]
def wsX5_letters : List Cond := .code yX5_letters cX5_letters 4 (some .int) :: ((wsX5_letters_r1 ++ (wsX5_letters_r2 ++ (wsX5_letters_r3 ++ wsX5_letters_r4))) ++ wsX50)
def wsX5_hut : List Cond := .code yX5_hut cX5_hut 2 (some .int) :: ([.fieldLink RX5 48 "PassNotesModel" "thrown" "I", .fieldLink RX5 52 "PassNotesModel" "huts" "I", .fieldLink RX5 9 "PassNotesModel" "area" "[I", .methodLink RX5 55 yX5_isIn, .static yX5_isIn, .initialized RX5, .code yX5_isIn cX5_isIn 3 (some .boolean), .methodLink RX5 158 yX5_no, .instanceMethod yX5_no, .selects RX5 yX5_no yX5_no, .code yX5_no cX5_no 2 (some .int)] ++ wsX50)
def wsX5_pass : List Cond := .code yX5_pass cX5_pass 4 (some .int) :: ([.fieldLink RX5 48 "PassNotesModel" "thrown" "I", .fieldLink RX5 59 "PassNotesModel" "passes" "I", .fieldLink RX5 21 "PassNotesModel" "one" "[I", .fieldLink RX5 24 "PassNotesModel" "other" "[I", .fieldLink RX5 27 "PassNotesModel" "length" "[I", .fieldLink RX5 73 "PassNotesModel" "open" "I", .methodLink RX5 162 yX5_isHut, .instanceMethod yX5_isHut, .selects RX5 yX5_isHut yX5_isHut, .initialized RX5, .code yX5_isHut cX5_isHut 2 (some .boolean), .fieldLink RX5 52 "PassNotesModel" "huts" "I", .methodLink RX5 55 yX5_isIn, .static yX5_isIn, .code yX5_isIn cX5_isIn 3 (some .boolean), .methodLink RX5 158 yX5_no, .instanceMethod yX5_no, .selects RX5 yX5_no yX5_no, .code yX5_no cX5_no 2 (some .int)] ++ wsX50)
def wsX5_setLength : List Cond := .code yX5_setLength cX5_setLength 4 (some .int) :: ([.fieldLink RX5 48 "PassNotesModel" "thrown" "I", .fieldLink RX5 27 "PassNotesModel" "length" "[I", .methodLink RX5 165 yX5_isPass, .instanceMethod yX5_isPass, .selects RX5 yX5_isPass yX5_isPass, .initialized RX5, .code yX5_isPass cX5_isPass 2 (some .boolean), .fieldLink RX5 59 "PassNotesModel" "passes" "I", .methodLink RX5 55 yX5_isIn, .static yX5_isIn, .code yX5_isIn cX5_isIn 3 (some .boolean), .methodLink RX5 158 yX5_no, .instanceMethod yX5_no, .selects RX5 yX5_no yX5_no, .code yX5_no cX5_no 2 (some .int)] ++ wsX50)
def wsX5_setOpen : List Cond := .code yX5_setOpen cX5_setOpen 4 (some .boolean) :: ([.fieldLink RX5 48 "PassNotesModel" "thrown" "I", .fieldLink RX5 73 "PassNotesModel" "open" "I", .methodLink RX5 165 yX5_isPass, .instanceMethod yX5_isPass, .selects RX5 yX5_isPass yX5_isPass, .initialized RX5, .code yX5_isPass cX5_isPass 2 (some .boolean), .fieldLink RX5 59 "PassNotesModel" "passes" "I", .methodLink RX5 55 yX5_isIn, .static yX5_isIn, .code yX5_isIn cX5_isIn 3 (some .boolean), .methodLink RX5 76 yX5_has, .static yX5_has, .code yX5_has cX5_has 2 (some .boolean)] ++ wsX50)
def wsX5_sheetsOf : List Cond := .code yX5_sheetsOf cX5_sheetsOf 4 (some .int) :: ([.fieldLink RX5 52 "PassNotesModel" "huts" "I", .methodLink RX5 78 yX5_isThere, .instanceMethod yX5_isThere, .selects RX5 yX5_isThere yX5_isThere, .initialized RX5, .code yX5_isThere cX5_isThere 3 (some .boolean), .methodLink RX5 62 yX5_of, .instanceMethod yX5_of, .selects RX5 yX5_of yX5_of, .code yX5_of cX5_of 3 (some (.array .int)), .fieldLink RX5 17 "PassNotesModel" "has" "[[I"] ++ wsX50)
def wsX5_burn_r1 : List Cond := [Cond.fieldLink RX5 48 "PassNotesModel" "thrown" "I", Cond.fieldLink RX5 17 "PassNotesModel" "has" "[[I", Cond.fieldLink RX5 45 "PassNotesModel" "NO_SHEET" "[I", Cond.methodLink RX5 162 yX5_isHut, Cond.instanceMethod yX5_isHut, Cond.selects RX5 yX5_isHut yX5_isHut, Cond.initialized RX5, Cond.code yX5_isHut cX5_isHut 2 (some .boolean), Cond.fieldLink RX5 52 "PassNotesModel" "huts" "I", Cond.methodLink RX5 55 yX5_isIn, Cond.static yX5_isIn, Cond.code yX5_isIn cX5_isIn 3 (some .boolean), Cond.methodLink RX5 158 yX5_no, Cond.instanceMethod yX5_no, Cond.selects RX5 yX5_no yX5_no, Cond.code yX5_no cX5_no 2 (some .int), Cond.methodLink RX5 168 yX5_sheetsOf, Cond.instanceMethod yX5_sheetsOf, Cond.selects RX5 yX5_sheetsOf yX5_sheetsOf, Cond.code yX5_sheetsOf cX5_sheetsOf 4 (some .int), Cond.methodLink RX5 78 yX5_isThere, Cond.instanceMethod yX5_isThere, Cond.selects RX5 yX5_isThere yX5_isThere, Cond.code yX5_isThere cX5_isThere 3 (some .boolean)]
def wsX5_burn_r2 : List Cond := [Cond.methodLink RX5 62 yX5_of, Cond.instanceMethod yX5_of, Cond.selects RX5 yX5_of yX5_of, Cond.code yX5_of cX5_of 3 (some (.array .int))]
def wsX5_burn : List Cond := .code yX5_burn cX5_burn 4 (some .int) :: ((wsX5_burn_r1 ++ wsX5_burn_r2) ++ wsX50)
def wsX5_sheetTold : List Cond := .code yX5_sheetTold cX5_sheetTold 4 (some .int) :: ([.methodLink RX5 78 yX5_isThere, .instanceMethod yX5_isThere, .selects RX5 yX5_isThere yX5_isThere, .initialized RX5, .code yX5_isThere cX5_isThere 3 (some .boolean), .methodLink RX5 62 yX5_of, .instanceMethod yX5_of, .selects RX5 yX5_of yX5_of, .code yX5_of cX5_of 3 (some (.array .int)), .fieldLink RX5 17 "PassNotesModel" "has" "[[I", .methodLink RX5 81 yX5_age, .instanceMethod yX5_age, .selects RX5 yX5_age yX5_age, .code yX5_age cX5_age 3 (some .int), .fieldLink RX5 66 "PassNotesModel" "minute" "I", .methodLink RX5 171 yJ6_bitCount_0f7a4, .static yJ6_bitCount_0f7a4, .initialized RJ6, .code yJ6_bitCount_0f7a4 cJ6_bitCount_0f7a4 1 (some .int), .constant RJ6 265 (1431655765), .constant RJ6 266 (858993459), .constant RJ6 267 (252645135)] ++ wsX50)
def wsX5_sheet_r1 : List Cond := [Cond.fieldLink RX5 48 "PassNotesModel" "thrown" "I", Cond.methodLink RX5 162 yX5_isHut, Cond.instanceMethod yX5_isHut, Cond.selects RX5 yX5_isHut yX5_isHut, Cond.initialized RX5, Cond.code yX5_isHut cX5_isHut 2 (some .boolean), Cond.fieldLink RX5 52 "PassNotesModel" "huts" "I", Cond.methodLink RX5 55 yX5_isIn, Cond.static yX5_isIn, Cond.code yX5_isIn cX5_isIn 3 (some .boolean), Cond.methodLink RX5 176 yX5_sheetTold, Cond.instanceMethod yX5_sheetTold, Cond.selects RX5 yX5_sheetTold yX5_sheetTold, Cond.code yX5_sheetTold cX5_sheetTold 4 (some .int), Cond.methodLink RX5 78 yX5_isThere, Cond.instanceMethod yX5_isThere, Cond.selects RX5 yX5_isThere yX5_isThere, Cond.code yX5_isThere cX5_isThere 3 (some .boolean), Cond.methodLink RX5 62 yX5_of, Cond.instanceMethod yX5_of, Cond.selects RX5 yX5_of yX5_of, Cond.code yX5_of cX5_of 3 (some (.array .int)), Cond.fieldLink RX5 17 "PassNotesModel" "has" "[[I", Cond.methodLink RX5 81 yX5_age]
def wsX5_sheet_r2 : List Cond := [Cond.instanceMethod yX5_age, Cond.selects RX5 yX5_age yX5_age, Cond.code yX5_age cX5_age 3 (some .int), Cond.fieldLink RX5 66 "PassNotesModel" "minute" "I", Cond.methodLink RX5 171 yJ6_bitCount_0f7a4, Cond.static yJ6_bitCount_0f7a4, Cond.initialized RJ6, Cond.code yJ6_bitCount_0f7a4 cJ6_bitCount_0f7a4 1 (some .int), Cond.constant RJ6 265 (1431655765), Cond.constant RJ6 266 (858993459), Cond.constant RJ6 267 (252645135), Cond.methodLink RX5 158 yX5_no, Cond.instanceMethod yX5_no, Cond.selects RX5 yX5_no yX5_no, Cond.code yX5_no cX5_no 2 (some .int)]
def wsX5_sheet : List Cond := .code yX5_sheet cX5_sheet 4 (some .int) :: ((wsX5_sheet_r1 ++ wsX5_sheet_r2) ++ wsX50)
def wsX5_wayTold : List Cond := .code yX5_wayTold cX5_wayTold 3 (some .int) :: ([.fieldLink RX5 30 "PassNotesModel" "far" "[I", .fieldLink RX5 33 "PassNotesModel" "hops" "[I", .fieldLink RX5 39 "PassNotesModel" "first" "[I"] ++ wsX50)
def wsX5_way_r1 : List Cond := [Cond.fieldLink RX5 48 "PassNotesModel" "thrown" "I", Cond.methodLink RX5 162 yX5_isHut, Cond.instanceMethod yX5_isHut, Cond.selects RX5 yX5_isHut yX5_isHut, Cond.initialized RX5, Cond.code yX5_isHut cX5_isHut 2 (some .boolean), Cond.fieldLink RX5 52 "PassNotesModel" "huts" "I", Cond.methodLink RX5 55 yX5_isIn, Cond.static yX5_isIn, Cond.code yX5_isIn cX5_isIn 3 (some .boolean), Cond.methodLink RX5 158 yX5_no, Cond.instanceMethod yX5_no, Cond.selects RX5 yX5_no yX5_no, Cond.code yX5_no cX5_no 2 (some .int), Cond.methodLink RX5 143 yX5_lookBy, Cond.instanceMethod yX5_lookBy, Cond.selects RX5 yX5_lookBy yX5_lookBy, Cond.code yX5_lookBy cX5_lookBy 2 none, Cond.methodLink RX5 136 yX5_lengthsFor, Cond.instanceMethod yX5_lengthsFor, Cond.selects RX5 yX5_lengthsFor yX5_lengthsFor, Cond.code yX5_lengthsFor cX5_lengthsFor 4 (some (.array .int)), Cond.arrayClass .int, Cond.fieldLink RX5 59 "PassNotesModel" "passes" "I"]
def wsX5_way_r2 : List Cond := [Cond.fieldLink RX5 21 "PassNotesModel" "one" "[I", Cond.fieldLink RX5 24 "PassNotesModel" "other" "[I", Cond.methodLink RX5 117 yX5_isTaken, Cond.instanceMethod yX5_isTaken, Cond.selects RX5 yX5_isTaken yX5_isTaken, Cond.code yX5_isTaken cX5_isTaken 3 (some .boolean), Cond.methodLink RX5 114 yX5_isTold, Cond.instanceMethod yX5_isTold, Cond.selects RX5 yX5_isTold yX5_isTold, Cond.code yX5_isTold cX5_isTold 4 (some .boolean), Cond.methodLink RX5 78 yX5_isThere, Cond.instanceMethod yX5_isThere, Cond.selects RX5 yX5_isThere yX5_isThere, Cond.code yX5_isThere cX5_isThere 3 (some .boolean), Cond.methodLink RX5 62 yX5_of, Cond.instanceMethod yX5_of, Cond.selects RX5 yX5_of yX5_of, Cond.code yX5_of cX5_of 3 (some (.array .int)), Cond.fieldLink RX5 17 "PassNotesModel" "has" "[[I", Cond.methodLink RX5 76 yX5_has, Cond.static yX5_has, Cond.code yX5_has cX5_has 2 (some .boolean), Cond.methodLink RX5 120 yX5_shorten, Cond.static yX5_shorten]
def wsX5_way_r3 : List Cond := [Cond.code yX5_shorten cX5_shorten 5 none, Cond.methodLink RX5 139 yX5_look, Cond.instanceMethod yX5_look, Cond.selects RX5 yX5_look yX5_look, Cond.code yX5_look cX5_look 7 none, Cond.arrayClass .boolean, Cond.fieldLink RX5 30 "PassNotesModel" "far" "[I", Cond.fieldLink RX5 33 "PassNotesModel" "hops" "[I", Cond.fieldLink RX5 36 "PassNotesModel" "code" "[I", Cond.fieldLink RX5 39 "PassNotesModel" "first" "[I", Cond.methodLink RX5 128 yX5_reach, Cond.instanceMethod yX5_reach, Cond.selects RX5 yX5_reach yX5_reach, Cond.code yX5_reach cX5_reach 6 none, Cond.methodLink RX5 124 yX5_isBetter, Cond.instanceMethod yX5_isBetter, Cond.selects RX5 yX5_isBetter yX5_isBetter, Cond.code yX5_isBetter cX5_isBetter 5 (some .boolean), Cond.methodLink RX5 132 yX5_nearest, Cond.instanceMethod yX5_nearest, Cond.selects RX5 yX5_nearest yX5_nearest, Cond.code yX5_nearest cX5_nearest 4 (some .int), Cond.methodLink RX5 180 yX5_wayTold, Cond.instanceMethod yX5_wayTold]
def wsX5_way_r4 : List Cond := [Cond.selects RX5 yX5_wayTold yX5_wayTold, Cond.code yX5_wayTold cX5_wayTold 3 (some .int)]
def wsX5_way : List Cond := .code yX5_way cX5_way 4 (some .int) :: ((wsX5_way_r1 ++ (wsX5_way_r2 ++ (wsX5_way_r3 ++ wsX5_way_r4))) ++ wsX50)
def wsX5_post_r1 : List Cond := [Cond.fieldLink RX5 48 "PassNotesModel" "thrown" "I", Cond.methodLink RX5 162 yX5_isHut, Cond.instanceMethod yX5_isHut, Cond.selects RX5 yX5_isHut yX5_isHut, Cond.initialized RX5, Cond.code yX5_isHut cX5_isHut 2 (some .boolean), Cond.fieldLink RX5 52 "PassNotesModel" "huts" "I", Cond.methodLink RX5 55 yX5_isIn, Cond.static yX5_isIn, Cond.code yX5_isIn cX5_isIn 3 (some .boolean), Cond.methodLink RX5 158 yX5_no, Cond.instanceMethod yX5_no, Cond.selects RX5 yX5_no yX5_no, Cond.code yX5_no cX5_no 2 (some .int), Cond.methodLink RX5 152 yX5_lookAll, Cond.instanceMethod yX5_lookAll, Cond.selects RX5 yX5_lookAll yX5_lookAll, Cond.code yX5_lookAll cX5_lookAll 3 none, Cond.fieldLink RX5 42 "PassNotesModel" "steps" "[I", Cond.fieldLink RX5 30 "PassNotesModel" "far" "[I", Cond.fieldLink RX5 39 "PassNotesModel" "first" "[I", Cond.methodLink RX5 143 yX5_lookBy, Cond.instanceMethod yX5_lookBy, Cond.selects RX5 yX5_lookBy yX5_lookBy]
def wsX5_post_r2 : List Cond := [Cond.code yX5_lookBy cX5_lookBy 2 none, Cond.methodLink RX5 136 yX5_lengthsFor, Cond.instanceMethod yX5_lengthsFor, Cond.selects RX5 yX5_lengthsFor yX5_lengthsFor, Cond.code yX5_lengthsFor cX5_lengthsFor 4 (some (.array .int)), Cond.arrayClass .int, Cond.fieldLink RX5 59 "PassNotesModel" "passes" "I", Cond.fieldLink RX5 21 "PassNotesModel" "one" "[I", Cond.fieldLink RX5 24 "PassNotesModel" "other" "[I", Cond.methodLink RX5 117 yX5_isTaken, Cond.instanceMethod yX5_isTaken, Cond.selects RX5 yX5_isTaken yX5_isTaken, Cond.code yX5_isTaken cX5_isTaken 3 (some .boolean), Cond.methodLink RX5 114 yX5_isTold, Cond.instanceMethod yX5_isTold, Cond.selects RX5 yX5_isTold yX5_isTold, Cond.code yX5_isTold cX5_isTold 4 (some .boolean), Cond.methodLink RX5 78 yX5_isThere, Cond.instanceMethod yX5_isThere, Cond.selects RX5 yX5_isThere yX5_isThere, Cond.code yX5_isThere cX5_isThere 3 (some .boolean), Cond.methodLink RX5 62 yX5_of, Cond.instanceMethod yX5_of, Cond.selects RX5 yX5_of yX5_of]
def wsX5_post_r3 : List Cond := [Cond.code yX5_of cX5_of 3 (some (.array .int)), Cond.fieldLink RX5 17 "PassNotesModel" "has" "[[I", Cond.methodLink RX5 76 yX5_has, Cond.static yX5_has, Cond.code yX5_has cX5_has 2 (some .boolean), Cond.methodLink RX5 120 yX5_shorten, Cond.static yX5_shorten, Cond.code yX5_shorten cX5_shorten 5 none, Cond.methodLink RX5 139 yX5_look, Cond.instanceMethod yX5_look, Cond.selects RX5 yX5_look yX5_look, Cond.code yX5_look cX5_look 7 none, Cond.arrayClass .boolean, Cond.fieldLink RX5 33 "PassNotesModel" "hops" "[I", Cond.fieldLink RX5 36 "PassNotesModel" "code" "[I", Cond.methodLink RX5 128 yX5_reach, Cond.instanceMethod yX5_reach, Cond.selects RX5 yX5_reach yX5_reach, Cond.code yX5_reach cX5_reach 6 none, Cond.methodLink RX5 124 yX5_isBetter, Cond.instanceMethod yX5_isBetter, Cond.selects RX5 yX5_isBetter yX5_isBetter, Cond.code yX5_isBetter cX5_isBetter 5 (some .boolean), Cond.methodLink RX5 132 yX5_nearest]
def wsX5_post_r4 : List Cond := [Cond.instanceMethod yX5_nearest, Cond.selects RX5 yX5_nearest yX5_nearest, Cond.code yX5_nearest cX5_nearest 4 (some .int), Cond.methodLink RX5 155 yX5_letter, Cond.instanceMethod yX5_letter, Cond.selects RX5 yX5_letter yX5_letter, Cond.code yX5_letter cX5_letter 6 (some .int), Cond.methodLink RX5 146 yX5_isOpenBetween, Cond.instanceMethod yX5_isOpenBetween, Cond.selects RX5 yX5_isOpenBetween yX5_isOpenBetween, Cond.code yX5_isOpenBetween cX5_isOpenBetween 4 (some .boolean), Cond.fieldLink RX5 73 "PassNotesModel" "open" "I", Cond.methodLink RX5 69 yX5_isAt, Cond.instanceMethod yX5_isAt, Cond.selects RX5 yX5_isAt yX5_isAt, Cond.code yX5_isAt cX5_isAt 3 (some .boolean)]
def wsX5_post : List Cond := .code yX5_post cX5_post 3 (some .int) :: ((wsX5_post_r1 ++ (wsX5_post_r2 ++ (wsX5_post_r3 ++ wsX5_post_r4))) ++ wsX50)
def wsX5_truth_r1 : List Cond := [Cond.fieldLink RX5 48 "PassNotesModel" "thrown" "I", Cond.fieldLink RX5 73 "PassNotesModel" "open" "I", Cond.fieldLink RX5 30 "PassNotesModel" "far" "[I", Cond.methodLink RX5 162 yX5_isHut, Cond.instanceMethod yX5_isHut, Cond.selects RX5 yX5_isHut yX5_isHut, Cond.initialized RX5, Cond.code yX5_isHut cX5_isHut 2 (some .boolean), Cond.fieldLink RX5 52 "PassNotesModel" "huts" "I", Cond.methodLink RX5 55 yX5_isIn, Cond.static yX5_isIn, Cond.code yX5_isIn cX5_isIn 3 (some .boolean), Cond.methodLink RX5 158 yX5_no, Cond.instanceMethod yX5_no, Cond.selects RX5 yX5_no yX5_no, Cond.code yX5_no cX5_no 2 (some .int), Cond.methodLink RX5 149 yX5_lengthsNow, Cond.instanceMethod yX5_lengthsNow, Cond.selects RX5 yX5_lengthsNow yX5_lengthsNow, Cond.code yX5_lengthsNow cX5_lengthsNow 4 (some (.array .int)), Cond.arrayClass .int, Cond.fieldLink RX5 59 "PassNotesModel" "passes" "I", Cond.fieldLink RX5 21 "PassNotesModel" "one" "[I", Cond.fieldLink RX5 24 "PassNotesModel" "other" "[I"]
def wsX5_truth_r2 : List Cond := [Cond.fieldLink RX5 27 "PassNotesModel" "length" "[I", Cond.methodLink RX5 76 yX5_has, Cond.static yX5_has, Cond.code yX5_has cX5_has 2 (some .boolean), Cond.methodLink RX5 120 yX5_shorten, Cond.static yX5_shorten, Cond.code yX5_shorten cX5_shorten 5 none, Cond.methodLink RX5 139 yX5_look, Cond.instanceMethod yX5_look, Cond.selects RX5 yX5_look yX5_look, Cond.code yX5_look cX5_look 7 none, Cond.arrayClass .boolean, Cond.fieldLink RX5 33 "PassNotesModel" "hops" "[I", Cond.fieldLink RX5 36 "PassNotesModel" "code" "[I", Cond.fieldLink RX5 39 "PassNotesModel" "first" "[I", Cond.methodLink RX5 128 yX5_reach, Cond.instanceMethod yX5_reach, Cond.selects RX5 yX5_reach yX5_reach, Cond.code yX5_reach cX5_reach 6 none, Cond.methodLink RX5 124 yX5_isBetter, Cond.instanceMethod yX5_isBetter, Cond.selects RX5 yX5_isBetter yX5_isBetter, Cond.code yX5_isBetter cX5_isBetter 5 (some .boolean), Cond.methodLink RX5 132 yX5_nearest]
def wsX5_truth_r3 : List Cond := [Cond.instanceMethod yX5_nearest, Cond.selects RX5 yX5_nearest yX5_nearest, Cond.code yX5_nearest cX5_nearest 4 (some .int)]
def wsX5_truth : List Cond := .code yX5_truth cX5_truth 3 (some .int) :: ((wsX5_truth_r1 ++ (wsX5_truth_r2 ++ wsX5_truth_r3)) ++ wsX50)
def wsX5_takers : List Cond := .code yX5_takers cX5_takers 4 (some .int) :: ([.fieldLink RX5 52 "PassNotesModel" "huts" "I", .methodLink RX5 117 yX5_isTaken, .instanceMethod yX5_isTaken, .selects RX5 yX5_isTaken yX5_isTaken, .initialized RX5, .code yX5_isTaken cX5_isTaken 3 (some .boolean), .fieldLink RX5 21 "PassNotesModel" "one" "[I", .fieldLink RX5 24 "PassNotesModel" "other" "[I", .methodLink RX5 114 yX5_isTold, .instanceMethod yX5_isTold, .selects RX5 yX5_isTold yX5_isTold, .code yX5_isTold cX5_isTold 4 (some .boolean), .methodLink RX5 78 yX5_isThere, .instanceMethod yX5_isThere, .selects RX5 yX5_isThere yX5_isThere, .code yX5_isThere cX5_isThere 3 (some .boolean), .methodLink RX5 62 yX5_of, .instanceMethod yX5_of, .selects RX5 yX5_of yX5_of, .code yX5_of cX5_of 3 (some (.array .int)), .fieldLink RX5 17 "PassNotesModel" "has" "[[I", .methodLink RX5 76 yX5_has, .static yX5_has, .code yX5_has cX5_has 2 (some .boolean)] ++ wsX50)
def wsX5_passTold_r1 : List Cond := [Cond.fieldLink RX5 21 "PassNotesModel" "one" "[I", Cond.fieldLink RX5 24 "PassNotesModel" "other" "[I", Cond.fieldLink RX5 27 "PassNotesModel" "length" "[I", Cond.fieldLink RX5 73 "PassNotesModel" "open" "I", Cond.methodLink RX5 76 yX5_has, Cond.static yX5_has, Cond.initialized RX5, Cond.code yX5_has cX5_has 2 (some .boolean), Cond.methodLink RX5 183 yX5_takers, Cond.instanceMethod yX5_takers, Cond.selects RX5 yX5_takers yX5_takers, Cond.code yX5_takers cX5_takers 4 (some .int), Cond.fieldLink RX5 52 "PassNotesModel" "huts" "I", Cond.methodLink RX5 117 yX5_isTaken, Cond.instanceMethod yX5_isTaken, Cond.selects RX5 yX5_isTaken yX5_isTaken, Cond.code yX5_isTaken cX5_isTaken 3 (some .boolean), Cond.methodLink RX5 114 yX5_isTold, Cond.instanceMethod yX5_isTold, Cond.selects RX5 yX5_isTold yX5_isTold, Cond.code yX5_isTold cX5_isTold 4 (some .boolean), Cond.methodLink RX5 78 yX5_isThere, Cond.instanceMethod yX5_isThere, Cond.selects RX5 yX5_isThere yX5_isThere]
def wsX5_passTold_r2 : List Cond := [Cond.code yX5_isThere cX5_isThere 3 (some .boolean), Cond.methodLink RX5 62 yX5_of, Cond.instanceMethod yX5_of, Cond.selects RX5 yX5_of yX5_of, Cond.code yX5_of cX5_of 3 (some (.array .int)), Cond.fieldLink RX5 17 "PassNotesModel" "has" "[[I"]
def wsX5_passTold : List Cond := .code yX5_passTold cX5_passTold 3 (some .int) :: ((wsX5_passTold_r1 ++ wsX5_passTold_r2) ++ wsX50)
def wsX5_about_r1 : List Cond := [Cond.fieldLink RX5 48 "PassNotesModel" "thrown" "I", Cond.methodLink RX5 165 yX5_isPass, Cond.instanceMethod yX5_isPass, Cond.selects RX5 yX5_isPass yX5_isPass, Cond.initialized RX5, Cond.code yX5_isPass cX5_isPass 2 (some .boolean), Cond.fieldLink RX5 59 "PassNotesModel" "passes" "I", Cond.methodLink RX5 55 yX5_isIn, Cond.static yX5_isIn, Cond.code yX5_isIn cX5_isIn 3 (some .boolean), Cond.methodLink RX5 186 yX5_passTold, Cond.instanceMethod yX5_passTold, Cond.selects RX5 yX5_passTold yX5_passTold, Cond.code yX5_passTold cX5_passTold 3 (some .int), Cond.fieldLink RX5 21 "PassNotesModel" "one" "[I", Cond.fieldLink RX5 24 "PassNotesModel" "other" "[I", Cond.fieldLink RX5 27 "PassNotesModel" "length" "[I", Cond.fieldLink RX5 73 "PassNotesModel" "open" "I", Cond.methodLink RX5 76 yX5_has, Cond.static yX5_has, Cond.code yX5_has cX5_has 2 (some .boolean), Cond.methodLink RX5 183 yX5_takers, Cond.instanceMethod yX5_takers, Cond.selects RX5 yX5_takers yX5_takers]
def wsX5_about_r2 : List Cond := [Cond.code yX5_takers cX5_takers 4 (some .int), Cond.fieldLink RX5 52 "PassNotesModel" "huts" "I", Cond.methodLink RX5 117 yX5_isTaken, Cond.instanceMethod yX5_isTaken, Cond.selects RX5 yX5_isTaken yX5_isTaken, Cond.code yX5_isTaken cX5_isTaken 3 (some .boolean), Cond.methodLink RX5 114 yX5_isTold, Cond.instanceMethod yX5_isTold, Cond.selects RX5 yX5_isTold yX5_isTold, Cond.code yX5_isTold cX5_isTold 4 (some .boolean), Cond.methodLink RX5 78 yX5_isThere, Cond.instanceMethod yX5_isThere, Cond.selects RX5 yX5_isThere yX5_isThere, Cond.code yX5_isThere cX5_isThere 3 (some .boolean), Cond.methodLink RX5 62 yX5_of, Cond.instanceMethod yX5_of, Cond.selects RX5 yX5_of yX5_of, Cond.code yX5_of cX5_of 3 (some (.array .int)), Cond.fieldLink RX5 17 "PassNotesModel" "has" "[[I", Cond.methodLink RX5 158 yX5_no, Cond.instanceMethod yX5_no, Cond.selects RX5 yX5_no yX5_no, Cond.code yX5_no cX5_no 2 (some .int)]
def wsX5_about : List Cond := .code yX5_about cX5_about 3 (some .int) :: ((wsX5_about_r1 ++ wsX5_about_r2) ++ wsX50)
def wsX5_waysOf_r1 : List Cond := [Cond.fieldLink RX5 52 "PassNotesModel" "huts" "I", Cond.fieldLink RX5 30 "PassNotesModel" "far" "[I", Cond.methodLink RX5 143 yX5_lookBy, Cond.instanceMethod yX5_lookBy, Cond.selects RX5 yX5_lookBy yX5_lookBy, Cond.initialized RX5, Cond.code yX5_lookBy cX5_lookBy 2 none, Cond.methodLink RX5 136 yX5_lengthsFor, Cond.instanceMethod yX5_lengthsFor, Cond.selects RX5 yX5_lengthsFor yX5_lengthsFor, Cond.code yX5_lengthsFor cX5_lengthsFor 4 (some (.array .int)), Cond.arrayClass .int, Cond.fieldLink RX5 59 "PassNotesModel" "passes" "I", Cond.fieldLink RX5 21 "PassNotesModel" "one" "[I", Cond.fieldLink RX5 24 "PassNotesModel" "other" "[I", Cond.methodLink RX5 117 yX5_isTaken, Cond.instanceMethod yX5_isTaken, Cond.selects RX5 yX5_isTaken yX5_isTaken, Cond.code yX5_isTaken cX5_isTaken 3 (some .boolean), Cond.methodLink RX5 114 yX5_isTold, Cond.instanceMethod yX5_isTold, Cond.selects RX5 yX5_isTold yX5_isTold, Cond.code yX5_isTold cX5_isTold 4 (some .boolean), Cond.methodLink RX5 78 yX5_isThere]
def wsX5_waysOf_r2 : List Cond := [Cond.instanceMethod yX5_isThere, Cond.selects RX5 yX5_isThere yX5_isThere, Cond.code yX5_isThere cX5_isThere 3 (some .boolean), Cond.methodLink RX5 62 yX5_of, Cond.instanceMethod yX5_of, Cond.selects RX5 yX5_of yX5_of, Cond.code yX5_of cX5_of 3 (some (.array .int)), Cond.fieldLink RX5 17 "PassNotesModel" "has" "[[I", Cond.methodLink RX5 76 yX5_has, Cond.static yX5_has, Cond.code yX5_has cX5_has 2 (some .boolean), Cond.methodLink RX5 120 yX5_shorten, Cond.static yX5_shorten, Cond.code yX5_shorten cX5_shorten 5 none, Cond.methodLink RX5 139 yX5_look, Cond.instanceMethod yX5_look, Cond.selects RX5 yX5_look yX5_look, Cond.code yX5_look cX5_look 7 none, Cond.arrayClass .boolean, Cond.fieldLink RX5 33 "PassNotesModel" "hops" "[I", Cond.fieldLink RX5 36 "PassNotesModel" "code" "[I", Cond.fieldLink RX5 39 "PassNotesModel" "first" "[I", Cond.methodLink RX5 128 yX5_reach, Cond.instanceMethod yX5_reach]
def wsX5_waysOf_r3 : List Cond := [Cond.selects RX5 yX5_reach yX5_reach, Cond.code yX5_reach cX5_reach 6 none, Cond.methodLink RX5 124 yX5_isBetter, Cond.instanceMethod yX5_isBetter, Cond.selects RX5 yX5_isBetter yX5_isBetter, Cond.code yX5_isBetter cX5_isBetter 5 (some .boolean), Cond.methodLink RX5 132 yX5_nearest, Cond.instanceMethod yX5_nearest, Cond.selects RX5 yX5_nearest yX5_nearest, Cond.code yX5_nearest cX5_nearest 4 (some .int)]
def wsX5_waysOf : List Cond := .code yX5_waysOf cX5_waysOf 4 (some .int) :: ((wsX5_waysOf_r1 ++ (wsX5_waysOf_r2 ++ wsX5_waysOf_r3)) ++ wsX50)
def wsX5_lettersOf_r1 : List Cond := [Cond.fieldLink RX5 52 "PassNotesModel" "huts" "I", Cond.methodLink RX5 152 yX5_lookAll, Cond.instanceMethod yX5_lookAll, Cond.selects RX5 yX5_lookAll yX5_lookAll, Cond.initialized RX5, Cond.code yX5_lookAll cX5_lookAll 3 none, Cond.fieldLink RX5 42 "PassNotesModel" "steps" "[I", Cond.fieldLink RX5 30 "PassNotesModel" "far" "[I", Cond.fieldLink RX5 39 "PassNotesModel" "first" "[I", Cond.methodLink RX5 143 yX5_lookBy, Cond.instanceMethod yX5_lookBy, Cond.selects RX5 yX5_lookBy yX5_lookBy, Cond.code yX5_lookBy cX5_lookBy 2 none, Cond.methodLink RX5 136 yX5_lengthsFor, Cond.instanceMethod yX5_lengthsFor, Cond.selects RX5 yX5_lengthsFor yX5_lengthsFor, Cond.code yX5_lengthsFor cX5_lengthsFor 4 (some (.array .int)), Cond.arrayClass .int, Cond.fieldLink RX5 59 "PassNotesModel" "passes" "I", Cond.fieldLink RX5 21 "PassNotesModel" "one" "[I", Cond.fieldLink RX5 24 "PassNotesModel" "other" "[I", Cond.methodLink RX5 117 yX5_isTaken, Cond.instanceMethod yX5_isTaken, Cond.selects RX5 yX5_isTaken yX5_isTaken]
def wsX5_lettersOf_r2 : List Cond := [Cond.code yX5_isTaken cX5_isTaken 3 (some .boolean), Cond.methodLink RX5 114 yX5_isTold, Cond.instanceMethod yX5_isTold, Cond.selects RX5 yX5_isTold yX5_isTold, Cond.code yX5_isTold cX5_isTold 4 (some .boolean), Cond.methodLink RX5 78 yX5_isThere, Cond.instanceMethod yX5_isThere, Cond.selects RX5 yX5_isThere yX5_isThere, Cond.code yX5_isThere cX5_isThere 3 (some .boolean), Cond.methodLink RX5 62 yX5_of, Cond.instanceMethod yX5_of, Cond.selects RX5 yX5_of yX5_of, Cond.code yX5_of cX5_of 3 (some (.array .int)), Cond.fieldLink RX5 17 "PassNotesModel" "has" "[[I", Cond.methodLink RX5 76 yX5_has, Cond.static yX5_has, Cond.code yX5_has cX5_has 2 (some .boolean), Cond.methodLink RX5 120 yX5_shorten, Cond.static yX5_shorten, Cond.code yX5_shorten cX5_shorten 5 none, Cond.methodLink RX5 139 yX5_look, Cond.instanceMethod yX5_look, Cond.selects RX5 yX5_look yX5_look, Cond.code yX5_look cX5_look 7 none]
def wsX5_lettersOf_r3 : List Cond := [Cond.arrayClass .boolean, Cond.fieldLink RX5 33 "PassNotesModel" "hops" "[I", Cond.fieldLink RX5 36 "PassNotesModel" "code" "[I", Cond.methodLink RX5 128 yX5_reach, Cond.instanceMethod yX5_reach, Cond.selects RX5 yX5_reach yX5_reach, Cond.code yX5_reach cX5_reach 6 none, Cond.methodLink RX5 124 yX5_isBetter, Cond.instanceMethod yX5_isBetter, Cond.selects RX5 yX5_isBetter yX5_isBetter, Cond.code yX5_isBetter cX5_isBetter 5 (some .boolean), Cond.methodLink RX5 132 yX5_nearest, Cond.instanceMethod yX5_nearest, Cond.selects RX5 yX5_nearest yX5_nearest, Cond.code yX5_nearest cX5_nearest 4 (some .int), Cond.methodLink RX5 155 yX5_letter, Cond.instanceMethod yX5_letter, Cond.selects RX5 yX5_letter yX5_letter, Cond.code yX5_letter cX5_letter 6 (some .int), Cond.methodLink RX5 146 yX5_isOpenBetween, Cond.instanceMethod yX5_isOpenBetween, Cond.selects RX5 yX5_isOpenBetween yX5_isOpenBetween, Cond.code yX5_isOpenBetween cX5_isOpenBetween 4 (some .boolean), Cond.fieldLink RX5 73 "PassNotesModel" "open" "I"]
def wsX5_lettersOf_r4 : List Cond := [Cond.methodLink RX5 69 yX5_isAt, Cond.instanceMethod yX5_isAt, Cond.selects RX5 yX5_isAt yX5_isAt, Cond.code yX5_isAt cX5_isAt 3 (some .boolean)]
def wsX5_lettersOf : List Cond := .code yX5_lettersOf cX5_lettersOf 4 (some .int) :: ((wsX5_lettersOf_r1 ++ (wsX5_lettersOf_r2 ++ (wsX5_lettersOf_r3 ++ wsX5_lettersOf_r4))) ++ wsX50)
def wsX5_hutTold_r1 : List Cond := [Cond.fieldLink RX5 9 "PassNotesModel" "area" "[I", Cond.fieldLink RX5 13 "PassNotesModel" "written" "[I", Cond.methodLink RX5 168 yX5_sheetsOf, Cond.instanceMethod yX5_sheetsOf, Cond.selects RX5 yX5_sheetsOf yX5_sheetsOf, Cond.initialized RX5, Cond.code yX5_sheetsOf cX5_sheetsOf 4 (some .int), Cond.fieldLink RX5 52 "PassNotesModel" "huts" "I", Cond.methodLink RX5 78 yX5_isThere, Cond.instanceMethod yX5_isThere, Cond.selects RX5 yX5_isThere yX5_isThere, Cond.code yX5_isThere cX5_isThere 3 (some .boolean), Cond.methodLink RX5 62 yX5_of, Cond.instanceMethod yX5_of, Cond.selects RX5 yX5_of yX5_of, Cond.code yX5_of cX5_of 3 (some (.array .int)), Cond.fieldLink RX5 17 "PassNotesModel" "has" "[[I", Cond.methodLink RX5 189 yX5_waysOf, Cond.instanceMethod yX5_waysOf, Cond.selects RX5 yX5_waysOf yX5_waysOf, Cond.code yX5_waysOf cX5_waysOf 4 (some .int), Cond.fieldLink RX5 30 "PassNotesModel" "far" "[I", Cond.methodLink RX5 143 yX5_lookBy, Cond.instanceMethod yX5_lookBy]
def wsX5_hutTold_r2 : List Cond := [Cond.selects RX5 yX5_lookBy yX5_lookBy, Cond.code yX5_lookBy cX5_lookBy 2 none, Cond.methodLink RX5 136 yX5_lengthsFor, Cond.instanceMethod yX5_lengthsFor, Cond.selects RX5 yX5_lengthsFor yX5_lengthsFor, Cond.code yX5_lengthsFor cX5_lengthsFor 4 (some (.array .int)), Cond.arrayClass .int, Cond.fieldLink RX5 59 "PassNotesModel" "passes" "I", Cond.fieldLink RX5 21 "PassNotesModel" "one" "[I", Cond.fieldLink RX5 24 "PassNotesModel" "other" "[I", Cond.methodLink RX5 117 yX5_isTaken, Cond.instanceMethod yX5_isTaken, Cond.selects RX5 yX5_isTaken yX5_isTaken, Cond.code yX5_isTaken cX5_isTaken 3 (some .boolean), Cond.methodLink RX5 114 yX5_isTold, Cond.instanceMethod yX5_isTold, Cond.selects RX5 yX5_isTold yX5_isTold, Cond.code yX5_isTold cX5_isTold 4 (some .boolean), Cond.methodLink RX5 76 yX5_has, Cond.static yX5_has, Cond.code yX5_has cX5_has 2 (some .boolean), Cond.methodLink RX5 120 yX5_shorten, Cond.static yX5_shorten, Cond.code yX5_shorten cX5_shorten 5 none]
def wsX5_hutTold_r3 : List Cond := [Cond.methodLink RX5 139 yX5_look, Cond.instanceMethod yX5_look, Cond.selects RX5 yX5_look yX5_look, Cond.code yX5_look cX5_look 7 none, Cond.arrayClass .boolean, Cond.fieldLink RX5 33 "PassNotesModel" "hops" "[I", Cond.fieldLink RX5 36 "PassNotesModel" "code" "[I", Cond.fieldLink RX5 39 "PassNotesModel" "first" "[I", Cond.methodLink RX5 128 yX5_reach, Cond.instanceMethod yX5_reach, Cond.selects RX5 yX5_reach yX5_reach, Cond.code yX5_reach cX5_reach 6 none, Cond.methodLink RX5 124 yX5_isBetter, Cond.instanceMethod yX5_isBetter, Cond.selects RX5 yX5_isBetter yX5_isBetter, Cond.code yX5_isBetter cX5_isBetter 5 (some .boolean), Cond.methodLink RX5 132 yX5_nearest, Cond.instanceMethod yX5_nearest, Cond.selects RX5 yX5_nearest yX5_nearest, Cond.code yX5_nearest cX5_nearest 4 (some .int), Cond.methodLink RX5 192 yX5_lettersOf, Cond.instanceMethod yX5_lettersOf, Cond.selects RX5 yX5_lettersOf yX5_lettersOf, Cond.code yX5_lettersOf cX5_lettersOf 4 (some .int)]
def wsX5_hutTold_r4 : List Cond := [Cond.methodLink RX5 152 yX5_lookAll, Cond.instanceMethod yX5_lookAll, Cond.selects RX5 yX5_lookAll yX5_lookAll, Cond.code yX5_lookAll cX5_lookAll 3 none, Cond.fieldLink RX5 42 "PassNotesModel" "steps" "[I", Cond.methodLink RX5 155 yX5_letter, Cond.instanceMethod yX5_letter, Cond.selects RX5 yX5_letter yX5_letter, Cond.code yX5_letter cX5_letter 6 (some .int), Cond.methodLink RX5 146 yX5_isOpenBetween, Cond.instanceMethod yX5_isOpenBetween, Cond.selects RX5 yX5_isOpenBetween yX5_isOpenBetween, Cond.code yX5_isOpenBetween cX5_isOpenBetween 4 (some .boolean), Cond.fieldLink RX5 73 "PassNotesModel" "open" "I", Cond.methodLink RX5 69 yX5_isAt, Cond.instanceMethod yX5_isAt, Cond.selects RX5 yX5_isAt yX5_isAt, Cond.code yX5_isAt cX5_isAt 3 (some .boolean)]
def wsX5_hutTold : List Cond := .code yX5_hutTold cX5_hutTold 3 (some .int) :: ((wsX5_hutTold_r1 ++ (wsX5_hutTold_r2 ++ (wsX5_hutTold_r3 ++ wsX5_hutTold_r4))) ++ wsX50)
def wsX5_told_r1 : List Cond := [Cond.fieldLink RX5 48 "PassNotesModel" "thrown" "I", Cond.methodLink RX5 162 yX5_isHut, Cond.instanceMethod yX5_isHut, Cond.selects RX5 yX5_isHut yX5_isHut, Cond.initialized RX5, Cond.code yX5_isHut cX5_isHut 2 (some .boolean), Cond.fieldLink RX5 52 "PassNotesModel" "huts" "I", Cond.methodLink RX5 55 yX5_isIn, Cond.static yX5_isIn, Cond.code yX5_isIn cX5_isIn 3 (some .boolean), Cond.methodLink RX5 195 yX5_hutTold, Cond.instanceMethod yX5_hutTold, Cond.selects RX5 yX5_hutTold yX5_hutTold, Cond.code yX5_hutTold cX5_hutTold 3 (some .int), Cond.fieldLink RX5 9 "PassNotesModel" "area" "[I", Cond.fieldLink RX5 13 "PassNotesModel" "written" "[I", Cond.methodLink RX5 168 yX5_sheetsOf, Cond.instanceMethod yX5_sheetsOf, Cond.selects RX5 yX5_sheetsOf yX5_sheetsOf, Cond.code yX5_sheetsOf cX5_sheetsOf 4 (some .int), Cond.methodLink RX5 78 yX5_isThere, Cond.instanceMethod yX5_isThere, Cond.selects RX5 yX5_isThere yX5_isThere, Cond.code yX5_isThere cX5_isThere 3 (some .boolean)]
def wsX5_told_r2 : List Cond := [Cond.methodLink RX5 62 yX5_of, Cond.instanceMethod yX5_of, Cond.selects RX5 yX5_of yX5_of, Cond.code yX5_of cX5_of 3 (some (.array .int)), Cond.fieldLink RX5 17 "PassNotesModel" "has" "[[I", Cond.methodLink RX5 189 yX5_waysOf, Cond.instanceMethod yX5_waysOf, Cond.selects RX5 yX5_waysOf yX5_waysOf, Cond.code yX5_waysOf cX5_waysOf 4 (some .int), Cond.fieldLink RX5 30 "PassNotesModel" "far" "[I", Cond.methodLink RX5 143 yX5_lookBy, Cond.instanceMethod yX5_lookBy, Cond.selects RX5 yX5_lookBy yX5_lookBy, Cond.code yX5_lookBy cX5_lookBy 2 none, Cond.methodLink RX5 136 yX5_lengthsFor, Cond.instanceMethod yX5_lengthsFor, Cond.selects RX5 yX5_lengthsFor yX5_lengthsFor, Cond.code yX5_lengthsFor cX5_lengthsFor 4 (some (.array .int)), Cond.arrayClass .int, Cond.fieldLink RX5 59 "PassNotesModel" "passes" "I", Cond.fieldLink RX5 21 "PassNotesModel" "one" "[I", Cond.fieldLink RX5 24 "PassNotesModel" "other" "[I", Cond.methodLink RX5 117 yX5_isTaken, Cond.instanceMethod yX5_isTaken]
def wsX5_told_r3 : List Cond := [Cond.selects RX5 yX5_isTaken yX5_isTaken, Cond.code yX5_isTaken cX5_isTaken 3 (some .boolean), Cond.methodLink RX5 114 yX5_isTold, Cond.instanceMethod yX5_isTold, Cond.selects RX5 yX5_isTold yX5_isTold, Cond.code yX5_isTold cX5_isTold 4 (some .boolean), Cond.methodLink RX5 76 yX5_has, Cond.static yX5_has, Cond.code yX5_has cX5_has 2 (some .boolean), Cond.methodLink RX5 120 yX5_shorten, Cond.static yX5_shorten, Cond.code yX5_shorten cX5_shorten 5 none, Cond.methodLink RX5 139 yX5_look, Cond.instanceMethod yX5_look, Cond.selects RX5 yX5_look yX5_look, Cond.code yX5_look cX5_look 7 none, Cond.arrayClass .boolean, Cond.fieldLink RX5 33 "PassNotesModel" "hops" "[I", Cond.fieldLink RX5 36 "PassNotesModel" "code" "[I", Cond.fieldLink RX5 39 "PassNotesModel" "first" "[I", Cond.methodLink RX5 128 yX5_reach, Cond.instanceMethod yX5_reach, Cond.selects RX5 yX5_reach yX5_reach, Cond.code yX5_reach cX5_reach 6 none]
def wsX5_told_r4 : List Cond := [Cond.methodLink RX5 124 yX5_isBetter, Cond.instanceMethod yX5_isBetter, Cond.selects RX5 yX5_isBetter yX5_isBetter, Cond.code yX5_isBetter cX5_isBetter 5 (some .boolean), Cond.methodLink RX5 132 yX5_nearest, Cond.instanceMethod yX5_nearest, Cond.selects RX5 yX5_nearest yX5_nearest, Cond.code yX5_nearest cX5_nearest 4 (some .int), Cond.methodLink RX5 192 yX5_lettersOf, Cond.instanceMethod yX5_lettersOf, Cond.selects RX5 yX5_lettersOf yX5_lettersOf, Cond.code yX5_lettersOf cX5_lettersOf 4 (some .int), Cond.methodLink RX5 152 yX5_lookAll, Cond.instanceMethod yX5_lookAll, Cond.selects RX5 yX5_lookAll yX5_lookAll, Cond.code yX5_lookAll cX5_lookAll 3 none, Cond.fieldLink RX5 42 "PassNotesModel" "steps" "[I", Cond.methodLink RX5 155 yX5_letter, Cond.instanceMethod yX5_letter, Cond.selects RX5 yX5_letter yX5_letter, Cond.code yX5_letter cX5_letter 6 (some .int), Cond.methodLink RX5 146 yX5_isOpenBetween, Cond.instanceMethod yX5_isOpenBetween, Cond.selects RX5 yX5_isOpenBetween yX5_isOpenBetween]
def wsX5_told_r5 : List Cond := [Cond.code yX5_isOpenBetween cX5_isOpenBetween 4 (some .boolean), Cond.fieldLink RX5 73 "PassNotesModel" "open" "I", Cond.methodLink RX5 69 yX5_isAt, Cond.instanceMethod yX5_isAt, Cond.selects RX5 yX5_isAt yX5_isAt, Cond.code yX5_isAt cX5_isAt 3 (some .boolean), Cond.methodLink RX5 158 yX5_no, Cond.instanceMethod yX5_no, Cond.selects RX5 yX5_no yX5_no, Cond.code yX5_no cX5_no 2 (some .int)]
def wsX5_told : List Cond := .code yX5_told cX5_told 3 (some .int) :: ((wsX5_told_r1 ++ (wsX5_told_r2 ++ (wsX5_told_r3 ++ (wsX5_told_r4 ++ wsX5_told_r5)))) ++ wsX50)
def wsX5_sheets : List Cond := .code yX5_sheets cX5_sheets 3 (some .int) :: ([.fieldLink RX5 52 "PassNotesModel" "huts" "I", .methodLink RX5 168 yX5_sheetsOf, .instanceMethod yX5_sheetsOf, .selects RX5 yX5_sheetsOf yX5_sheetsOf, .initialized RX5, .code yX5_sheetsOf cX5_sheetsOf 4 (some .int), .methodLink RX5 78 yX5_isThere, .instanceMethod yX5_isThere, .selects RX5 yX5_isThere yX5_isThere, .code yX5_isThere cX5_isThere 3 (some .boolean), .methodLink RX5 62 yX5_of, .instanceMethod yX5_of, .selects RX5 yX5_of yX5_of, .code yX5_of cX5_of 3 (some (.array .int)), .fieldLink RX5 17 "PassNotesModel" "has" "[[I"] ++ wsX50)
def wsX5_counted_r1 : List Cond := [Cond.fieldLink RX5 66 "PassNotesModel" "minute" "I", Cond.fieldLink RX5 52 "PassNotesModel" "huts" "I", Cond.fieldLink RX5 59 "PassNotesModel" "passes" "I", Cond.fieldLink RX5 73 "PassNotesModel" "open" "I", Cond.methodLink RX5 171 yJ6_bitCount_0f7a4, Cond.static yJ6_bitCount_0f7a4, Cond.initialized RJ6, Cond.code yJ6_bitCount_0f7a4 cJ6_bitCount_0f7a4 1 (some .int), Cond.constant RJ6 265 (1431655765), Cond.constant RJ6 266 (858993459), Cond.constant RJ6 267 (252645135), Cond.methodLink RX5 198 yX5_sheets, Cond.instanceMethod yX5_sheets, Cond.selects RX5 yX5_sheets yX5_sheets, Cond.initialized RX5, Cond.code yX5_sheets cX5_sheets 3 (some .int), Cond.methodLink RX5 168 yX5_sheetsOf, Cond.instanceMethod yX5_sheetsOf, Cond.selects RX5 yX5_sheetsOf yX5_sheetsOf, Cond.code yX5_sheetsOf cX5_sheetsOf 4 (some .int), Cond.methodLink RX5 78 yX5_isThere, Cond.instanceMethod yX5_isThere, Cond.selects RX5 yX5_isThere yX5_isThere, Cond.code yX5_isThere cX5_isThere 3 (some .boolean)]
def wsX5_counted_r2 : List Cond := [Cond.methodLink RX5 62 yX5_of, Cond.instanceMethod yX5_of, Cond.selects RX5 yX5_of yX5_of, Cond.code yX5_of cX5_of 3 (some (.array .int)), Cond.fieldLink RX5 17 "PassNotesModel" "has" "[[I", Cond.methodLink RX5 202 yX5_letters, Cond.instanceMethod yX5_letters, Cond.selects RX5 yX5_letters yX5_letters, Cond.code yX5_letters cX5_letters 4 (some .int), Cond.methodLink RX5 152 yX5_lookAll, Cond.instanceMethod yX5_lookAll, Cond.selects RX5 yX5_lookAll yX5_lookAll, Cond.code yX5_lookAll cX5_lookAll 3 none, Cond.fieldLink RX5 42 "PassNotesModel" "steps" "[I", Cond.fieldLink RX5 30 "PassNotesModel" "far" "[I", Cond.fieldLink RX5 39 "PassNotesModel" "first" "[I", Cond.methodLink RX5 143 yX5_lookBy, Cond.instanceMethod yX5_lookBy, Cond.selects RX5 yX5_lookBy yX5_lookBy, Cond.code yX5_lookBy cX5_lookBy 2 none, Cond.methodLink RX5 136 yX5_lengthsFor, Cond.instanceMethod yX5_lengthsFor, Cond.selects RX5 yX5_lengthsFor yX5_lengthsFor, Cond.code yX5_lengthsFor cX5_lengthsFor 4 (some (.array .int))]
def wsX5_counted_r3 : List Cond := [Cond.arrayClass .int, Cond.fieldLink RX5 21 "PassNotesModel" "one" "[I", Cond.fieldLink RX5 24 "PassNotesModel" "other" "[I", Cond.methodLink RX5 117 yX5_isTaken, Cond.instanceMethod yX5_isTaken, Cond.selects RX5 yX5_isTaken yX5_isTaken, Cond.code yX5_isTaken cX5_isTaken 3 (some .boolean), Cond.methodLink RX5 114 yX5_isTold, Cond.instanceMethod yX5_isTold, Cond.selects RX5 yX5_isTold yX5_isTold, Cond.code yX5_isTold cX5_isTold 4 (some .boolean), Cond.methodLink RX5 76 yX5_has, Cond.static yX5_has, Cond.code yX5_has cX5_has 2 (some .boolean), Cond.methodLink RX5 120 yX5_shorten, Cond.static yX5_shorten, Cond.code yX5_shorten cX5_shorten 5 none, Cond.methodLink RX5 139 yX5_look, Cond.instanceMethod yX5_look, Cond.selects RX5 yX5_look yX5_look, Cond.code yX5_look cX5_look 7 none, Cond.arrayClass .boolean, Cond.fieldLink RX5 33 "PassNotesModel" "hops" "[I", Cond.fieldLink RX5 36 "PassNotesModel" "code" "[I"]
def wsX5_counted_r4 : List Cond := [Cond.methodLink RX5 128 yX5_reach, Cond.instanceMethod yX5_reach, Cond.selects RX5 yX5_reach yX5_reach, Cond.code yX5_reach cX5_reach 6 none, Cond.methodLink RX5 124 yX5_isBetter, Cond.instanceMethod yX5_isBetter, Cond.selects RX5 yX5_isBetter yX5_isBetter, Cond.code yX5_isBetter cX5_isBetter 5 (some .boolean), Cond.methodLink RX5 132 yX5_nearest, Cond.instanceMethod yX5_nearest, Cond.selects RX5 yX5_nearest yX5_nearest, Cond.code yX5_nearest cX5_nearest 4 (some .int), Cond.methodLink RX5 155 yX5_letter, Cond.instanceMethod yX5_letter, Cond.selects RX5 yX5_letter yX5_letter, Cond.code yX5_letter cX5_letter 6 (some .int), Cond.methodLink RX5 146 yX5_isOpenBetween, Cond.instanceMethod yX5_isOpenBetween, Cond.selects RX5 yX5_isOpenBetween yX5_isOpenBetween, Cond.code yX5_isOpenBetween cX5_isOpenBetween 4 (some .boolean), Cond.methodLink RX5 69 yX5_isAt, Cond.instanceMethod yX5_isAt, Cond.selects RX5 yX5_isAt yX5_isAt, Cond.code yX5_isAt cX5_isAt 3 (some .boolean)]
def wsX5_counted_r5 : List Cond := [Cond.methodLink RX5 205 yX5_pairsOver, Cond.instanceMethod yX5_pairsOver, Cond.selects RX5 yX5_pairsOver yX5_pairsOver, Cond.code yX5_pairsOver cX5_pairsOver 6 (some .int), Cond.methodLink RX5 149 yX5_lengthsNow, Cond.instanceMethod yX5_lengthsNow, Cond.selects RX5 yX5_lengthsNow yX5_lengthsNow, Cond.code yX5_lengthsNow cX5_lengthsNow 4 (some (.array .int)), Cond.fieldLink RX5 27 "PassNotesModel" "length" "[I"]
def wsX5_counted : List Cond := .code yX5_counted cX5_counted 2 (some .int) :: ((wsX5_counted_r1 ++ (wsX5_counted_r2 ++ (wsX5_counted_r3 ++ (wsX5_counted_r4 ++ wsX5_counted_r5)))) ++ wsX50)
def wsX5_count_r1 : List Cond := [Cond.fieldLink RX5 48 "PassNotesModel" "thrown" "I", Cond.methodLink RX5 55 yX5_isIn, Cond.static yX5_isIn, Cond.initialized RX5, Cond.code yX5_isIn cX5_isIn 3 (some .boolean), Cond.methodLink RX5 208 yX5_counted, Cond.instanceMethod yX5_counted, Cond.selects RX5 yX5_counted yX5_counted, Cond.code yX5_counted cX5_counted 2 (some .int), Cond.fieldLink RX5 66 "PassNotesModel" "minute" "I", Cond.fieldLink RX5 52 "PassNotesModel" "huts" "I", Cond.fieldLink RX5 59 "PassNotesModel" "passes" "I", Cond.fieldLink RX5 73 "PassNotesModel" "open" "I", Cond.methodLink RX5 171 yJ6_bitCount_0f7a4, Cond.static yJ6_bitCount_0f7a4, Cond.initialized RJ6, Cond.code yJ6_bitCount_0f7a4 cJ6_bitCount_0f7a4 1 (some .int), Cond.constant RJ6 265 (1431655765), Cond.constant RJ6 266 (858993459), Cond.constant RJ6 267 (252645135), Cond.methodLink RX5 198 yX5_sheets, Cond.instanceMethod yX5_sheets, Cond.selects RX5 yX5_sheets yX5_sheets, Cond.code yX5_sheets cX5_sheets 3 (some .int)]
def wsX5_count_r2 : List Cond := [Cond.methodLink RX5 168 yX5_sheetsOf, Cond.instanceMethod yX5_sheetsOf, Cond.selects RX5 yX5_sheetsOf yX5_sheetsOf, Cond.code yX5_sheetsOf cX5_sheetsOf 4 (some .int), Cond.methodLink RX5 78 yX5_isThere, Cond.instanceMethod yX5_isThere, Cond.selects RX5 yX5_isThere yX5_isThere, Cond.code yX5_isThere cX5_isThere 3 (some .boolean), Cond.methodLink RX5 62 yX5_of, Cond.instanceMethod yX5_of, Cond.selects RX5 yX5_of yX5_of, Cond.code yX5_of cX5_of 3 (some (.array .int)), Cond.fieldLink RX5 17 "PassNotesModel" "has" "[[I", Cond.methodLink RX5 202 yX5_letters, Cond.instanceMethod yX5_letters, Cond.selects RX5 yX5_letters yX5_letters, Cond.code yX5_letters cX5_letters 4 (some .int), Cond.methodLink RX5 152 yX5_lookAll, Cond.instanceMethod yX5_lookAll, Cond.selects RX5 yX5_lookAll yX5_lookAll, Cond.code yX5_lookAll cX5_lookAll 3 none, Cond.fieldLink RX5 42 "PassNotesModel" "steps" "[I", Cond.fieldLink RX5 30 "PassNotesModel" "far" "[I", Cond.fieldLink RX5 39 "PassNotesModel" "first" "[I"]
def wsX5_count_r3 : List Cond := [Cond.methodLink RX5 143 yX5_lookBy, Cond.instanceMethod yX5_lookBy, Cond.selects RX5 yX5_lookBy yX5_lookBy, Cond.code yX5_lookBy cX5_lookBy 2 none, Cond.methodLink RX5 136 yX5_lengthsFor, Cond.instanceMethod yX5_lengthsFor, Cond.selects RX5 yX5_lengthsFor yX5_lengthsFor, Cond.code yX5_lengthsFor cX5_lengthsFor 4 (some (.array .int)), Cond.arrayClass .int, Cond.fieldLink RX5 21 "PassNotesModel" "one" "[I", Cond.fieldLink RX5 24 "PassNotesModel" "other" "[I", Cond.methodLink RX5 117 yX5_isTaken, Cond.instanceMethod yX5_isTaken, Cond.selects RX5 yX5_isTaken yX5_isTaken, Cond.code yX5_isTaken cX5_isTaken 3 (some .boolean), Cond.methodLink RX5 114 yX5_isTold, Cond.instanceMethod yX5_isTold, Cond.selects RX5 yX5_isTold yX5_isTold, Cond.code yX5_isTold cX5_isTold 4 (some .boolean), Cond.methodLink RX5 76 yX5_has, Cond.static yX5_has, Cond.code yX5_has cX5_has 2 (some .boolean), Cond.methodLink RX5 120 yX5_shorten, Cond.static yX5_shorten]
def wsX5_count_r4 : List Cond := [Cond.code yX5_shorten cX5_shorten 5 none, Cond.methodLink RX5 139 yX5_look, Cond.instanceMethod yX5_look, Cond.selects RX5 yX5_look yX5_look, Cond.code yX5_look cX5_look 7 none, Cond.arrayClass .boolean, Cond.fieldLink RX5 33 "PassNotesModel" "hops" "[I", Cond.fieldLink RX5 36 "PassNotesModel" "code" "[I", Cond.methodLink RX5 128 yX5_reach, Cond.instanceMethod yX5_reach, Cond.selects RX5 yX5_reach yX5_reach, Cond.code yX5_reach cX5_reach 6 none, Cond.methodLink RX5 124 yX5_isBetter, Cond.instanceMethod yX5_isBetter, Cond.selects RX5 yX5_isBetter yX5_isBetter, Cond.code yX5_isBetter cX5_isBetter 5 (some .boolean), Cond.methodLink RX5 132 yX5_nearest, Cond.instanceMethod yX5_nearest, Cond.selects RX5 yX5_nearest yX5_nearest, Cond.code yX5_nearest cX5_nearest 4 (some .int), Cond.methodLink RX5 155 yX5_letter, Cond.instanceMethod yX5_letter, Cond.selects RX5 yX5_letter yX5_letter, Cond.code yX5_letter cX5_letter 6 (some .int)]
def wsX5_count_r5 : List Cond := [Cond.methodLink RX5 146 yX5_isOpenBetween, Cond.instanceMethod yX5_isOpenBetween, Cond.selects RX5 yX5_isOpenBetween yX5_isOpenBetween, Cond.code yX5_isOpenBetween cX5_isOpenBetween 4 (some .boolean), Cond.methodLink RX5 69 yX5_isAt, Cond.instanceMethod yX5_isAt, Cond.selects RX5 yX5_isAt yX5_isAt, Cond.code yX5_isAt cX5_isAt 3 (some .boolean), Cond.methodLink RX5 205 yX5_pairsOver, Cond.instanceMethod yX5_pairsOver, Cond.selects RX5 yX5_pairsOver yX5_pairsOver, Cond.code yX5_pairsOver cX5_pairsOver 6 (some .int), Cond.methodLink RX5 149 yX5_lengthsNow, Cond.instanceMethod yX5_lengthsNow, Cond.selects RX5 yX5_lengthsNow yX5_lengthsNow, Cond.code yX5_lengthsNow cX5_lengthsNow 4 (some (.array .int)), Cond.fieldLink RX5 27 "PassNotesModel" "length" "[I", Cond.methodLink RX5 158 yX5_no, Cond.instanceMethod yX5_no, Cond.selects RX5 yX5_no yX5_no, Cond.code yX5_no cX5_no 2 (some .int)]
def wsX5_count : List Cond := .code yX5_count cX5_count 2 (some .int) :: ((wsX5_count_r1 ++ (wsX5_count_r2 ++ (wsX5_count_r3 ++ (wsX5_count_r4 ++ wsX5_count_r5)))) ++ wsX50)
def wsX5_stepAll_r1 : List Cond := [Cond.methodLink RX5 211 yX5_step, Cond.instanceMethod yX5_step, Cond.selects RX5 yX5_step yX5_step, Cond.initialized RX5, Cond.code yX5_step cX5_step 4 (some .int), Cond.fieldLink RX5 52 "PassNotesModel" "huts" "I", Cond.classLink RX5 16 "[I", Cond.fieldLink RX5 17 "PassNotesModel" "has" "[[I", Cond.methodLink RX5 104 arraycopyName, Cond.native arraycopyName, Cond.static arraycopyName, Cond.initialized "java/lang/System", Cond.fieldLink RX5 59 "PassNotesModel" "passes" "I", Cond.fieldLink RX5 73 "PassNotesModel" "open" "I", Cond.fieldLink RX5 21 "PassNotesModel" "one" "[I", Cond.fieldLink RX5 24 "PassNotesModel" "other" "[I", Cond.fieldLink RX5 66 "PassNotesModel" "minute" "I", Cond.fieldLink RX5 45 "PassNotesModel" "NO_SHEET" "[I", Cond.methodLink RX5 96 yX5_isDue, Cond.instanceMethod yX5_isDue, Cond.selects RX5 yX5_isDue yX5_isDue, Cond.code yX5_isDue cX5_isDue 2 (some .boolean), Cond.methodLink RX5 78 yX5_isThere, Cond.instanceMethod yX5_isThere]
def wsX5_stepAll_r2 : List Cond := [Cond.selects RX5 yX5_isThere yX5_isThere, Cond.code yX5_isThere cX5_isThere 3 (some .boolean), Cond.methodLink RX5 62 yX5_of, Cond.instanceMethod yX5_of, Cond.selects RX5 yX5_of yX5_of, Cond.code yX5_of cX5_of 3 (some (.array .int)), Cond.methodLink RX5 81 yX5_age, Cond.instanceMethod yX5_age, Cond.selects RX5 yX5_age yX5_age, Cond.code yX5_age cX5_age 3 (some .int), Cond.methodLink RX5 85 yX5_isTrue, Cond.instanceMethod yX5_isTrue, Cond.selects RX5 yX5_isTrue yX5_isTrue, Cond.code yX5_isTrue cX5_isTrue 5 (some .boolean), Cond.fieldLink RX5 27 "PassNotesModel" "length" "[I", Cond.methodLink RX5 69 yX5_isAt, Cond.instanceMethod yX5_isAt, Cond.selects RX5 yX5_isAt yX5_isAt, Cond.code yX5_isAt cX5_isAt 3 (some .boolean), Cond.methodLink RX5 76 yX5_has, Cond.static yX5_has, Cond.code yX5_has cX5_has 2 (some .boolean), Cond.methodLink RX5 100 yX5_write, Cond.instanceMethod yX5_write]
def wsX5_stepAll_r3 : List Cond := [Cond.selects RX5 yX5_write yX5_write, Cond.code yX5_write cX5_write 2 none, Cond.fieldLink RX5 13 "PassNotesModel" "written" "[I", Cond.methodLink RX5 89 yX5_sheetNow, Cond.instanceMethod yX5_sheetNow, Cond.selects RX5 yX5_sheetNow yX5_sheetNow, Cond.code yX5_sheetNow cX5_sheetNow 4 (some (.array .int)), Cond.arrayClass .int, Cond.methodLink RX5 110 yX5_carry, Cond.instanceMethod yX5_carry, Cond.selects RX5 yX5_carry yX5_carry, Cond.code yX5_carry cX5_carry 7 none, Cond.methodLink RX5 93 yX5_takes, Cond.instanceMethod yX5_takes, Cond.selects RX5 yX5_takes yX5_takes, Cond.code yX5_takes cX5_takes 3 (some .boolean), Cond.fieldLink RX5 9 "PassNotesModel" "area" "[I"]
def wsX5_stepAll : List Cond := .code yX5_stepAll cX5_stepAll 4 (some .int) :: ((wsX5_stepAll_r1 ++ (wsX5_stepAll_r2 ++ wsX5_stepAll_r3)) ++ wsX50)
def wsX5_go_r1 : List Cond := [Cond.fieldLink RX5 48 "PassNotesModel" "thrown" "I", Cond.methodLink RX5 55 yX5_isIn, Cond.static yX5_isIn, Cond.initialized RX5, Cond.code yX5_isIn cX5_isIn 3 (some .boolean), Cond.methodLink RX5 214 yX5_stepAll, Cond.instanceMethod yX5_stepAll, Cond.selects RX5 yX5_stepAll yX5_stepAll, Cond.code yX5_stepAll cX5_stepAll 4 (some .int), Cond.methodLink RX5 211 yX5_step, Cond.instanceMethod yX5_step, Cond.selects RX5 yX5_step yX5_step, Cond.code yX5_step cX5_step 4 (some .int), Cond.fieldLink RX5 52 "PassNotesModel" "huts" "I", Cond.classLink RX5 16 "[I", Cond.fieldLink RX5 17 "PassNotesModel" "has" "[[I", Cond.methodLink RX5 104 arraycopyName, Cond.native arraycopyName, Cond.static arraycopyName, Cond.initialized "java/lang/System", Cond.fieldLink RX5 59 "PassNotesModel" "passes" "I", Cond.fieldLink RX5 73 "PassNotesModel" "open" "I", Cond.fieldLink RX5 21 "PassNotesModel" "one" "[I", Cond.fieldLink RX5 24 "PassNotesModel" "other" "[I"]
def wsX5_go_r2 : List Cond := [Cond.fieldLink RX5 66 "PassNotesModel" "minute" "I", Cond.fieldLink RX5 45 "PassNotesModel" "NO_SHEET" "[I", Cond.methodLink RX5 96 yX5_isDue, Cond.instanceMethod yX5_isDue, Cond.selects RX5 yX5_isDue yX5_isDue, Cond.code yX5_isDue cX5_isDue 2 (some .boolean), Cond.methodLink RX5 78 yX5_isThere, Cond.instanceMethod yX5_isThere, Cond.selects RX5 yX5_isThere yX5_isThere, Cond.code yX5_isThere cX5_isThere 3 (some .boolean), Cond.methodLink RX5 62 yX5_of, Cond.instanceMethod yX5_of, Cond.selects RX5 yX5_of yX5_of, Cond.code yX5_of cX5_of 3 (some (.array .int)), Cond.methodLink RX5 81 yX5_age, Cond.instanceMethod yX5_age, Cond.selects RX5 yX5_age yX5_age, Cond.code yX5_age cX5_age 3 (some .int), Cond.methodLink RX5 85 yX5_isTrue, Cond.instanceMethod yX5_isTrue, Cond.selects RX5 yX5_isTrue yX5_isTrue, Cond.code yX5_isTrue cX5_isTrue 5 (some .boolean), Cond.fieldLink RX5 27 "PassNotesModel" "length" "[I", Cond.methodLink RX5 69 yX5_isAt]
def wsX5_go_r3 : List Cond := [Cond.instanceMethod yX5_isAt, Cond.selects RX5 yX5_isAt yX5_isAt, Cond.code yX5_isAt cX5_isAt 3 (some .boolean), Cond.methodLink RX5 76 yX5_has, Cond.static yX5_has, Cond.code yX5_has cX5_has 2 (some .boolean), Cond.methodLink RX5 100 yX5_write, Cond.instanceMethod yX5_write, Cond.selects RX5 yX5_write yX5_write, Cond.code yX5_write cX5_write 2 none, Cond.fieldLink RX5 13 "PassNotesModel" "written" "[I", Cond.methodLink RX5 89 yX5_sheetNow, Cond.instanceMethod yX5_sheetNow, Cond.selects RX5 yX5_sheetNow yX5_sheetNow, Cond.code yX5_sheetNow cX5_sheetNow 4 (some (.array .int)), Cond.arrayClass .int, Cond.methodLink RX5 110 yX5_carry, Cond.instanceMethod yX5_carry, Cond.selects RX5 yX5_carry yX5_carry, Cond.code yX5_carry cX5_carry 7 none, Cond.methodLink RX5 93 yX5_takes, Cond.instanceMethod yX5_takes, Cond.selects RX5 yX5_takes yX5_takes, Cond.code yX5_takes cX5_takes 3 (some .boolean)]
def wsX5_go_r4 : List Cond := [Cond.fieldLink RX5 9 "PassNotesModel" "area" "[I", Cond.methodLink RX5 158 yX5_no, Cond.instanceMethod yX5_no, Cond.selects RX5 yX5_no yX5_no, Cond.code yX5_no cX5_no 2 (some .int)]
def wsX5_go : List Cond := .code yX5_go cX5_go 2 (some .int) :: ((wsX5_go_r1 ++ (wsX5_go_r2 ++ (wsX5_go_r3 ++ wsX5_go_r4))) ++ wsX50)
def wsX5_keepBy : List Cond := .code yX5_keepBy cX5_keepBy 4 none :: ([.fieldLink RX5 17 "PassNotesModel" "has" "[[I", .fieldLink RX5 13 "PassNotesModel" "written" "[I", .fieldLink RX5 66 "PassNotesModel" "minute" "I"] ++ wsX50)
def wsX5_part : List Cond := .code yX5_part cX5_part 3 none :: ([.classLink RX5 16 "[I", .fieldLink RX5 17 "PassNotesModel" "has" "[[I", .methodLink RX5 104 arraycopyName, .native arraycopyName, .static arraycopyName, .initialized "java/lang/System", .arrayClass .int, .fieldLink RX5 13 "PassNotesModel" "written" "[I", .fieldLink RX5 66 "PassNotesModel" "minute" "I", .methodLink RX5 217 yX5_keepBy, .instanceMethod yX5_keepBy, .selects RX5 yX5_keepBy yX5_keepBy, .initialized RX5, .code yX5_keepBy cX5_keepBy 4 none] ++ wsX50)
def wsX5_foreseen_r1 : List Cond := [Cond.fieldLink RX5 17 "PassNotesModel" "has" "[[I", Cond.fieldLink RX5 13 "PassNotesModel" "written" "[I", Cond.fieldLink RX5 66 "PassNotesModel" "minute" "I", Cond.methodLink RX5 221 yX5_part, Cond.instanceMethod yX5_part, Cond.selects RX5 yX5_part yX5_part, Cond.initialized RX5, Cond.code yX5_part cX5_part 3 none, Cond.classLink RX5 16 "[I", Cond.methodLink RX5 104 arraycopyName, Cond.native arraycopyName, Cond.static arraycopyName, Cond.initialized "java/lang/System", Cond.arrayClass .int, Cond.methodLink RX5 217 yX5_keepBy, Cond.instanceMethod yX5_keepBy, Cond.selects RX5 yX5_keepBy yX5_keepBy, Cond.code yX5_keepBy cX5_keepBy 4 none, Cond.methodLink RX5 214 yX5_stepAll, Cond.instanceMethod yX5_stepAll, Cond.selects RX5 yX5_stepAll yX5_stepAll, Cond.code yX5_stepAll cX5_stepAll 4 (some .int), Cond.methodLink RX5 211 yX5_step, Cond.instanceMethod yX5_step]
def wsX5_foreseen_r2 : List Cond := [Cond.selects RX5 yX5_step yX5_step, Cond.code yX5_step cX5_step 4 (some .int), Cond.fieldLink RX5 52 "PassNotesModel" "huts" "I", Cond.fieldLink RX5 59 "PassNotesModel" "passes" "I", Cond.fieldLink RX5 73 "PassNotesModel" "open" "I", Cond.fieldLink RX5 21 "PassNotesModel" "one" "[I", Cond.fieldLink RX5 24 "PassNotesModel" "other" "[I", Cond.fieldLink RX5 45 "PassNotesModel" "NO_SHEET" "[I", Cond.methodLink RX5 96 yX5_isDue, Cond.instanceMethod yX5_isDue, Cond.selects RX5 yX5_isDue yX5_isDue, Cond.code yX5_isDue cX5_isDue 2 (some .boolean), Cond.methodLink RX5 78 yX5_isThere, Cond.instanceMethod yX5_isThere, Cond.selects RX5 yX5_isThere yX5_isThere, Cond.code yX5_isThere cX5_isThere 3 (some .boolean), Cond.methodLink RX5 62 yX5_of, Cond.instanceMethod yX5_of, Cond.selects RX5 yX5_of yX5_of, Cond.code yX5_of cX5_of 3 (some (.array .int)), Cond.methodLink RX5 81 yX5_age, Cond.instanceMethod yX5_age, Cond.selects RX5 yX5_age yX5_age, Cond.code yX5_age cX5_age 3 (some .int)]
def wsX5_foreseen_r3 : List Cond := [Cond.methodLink RX5 85 yX5_isTrue, Cond.instanceMethod yX5_isTrue, Cond.selects RX5 yX5_isTrue yX5_isTrue, Cond.code yX5_isTrue cX5_isTrue 5 (some .boolean), Cond.fieldLink RX5 27 "PassNotesModel" "length" "[I", Cond.methodLink RX5 69 yX5_isAt, Cond.instanceMethod yX5_isAt, Cond.selects RX5 yX5_isAt yX5_isAt, Cond.code yX5_isAt cX5_isAt 3 (some .boolean), Cond.methodLink RX5 76 yX5_has, Cond.static yX5_has, Cond.code yX5_has cX5_has 2 (some .boolean), Cond.methodLink RX5 100 yX5_write, Cond.instanceMethod yX5_write, Cond.selects RX5 yX5_write yX5_write, Cond.code yX5_write cX5_write 2 none, Cond.methodLink RX5 89 yX5_sheetNow, Cond.instanceMethod yX5_sheetNow, Cond.selects RX5 yX5_sheetNow yX5_sheetNow, Cond.code yX5_sheetNow cX5_sheetNow 4 (some (.array .int)), Cond.methodLink RX5 110 yX5_carry, Cond.instanceMethod yX5_carry, Cond.selects RX5 yX5_carry yX5_carry, Cond.code yX5_carry cX5_carry 7 none]
def wsX5_foreseen_r4 : List Cond := [Cond.methodLink RX5 93 yX5_takes, Cond.instanceMethod yX5_takes, Cond.selects RX5 yX5_takes yX5_takes, Cond.code yX5_takes cX5_takes 3 (some .boolean), Cond.fieldLink RX5 9 "PassNotesModel" "area" "[I", Cond.methodLink RX5 208 yX5_counted, Cond.instanceMethod yX5_counted, Cond.selects RX5 yX5_counted yX5_counted, Cond.code yX5_counted cX5_counted 2 (some .int), Cond.methodLink RX5 171 yJ6_bitCount_0f7a4, Cond.static yJ6_bitCount_0f7a4, Cond.initialized RJ6, Cond.code yJ6_bitCount_0f7a4 cJ6_bitCount_0f7a4 1 (some .int), Cond.constant RJ6 265 (1431655765), Cond.constant RJ6 266 (858993459), Cond.constant RJ6 267 (252645135), Cond.methodLink RX5 198 yX5_sheets, Cond.instanceMethod yX5_sheets, Cond.selects RX5 yX5_sheets yX5_sheets, Cond.code yX5_sheets cX5_sheets 3 (some .int), Cond.methodLink RX5 168 yX5_sheetsOf, Cond.instanceMethod yX5_sheetsOf, Cond.selects RX5 yX5_sheetsOf yX5_sheetsOf, Cond.code yX5_sheetsOf cX5_sheetsOf 4 (some .int)]
def wsX5_foreseen_r5 : List Cond := [Cond.methodLink RX5 202 yX5_letters, Cond.instanceMethod yX5_letters, Cond.selects RX5 yX5_letters yX5_letters, Cond.code yX5_letters cX5_letters 4 (some .int), Cond.methodLink RX5 152 yX5_lookAll, Cond.instanceMethod yX5_lookAll, Cond.selects RX5 yX5_lookAll yX5_lookAll, Cond.code yX5_lookAll cX5_lookAll 3 none, Cond.fieldLink RX5 42 "PassNotesModel" "steps" "[I", Cond.fieldLink RX5 30 "PassNotesModel" "far" "[I", Cond.fieldLink RX5 39 "PassNotesModel" "first" "[I", Cond.methodLink RX5 143 yX5_lookBy, Cond.instanceMethod yX5_lookBy, Cond.selects RX5 yX5_lookBy yX5_lookBy, Cond.code yX5_lookBy cX5_lookBy 2 none, Cond.methodLink RX5 136 yX5_lengthsFor, Cond.instanceMethod yX5_lengthsFor, Cond.selects RX5 yX5_lengthsFor yX5_lengthsFor, Cond.code yX5_lengthsFor cX5_lengthsFor 4 (some (.array .int)), Cond.methodLink RX5 117 yX5_isTaken, Cond.instanceMethod yX5_isTaken, Cond.selects RX5 yX5_isTaken yX5_isTaken, Cond.code yX5_isTaken cX5_isTaken 3 (some .boolean), Cond.methodLink RX5 114 yX5_isTold]
def wsX5_foreseen_r6 : List Cond := [Cond.instanceMethod yX5_isTold, Cond.selects RX5 yX5_isTold yX5_isTold, Cond.code yX5_isTold cX5_isTold 4 (some .boolean), Cond.methodLink RX5 120 yX5_shorten, Cond.static yX5_shorten, Cond.code yX5_shorten cX5_shorten 5 none, Cond.methodLink RX5 139 yX5_look, Cond.instanceMethod yX5_look, Cond.selects RX5 yX5_look yX5_look, Cond.code yX5_look cX5_look 7 none, Cond.arrayClass .boolean, Cond.fieldLink RX5 33 "PassNotesModel" "hops" "[I", Cond.fieldLink RX5 36 "PassNotesModel" "code" "[I", Cond.methodLink RX5 128 yX5_reach, Cond.instanceMethod yX5_reach, Cond.selects RX5 yX5_reach yX5_reach, Cond.code yX5_reach cX5_reach 6 none, Cond.methodLink RX5 124 yX5_isBetter, Cond.instanceMethod yX5_isBetter, Cond.selects RX5 yX5_isBetter yX5_isBetter, Cond.code yX5_isBetter cX5_isBetter 5 (some .boolean), Cond.methodLink RX5 132 yX5_nearest, Cond.instanceMethod yX5_nearest, Cond.selects RX5 yX5_nearest yX5_nearest]
def wsX5_foreseen_r7 : List Cond := [Cond.code yX5_nearest cX5_nearest 4 (some .int), Cond.methodLink RX5 155 yX5_letter, Cond.instanceMethod yX5_letter, Cond.selects RX5 yX5_letter yX5_letter, Cond.code yX5_letter cX5_letter 6 (some .int), Cond.methodLink RX5 146 yX5_isOpenBetween, Cond.instanceMethod yX5_isOpenBetween, Cond.selects RX5 yX5_isOpenBetween yX5_isOpenBetween, Cond.code yX5_isOpenBetween cX5_isOpenBetween 4 (some .boolean), Cond.methodLink RX5 205 yX5_pairsOver, Cond.instanceMethod yX5_pairsOver, Cond.selects RX5 yX5_pairsOver yX5_pairsOver, Cond.code yX5_pairsOver cX5_pairsOver 6 (some .int), Cond.methodLink RX5 149 yX5_lengthsNow, Cond.instanceMethod yX5_lengthsNow, Cond.selects RX5 yX5_lengthsNow yX5_lengthsNow, Cond.code yX5_lengthsNow cX5_lengthsNow 4 (some (.array .int))]
def wsX5_foreseen : List Cond := .code yX5_foreseen cX5_foreseen 7 (some .int) :: ((wsX5_foreseen_r1 ++ (wsX5_foreseen_r2 ++ (wsX5_foreseen_r3 ++ (wsX5_foreseen_r4 ++ (wsX5_foreseen_r5 ++ (wsX5_foreseen_r6 ++ wsX5_foreseen_r7)))))) ++ wsX50)
def wsX5_foresee_r1 : List Cond := [Cond.fieldLink RX5 48 "PassNotesModel" "thrown" "I", Cond.methodLink RX5 55 yX5_isIn, Cond.static yX5_isIn, Cond.initialized RX5, Cond.code yX5_isIn cX5_isIn 3 (some .boolean), Cond.methodLink RX5 158 yX5_no, Cond.instanceMethod yX5_no, Cond.selects RX5 yX5_no yX5_no, Cond.code yX5_no cX5_no 2 (some .int), Cond.methodLink RX5 224 yX5_foreseen, Cond.instanceMethod yX5_foreseen, Cond.selects RX5 yX5_foreseen yX5_foreseen, Cond.code yX5_foreseen cX5_foreseen 7 (some .int), Cond.fieldLink RX5 17 "PassNotesModel" "has" "[[I", Cond.fieldLink RX5 13 "PassNotesModel" "written" "[I", Cond.fieldLink RX5 66 "PassNotesModel" "minute" "I", Cond.methodLink RX5 221 yX5_part, Cond.instanceMethod yX5_part, Cond.selects RX5 yX5_part yX5_part, Cond.code yX5_part cX5_part 3 none, Cond.classLink RX5 16 "[I", Cond.methodLink RX5 104 arraycopyName, Cond.native arraycopyName, Cond.static arraycopyName]
def wsX5_foresee_r2 : List Cond := [Cond.initialized "java/lang/System", Cond.arrayClass .int, Cond.methodLink RX5 217 yX5_keepBy, Cond.instanceMethod yX5_keepBy, Cond.selects RX5 yX5_keepBy yX5_keepBy, Cond.code yX5_keepBy cX5_keepBy 4 none, Cond.methodLink RX5 214 yX5_stepAll, Cond.instanceMethod yX5_stepAll, Cond.selects RX5 yX5_stepAll yX5_stepAll, Cond.code yX5_stepAll cX5_stepAll 4 (some .int), Cond.methodLink RX5 211 yX5_step, Cond.instanceMethod yX5_step, Cond.selects RX5 yX5_step yX5_step, Cond.code yX5_step cX5_step 4 (some .int), Cond.fieldLink RX5 52 "PassNotesModel" "huts" "I", Cond.fieldLink RX5 59 "PassNotesModel" "passes" "I", Cond.fieldLink RX5 73 "PassNotesModel" "open" "I", Cond.fieldLink RX5 21 "PassNotesModel" "one" "[I", Cond.fieldLink RX5 24 "PassNotesModel" "other" "[I", Cond.fieldLink RX5 45 "PassNotesModel" "NO_SHEET" "[I", Cond.methodLink RX5 96 yX5_isDue, Cond.instanceMethod yX5_isDue, Cond.selects RX5 yX5_isDue yX5_isDue, Cond.code yX5_isDue cX5_isDue 2 (some .boolean)]
def wsX5_foresee_r3 : List Cond := [Cond.methodLink RX5 78 yX5_isThere, Cond.instanceMethod yX5_isThere, Cond.selects RX5 yX5_isThere yX5_isThere, Cond.code yX5_isThere cX5_isThere 3 (some .boolean), Cond.methodLink RX5 62 yX5_of, Cond.instanceMethod yX5_of, Cond.selects RX5 yX5_of yX5_of, Cond.code yX5_of cX5_of 3 (some (.array .int)), Cond.methodLink RX5 81 yX5_age, Cond.instanceMethod yX5_age, Cond.selects RX5 yX5_age yX5_age, Cond.code yX5_age cX5_age 3 (some .int), Cond.methodLink RX5 85 yX5_isTrue, Cond.instanceMethod yX5_isTrue, Cond.selects RX5 yX5_isTrue yX5_isTrue, Cond.code yX5_isTrue cX5_isTrue 5 (some .boolean), Cond.fieldLink RX5 27 "PassNotesModel" "length" "[I", Cond.methodLink RX5 69 yX5_isAt, Cond.instanceMethod yX5_isAt, Cond.selects RX5 yX5_isAt yX5_isAt, Cond.code yX5_isAt cX5_isAt 3 (some .boolean), Cond.methodLink RX5 76 yX5_has, Cond.static yX5_has, Cond.code yX5_has cX5_has 2 (some .boolean)]
def wsX5_foresee_r4 : List Cond := [Cond.methodLink RX5 100 yX5_write, Cond.instanceMethod yX5_write, Cond.selects RX5 yX5_write yX5_write, Cond.code yX5_write cX5_write 2 none, Cond.methodLink RX5 89 yX5_sheetNow, Cond.instanceMethod yX5_sheetNow, Cond.selects RX5 yX5_sheetNow yX5_sheetNow, Cond.code yX5_sheetNow cX5_sheetNow 4 (some (.array .int)), Cond.methodLink RX5 110 yX5_carry, Cond.instanceMethod yX5_carry, Cond.selects RX5 yX5_carry yX5_carry, Cond.code yX5_carry cX5_carry 7 none, Cond.methodLink RX5 93 yX5_takes, Cond.instanceMethod yX5_takes, Cond.selects RX5 yX5_takes yX5_takes, Cond.code yX5_takes cX5_takes 3 (some .boolean), Cond.fieldLink RX5 9 "PassNotesModel" "area" "[I", Cond.methodLink RX5 208 yX5_counted, Cond.instanceMethod yX5_counted, Cond.selects RX5 yX5_counted yX5_counted, Cond.code yX5_counted cX5_counted 2 (some .int), Cond.methodLink RX5 171 yJ6_bitCount_0f7a4, Cond.static yJ6_bitCount_0f7a4, Cond.initialized RJ6]
def wsX5_foresee_r5 : List Cond := [Cond.code yJ6_bitCount_0f7a4 cJ6_bitCount_0f7a4 1 (some .int), Cond.constant RJ6 265 (1431655765), Cond.constant RJ6 266 (858993459), Cond.constant RJ6 267 (252645135), Cond.methodLink RX5 198 yX5_sheets, Cond.instanceMethod yX5_sheets, Cond.selects RX5 yX5_sheets yX5_sheets, Cond.code yX5_sheets cX5_sheets 3 (some .int), Cond.methodLink RX5 168 yX5_sheetsOf, Cond.instanceMethod yX5_sheetsOf, Cond.selects RX5 yX5_sheetsOf yX5_sheetsOf, Cond.code yX5_sheetsOf cX5_sheetsOf 4 (some .int), Cond.methodLink RX5 202 yX5_letters, Cond.instanceMethod yX5_letters, Cond.selects RX5 yX5_letters yX5_letters, Cond.code yX5_letters cX5_letters 4 (some .int), Cond.methodLink RX5 152 yX5_lookAll, Cond.instanceMethod yX5_lookAll, Cond.selects RX5 yX5_lookAll yX5_lookAll, Cond.code yX5_lookAll cX5_lookAll 3 none, Cond.fieldLink RX5 42 "PassNotesModel" "steps" "[I", Cond.fieldLink RX5 30 "PassNotesModel" "far" "[I", Cond.fieldLink RX5 39 "PassNotesModel" "first" "[I", Cond.methodLink RX5 143 yX5_lookBy]
def wsX5_foresee_r6 : List Cond := [Cond.instanceMethod yX5_lookBy, Cond.selects RX5 yX5_lookBy yX5_lookBy, Cond.code yX5_lookBy cX5_lookBy 2 none, Cond.methodLink RX5 136 yX5_lengthsFor, Cond.instanceMethod yX5_lengthsFor, Cond.selects RX5 yX5_lengthsFor yX5_lengthsFor, Cond.code yX5_lengthsFor cX5_lengthsFor 4 (some (.array .int)), Cond.methodLink RX5 117 yX5_isTaken, Cond.instanceMethod yX5_isTaken, Cond.selects RX5 yX5_isTaken yX5_isTaken, Cond.code yX5_isTaken cX5_isTaken 3 (some .boolean), Cond.methodLink RX5 114 yX5_isTold, Cond.instanceMethod yX5_isTold, Cond.selects RX5 yX5_isTold yX5_isTold, Cond.code yX5_isTold cX5_isTold 4 (some .boolean), Cond.methodLink RX5 120 yX5_shorten, Cond.static yX5_shorten, Cond.code yX5_shorten cX5_shorten 5 none, Cond.methodLink RX5 139 yX5_look, Cond.instanceMethod yX5_look, Cond.selects RX5 yX5_look yX5_look, Cond.code yX5_look cX5_look 7 none, Cond.arrayClass .boolean, Cond.fieldLink RX5 33 "PassNotesModel" "hops" "[I"]
def wsX5_foresee_r7 : List Cond := [Cond.fieldLink RX5 36 "PassNotesModel" "code" "[I", Cond.methodLink RX5 128 yX5_reach, Cond.instanceMethod yX5_reach, Cond.selects RX5 yX5_reach yX5_reach, Cond.code yX5_reach cX5_reach 6 none, Cond.methodLink RX5 124 yX5_isBetter, Cond.instanceMethod yX5_isBetter, Cond.selects RX5 yX5_isBetter yX5_isBetter, Cond.code yX5_isBetter cX5_isBetter 5 (some .boolean), Cond.methodLink RX5 132 yX5_nearest, Cond.instanceMethod yX5_nearest, Cond.selects RX5 yX5_nearest yX5_nearest, Cond.code yX5_nearest cX5_nearest 4 (some .int), Cond.methodLink RX5 155 yX5_letter, Cond.instanceMethod yX5_letter, Cond.selects RX5 yX5_letter yX5_letter, Cond.code yX5_letter cX5_letter 6 (some .int), Cond.methodLink RX5 146 yX5_isOpenBetween, Cond.instanceMethod yX5_isOpenBetween, Cond.selects RX5 yX5_isOpenBetween yX5_isOpenBetween, Cond.code yX5_isOpenBetween cX5_isOpenBetween 4 (some .boolean), Cond.methodLink RX5 205 yX5_pairsOver, Cond.instanceMethod yX5_pairsOver, Cond.selects RX5 yX5_pairsOver yX5_pairsOver]
def wsX5_foresee_r8 : List Cond := [Cond.code yX5_pairsOver cX5_pairsOver 6 (some .int), Cond.methodLink RX5 149 yX5_lengthsNow, Cond.instanceMethod yX5_lengthsNow, Cond.selects RX5 yX5_lengthsNow yX5_lengthsNow, Cond.code yX5_lengthsNow cX5_lengthsNow 4 (some (.array .int))]
def wsX5_foresee : List Cond := .code yX5_foresee cX5_foresee 3 (some .int) :: ((wsX5_foresee_r1 ++ (wsX5_foresee_r2 ++ (wsX5_foresee_r3 ++ (wsX5_foresee_r4 ++ (wsX5_foresee_r5 ++ (wsX5_foresee_r6 ++ (wsX5_foresee_r7 ++ wsX5_foresee_r8))))))) ++ wsX50)
def wsX5_isSettled_r1 : List Cond := [Cond.methodLink RX5 202 yX5_letters, Cond.instanceMethod yX5_letters, Cond.selects RX5 yX5_letters yX5_letters, Cond.initialized RX5, Cond.code yX5_letters cX5_letters 4 (some .int), Cond.fieldLink RX5 52 "PassNotesModel" "huts" "I", Cond.methodLink RX5 152 yX5_lookAll, Cond.instanceMethod yX5_lookAll, Cond.selects RX5 yX5_lookAll yX5_lookAll, Cond.code yX5_lookAll cX5_lookAll 3 none, Cond.fieldLink RX5 42 "PassNotesModel" "steps" "[I", Cond.fieldLink RX5 30 "PassNotesModel" "far" "[I", Cond.fieldLink RX5 39 "PassNotesModel" "first" "[I", Cond.methodLink RX5 143 yX5_lookBy, Cond.instanceMethod yX5_lookBy, Cond.selects RX5 yX5_lookBy yX5_lookBy, Cond.code yX5_lookBy cX5_lookBy 2 none, Cond.methodLink RX5 136 yX5_lengthsFor, Cond.instanceMethod yX5_lengthsFor, Cond.selects RX5 yX5_lengthsFor yX5_lengthsFor, Cond.code yX5_lengthsFor cX5_lengthsFor 4 (some (.array .int)), Cond.arrayClass .int, Cond.fieldLink RX5 59 "PassNotesModel" "passes" "I", Cond.fieldLink RX5 21 "PassNotesModel" "one" "[I"]
def wsX5_isSettled_r2 : List Cond := [Cond.fieldLink RX5 24 "PassNotesModel" "other" "[I", Cond.methodLink RX5 117 yX5_isTaken, Cond.instanceMethod yX5_isTaken, Cond.selects RX5 yX5_isTaken yX5_isTaken, Cond.code yX5_isTaken cX5_isTaken 3 (some .boolean), Cond.methodLink RX5 114 yX5_isTold, Cond.instanceMethod yX5_isTold, Cond.selects RX5 yX5_isTold yX5_isTold, Cond.code yX5_isTold cX5_isTold 4 (some .boolean), Cond.methodLink RX5 78 yX5_isThere, Cond.instanceMethod yX5_isThere, Cond.selects RX5 yX5_isThere yX5_isThere, Cond.code yX5_isThere cX5_isThere 3 (some .boolean), Cond.methodLink RX5 62 yX5_of, Cond.instanceMethod yX5_of, Cond.selects RX5 yX5_of yX5_of, Cond.code yX5_of cX5_of 3 (some (.array .int)), Cond.fieldLink RX5 17 "PassNotesModel" "has" "[[I", Cond.methodLink RX5 76 yX5_has, Cond.static yX5_has, Cond.code yX5_has cX5_has 2 (some .boolean), Cond.methodLink RX5 120 yX5_shorten, Cond.static yX5_shorten, Cond.code yX5_shorten cX5_shorten 5 none]
def wsX5_isSettled_r3 : List Cond := [Cond.methodLink RX5 139 yX5_look, Cond.instanceMethod yX5_look, Cond.selects RX5 yX5_look yX5_look, Cond.code yX5_look cX5_look 7 none, Cond.arrayClass .boolean, Cond.fieldLink RX5 33 "PassNotesModel" "hops" "[I", Cond.fieldLink RX5 36 "PassNotesModel" "code" "[I", Cond.methodLink RX5 128 yX5_reach, Cond.instanceMethod yX5_reach, Cond.selects RX5 yX5_reach yX5_reach, Cond.code yX5_reach cX5_reach 6 none, Cond.methodLink RX5 124 yX5_isBetter, Cond.instanceMethod yX5_isBetter, Cond.selects RX5 yX5_isBetter yX5_isBetter, Cond.code yX5_isBetter cX5_isBetter 5 (some .boolean), Cond.methodLink RX5 132 yX5_nearest, Cond.instanceMethod yX5_nearest, Cond.selects RX5 yX5_nearest yX5_nearest, Cond.code yX5_nearest cX5_nearest 4 (some .int), Cond.methodLink RX5 155 yX5_letter, Cond.instanceMethod yX5_letter, Cond.selects RX5 yX5_letter yX5_letter, Cond.code yX5_letter cX5_letter 6 (some .int), Cond.methodLink RX5 146 yX5_isOpenBetween]
def wsX5_isSettled_r4 : List Cond := [Cond.instanceMethod yX5_isOpenBetween, Cond.selects RX5 yX5_isOpenBetween yX5_isOpenBetween, Cond.code yX5_isOpenBetween cX5_isOpenBetween 4 (some .boolean), Cond.fieldLink RX5 73 "PassNotesModel" "open" "I", Cond.methodLink RX5 69 yX5_isAt, Cond.instanceMethod yX5_isAt, Cond.selects RX5 yX5_isAt yX5_isAt, Cond.code yX5_isAt cX5_isAt 3 (some .boolean)]
def wsX5_isSettled : List Cond := .code yX5_isSettled cX5_isSettled 2 (some .boolean) :: ((wsX5_isSettled_r1 ++ (wsX5_isSettled_r2 ++ (wsX5_isSettled_r3 ++ wsX5_isSettled_r4))) ++ wsX50)
def wsX5_settledBehind_r1 : List Cond := [Cond.fieldLink RX5 73 "PassNotesModel" "open" "I", Cond.methodLink RX5 205 yX5_pairsOver, Cond.instanceMethod yX5_pairsOver, Cond.selects RX5 yX5_pairsOver yX5_pairsOver, Cond.initialized RX5, Cond.code yX5_pairsOver cX5_pairsOver 6 (some .int), Cond.fieldLink RX5 52 "PassNotesModel" "huts" "I", Cond.fieldLink RX5 30 "PassNotesModel" "far" "[I", Cond.methodLink RX5 149 yX5_lengthsNow, Cond.instanceMethod yX5_lengthsNow, Cond.selects RX5 yX5_lengthsNow yX5_lengthsNow, Cond.code yX5_lengthsNow cX5_lengthsNow 4 (some (.array .int)), Cond.arrayClass .int, Cond.fieldLink RX5 59 "PassNotesModel" "passes" "I", Cond.fieldLink RX5 21 "PassNotesModel" "one" "[I", Cond.fieldLink RX5 24 "PassNotesModel" "other" "[I", Cond.fieldLink RX5 27 "PassNotesModel" "length" "[I", Cond.methodLink RX5 76 yX5_has, Cond.static yX5_has, Cond.code yX5_has cX5_has 2 (some .boolean), Cond.methodLink RX5 120 yX5_shorten, Cond.static yX5_shorten, Cond.code yX5_shorten cX5_shorten 5 none, Cond.methodLink RX5 139 yX5_look]
def wsX5_settledBehind_r2 : List Cond := [Cond.instanceMethod yX5_look, Cond.selects RX5 yX5_look yX5_look, Cond.code yX5_look cX5_look 7 none, Cond.arrayClass .boolean, Cond.fieldLink RX5 33 "PassNotesModel" "hops" "[I", Cond.fieldLink RX5 36 "PassNotesModel" "code" "[I", Cond.fieldLink RX5 39 "PassNotesModel" "first" "[I", Cond.methodLink RX5 128 yX5_reach, Cond.instanceMethod yX5_reach, Cond.selects RX5 yX5_reach yX5_reach, Cond.code yX5_reach cX5_reach 6 none, Cond.methodLink RX5 124 yX5_isBetter, Cond.instanceMethod yX5_isBetter, Cond.selects RX5 yX5_isBetter yX5_isBetter, Cond.code yX5_isBetter cX5_isBetter 5 (some .boolean), Cond.methodLink RX5 132 yX5_nearest, Cond.instanceMethod yX5_nearest, Cond.selects RX5 yX5_nearest yX5_nearest, Cond.code yX5_nearest cX5_nearest 4 (some .int), Cond.methodLink RX5 227 yX5_isSettled, Cond.instanceMethod yX5_isSettled, Cond.selects RX5 yX5_isSettled yX5_isSettled, Cond.code yX5_isSettled cX5_isSettled 2 (some .boolean), Cond.methodLink RX5 202 yX5_letters]
def wsX5_settledBehind_r3 : List Cond := [Cond.instanceMethod yX5_letters, Cond.selects RX5 yX5_letters yX5_letters, Cond.code yX5_letters cX5_letters 4 (some .int), Cond.methodLink RX5 152 yX5_lookAll, Cond.instanceMethod yX5_lookAll, Cond.selects RX5 yX5_lookAll yX5_lookAll, Cond.code yX5_lookAll cX5_lookAll 3 none, Cond.fieldLink RX5 42 "PassNotesModel" "steps" "[I", Cond.methodLink RX5 143 yX5_lookBy, Cond.instanceMethod yX5_lookBy, Cond.selects RX5 yX5_lookBy yX5_lookBy, Cond.code yX5_lookBy cX5_lookBy 2 none, Cond.methodLink RX5 136 yX5_lengthsFor, Cond.instanceMethod yX5_lengthsFor, Cond.selects RX5 yX5_lengthsFor yX5_lengthsFor, Cond.code yX5_lengthsFor cX5_lengthsFor 4 (some (.array .int)), Cond.methodLink RX5 117 yX5_isTaken, Cond.instanceMethod yX5_isTaken, Cond.selects RX5 yX5_isTaken yX5_isTaken, Cond.code yX5_isTaken cX5_isTaken 3 (some .boolean), Cond.methodLink RX5 114 yX5_isTold, Cond.instanceMethod yX5_isTold, Cond.selects RX5 yX5_isTold yX5_isTold, Cond.code yX5_isTold cX5_isTold 4 (some .boolean)]
def wsX5_settledBehind_r4 : List Cond := [Cond.methodLink RX5 78 yX5_isThere, Cond.instanceMethod yX5_isThere, Cond.selects RX5 yX5_isThere yX5_isThere, Cond.code yX5_isThere cX5_isThere 3 (some .boolean), Cond.methodLink RX5 62 yX5_of, Cond.instanceMethod yX5_of, Cond.selects RX5 yX5_of yX5_of, Cond.code yX5_of cX5_of 3 (some (.array .int)), Cond.fieldLink RX5 17 "PassNotesModel" "has" "[[I", Cond.methodLink RX5 155 yX5_letter, Cond.instanceMethod yX5_letter, Cond.selects RX5 yX5_letter yX5_letter, Cond.code yX5_letter cX5_letter 6 (some .int), Cond.methodLink RX5 146 yX5_isOpenBetween, Cond.instanceMethod yX5_isOpenBetween, Cond.selects RX5 yX5_isOpenBetween yX5_isOpenBetween, Cond.code yX5_isOpenBetween cX5_isOpenBetween 4 (some .boolean), Cond.methodLink RX5 69 yX5_isAt, Cond.instanceMethod yX5_isAt, Cond.selects RX5 yX5_isAt yX5_isAt, Cond.code yX5_isAt cX5_isAt 3 (some .boolean), Cond.methodLink RX5 211 yX5_step, Cond.instanceMethod yX5_step, Cond.selects RX5 yX5_step yX5_step]
def wsX5_settledBehind_r5 : List Cond := [Cond.code yX5_step cX5_step 4 (some .int), Cond.classLink RX5 16 "[I", Cond.methodLink RX5 104 arraycopyName, Cond.native arraycopyName, Cond.static arraycopyName, Cond.initialized "java/lang/System", Cond.fieldLink RX5 66 "PassNotesModel" "minute" "I", Cond.fieldLink RX5 45 "PassNotesModel" "NO_SHEET" "[I", Cond.methodLink RX5 96 yX5_isDue, Cond.instanceMethod yX5_isDue, Cond.selects RX5 yX5_isDue yX5_isDue, Cond.code yX5_isDue cX5_isDue 2 (some .boolean), Cond.methodLink RX5 81 yX5_age, Cond.instanceMethod yX5_age, Cond.selects RX5 yX5_age yX5_age, Cond.code yX5_age cX5_age 3 (some .int), Cond.methodLink RX5 85 yX5_isTrue, Cond.instanceMethod yX5_isTrue, Cond.selects RX5 yX5_isTrue yX5_isTrue, Cond.code yX5_isTrue cX5_isTrue 5 (some .boolean), Cond.methodLink RX5 100 yX5_write, Cond.instanceMethod yX5_write, Cond.selects RX5 yX5_write yX5_write, Cond.code yX5_write cX5_write 2 none]
def wsX5_settledBehind_r6 : List Cond := [Cond.fieldLink RX5 13 "PassNotesModel" "written" "[I", Cond.methodLink RX5 89 yX5_sheetNow, Cond.instanceMethod yX5_sheetNow, Cond.selects RX5 yX5_sheetNow yX5_sheetNow, Cond.code yX5_sheetNow cX5_sheetNow 4 (some (.array .int)), Cond.methodLink RX5 110 yX5_carry, Cond.instanceMethod yX5_carry, Cond.selects RX5 yX5_carry yX5_carry, Cond.code yX5_carry cX5_carry 7 none, Cond.methodLink RX5 93 yX5_takes, Cond.instanceMethod yX5_takes, Cond.selects RX5 yX5_takes yX5_takes, Cond.code yX5_takes cX5_takes 3 (some .boolean), Cond.fieldLink RX5 9 "PassNotesModel" "area" "[I"]
def wsX5_settledBehind : List Cond := .code yX5_settledBehind cX5_settledBehind 3 (some .int) :: ((wsX5_settledBehind_r1 ++ (wsX5_settledBehind_r2 ++ (wsX5_settledBehind_r3 ++ (wsX5_settledBehind_r4 ++ (wsX5_settledBehind_r5 ++ wsX5_settledBehind_r6))))) ++ wsX50)
def wsX5_settles_r1 : List Cond := [Cond.fieldLink RX5 48 "PassNotesModel" "thrown" "I", Cond.fieldLink RX5 17 "PassNotesModel" "has" "[[I", Cond.fieldLink RX5 13 "PassNotesModel" "written" "[I", Cond.fieldLink RX5 66 "PassNotesModel" "minute" "I", Cond.methodLink RX5 221 yX5_part, Cond.instanceMethod yX5_part, Cond.selects RX5 yX5_part yX5_part, Cond.initialized RX5, Cond.code yX5_part cX5_part 3 none, Cond.classLink RX5 16 "[I", Cond.methodLink RX5 104 arraycopyName, Cond.native arraycopyName, Cond.static arraycopyName, Cond.initialized "java/lang/System", Cond.arrayClass .int, Cond.methodLink RX5 217 yX5_keepBy, Cond.instanceMethod yX5_keepBy, Cond.selects RX5 yX5_keepBy yX5_keepBy, Cond.code yX5_keepBy cX5_keepBy 4 none, Cond.methodLink RX5 230 yX5_settledBehind, Cond.instanceMethod yX5_settledBehind, Cond.selects RX5 yX5_settledBehind yX5_settledBehind, Cond.code yX5_settledBehind cX5_settledBehind 3 (some .int), Cond.fieldLink RX5 73 "PassNotesModel" "open" "I"]
def wsX5_settles_r2 : List Cond := [Cond.methodLink RX5 205 yX5_pairsOver, Cond.instanceMethod yX5_pairsOver, Cond.selects RX5 yX5_pairsOver yX5_pairsOver, Cond.code yX5_pairsOver cX5_pairsOver 6 (some .int), Cond.fieldLink RX5 52 "PassNotesModel" "huts" "I", Cond.fieldLink RX5 30 "PassNotesModel" "far" "[I", Cond.methodLink RX5 149 yX5_lengthsNow, Cond.instanceMethod yX5_lengthsNow, Cond.selects RX5 yX5_lengthsNow yX5_lengthsNow, Cond.code yX5_lengthsNow cX5_lengthsNow 4 (some (.array .int)), Cond.fieldLink RX5 59 "PassNotesModel" "passes" "I", Cond.fieldLink RX5 21 "PassNotesModel" "one" "[I", Cond.fieldLink RX5 24 "PassNotesModel" "other" "[I", Cond.fieldLink RX5 27 "PassNotesModel" "length" "[I", Cond.methodLink RX5 76 yX5_has, Cond.static yX5_has, Cond.code yX5_has cX5_has 2 (some .boolean), Cond.methodLink RX5 120 yX5_shorten, Cond.static yX5_shorten, Cond.code yX5_shorten cX5_shorten 5 none, Cond.methodLink RX5 139 yX5_look, Cond.instanceMethod yX5_look, Cond.selects RX5 yX5_look yX5_look, Cond.code yX5_look cX5_look 7 none]
def wsX5_settles_r3 : List Cond := [Cond.arrayClass .boolean, Cond.fieldLink RX5 33 "PassNotesModel" "hops" "[I", Cond.fieldLink RX5 36 "PassNotesModel" "code" "[I", Cond.fieldLink RX5 39 "PassNotesModel" "first" "[I", Cond.methodLink RX5 128 yX5_reach, Cond.instanceMethod yX5_reach, Cond.selects RX5 yX5_reach yX5_reach, Cond.code yX5_reach cX5_reach 6 none, Cond.methodLink RX5 124 yX5_isBetter, Cond.instanceMethod yX5_isBetter, Cond.selects RX5 yX5_isBetter yX5_isBetter, Cond.code yX5_isBetter cX5_isBetter 5 (some .boolean), Cond.methodLink RX5 132 yX5_nearest, Cond.instanceMethod yX5_nearest, Cond.selects RX5 yX5_nearest yX5_nearest, Cond.code yX5_nearest cX5_nearest 4 (some .int), Cond.methodLink RX5 227 yX5_isSettled, Cond.instanceMethod yX5_isSettled, Cond.selects RX5 yX5_isSettled yX5_isSettled, Cond.code yX5_isSettled cX5_isSettled 2 (some .boolean), Cond.methodLink RX5 202 yX5_letters, Cond.instanceMethod yX5_letters, Cond.selects RX5 yX5_letters yX5_letters, Cond.code yX5_letters cX5_letters 4 (some .int)]
def wsX5_settles_r4 : List Cond := [Cond.methodLink RX5 152 yX5_lookAll, Cond.instanceMethod yX5_lookAll, Cond.selects RX5 yX5_lookAll yX5_lookAll, Cond.code yX5_lookAll cX5_lookAll 3 none, Cond.fieldLink RX5 42 "PassNotesModel" "steps" "[I", Cond.methodLink RX5 143 yX5_lookBy, Cond.instanceMethod yX5_lookBy, Cond.selects RX5 yX5_lookBy yX5_lookBy, Cond.code yX5_lookBy cX5_lookBy 2 none, Cond.methodLink RX5 136 yX5_lengthsFor, Cond.instanceMethod yX5_lengthsFor, Cond.selects RX5 yX5_lengthsFor yX5_lengthsFor, Cond.code yX5_lengthsFor cX5_lengthsFor 4 (some (.array .int)), Cond.methodLink RX5 117 yX5_isTaken, Cond.instanceMethod yX5_isTaken, Cond.selects RX5 yX5_isTaken yX5_isTaken, Cond.code yX5_isTaken cX5_isTaken 3 (some .boolean), Cond.methodLink RX5 114 yX5_isTold, Cond.instanceMethod yX5_isTold, Cond.selects RX5 yX5_isTold yX5_isTold, Cond.code yX5_isTold cX5_isTold 4 (some .boolean), Cond.methodLink RX5 78 yX5_isThere, Cond.instanceMethod yX5_isThere, Cond.selects RX5 yX5_isThere yX5_isThere]
def wsX5_settles_r5 : List Cond := [Cond.code yX5_isThere cX5_isThere 3 (some .boolean), Cond.methodLink RX5 62 yX5_of, Cond.instanceMethod yX5_of, Cond.selects RX5 yX5_of yX5_of, Cond.code yX5_of cX5_of 3 (some (.array .int)), Cond.methodLink RX5 155 yX5_letter, Cond.instanceMethod yX5_letter, Cond.selects RX5 yX5_letter yX5_letter, Cond.code yX5_letter cX5_letter 6 (some .int), Cond.methodLink RX5 146 yX5_isOpenBetween, Cond.instanceMethod yX5_isOpenBetween, Cond.selects RX5 yX5_isOpenBetween yX5_isOpenBetween, Cond.code yX5_isOpenBetween cX5_isOpenBetween 4 (some .boolean), Cond.methodLink RX5 69 yX5_isAt, Cond.instanceMethod yX5_isAt, Cond.selects RX5 yX5_isAt yX5_isAt, Cond.code yX5_isAt cX5_isAt 3 (some .boolean), Cond.methodLink RX5 211 yX5_step, Cond.instanceMethod yX5_step, Cond.selects RX5 yX5_step yX5_step, Cond.code yX5_step cX5_step 4 (some .int), Cond.fieldLink RX5 45 "PassNotesModel" "NO_SHEET" "[I", Cond.methodLink RX5 96 yX5_isDue, Cond.instanceMethod yX5_isDue]
def wsX5_settles_r6 : List Cond := [Cond.selects RX5 yX5_isDue yX5_isDue, Cond.code yX5_isDue cX5_isDue 2 (some .boolean), Cond.methodLink RX5 81 yX5_age, Cond.instanceMethod yX5_age, Cond.selects RX5 yX5_age yX5_age, Cond.code yX5_age cX5_age 3 (some .int), Cond.methodLink RX5 85 yX5_isTrue, Cond.instanceMethod yX5_isTrue, Cond.selects RX5 yX5_isTrue yX5_isTrue, Cond.code yX5_isTrue cX5_isTrue 5 (some .boolean), Cond.methodLink RX5 100 yX5_write, Cond.instanceMethod yX5_write, Cond.selects RX5 yX5_write yX5_write, Cond.code yX5_write cX5_write 2 none, Cond.methodLink RX5 89 yX5_sheetNow, Cond.instanceMethod yX5_sheetNow, Cond.selects RX5 yX5_sheetNow yX5_sheetNow, Cond.code yX5_sheetNow cX5_sheetNow 4 (some (.array .int)), Cond.methodLink RX5 110 yX5_carry, Cond.instanceMethod yX5_carry, Cond.selects RX5 yX5_carry yX5_carry, Cond.code yX5_carry cX5_carry 7 none, Cond.methodLink RX5 93 yX5_takes, Cond.instanceMethod yX5_takes]
def wsX5_settles_r7 : List Cond := [Cond.selects RX5 yX5_takes yX5_takes, Cond.code yX5_takes cX5_takes 3 (some .boolean), Cond.fieldLink RX5 9 "PassNotesModel" "area" "[I"]
def wsX5_settles : List Cond := .code yX5_settles cX5_settles 5 (some .int) :: ((wsX5_settles_r1 ++ (wsX5_settles_r2 ++ (wsX5_settles_r3 ++ (wsX5_settles_r4 ++ (wsX5_settles_r5 ++ (wsX5_settles_r6 ++ wsX5_settles_r7)))))) ++ wsX50)
def wsX5_advise_r1 : List Cond := [Cond.fieldLink RX5 48 "PassNotesModel" "thrown" "I", Cond.fieldLink RX5 59 "PassNotesModel" "passes" "I", Cond.fieldLink RX5 73 "PassNotesModel" "open" "I", Cond.methodLink RX5 76 yX5_has, Cond.static yX5_has, Cond.initialized RX5, Cond.code yX5_has cX5_has 2 (some .boolean), Cond.methodLink RX5 205 yX5_pairsOver, Cond.instanceMethod yX5_pairsOver, Cond.selects RX5 yX5_pairsOver yX5_pairsOver, Cond.code yX5_pairsOver cX5_pairsOver 6 (some .int), Cond.fieldLink RX5 52 "PassNotesModel" "huts" "I", Cond.fieldLink RX5 30 "PassNotesModel" "far" "[I", Cond.methodLink RX5 149 yX5_lengthsNow, Cond.instanceMethod yX5_lengthsNow, Cond.selects RX5 yX5_lengthsNow yX5_lengthsNow, Cond.code yX5_lengthsNow cX5_lengthsNow 4 (some (.array .int)), Cond.arrayClass .int, Cond.fieldLink RX5 21 "PassNotesModel" "one" "[I", Cond.fieldLink RX5 24 "PassNotesModel" "other" "[I", Cond.fieldLink RX5 27 "PassNotesModel" "length" "[I", Cond.methodLink RX5 120 yX5_shorten, Cond.static yX5_shorten, Cond.code yX5_shorten cX5_shorten 5 none]
def wsX5_advise_r2 : List Cond := [Cond.methodLink RX5 139 yX5_look, Cond.instanceMethod yX5_look, Cond.selects RX5 yX5_look yX5_look, Cond.code yX5_look cX5_look 7 none, Cond.arrayClass .boolean, Cond.fieldLink RX5 33 "PassNotesModel" "hops" "[I", Cond.fieldLink RX5 36 "PassNotesModel" "code" "[I", Cond.fieldLink RX5 39 "PassNotesModel" "first" "[I", Cond.methodLink RX5 128 yX5_reach, Cond.instanceMethod yX5_reach, Cond.selects RX5 yX5_reach yX5_reach, Cond.code yX5_reach cX5_reach 6 none, Cond.methodLink RX5 124 yX5_isBetter, Cond.instanceMethod yX5_isBetter, Cond.selects RX5 yX5_isBetter yX5_isBetter, Cond.code yX5_isBetter cX5_isBetter 5 (some .boolean), Cond.methodLink RX5 132 yX5_nearest, Cond.instanceMethod yX5_nearest, Cond.selects RX5 yX5_nearest yX5_nearest, Cond.code yX5_nearest cX5_nearest 4 (some .int)]
def wsX5_advise : List Cond := .code yX5_advise cX5_advise 5 (some .int) :: ((wsX5_advise_r1 ++ wsX5_advise_r2) ++ wsX50)
def wsX5_mean_r1 : List Cond := [Cond.fieldLink RX5 48 "PassNotesModel" "thrown" "I", Cond.fieldLink RX5 52 "PassNotesModel" "huts" "I", Cond.methodLink RX5 198 yX5_sheets, Cond.instanceMethod yX5_sheets, Cond.selects RX5 yX5_sheets yX5_sheets, Cond.initialized RX5, Cond.code yX5_sheets cX5_sheets 3 (some .int), Cond.methodLink RX5 168 yX5_sheetsOf, Cond.instanceMethod yX5_sheetsOf, Cond.selects RX5 yX5_sheetsOf yX5_sheetsOf, Cond.code yX5_sheetsOf cX5_sheetsOf 4 (some .int), Cond.methodLink RX5 78 yX5_isThere, Cond.instanceMethod yX5_isThere, Cond.selects RX5 yX5_isThere yX5_isThere, Cond.code yX5_isThere cX5_isThere 3 (some .boolean), Cond.methodLink RX5 62 yX5_of, Cond.instanceMethod yX5_of, Cond.selects RX5 yX5_of yX5_of, Cond.code yX5_of cX5_of 3 (some (.array .int)), Cond.fieldLink RX5 17 "PassNotesModel" "has" "[[I", Cond.methodLink RX5 81 yX5_age, Cond.instanceMethod yX5_age, Cond.selects RX5 yX5_age yX5_age, Cond.code yX5_age cX5_age 3 (some .int)]
def wsX5_mean_r2 : List Cond := [Cond.fieldLink RX5 66 "PassNotesModel" "minute" "I"]
def wsX5_mean : List Cond := .code yX5_mean cX5_mean 5 (some .double) :: ((wsX5_mean_r1 ++ wsX5_mean_r2) ++ wsX50)
def wsX5_digest_r1 : List Cond := [Cond.fieldLink RX5 48 "PassNotesModel" "thrown" "I", Cond.constantLong RX5 233 (1627), Cond.constantLong RX5 235 (31), Cond.fieldLink RX5 52 "PassNotesModel" "huts" "I", Cond.fieldLink RX5 59 "PassNotesModel" "passes" "I", Cond.methodLink RX5 208 yX5_counted, Cond.instanceMethod yX5_counted, Cond.selects RX5 yX5_counted yX5_counted, Cond.initialized RX5, Cond.code yX5_counted cX5_counted 2 (some .int), Cond.fieldLink RX5 66 "PassNotesModel" "minute" "I", Cond.fieldLink RX5 73 "PassNotesModel" "open" "I", Cond.methodLink RX5 171 yJ6_bitCount_0f7a4, Cond.static yJ6_bitCount_0f7a4, Cond.initialized RJ6, Cond.code yJ6_bitCount_0f7a4 cJ6_bitCount_0f7a4 1 (some .int), Cond.constant RJ6 265 (1431655765), Cond.constant RJ6 266 (858993459), Cond.constant RJ6 267 (252645135), Cond.methodLink RX5 198 yX5_sheets, Cond.instanceMethod yX5_sheets, Cond.selects RX5 yX5_sheets yX5_sheets, Cond.code yX5_sheets cX5_sheets 3 (some .int), Cond.methodLink RX5 168 yX5_sheetsOf]
def wsX5_digest_r2 : List Cond := [Cond.instanceMethod yX5_sheetsOf, Cond.selects RX5 yX5_sheetsOf yX5_sheetsOf, Cond.code yX5_sheetsOf cX5_sheetsOf 4 (some .int), Cond.methodLink RX5 78 yX5_isThere, Cond.instanceMethod yX5_isThere, Cond.selects RX5 yX5_isThere yX5_isThere, Cond.code yX5_isThere cX5_isThere 3 (some .boolean), Cond.methodLink RX5 62 yX5_of, Cond.instanceMethod yX5_of, Cond.selects RX5 yX5_of yX5_of, Cond.code yX5_of cX5_of 3 (some (.array .int)), Cond.fieldLink RX5 17 "PassNotesModel" "has" "[[I", Cond.methodLink RX5 202 yX5_letters, Cond.instanceMethod yX5_letters, Cond.selects RX5 yX5_letters yX5_letters, Cond.code yX5_letters cX5_letters 4 (some .int), Cond.methodLink RX5 152 yX5_lookAll, Cond.instanceMethod yX5_lookAll, Cond.selects RX5 yX5_lookAll yX5_lookAll, Cond.code yX5_lookAll cX5_lookAll 3 none, Cond.fieldLink RX5 42 "PassNotesModel" "steps" "[I", Cond.fieldLink RX5 30 "PassNotesModel" "far" "[I", Cond.fieldLink RX5 39 "PassNotesModel" "first" "[I", Cond.methodLink RX5 143 yX5_lookBy]
def wsX5_digest_r3 : List Cond := [Cond.instanceMethod yX5_lookBy, Cond.selects RX5 yX5_lookBy yX5_lookBy, Cond.code yX5_lookBy cX5_lookBy 2 none, Cond.methodLink RX5 136 yX5_lengthsFor, Cond.instanceMethod yX5_lengthsFor, Cond.selects RX5 yX5_lengthsFor yX5_lengthsFor, Cond.code yX5_lengthsFor cX5_lengthsFor 4 (some (.array .int)), Cond.arrayClass .int, Cond.fieldLink RX5 21 "PassNotesModel" "one" "[I", Cond.fieldLink RX5 24 "PassNotesModel" "other" "[I", Cond.methodLink RX5 117 yX5_isTaken, Cond.instanceMethod yX5_isTaken, Cond.selects RX5 yX5_isTaken yX5_isTaken, Cond.code yX5_isTaken cX5_isTaken 3 (some .boolean), Cond.methodLink RX5 114 yX5_isTold, Cond.instanceMethod yX5_isTold, Cond.selects RX5 yX5_isTold yX5_isTold, Cond.code yX5_isTold cX5_isTold 4 (some .boolean), Cond.methodLink RX5 76 yX5_has, Cond.static yX5_has, Cond.code yX5_has cX5_has 2 (some .boolean), Cond.methodLink RX5 120 yX5_shorten, Cond.static yX5_shorten, Cond.code yX5_shorten cX5_shorten 5 none]
def wsX5_digest_r4 : List Cond := [Cond.methodLink RX5 139 yX5_look, Cond.instanceMethod yX5_look, Cond.selects RX5 yX5_look yX5_look, Cond.code yX5_look cX5_look 7 none, Cond.arrayClass .boolean, Cond.fieldLink RX5 33 "PassNotesModel" "hops" "[I", Cond.fieldLink RX5 36 "PassNotesModel" "code" "[I", Cond.methodLink RX5 128 yX5_reach, Cond.instanceMethod yX5_reach, Cond.selects RX5 yX5_reach yX5_reach, Cond.code yX5_reach cX5_reach 6 none, Cond.methodLink RX5 124 yX5_isBetter, Cond.instanceMethod yX5_isBetter, Cond.selects RX5 yX5_isBetter yX5_isBetter, Cond.code yX5_isBetter cX5_isBetter 5 (some .boolean), Cond.methodLink RX5 132 yX5_nearest, Cond.instanceMethod yX5_nearest, Cond.selects RX5 yX5_nearest yX5_nearest, Cond.code yX5_nearest cX5_nearest 4 (some .int), Cond.methodLink RX5 155 yX5_letter, Cond.instanceMethod yX5_letter, Cond.selects RX5 yX5_letter yX5_letter, Cond.code yX5_letter cX5_letter 6 (some .int), Cond.methodLink RX5 146 yX5_isOpenBetween]
def wsX5_digest_r5 : List Cond := [Cond.instanceMethod yX5_isOpenBetween, Cond.selects RX5 yX5_isOpenBetween yX5_isOpenBetween, Cond.code yX5_isOpenBetween cX5_isOpenBetween 4 (some .boolean), Cond.methodLink RX5 69 yX5_isAt, Cond.instanceMethod yX5_isAt, Cond.selects RX5 yX5_isAt yX5_isAt, Cond.code yX5_isAt cX5_isAt 3 (some .boolean), Cond.methodLink RX5 205 yX5_pairsOver, Cond.instanceMethod yX5_pairsOver, Cond.selects RX5 yX5_pairsOver yX5_pairsOver, Cond.code yX5_pairsOver cX5_pairsOver 6 (some .int), Cond.methodLink RX5 149 yX5_lengthsNow, Cond.instanceMethod yX5_lengthsNow, Cond.selects RX5 yX5_lengthsNow yX5_lengthsNow, Cond.code yX5_lengthsNow cX5_lengthsNow 4 (some (.array .int)), Cond.fieldLink RX5 27 "PassNotesModel" "length" "[I", Cond.methodLink RX5 195 yX5_hutTold, Cond.instanceMethod yX5_hutTold, Cond.selects RX5 yX5_hutTold yX5_hutTold, Cond.code yX5_hutTold cX5_hutTold 3 (some .int), Cond.fieldLink RX5 9 "PassNotesModel" "area" "[I", Cond.fieldLink RX5 13 "PassNotesModel" "written" "[I", Cond.methodLink RX5 189 yX5_waysOf, Cond.instanceMethod yX5_waysOf]
def wsX5_digest_r6 : List Cond := [Cond.selects RX5 yX5_waysOf yX5_waysOf, Cond.code yX5_waysOf cX5_waysOf 4 (some .int), Cond.methodLink RX5 192 yX5_lettersOf, Cond.instanceMethod yX5_lettersOf, Cond.selects RX5 yX5_lettersOf yX5_lettersOf, Cond.code yX5_lettersOf cX5_lettersOf 4 (some .int), Cond.methodLink RX5 186 yX5_passTold, Cond.instanceMethod yX5_passTold, Cond.selects RX5 yX5_passTold yX5_passTold, Cond.code yX5_passTold cX5_passTold 3 (some .int), Cond.methodLink RX5 183 yX5_takers, Cond.instanceMethod yX5_takers, Cond.selects RX5 yX5_takers yX5_takers, Cond.code yX5_takers cX5_takers 4 (some .int), Cond.methodLink RX5 176 yX5_sheetTold, Cond.instanceMethod yX5_sheetTold, Cond.selects RX5 yX5_sheetTold yX5_sheetTold, Cond.code yX5_sheetTold cX5_sheetTold 4 (some .int), Cond.methodLink RX5 81 yX5_age, Cond.instanceMethod yX5_age, Cond.selects RX5 yX5_age yX5_age, Cond.code yX5_age cX5_age 3 (some .int), Cond.methodLink RX5 180 yX5_wayTold, Cond.instanceMethod yX5_wayTold]
def wsX5_digest_r7 : List Cond := [Cond.selects RX5 yX5_wayTold yX5_wayTold, Cond.code yX5_wayTold cX5_wayTold 3 (some .int)]
def wsX5_digest : List Cond := .code yX5_digest cX5_digest 6 (some .long) :: ((wsX5_digest_r1 ++ (wsX5_digest_r2 ++ (wsX5_digest_r3 ++ (wsX5_digest_r4 ++ (wsX5_digest_r5 ++ (wsX5_digest_r6 ++ wsX5_digest_r7)))))) ++ wsX50)
def wsL_hut : List Cond := .codeWith yL_hut cL_hut 4 (some .int) [(0, 9, 12, 13), (0, 9, 15, 15)] :: ([.classLink RL 13 "java/lang/IllegalArgumentException", .classLink RL 15 "java/lang/IllegalStateException", .methodLink RL 7 yX4_hut, .instanceMethod yX4_hut, .selects RX4 yX4_hut yX4_hut, .initialized RX4, .code yX4_hut cX4_hut 2 (some .int), .classLink RX4 39 "java/lang/IllegalArgumentException", .initialized "java/lang/IllegalArgumentException", .classLink RX4 50 "java/lang/IllegalStateException", .initialized "java/lang/IllegalStateException", .fieldLink RX4 10 "PassNotes" "land" "LPassNotes$Land;", .methodLink RX4 46 yX1_huts, .instanceMethod yX1_huts, .selects RX1 yX1_huts yX1_huts, .initialized RX1, .code yX1_huts cX1_huts 1 (some .int), .fieldLink RX1 28 "PassNotes$Land" "huts" "I", .methodLink RX4 55 yX1_addHut, .instanceMethod yX1_addHut, .selects RX1 yX1_addHut yX1_addHut, .code yX1_addHut cX1_addHut 2 (some .int), .fieldLink RX1 9 "PassNotes$Land" "areas" "[I"] ++ wsX40 ++ wsX10 ++ (vx_atS RX4 43 "java/lang/IllegalArgumentException" ["java/lang/RuntimeException", "java/lang/Exception"]).filter goodWord ++ (vx_atS RX4 54 "java/lang/IllegalStateException" ["java/lang/RuntimeException", "java/lang/Exception"]).filter goodWord)
def wsL_pass_r1 : List Cond := [Cond.classLink RL 21 "java/lang/IndexOutOfBoundsException", Cond.classLink RL 13 "java/lang/IllegalArgumentException", Cond.classLink RL 15 "java/lang/IllegalStateException", Cond.methodLink RL 17 yX4_pass, Cond.instanceMethod yX4_pass, Cond.selects RX4 yX4_pass yX4_pass, Cond.initialized RX4, Cond.code yX4_pass cX4_pass 4 (some .int), Cond.classLink RX4 39 "java/lang/IllegalArgumentException", Cond.initialized "java/lang/IllegalArgumentException", Cond.classLink RX4 50 "java/lang/IllegalStateException", Cond.initialized "java/lang/IllegalStateException", Cond.fieldLink RX4 10 "PassNotes" "land" "LPassNotes$Land;", Cond.methodLink RX4 59 yX4_checkHut, Cond.instanceMethod yX4_checkHut, Cond.selects RX4 yX4_checkHut yX4_checkHut, Cond.code yX4_checkHut cX4_checkHut 2 none, Cond.classLink RX4 144 "java/lang/IndexOutOfBoundsException", Cond.initialized "java/lang/IndexOutOfBoundsException", Cond.methodLink RX4 46 yX1_huts, Cond.instanceMethod yX1_huts, Cond.selects RX1 yX1_huts yX1_huts, Cond.initialized RX1, Cond.code yX1_huts cX1_huts 1 (some .int)]
def wsL_pass_r2 : List Cond := [Cond.fieldLink RX1 28 "PassNotes$Land" "huts" "I", Cond.methodLink RX4 65 yX4_checkLength, Cond.instanceMethod yX4_checkLength, Cond.selects RX4 yX4_checkLength yX4_checkLength, Cond.code yX4_checkLength cX4_checkLength 2 none, Cond.methodLink RX4 68 yX1_passes, Cond.instanceMethod yX1_passes, Cond.selects RX1 yX1_passes yX1_passes, Cond.code yX1_passes cX1_passes 1 (some .int), Cond.fieldLink RX1 32 "PassNotes$Land" "passes" "I", Cond.methodLink RX4 73 yX1_addPass, Cond.instanceMethod yX1_addPass, Cond.selects RX1 yX1_addPass yX1_addPass, Cond.code yX1_addPass cX1_addPass 4 (some .int), Cond.fieldLink RX1 15 "PassNotes$Land" "firsts" "[I", Cond.fieldLink RX1 18 "PassNotes$Land" "seconds" "[I", Cond.fieldLink RX1 21 "PassNotes$Land" "lengths" "[I", Cond.fieldLink RX1 24 "PassNotes$Land" "opens" "[Z"]
def wsL_pass : List Cond := .codeWith yL_pass cL_pass 6 (some .int) [(0, 12, 15, 21), (0, 12, 19, 13), (0, 12, 23, 15)] :: ((wsL_pass_r1 ++ wsL_pass_r2) ++ wsX40 ++ wsX10 ++ (vx_atS RX4 43 "java/lang/IllegalArgumentException" ["java/lang/RuntimeException", "java/lang/Exception"]).filter goodWord ++ (vx_atS RX4 54 "java/lang/IllegalStateException" ["java/lang/RuntimeException", "java/lang/Exception"]).filter goodWord ++ (vx_atS RX4 148 "java/lang/IndexOutOfBoundsException" ["java/lang/RuntimeException", "java/lang/Exception"]).filter goodWord)
def wsL_setLength_r1 : List Cond := [Cond.classLink RL 21 "java/lang/IndexOutOfBoundsException", Cond.classLink RL 13 "java/lang/IllegalArgumentException", Cond.methodLink RL 23 yX4_setLength, Cond.instanceMethod yX4_setLength, Cond.selects RX4 yX4_setLength yX4_setLength, Cond.initialized RX4, Cond.code yX4_setLength cX4_setLength 3 (some .int), Cond.fieldLink RX4 10 "PassNotes" "land" "LPassNotes$Land;", Cond.methodLink RX4 77 yX4_checkPass, Cond.instanceMethod yX4_checkPass, Cond.selects RX4 yX4_checkPass yX4_checkPass, Cond.code yX4_checkPass cX4_checkPass 2 none, Cond.classLink RX4 144 "java/lang/IndexOutOfBoundsException", Cond.initialized "java/lang/IndexOutOfBoundsException", Cond.methodLink RX4 68 yX1_passes, Cond.instanceMethod yX1_passes, Cond.selects RX1 yX1_passes yX1_passes, Cond.initialized RX1, Cond.code yX1_passes cX1_passes 1 (some .int), Cond.fieldLink RX1 32 "PassNotes$Land" "passes" "I", Cond.methodLink RX4 65 yX4_checkLength, Cond.instanceMethod yX4_checkLength, Cond.selects RX4 yX4_checkLength yX4_checkLength, Cond.code yX4_checkLength cX4_checkLength 2 none]
def wsL_setLength_r2 : List Cond := [Cond.classLink RX4 39 "java/lang/IllegalArgumentException", Cond.initialized "java/lang/IllegalArgumentException", Cond.methodLink RX4 80 yX1_changeLength, Cond.instanceMethod yX1_changeLength, Cond.selects RX1 yX1_changeLength yX1_changeLength, Cond.code yX1_changeLength cX1_changeLength 4 (some .int), Cond.fieldLink RX1 21 "PassNotes$Land" "lengths" "[I"]
def wsL_setLength : List Cond := .codeWith yL_setLength cL_setLength 5 (some .int) [(0, 10, 13, 21), (0, 10, 17, 13)] :: ((wsL_setLength_r1 ++ wsL_setLength_r2) ++ wsX40 ++ wsX10 ++ (vx_atS RX4 148 "java/lang/IndexOutOfBoundsException" ["java/lang/RuntimeException", "java/lang/Exception"]).filter goodWord ++ (vx_atS RX4 43 "java/lang/IllegalArgumentException" ["java/lang/RuntimeException", "java/lang/Exception"]).filter goodWord)
def wsL_setOpen : List Cond := .codeWith yL_setOpen cL_setOpen 5 (some .int) [(0, 17, 20, 21)] :: ([.classLink RL 21 "java/lang/IndexOutOfBoundsException", .methodLink RL 27 yX4_setOpen, .instanceMethod yX4_setOpen, .selects RX4 yX4_setOpen yX4_setOpen, .initialized RX4, .code yX4_setOpen cX4_setOpen 3 (some .boolean), .fieldLink RX4 10 "PassNotes" "land" "LPassNotes$Land;", .methodLink RX4 77 yX4_checkPass, .instanceMethod yX4_checkPass, .selects RX4 yX4_checkPass yX4_checkPass, .code yX4_checkPass cX4_checkPass 2 none, .classLink RX4 144 "java/lang/IndexOutOfBoundsException", .initialized "java/lang/IndexOutOfBoundsException", .methodLink RX4 68 yX1_passes, .instanceMethod yX1_passes, .selects RX1 yX1_passes yX1_passes, .initialized RX1, .code yX1_passes cX1_passes 1 (some .int), .fieldLink RX1 32 "PassNotes$Land" "passes" "I", .methodLink RX4 84 yX1_changeOpen, .instanceMethod yX1_changeOpen, .selects RX1 yX1_changeOpen yX1_changeOpen, .code yX1_changeOpen cX1_changeOpen 4 (some .boolean), .fieldLink RX1 24 "PassNotes$Land" "opens" "[Z"] ++ wsX40 ++ wsX10 ++ (vx_atS RX4 148 "java/lang/IndexOutOfBoundsException" ["java/lang/RuntimeException", "java/lang/Exception"]).filter goodWord)
def wsL_burn_r1 : List Cond := [Cond.classLink RL 21 "java/lang/IndexOutOfBoundsException", Cond.methodLink RL 31 yX4_burn, Cond.instanceMethod yX4_burn, Cond.selects RX4 yX4_burn yX4_burn, Cond.initialized RX4, Cond.code yX4_burn cX4_burn 2 (some .int), Cond.fieldLink RX4 21 "PassNotes" "now" "LPassNotes$Notes;", Cond.methodLink RX4 59 yX4_checkHut, Cond.instanceMethod yX4_checkHut, Cond.selects RX4 yX4_checkHut yX4_checkHut, Cond.code yX4_checkHut cX4_checkHut 2 none, Cond.classLink RX4 144 "java/lang/IndexOutOfBoundsException", Cond.initialized "java/lang/IndexOutOfBoundsException", Cond.fieldLink RX4 10 "PassNotes" "land" "LPassNotes$Land;", Cond.methodLink RX4 46 yX1_huts, Cond.instanceMethod yX1_huts, Cond.selects RX1 yX1_huts yX1_huts, Cond.initialized RX1, Cond.code yX1_huts cX1_huts 1 (some .int), Cond.fieldLink RX1 28 "PassNotes$Land" "huts" "I", Cond.methodLink RX4 88 yX2_burnAll, Cond.instanceMethod yX2_burnAll, Cond.selects RX2 yX2_burnAll yX2_burnAll, Cond.initialized RX2]
def wsL_burn_r2 : List Cond := [Cond.code yX2_burnAll cX2_burnAll 4 (some .int), Cond.fieldLink RX2 33 "PassNotes$Notes" "held" "[LPassNotes$Sheet;", Cond.methodLink RX2 55 yX2_sheetsOf, Cond.instanceMethod yX2_sheetsOf, Cond.selects RX2 yX2_sheetsOf yX2_sheetsOf, Cond.code yX2_sheetsOf cX2_sheetsOf 4 (some .int), Cond.methodLink RX2 51 yX2_slot, Cond.static yX2_slot, Cond.code yX2_slot cX2_slot 2 (some .int), Cond.methodLink RX2 48 yX2_forgetWays, Cond.instanceMethod yX2_forgetWays, Cond.selects RX2 yX2_forgetWays yX2_forgetWays, Cond.code yX2_forgetWays cX2_forgetWays 2 none, Cond.fieldLink RX2 27 "PassNotes$Notes" "waysFound" "[Z"]
def wsL_burn : List Cond := .codeWith yL_burn cL_burn 4 (some .int) [(0, 9, 12, 21)] :: ((wsL_burn_r1 ++ wsL_burn_r2) ++ wsX40 ++ wsX10 ++ wsX20 ++ (vx_atS RX4 148 "java/lang/IndexOutOfBoundsException" ["java/lang/RuntimeException", "java/lang/Exception"]).filter goodWord)
def wsL_sheet_r1 : List Cond := [Cond.classLink RL 21 "java/lang/IndexOutOfBoundsException", Cond.methodLink RL 34 yX4_sheet, Cond.instanceMethod yX4_sheet, Cond.selects RX4 yX4_sheet yX4_sheet, Cond.initialized RX4, Cond.code yX4_sheet cX4_sheet 5 (some .int), Cond.fieldLink RX4 21 "PassNotes" "now" "LPassNotes$Notes;", Cond.methodLink RX4 59 yX4_checkHut, Cond.instanceMethod yX4_checkHut, Cond.selects RX4 yX4_checkHut yX4_checkHut, Cond.code yX4_checkHut cX4_checkHut 2 none, Cond.classLink RX4 144 "java/lang/IndexOutOfBoundsException", Cond.initialized "java/lang/IndexOutOfBoundsException", Cond.fieldLink RX4 10 "PassNotes" "land" "LPassNotes$Land;", Cond.methodLink RX4 46 yX1_huts, Cond.instanceMethod yX1_huts, Cond.selects RX1 yX1_huts yX1_huts, Cond.initialized RX1, Cond.code yX1_huts cX1_huts 1 (some .int), Cond.fieldLink RX1 28 "PassNotes$Land" "huts" "I", Cond.methodLink RX4 91 yX4_checkWhat, Cond.instanceMethod yX4_checkWhat, Cond.selects RX4 yX4_checkWhat yX4_checkWhat, Cond.code yX4_checkWhat cX4_checkWhat 3 none]
def wsL_sheet_r2 : List Cond := [Cond.methodLink RX4 95 yX2_held, Cond.instanceMethod yX2_held, Cond.selects RX2 yX2_held yX2_held, Cond.initialized RX2, Cond.code yX2_held cX2_held 3 (some (.object "PassNotes$Sheet")), Cond.fieldLink RX2 33 "PassNotes$Notes" "held" "[LPassNotes$Sheet;", Cond.methodLink RX2 51 yX2_slot, Cond.static yX2_slot, Cond.code yX2_slot cX2_slot 2 (some .int), Cond.methodLink RX4 99 yX3_number, Cond.instanceMethod yX3_number, Cond.selects RX3 yX3_number yX3_number, Cond.initialized RX3, Cond.code yX3_number cX3_number 1 (some .int), Cond.fieldLink RX3 15 "PassNotes$Sheet" "number" "I", Cond.methodLink RX4 104 yX2_minute, Cond.instanceMethod yX2_minute, Cond.selects RX2 yX2_minute yX2_minute, Cond.code yX2_minute cX2_minute 1 (some .int), Cond.fieldLink RX2 44 "PassNotes$Notes" "minute" "I", Cond.methodLink RX4 107 yX3_age, Cond.instanceMethod yX3_age, Cond.selects RX3 yX3_age yX3_age, Cond.code yX3_age cX3_age 2 (some .int)]
def wsL_sheet_r3 : List Cond := [Cond.fieldLink RX3 19 "PassNotes$Sheet" "written" "I", Cond.methodLink RX4 110 yX3_passesTold, Cond.instanceMethod yX3_passesTold, Cond.selects RX3 yX3_passesTold yX3_passesTold, Cond.code yX3_passesTold cX3_passesTold 3 (some .int), Cond.fieldLink RX3 9 "PassNotes$Sheet" "lengths" "[I", Cond.methodLink RX3 32 yX3_tells, Cond.instanceMethod yX3_tells, Cond.selects RX3 yX3_tells yX3_tells, Cond.code yX3_tells cX3_tells 2 (some .boolean)]
def wsL_sheet : List Cond := .codeWith yL_sheet cL_sheet 6 (some .int) [(0, 12, 15, 21)] :: ((wsL_sheet_r1 ++ (wsL_sheet_r2 ++ wsL_sheet_r3)) ++ wsX40 ++ wsX10 ++ wsX20 ++ wsX30 ++ (vx_atS RX4 148 "java/lang/IndexOutOfBoundsException" ["java/lang/RuntimeException", "java/lang/Exception"]).filter goodWord)
def wsL_way_r1 : List Cond := [Cond.classLink RL 21 "java/lang/IndexOutOfBoundsException", Cond.methodLink RL 37 yX4_way, Cond.instanceMethod yX4_way, Cond.selects RX4 yX4_way yX4_way, Cond.initialized RX4, Cond.code yX4_way cX4_way 5 (some .int), Cond.fieldLink RX4 21 "PassNotes" "now" "LPassNotes$Notes;", Cond.constant RX4 116 (1073741824), Cond.methodLink RX4 59 yX4_checkHut, Cond.instanceMethod yX4_checkHut, Cond.selects RX4 yX4_checkHut yX4_checkHut, Cond.code yX4_checkHut cX4_checkHut 2 none, Cond.classLink RX4 144 "java/lang/IndexOutOfBoundsException", Cond.initialized "java/lang/IndexOutOfBoundsException", Cond.fieldLink RX4 10 "PassNotes" "land" "LPassNotes$Land;", Cond.methodLink RX4 46 yX1_huts, Cond.instanceMethod yX1_huts, Cond.selects RX1 yX1_huts yX1_huts, Cond.initialized RX1, Cond.code yX1_huts cX1_huts 1 (some .int), Cond.fieldLink RX1 28 "PassNotes$Land" "huts" "I", Cond.methodLink RX4 91 yX4_checkWhat, Cond.instanceMethod yX4_checkWhat, Cond.selects RX4 yX4_checkWhat yX4_checkWhat]
def wsL_way_r2 : List Cond := [Cond.code yX4_checkWhat cX4_checkWhat 3 none, Cond.methodLink RX4 113 yX2_knownWay, Cond.instanceMethod yX2_knownWay, Cond.selects RX2 yX2_knownWay yX2_knownWay, Cond.initialized RX2, Cond.code yX2_knownWay cX2_knownWay 3 (some .int), Cond.fieldLink RX2 27 "PassNotes$Notes" "waysFound" "[Z", Cond.fieldLink RX2 24 "PassNotes$Notes" "ways" "[[I", Cond.methodLink RX2 121 yX2_findWays, Cond.instanceMethod yX2_findWays, Cond.selects RX2 yX2_findWays yX2_findWays, Cond.code yX2_findWays cX2_findWays 7 none, Cond.fieldLink RX2 12 "PassNotes$Notes" "chart" "LPassNotes$Chart;", Cond.fieldLink RX2 40 "PassNotes$Notes" "land" "LPassNotes$Land;", Cond.fieldLink RX2 33 "PassNotes$Notes" "held" "[LPassNotes$Sheet;", Cond.methodLink RX2 125 yX0_clear, Cond.instanceMethod yX0_clear, Cond.selects RX0 yX0_clear yX0_clear, Cond.initialized RX0, Cond.code yX0_clear cX0_clear 1 none, Cond.fieldLink RX0 21 "PassNotes$Chart" "steps" "I", Cond.methodLink RX2 88 yX1_passes, Cond.instanceMethod yX1_passes, Cond.selects RX1 yX1_passes yX1_passes]
def wsL_way_r3 : List Cond := [Cond.code yX1_passes cX1_passes 1 (some .int), Cond.fieldLink RX1 32 "PassNotes$Land" "passes" "I", Cond.methodLink RX2 94 yX1_first, Cond.instanceMethod yX1_first, Cond.selects RX1 yX1_first yX1_first, Cond.code yX1_first cX1_first 2 (some .int), Cond.fieldLink RX1 15 "PassNotes$Land" "firsts" "[I", Cond.methodLink RX2 97 yX1_second, Cond.instanceMethod yX1_second, Cond.selects RX1 yX1_second yX1_second, Cond.code yX1_second cX1_second 2 (some .int), Cond.fieldLink RX1 18 "PassNotes$Land" "seconds" "[I", Cond.methodLink RX2 51 yX2_slot, Cond.static yX2_slot, Cond.code yX2_slot cX2_slot 2 (some .int), Cond.methodLink RX2 115 yX3_tells, Cond.instanceMethod yX3_tells, Cond.selects RX3 yX3_tells yX3_tells, Cond.initialized RX3, Cond.code yX3_tells cX3_tells 2 (some .boolean), Cond.fieldLink RX3 9 "PassNotes$Sheet" "lengths" "[I", Cond.methodLink RX2 128 yX3_length, Cond.instanceMethod yX3_length, Cond.selects RX3 yX3_length yX3_length]
def wsL_way_r4 : List Cond := [Cond.code yX3_length cX3_length 2 (some .int), Cond.methodLink RX2 131 yX0_addStep, Cond.instanceMethod yX0_addStep, Cond.selects RX0 yX0_addStep yX0_addStep, Cond.code yX0_addStep cX0_addStep 4 none, Cond.fieldLink RX0 9 "PassNotes$Chart" "froms" "[I", Cond.fieldLink RX0 15 "PassNotes$Chart" "tos" "[I", Cond.fieldLink RX0 18 "PassNotes$Chart" "lengths" "[I", Cond.methodLink RX2 135 yX0_search, Cond.instanceMethod yX0_search, Cond.selects RX0 yX0_search yX0_search, Cond.code yX0_search cX0_search 7 none, Cond.constant RX0 25 (1073741824)]
def wsL_way : List Cond := .codeWith yL_way cL_way 6 (some .int) [(0, 12, 15, 21)] :: ((wsL_way_r1 ++ (wsL_way_r2 ++ (wsL_way_r3 ++ wsL_way_r4))) ++ wsX40 ++ wsX10 ++ wsX20 ++ wsX00 ++ wsX30 ++ (vx_atS RX4 148 "java/lang/IndexOutOfBoundsException" ["java/lang/RuntimeException", "java/lang/Exception"]).filter goodWord)
def wsL_post_r1 : List Cond := [Cond.classLink RL 21 "java/lang/IndexOutOfBoundsException", Cond.methodLink RL 40 yX4_post, Cond.instanceMethod yX4_post, Cond.selects RX4 yX4_post yX4_post, Cond.initialized RX4, Cond.code yX4_post cX4_post 3 (some .int), Cond.fieldLink RX4 21 "PassNotes" "now" "LPassNotes$Notes;", Cond.methodLink RX4 59 yX4_checkHut, Cond.instanceMethod yX4_checkHut, Cond.selects RX4 yX4_checkHut yX4_checkHut, Cond.code yX4_checkHut cX4_checkHut 2 none, Cond.classLink RX4 144 "java/lang/IndexOutOfBoundsException", Cond.initialized "java/lang/IndexOutOfBoundsException", Cond.fieldLink RX4 10 "PassNotes" "land" "LPassNotes$Land;", Cond.methodLink RX4 46 yX1_huts, Cond.instanceMethod yX1_huts, Cond.selects RX1 yX1_huts yX1_huts, Cond.initialized RX1, Cond.code yX1_huts cX1_huts 1 (some .int), Cond.fieldLink RX1 28 "PassNotes$Land" "huts" "I", Cond.methodLink RX4 117 yX2_letter, Cond.instanceMethod yX2_letter, Cond.selects RX2 yX2_letter yX2_letter, Cond.initialized RX2]
def wsL_post_r2 : List Cond := [Cond.code yX2_letter cX2_letter 6 (some .int), Cond.constant RX2 142 (1073741824), Cond.fieldLink RX2 40 "PassNotes$Notes" "land" "LPassNotes$Land;", Cond.methodLink RX2 139 yX2_knownWay, Cond.instanceMethod yX2_knownWay, Cond.selects RX2 yX2_knownWay yX2_knownWay, Cond.code yX2_knownWay cX2_knownWay 3 (some .int), Cond.fieldLink RX2 27 "PassNotes$Notes" "waysFound" "[Z", Cond.fieldLink RX2 24 "PassNotes$Notes" "ways" "[[I", Cond.methodLink RX2 121 yX2_findWays, Cond.instanceMethod yX2_findWays, Cond.selects RX2 yX2_findWays yX2_findWays, Cond.code yX2_findWays cX2_findWays 7 none, Cond.fieldLink RX2 12 "PassNotes$Notes" "chart" "LPassNotes$Chart;", Cond.fieldLink RX2 33 "PassNotes$Notes" "held" "[LPassNotes$Sheet;", Cond.methodLink RX2 125 yX0_clear, Cond.instanceMethod yX0_clear, Cond.selects RX0 yX0_clear yX0_clear, Cond.initialized RX0, Cond.code yX0_clear cX0_clear 1 none, Cond.fieldLink RX0 21 "PassNotes$Chart" "steps" "I", Cond.methodLink RX2 88 yX1_passes, Cond.instanceMethod yX1_passes, Cond.selects RX1 yX1_passes yX1_passes]
def wsL_post_r3 : List Cond := [Cond.code yX1_passes cX1_passes 1 (some .int), Cond.fieldLink RX1 32 "PassNotes$Land" "passes" "I", Cond.methodLink RX2 94 yX1_first, Cond.instanceMethod yX1_first, Cond.selects RX1 yX1_first yX1_first, Cond.code yX1_first cX1_first 2 (some .int), Cond.fieldLink RX1 15 "PassNotes$Land" "firsts" "[I", Cond.methodLink RX2 97 yX1_second, Cond.instanceMethod yX1_second, Cond.selects RX1 yX1_second yX1_second, Cond.code yX1_second cX1_second 2 (some .int), Cond.fieldLink RX1 18 "PassNotes$Land" "seconds" "[I", Cond.methodLink RX2 51 yX2_slot, Cond.static yX2_slot, Cond.code yX2_slot cX2_slot 2 (some .int), Cond.methodLink RX2 115 yX3_tells, Cond.instanceMethod yX3_tells, Cond.selects RX3 yX3_tells yX3_tells, Cond.initialized RX3, Cond.code yX3_tells cX3_tells 2 (some .boolean), Cond.fieldLink RX3 9 "PassNotes$Sheet" "lengths" "[I", Cond.methodLink RX2 128 yX3_length, Cond.instanceMethod yX3_length, Cond.selects RX3 yX3_length yX3_length]
def wsL_post_r4 : List Cond := [Cond.code yX3_length cX3_length 2 (some .int), Cond.methodLink RX2 131 yX0_addStep, Cond.instanceMethod yX0_addStep, Cond.selects RX0 yX0_addStep yX0_addStep, Cond.code yX0_addStep cX0_addStep 4 none, Cond.fieldLink RX0 9 "PassNotes$Chart" "froms" "[I", Cond.fieldLink RX0 15 "PassNotes$Chart" "tos" "[I", Cond.fieldLink RX0 18 "PassNotes$Chart" "lengths" "[I", Cond.methodLink RX2 135 yX0_search, Cond.instanceMethod yX0_search, Cond.selects RX0 yX0_search yX0_search, Cond.code yX0_search cX0_search 7 none, Cond.constant RX0 25 (1073741824), Cond.methodLink RX2 143 yX1_isStep, Cond.instanceMethod yX1_isStep, Cond.selects RX1 yX1_isStep yX1_isStep, Cond.code yX1_isStep cX1_isStep 6 (some .boolean), Cond.fieldLink RX1 24 "PassNotes$Land" "opens" "[Z"]
def wsL_post : List Cond := .codeWith yL_post cL_post 5 (some .int) [(0, 10, 13, 21)] :: ((wsL_post_r1 ++ (wsL_post_r2 ++ (wsL_post_r3 ++ wsL_post_r4))) ++ wsX40 ++ wsX10 ++ wsX20 ++ wsX00 ++ wsX30 ++ (vx_atS RX4 148 "java/lang/IndexOutOfBoundsException" ["java/lang/RuntimeException", "java/lang/Exception"]).filter goodWord)
def wsL_truth_r1 : List Cond := [Cond.classLink RL 21 "java/lang/IndexOutOfBoundsException", Cond.methodLink RL 43 yX4_truth, Cond.instanceMethod yX4_truth, Cond.selects RX4 yX4_truth yX4_truth, Cond.initialized RX4, Cond.code yX4_truth cX4_truth 4 (some .int), Cond.fieldLink RX4 10 "PassNotes" "land" "LPassNotes$Land;", Cond.fieldLink RX4 31 "PassNotes" "truthChart" "LPassNotes$Chart;", Cond.fieldLink RX4 35 "PassNotes" "truthWays" "[I", Cond.constant RX4 116 (1073741824), Cond.methodLink RX4 59 yX4_checkHut, Cond.instanceMethod yX4_checkHut, Cond.selects RX4 yX4_checkHut yX4_checkHut, Cond.code yX4_checkHut cX4_checkHut 2 none, Cond.classLink RX4 144 "java/lang/IndexOutOfBoundsException", Cond.initialized "java/lang/IndexOutOfBoundsException", Cond.methodLink RX4 46 yX1_huts, Cond.instanceMethod yX1_huts, Cond.selects RX1 yX1_huts yX1_huts, Cond.initialized RX1, Cond.code yX1_huts cX1_huts 1 (some .int), Cond.fieldLink RX1 28 "PassNotes$Land" "huts" "I", Cond.methodLink RX4 120 yX1_draw, Cond.instanceMethod yX1_draw]
def wsL_truth_r2 : List Cond := [Cond.selects RX1 yX1_draw yX1_draw, Cond.code yX1_draw cX1_draw 3 none, Cond.fieldLink RX1 32 "PassNotes$Land" "passes" "I", Cond.fieldLink RX1 24 "PassNotes$Land" "opens" "[Z", Cond.fieldLink RX1 15 "PassNotes$Land" "firsts" "[I", Cond.fieldLink RX1 18 "PassNotes$Land" "seconds" "[I", Cond.fieldLink RX1 21 "PassNotes$Land" "lengths" "[I", Cond.methodLink RX1 35 yX0_clear, Cond.instanceMethod yX0_clear, Cond.selects RX0 yX0_clear yX0_clear, Cond.initialized RX0, Cond.code yX0_clear cX0_clear 1 none, Cond.fieldLink RX0 21 "PassNotes$Chart" "steps" "I", Cond.methodLink RX1 40 yX0_addStep, Cond.instanceMethod yX0_addStep, Cond.selects RX0 yX0_addStep yX0_addStep, Cond.code yX0_addStep cX0_addStep 4 none, Cond.fieldLink RX0 9 "PassNotes$Chart" "froms" "[I", Cond.fieldLink RX0 15 "PassNotes$Chart" "tos" "[I", Cond.fieldLink RX0 18 "PassNotes$Chart" "lengths" "[I", Cond.methodLink RX4 124 yX0_search, Cond.instanceMethod yX0_search, Cond.selects RX0 yX0_search yX0_search, Cond.code yX0_search cX0_search 7 none]
def wsL_truth_r3 : List Cond := [Cond.constant RX0 25 (1073741824)]
def wsL_truth : List Cond := .codeWith yL_truth cL_truth 5 (some .int) [(0, 10, 13, 21)] :: ((wsL_truth_r1 ++ (wsL_truth_r2 ++ wsL_truth_r3)) ++ wsX40 ++ wsX10 ++ wsX00 ++ (vx_atS RX4 148 "java/lang/IndexOutOfBoundsException" ["java/lang/RuntimeException", "java/lang/Exception"]).filter goodWord)
def wsL_about_r1 : List Cond := [Cond.classLink RL 21 "java/lang/IndexOutOfBoundsException", Cond.methodLink RL 46 yX4_about, Cond.instanceMethod yX4_about, Cond.selects RX4 yX4_about yX4_about, Cond.initialized RX4, Cond.code yX4_about cX4_about 3 (some .int), Cond.classLink RX4 144 "java/lang/IndexOutOfBoundsException", Cond.initialized "java/lang/IndexOutOfBoundsException", Cond.fieldLink RX4 10 "PassNotes" "land" "LPassNotes$Land;", Cond.fieldLink RX4 21 "PassNotes" "now" "LPassNotes$Notes;", Cond.methodLink RX4 77 yX4_checkPass, Cond.instanceMethod yX4_checkPass, Cond.selects RX4 yX4_checkPass yX4_checkPass, Cond.code yX4_checkPass cX4_checkPass 2 none, Cond.methodLink RX4 68 yX1_passes, Cond.instanceMethod yX1_passes, Cond.selects RX1 yX1_passes yX1_passes, Cond.initialized RX1, Cond.code yX1_passes cX1_passes 1 (some .int), Cond.fieldLink RX1 32 "PassNotes$Land" "passes" "I", Cond.methodLink RX4 128 yX1_first, Cond.instanceMethod yX1_first, Cond.selects RX1 yX1_first yX1_first, Cond.code yX1_first cX1_first 2 (some .int)]
def wsL_about_r2 : List Cond := [Cond.fieldLink RX1 15 "PassNotes$Land" "firsts" "[I", Cond.methodLink RX4 131 yX1_second, Cond.instanceMethod yX1_second, Cond.selects RX1 yX1_second yX1_second, Cond.code yX1_second cX1_second 2 (some .int), Cond.fieldLink RX1 18 "PassNotes$Land" "seconds" "[I", Cond.methodLink RX4 134 yX1_length, Cond.instanceMethod yX1_length, Cond.selects RX1 yX1_length yX1_length, Cond.code yX1_length cX1_length 2 (some .int), Cond.fieldLink RX1 21 "PassNotes$Land" "lengths" "[I", Cond.methodLink RX4 137 yX1_isOpen, Cond.instanceMethod yX1_isOpen, Cond.selects RX1 yX1_isOpen yX1_isOpen, Cond.code yX1_isOpen cX1_isOpen 2 (some .boolean), Cond.fieldLink RX1 24 "PassNotes$Land" "opens" "[Z", Cond.methodLink RX4 141 yX2_takersForOpen, Cond.instanceMethod yX2_takersForOpen, Cond.selects RX2 yX2_takersForOpen yX2_takersForOpen, Cond.initialized RX2, Cond.code yX2_takersForOpen cX2_takersForOpen 4 (some .int), Cond.fieldLink RX2 40 "PassNotes$Notes" "land" "LPassNotes$Land;", Cond.methodLink RX2 59 yX1_huts, Cond.instanceMethod yX1_huts]
def wsL_about_r3 : List Cond := [Cond.selects RX1 yX1_huts yX1_huts, Cond.code yX1_huts cX1_huts 1 (some .int), Cond.fieldLink RX1 28 "PassNotes$Land" "huts" "I", Cond.methodLink RX2 118 yX2_takesForOpen, Cond.instanceMethod yX2_takesForOpen, Cond.selects RX2 yX2_takesForOpen yX2_takesForOpen, Cond.code yX2_takesForOpen cX2_takesForOpen 5 (some .boolean), Cond.fieldLink RX2 33 "PassNotes$Notes" "held" "[LPassNotes$Sheet;", Cond.methodLink RX2 94 yX1_first, Cond.methodLink RX2 51 yX2_slot, Cond.static yX2_slot, Cond.code yX2_slot cX2_slot 2 (some .int), Cond.methodLink RX2 97 yX1_second, Cond.methodLink RX2 115 yX3_tells, Cond.instanceMethod yX3_tells, Cond.selects RX3 yX3_tells yX3_tells, Cond.initialized RX3, Cond.code yX3_tells cX3_tells 2 (some .boolean), Cond.fieldLink RX3 9 "PassNotes$Sheet" "lengths" "[I"]
def wsL_about : List Cond := .codeWith yL_about cL_about 5 (some .int) [(0, 10, 13, 21)] :: ((wsL_about_r1 ++ (wsL_about_r2 ++ wsL_about_r3)) ++ wsX40 ++ wsX10 ++ wsX20 ++ wsX30 ++ (vx_atS RX4 148 "java/lang/IndexOutOfBoundsException" ["java/lang/RuntimeException", "java/lang/Exception"]).filter goodWord)
def wsL_told_r1 : List Cond := [Cond.classLink RL 21 "java/lang/IndexOutOfBoundsException", Cond.methodLink RL 49 yX4_told, Cond.instanceMethod yX4_told, Cond.selects RX4 yX4_told yX4_told, Cond.initialized RX4, Cond.code yX4_told cX4_told 3 (some .int), Cond.classLink RX4 144 "java/lang/IndexOutOfBoundsException", Cond.initialized "java/lang/IndexOutOfBoundsException", Cond.fieldLink RX4 10 "PassNotes" "land" "LPassNotes$Land;", Cond.fieldLink RX4 21 "PassNotes" "now" "LPassNotes$Notes;", Cond.methodLink RX4 59 yX4_checkHut, Cond.instanceMethod yX4_checkHut, Cond.selects RX4 yX4_checkHut yX4_checkHut, Cond.code yX4_checkHut cX4_checkHut 2 none, Cond.methodLink RX4 46 yX1_huts, Cond.instanceMethod yX1_huts, Cond.selects RX1 yX1_huts yX1_huts, Cond.initialized RX1, Cond.code yX1_huts cX1_huts 1 (some .int), Cond.fieldLink RX1 28 "PassNotes$Land" "huts" "I", Cond.methodLink RX4 149 yX1_area, Cond.instanceMethod yX1_area, Cond.selects RX1 yX1_area yX1_area, Cond.code yX1_area cX1_area 2 (some .int)]
def wsL_told_r2 : List Cond := [Cond.fieldLink RX1 9 "PassNotes$Land" "areas" "[I", Cond.methodLink RX4 152 yX2_sheetsOf, Cond.instanceMethod yX2_sheetsOf, Cond.selects RX2 yX2_sheetsOf yX2_sheetsOf, Cond.initialized RX2, Cond.code yX2_sheetsOf cX2_sheetsOf 4 (some .int), Cond.fieldLink RX2 33 "PassNotes$Notes" "held" "[LPassNotes$Sheet;", Cond.methodLink RX2 51 yX2_slot, Cond.static yX2_slot, Cond.code yX2_slot cX2_slot 2 (some .int), Cond.methodLink RX4 155 yX2_wroteInAll, Cond.instanceMethod yX2_wroteInAll, Cond.selects RX2 yX2_wroteInAll yX2_wroteInAll, Cond.code yX2_wroteInAll cX2_wroteInAll 2 (some .int), Cond.fieldLink RX2 18 "PassNotes$Notes" "wrote" "[I", Cond.methodLink RX4 158 yX2_knownHuts, Cond.instanceMethod yX2_knownHuts, Cond.selects RX2 yX2_knownHuts yX2_knownHuts, Cond.code yX2_knownHuts cX2_knownHuts 4 (some .int), Cond.fieldLink RX2 40 "PassNotes$Notes" "land" "LPassNotes$Land;", Cond.constant RX2 142 (1073741824), Cond.methodLink RX2 59 yX1_huts, Cond.methodLink RX2 139 yX2_knownWay, Cond.instanceMethod yX2_knownWay]
def wsL_told_r3 : List Cond := [Cond.selects RX2 yX2_knownWay yX2_knownWay, Cond.code yX2_knownWay cX2_knownWay 3 (some .int), Cond.fieldLink RX2 27 "PassNotes$Notes" "waysFound" "[Z", Cond.fieldLink RX2 24 "PassNotes$Notes" "ways" "[[I", Cond.methodLink RX2 121 yX2_findWays, Cond.instanceMethod yX2_findWays, Cond.selects RX2 yX2_findWays yX2_findWays, Cond.code yX2_findWays cX2_findWays 7 none, Cond.fieldLink RX2 12 "PassNotes$Notes" "chart" "LPassNotes$Chart;", Cond.methodLink RX2 125 yX0_clear, Cond.instanceMethod yX0_clear, Cond.selects RX0 yX0_clear yX0_clear, Cond.initialized RX0, Cond.code yX0_clear cX0_clear 1 none, Cond.fieldLink RX0 21 "PassNotes$Chart" "steps" "I", Cond.methodLink RX2 88 yX1_passes, Cond.instanceMethod yX1_passes, Cond.selects RX1 yX1_passes yX1_passes, Cond.code yX1_passes cX1_passes 1 (some .int), Cond.fieldLink RX1 32 "PassNotes$Land" "passes" "I", Cond.methodLink RX2 94 yX1_first, Cond.instanceMethod yX1_first, Cond.selects RX1 yX1_first yX1_first, Cond.code yX1_first cX1_first 2 (some .int)]
def wsL_told_r4 : List Cond := [Cond.fieldLink RX1 15 "PassNotes$Land" "firsts" "[I", Cond.methodLink RX2 97 yX1_second, Cond.instanceMethod yX1_second, Cond.selects RX1 yX1_second yX1_second, Cond.code yX1_second cX1_second 2 (some .int), Cond.fieldLink RX1 18 "PassNotes$Land" "seconds" "[I", Cond.methodLink RX2 115 yX3_tells, Cond.instanceMethod yX3_tells, Cond.selects RX3 yX3_tells yX3_tells, Cond.initialized RX3, Cond.code yX3_tells cX3_tells 2 (some .boolean), Cond.fieldLink RX3 9 "PassNotes$Sheet" "lengths" "[I", Cond.methodLink RX2 128 yX3_length, Cond.instanceMethod yX3_length, Cond.selects RX3 yX3_length yX3_length, Cond.code yX3_length cX3_length 2 (some .int), Cond.methodLink RX2 131 yX0_addStep, Cond.instanceMethod yX0_addStep, Cond.selects RX0 yX0_addStep yX0_addStep, Cond.code yX0_addStep cX0_addStep 4 none, Cond.fieldLink RX0 9 "PassNotes$Chart" "froms" "[I", Cond.fieldLink RX0 15 "PassNotes$Chart" "tos" "[I", Cond.fieldLink RX0 18 "PassNotes$Chart" "lengths" "[I", Cond.methodLink RX2 135 yX0_search]
def wsL_told_r5 : List Cond := [Cond.instanceMethod yX0_search, Cond.selects RX0 yX0_search yX0_search, Cond.code yX0_search cX0_search 7 none, Cond.constant RX0 25 (1073741824), Cond.methodLink RX4 161 yX2_reachedHuts, Cond.instanceMethod yX2_reachedHuts, Cond.selects RX2 yX2_reachedHuts yX2_reachedHuts, Cond.code yX2_reachedHuts cX2_reachedHuts 4 (some .int), Cond.methodLink RX2 146 yX2_letter, Cond.instanceMethod yX2_letter, Cond.selects RX2 yX2_letter yX2_letter, Cond.code yX2_letter cX2_letter 6 (some .int), Cond.methodLink RX2 143 yX1_isStep, Cond.instanceMethod yX1_isStep, Cond.selects RX1 yX1_isStep yX1_isStep, Cond.code yX1_isStep cX1_isStep 6 (some .boolean), Cond.fieldLink RX1 24 "PassNotes$Land" "opens" "[Z"]
def wsL_told : List Cond := .codeWith yL_told cL_told 5 (some .int) [(0, 10, 13, 21)] :: ((wsL_told_r1 ++ (wsL_told_r2 ++ (wsL_told_r3 ++ (wsL_told_r4 ++ wsL_told_r5)))) ++ wsX40 ++ wsX10 ++ wsX20 ++ wsX00 ++ wsX30 ++ (vx_atS RX4 148 "java/lang/IndexOutOfBoundsException" ["java/lang/RuntimeException", "java/lang/Exception"]).filter goodWord)
def wsL_count_r1 : List Cond := [Cond.classLink RL 21 "java/lang/IndexOutOfBoundsException", Cond.methodLink RL 52 yX4_count, Cond.instanceMethod yX4_count, Cond.selects RX4 yX4_count yX4_count, Cond.initialized RX4, Cond.code yX4_count cX4_count 2 (some .int), Cond.classLink RX4 144 "java/lang/IndexOutOfBoundsException", Cond.initialized "java/lang/IndexOutOfBoundsException", Cond.fieldLink RX4 21 "PassNotes" "now" "LPassNotes$Notes;", Cond.fieldLink RX4 10 "PassNotes" "land" "LPassNotes$Land;", Cond.methodLink RX4 104 yX2_minute, Cond.instanceMethod yX2_minute, Cond.selects RX2 yX2_minute yX2_minute, Cond.initialized RX2, Cond.code yX2_minute cX2_minute 1 (some .int), Cond.fieldLink RX2 44 "PassNotes$Notes" "minute" "I", Cond.methodLink RX4 46 yX1_huts, Cond.instanceMethod yX1_huts, Cond.selects RX1 yX1_huts yX1_huts, Cond.initialized RX1, Cond.code yX1_huts cX1_huts 1 (some .int), Cond.fieldLink RX1 28 "PassNotes$Land" "huts" "I", Cond.methodLink RX4 68 yX1_passes, Cond.instanceMethod yX1_passes]
def wsL_count_r2 : List Cond := [Cond.selects RX1 yX1_passes yX1_passes, Cond.code yX1_passes cX1_passes 1 (some .int), Cond.fieldLink RX1 32 "PassNotes$Land" "passes" "I", Cond.methodLink RX4 164 yX1_openPasses, Cond.instanceMethod yX1_openPasses, Cond.selects RX1 yX1_openPasses yX1_openPasses, Cond.code yX1_openPasses cX1_openPasses 3 (some .int), Cond.fieldLink RX1 24 "PassNotes$Land" "opens" "[Z", Cond.methodLink RX4 167 yX2_sheets, Cond.instanceMethod yX2_sheets, Cond.selects RX2 yX2_sheets yX2_sheets, Cond.code yX2_sheets cX2_sheets 3 (some .int), Cond.fieldLink RX2 40 "PassNotes$Notes" "land" "LPassNotes$Land;", Cond.methodLink RX2 59 yX1_huts, Cond.methodLink RX2 55 yX2_sheetsOf, Cond.instanceMethod yX2_sheetsOf, Cond.selects RX2 yX2_sheetsOf yX2_sheetsOf, Cond.code yX2_sheetsOf cX2_sheetsOf 4 (some .int), Cond.fieldLink RX2 33 "PassNotes$Notes" "held" "[LPassNotes$Sheet;", Cond.methodLink RX2 51 yX2_slot, Cond.static yX2_slot, Cond.code yX2_slot cX2_slot 2 (some .int), Cond.methodLink RX4 170 yX2_reachedPairs, Cond.instanceMethod yX2_reachedPairs]
def wsL_count_r3 : List Cond := [Cond.selects RX2 yX2_reachedPairs yX2_reachedPairs, Cond.code yX2_reachedPairs cX2_reachedPairs 4 (some .int), Cond.methodLink RX2 146 yX2_letter, Cond.instanceMethod yX2_letter, Cond.selects RX2 yX2_letter yX2_letter, Cond.code yX2_letter cX2_letter 6 (some .int), Cond.constant RX2 142 (1073741824), Cond.methodLink RX2 139 yX2_knownWay, Cond.instanceMethod yX2_knownWay, Cond.selects RX2 yX2_knownWay yX2_knownWay, Cond.code yX2_knownWay cX2_knownWay 3 (some .int), Cond.fieldLink RX2 27 "PassNotes$Notes" "waysFound" "[Z", Cond.fieldLink RX2 24 "PassNotes$Notes" "ways" "[[I", Cond.methodLink RX2 121 yX2_findWays, Cond.instanceMethod yX2_findWays, Cond.selects RX2 yX2_findWays yX2_findWays, Cond.code yX2_findWays cX2_findWays 7 none, Cond.fieldLink RX2 12 "PassNotes$Notes" "chart" "LPassNotes$Chart;", Cond.methodLink RX2 125 yX0_clear, Cond.instanceMethod yX0_clear, Cond.selects RX0 yX0_clear yX0_clear, Cond.initialized RX0, Cond.code yX0_clear cX0_clear 1 none, Cond.fieldLink RX0 21 "PassNotes$Chart" "steps" "I"]
def wsL_count_r4 : List Cond := [Cond.methodLink RX2 88 yX1_passes, Cond.methodLink RX2 94 yX1_first, Cond.instanceMethod yX1_first, Cond.selects RX1 yX1_first yX1_first, Cond.code yX1_first cX1_first 2 (some .int), Cond.fieldLink RX1 15 "PassNotes$Land" "firsts" "[I", Cond.methodLink RX2 97 yX1_second, Cond.instanceMethod yX1_second, Cond.selects RX1 yX1_second yX1_second, Cond.code yX1_second cX1_second 2 (some .int), Cond.fieldLink RX1 18 "PassNotes$Land" "seconds" "[I", Cond.methodLink RX2 115 yX3_tells, Cond.instanceMethod yX3_tells, Cond.selects RX3 yX3_tells yX3_tells, Cond.initialized RX3, Cond.code yX3_tells cX3_tells 2 (some .boolean), Cond.fieldLink RX3 9 "PassNotes$Sheet" "lengths" "[I", Cond.methodLink RX2 128 yX3_length, Cond.instanceMethod yX3_length, Cond.selects RX3 yX3_length yX3_length, Cond.code yX3_length cX3_length 2 (some .int), Cond.methodLink RX2 131 yX0_addStep, Cond.instanceMethod yX0_addStep, Cond.selects RX0 yX0_addStep yX0_addStep]
def wsL_count_r5 : List Cond := [Cond.code yX0_addStep cX0_addStep 4 none, Cond.fieldLink RX0 9 "PassNotes$Chart" "froms" "[I", Cond.fieldLink RX0 15 "PassNotes$Chart" "tos" "[I", Cond.fieldLink RX0 18 "PassNotes$Chart" "lengths" "[I", Cond.methodLink RX2 135 yX0_search, Cond.instanceMethod yX0_search, Cond.selects RX0 yX0_search yX0_search, Cond.code yX0_search cX0_search 7 none, Cond.constant RX0 25 (1073741824), Cond.methodLink RX2 143 yX1_isStep, Cond.instanceMethod yX1_isStep, Cond.selects RX1 yX1_isStep yX1_isStep, Cond.code yX1_isStep cX1_isStep 6 (some .boolean), Cond.methodLink RX4 173 yX1_joinedPairs, Cond.instanceMethod yX1_joinedPairs, Cond.selects RX1 yX1_joinedPairs yX1_joinedPairs, Cond.code yX1_joinedPairs cX1_joinedPairs 7 (some .int), Cond.methodLink RX1 44 yX1_groupOf, Cond.instanceMethod yX1_groupOf, Cond.selects RX1 yX1_groupOf yX1_groupOf, Cond.code yX1_groupOf cX1_groupOf 9 (some .int), Cond.methodLink RX1 48 yJ6_bitCount_0f7a4, Cond.static yJ6_bitCount_0f7a4, Cond.initialized RJ6]
def wsL_count_r6 : List Cond := [Cond.code yJ6_bitCount_0f7a4 cJ6_bitCount_0f7a4 1 (some .int), Cond.constant RJ6 265 (1431655765), Cond.constant RJ6 266 (858993459), Cond.constant RJ6 267 (252645135)]
def wsL_count : List Cond := .codeWith yL_count cL_count 4 (some .int) [(0, 9, 12, 21)] :: ((wsL_count_r1 ++ (wsL_count_r2 ++ (wsL_count_r3 ++ (wsL_count_r4 ++ (wsL_count_r5 ++ wsL_count_r6))))) ++ wsX40 ++ wsX20 ++ wsX10 ++ wsX00 ++ wsX30 ++ (vx_atS RX4 148 "java/lang/IndexOutOfBoundsException" ["java/lang/RuntimeException", "java/lang/Exception"]).filter goodWord)
def wsL_go_r1 : List Cond := [Cond.classLink RL 13 "java/lang/IllegalArgumentException", Cond.methodLink RL 55 yX4_go, Cond.instanceMethod yX4_go, Cond.selects RX4 yX4_go yX4_go, Cond.initialized RX4, Cond.code yX4_go cX4_go 2 (some .int), Cond.fieldLink RX4 21 "PassNotes" "now" "LPassNotes$Notes;", Cond.methodLink RX4 178 yX4_checkMinutes, Cond.instanceMethod yX4_checkMinutes, Cond.selects RX4 yX4_checkMinutes yX4_checkMinutes, Cond.code yX4_checkMinutes cX4_checkMinutes 2 none, Cond.classLink RX4 39 "java/lang/IllegalArgumentException", Cond.initialized "java/lang/IllegalArgumentException", Cond.methodLink RX4 181 yX2_passMinutes, Cond.instanceMethod yX2_passMinutes, Cond.selects RX2 yX2_passMinutes yX2_passMinutes, Cond.initialized RX2, Cond.code yX2_passMinutes cX2_passMinutes 4 (some .int), Cond.fieldLink RX2 44 "PassNotes$Notes" "minute" "I", Cond.methodLink RX2 68 yX2_writeSheets, Cond.instanceMethod yX2_writeSheets, Cond.selects RX2 yX2_writeSheets yX2_writeSheets, Cond.code yX2_writeSheets cX2_writeSheets 3 (some .int), Cond.fieldLink RX2 40 "PassNotes$Notes" "land" "LPassNotes$Land;"]
def wsL_go_r2 : List Cond := [Cond.fieldLink RX2 18 "PassNotes$Notes" "wrote" "[I", Cond.fieldLink RX2 33 "PassNotes$Notes" "held" "[LPassNotes$Sheet;", Cond.classLink RX2 31 RX3, Cond.instantiable RX3 3, Cond.initialized RX3, Cond.methodLink RX2 59 yX1_huts, Cond.instanceMethod yX1_huts, Cond.selects RX1 yX1_huts yX1_huts, Cond.initialized RX1, Cond.code yX1_huts cX1_huts 1 (some .int), Cond.fieldLink RX1 28 "PassNotes$Land" "huts" "I", Cond.methodLink RX2 77 yX2_mustWrite, Cond.instanceMethod yX2_mustWrite, Cond.selects RX2 yX2_mustWrite yX2_mustWrite, Cond.code yX2_mustWrite cX2_mustWrite 3 (some .boolean), Cond.methodLink RX2 51 yX2_slot, Cond.static yX2_slot, Cond.code yX2_slot cX2_slot 2 (some .int), Cond.methodLink RX2 65 yX3_age, Cond.instanceMethod yX3_age, Cond.selects RX3 yX3_age yX3_age, Cond.code yX3_age cX3_age 2 (some .int), Cond.fieldLink RX3 19 "PassNotes$Sheet" "written" "I", Cond.methodLink RX2 84 yX3_tellsAsNow]
def wsL_go_r3 : List Cond := [Cond.instanceMethod yX3_tellsAsNow, Cond.selects RX3 yX3_tellsAsNow yX3_tellsAsNow, Cond.code yX3_tellsAsNow cX3_tellsAsNow 4 (some .boolean), Cond.fieldLink RX3 9 "PassNotes$Sheet" "lengths" "[I", Cond.methodLink RX3 22 yX1_passes, Cond.instanceMethod yX1_passes, Cond.selects RX1 yX1_passes yX1_passes, Cond.code yX1_passes cX1_passes 1 (some .int), Cond.fieldLink RX1 32 "PassNotes$Land" "passes" "I", Cond.methodLink RX3 28 yX1_tellsNow, Cond.instanceMethod yX1_tellsNow, Cond.selects RX1 yX1_tellsNow yX1_tellsNow, Cond.code yX1_tellsNow cX1_tellsNow 4 (some .int), Cond.fieldLink RX1 15 "PassNotes$Land" "firsts" "[I", Cond.fieldLink RX1 18 "PassNotes$Land" "seconds" "[I", Cond.fieldLink RX1 24 "PassNotes$Land" "opens" "[Z", Cond.fieldLink RX1 21 "PassNotes$Land" "lengths" "[I", Cond.methodLink RX2 81 yX3_init, Cond.instanceMethod yX3_init, Cond.code yX3_init cX3_init 6 none, Cond.methodLink RX3 3 objectInit, Cond.instanceMethod objectInit, Cond.code objectInit ⟨#[0xb1]⟩ 1 none, Cond.arrayClass .int]
def wsL_go_r4 : List Cond := [Cond.fieldLink RX3 15 "PassNotes$Sheet" "number" "I", Cond.methodLink RX2 71 yX2_carrySheets, Cond.instanceMethod yX2_carrySheets, Cond.selects RX2 yX2_carrySheets yX2_carrySheets, Cond.code yX2_carrySheets cX2_carrySheets 2 none, Cond.fieldLink RX2 37 "PassNotes$Notes" "carried" "[LPassNotes$Sheet;", Cond.methodLink RX2 88 yX1_passes, Cond.methodLink RX2 91 yX1_isOpen, Cond.instanceMethod yX1_isOpen, Cond.selects RX1 yX1_isOpen yX1_isOpen, Cond.code yX1_isOpen cX1_isOpen 2 (some .boolean), Cond.methodLink RX2 94 yX1_first, Cond.instanceMethod yX1_first, Cond.selects RX1 yX1_first yX1_first, Cond.code yX1_first cX1_first 2 (some .int), Cond.methodLink RX2 97 yX1_second, Cond.instanceMethod yX1_second, Cond.selects RX1 yX1_second yX1_second, Cond.code yX1_second cX1_second 2 (some .int), Cond.methodLink RX2 100 yX2_carry, Cond.instanceMethod yX2_carry, Cond.selects RX2 yX2_carry yX2_carry, Cond.code yX2_carry cX2_carry 5 none, Cond.methodLink RX2 104 yX1_takesIn]
def wsL_go_r5 : List Cond := [Cond.instanceMethod yX1_takesIn, Cond.selects RX1 yX1_takesIn yX1_takesIn, Cond.code yX1_takesIn cX1_takesIn 3 (some .boolean), Cond.fieldLink RX1 9 "PassNotes$Land" "areas" "[I", Cond.methodLink RX2 108 yX2_isNewer, Cond.instanceMethod yX2_isNewer, Cond.selects RX2 yX2_isNewer yX2_isNewer, Cond.code yX2_isNewer cX2_isNewer 3 (some .boolean), Cond.methodLink RX2 112 yX3_number, Cond.instanceMethod yX3_number, Cond.selects RX3 yX3_number yX3_number, Cond.code yX3_number cX3_number 1 (some .int), Cond.methodLink RX2 74 yX2_throwOldAway, Cond.instanceMethod yX2_throwOldAway, Cond.selects RX2 yX2_throwOldAway yX2_throwOldAway, Cond.code yX2_throwOldAway cX2_throwOldAway 3 none, Cond.methodLink RX2 48 yX2_forgetWays, Cond.instanceMethod yX2_forgetWays, Cond.selects RX2 yX2_forgetWays yX2_forgetWays, Cond.code yX2_forgetWays cX2_forgetWays 2 none, Cond.fieldLink RX2 27 "PassNotes$Notes" "waysFound" "[Z"]
def wsL_go : List Cond := .codeWith yL_go cL_go 4 (some .int) [(0, 9, 12, 13)] :: ((wsL_go_r1 ++ (wsL_go_r2 ++ (wsL_go_r3 ++ (wsL_go_r4 ++ wsL_go_r5)))) ++ wsX40 ++ wsX20 ++ wsX30 ++ wsX10 ++ (vx_atS RX4 43 "java/lang/IllegalArgumentException" ["java/lang/RuntimeException", "java/lang/Exception"]).filter goodWord)
def wsL_foresee_r1 : List Cond := [Cond.classLink RL 13 "java/lang/IllegalArgumentException", Cond.classLink RL 21 "java/lang/IndexOutOfBoundsException", Cond.methodLink RL 58 yX4_foresee, Cond.instanceMethod yX4_foresee, Cond.selects RX4 yX4_foresee yX4_foresee, Cond.initialized RX4, Cond.code yX4_foresee cX4_foresee 3 (some .int), Cond.classLink RX4 144 "java/lang/IndexOutOfBoundsException", Cond.initialized "java/lang/IndexOutOfBoundsException", Cond.fieldLink RX4 25 "PassNotes" "later" "LPassNotes$Notes;", Cond.fieldLink RX4 21 "PassNotes" "now" "LPassNotes$Notes;", Cond.methodLink RX4 178 yX4_checkMinutes, Cond.instanceMethod yX4_checkMinutes, Cond.selects RX4 yX4_checkMinutes yX4_checkMinutes, Cond.code yX4_checkMinutes cX4_checkMinutes 2 none, Cond.classLink RX4 39 "java/lang/IllegalArgumentException", Cond.initialized "java/lang/IllegalArgumentException", Cond.methodLink RX4 186 yX2_copy, Cond.instanceMethod yX2_copy, Cond.selects RX2 yX2_copy yX2_copy, Cond.initialized RX2, Cond.code yX2_copy cX2_copy 3 none, Cond.fieldLink RX2 44 "PassNotes$Notes" "minute" "I", Cond.fieldLink RX2 18 "PassNotes$Notes" "wrote" "[I"]
def wsL_foresee_r2 : List Cond := [Cond.fieldLink RX2 33 "PassNotes$Notes" "held" "[LPassNotes$Sheet;", Cond.methodLink RX2 48 yX2_forgetWays, Cond.instanceMethod yX2_forgetWays, Cond.selects RX2 yX2_forgetWays yX2_forgetWays, Cond.code yX2_forgetWays cX2_forgetWays 2 none, Cond.fieldLink RX2 27 "PassNotes$Notes" "waysFound" "[Z", Cond.methodLink RX4 181 yX2_passMinutes, Cond.instanceMethod yX2_passMinutes, Cond.selects RX2 yX2_passMinutes yX2_passMinutes, Cond.code yX2_passMinutes cX2_passMinutes 4 (some .int), Cond.methodLink RX2 68 yX2_writeSheets, Cond.instanceMethod yX2_writeSheets, Cond.selects RX2 yX2_writeSheets yX2_writeSheets, Cond.code yX2_writeSheets cX2_writeSheets 3 (some .int), Cond.fieldLink RX2 40 "PassNotes$Notes" "land" "LPassNotes$Land;", Cond.classLink RX2 31 RX3, Cond.instantiable RX3 3, Cond.initialized RX3, Cond.methodLink RX2 59 yX1_huts, Cond.instanceMethod yX1_huts, Cond.selects RX1 yX1_huts yX1_huts, Cond.initialized RX1, Cond.code yX1_huts cX1_huts 1 (some .int), Cond.fieldLink RX1 28 "PassNotes$Land" "huts" "I"]
def wsL_foresee_r3 : List Cond := [Cond.methodLink RX2 77 yX2_mustWrite, Cond.instanceMethod yX2_mustWrite, Cond.selects RX2 yX2_mustWrite yX2_mustWrite, Cond.code yX2_mustWrite cX2_mustWrite 3 (some .boolean), Cond.methodLink RX2 51 yX2_slot, Cond.static yX2_slot, Cond.code yX2_slot cX2_slot 2 (some .int), Cond.methodLink RX2 65 yX3_age, Cond.instanceMethod yX3_age, Cond.selects RX3 yX3_age yX3_age, Cond.code yX3_age cX3_age 2 (some .int), Cond.fieldLink RX3 19 "PassNotes$Sheet" "written" "I", Cond.methodLink RX2 84 yX3_tellsAsNow, Cond.instanceMethod yX3_tellsAsNow, Cond.selects RX3 yX3_tellsAsNow yX3_tellsAsNow, Cond.code yX3_tellsAsNow cX3_tellsAsNow 4 (some .boolean), Cond.fieldLink RX3 9 "PassNotes$Sheet" "lengths" "[I", Cond.methodLink RX3 22 yX1_passes, Cond.instanceMethod yX1_passes, Cond.selects RX1 yX1_passes yX1_passes, Cond.code yX1_passes cX1_passes 1 (some .int), Cond.fieldLink RX1 32 "PassNotes$Land" "passes" "I", Cond.methodLink RX3 28 yX1_tellsNow, Cond.instanceMethod yX1_tellsNow]
def wsL_foresee_r4 : List Cond := [Cond.selects RX1 yX1_tellsNow yX1_tellsNow, Cond.code yX1_tellsNow cX1_tellsNow 4 (some .int), Cond.fieldLink RX1 15 "PassNotes$Land" "firsts" "[I", Cond.fieldLink RX1 18 "PassNotes$Land" "seconds" "[I", Cond.fieldLink RX1 24 "PassNotes$Land" "opens" "[Z", Cond.fieldLink RX1 21 "PassNotes$Land" "lengths" "[I", Cond.methodLink RX2 81 yX3_init, Cond.instanceMethod yX3_init, Cond.code yX3_init cX3_init 6 none, Cond.methodLink RX3 3 objectInit, Cond.instanceMethod objectInit, Cond.code objectInit ⟨#[0xb1]⟩ 1 none, Cond.arrayClass .int, Cond.fieldLink RX3 15 "PassNotes$Sheet" "number" "I", Cond.methodLink RX2 71 yX2_carrySheets, Cond.instanceMethod yX2_carrySheets, Cond.selects RX2 yX2_carrySheets yX2_carrySheets, Cond.code yX2_carrySheets cX2_carrySheets 2 none, Cond.fieldLink RX2 37 "PassNotes$Notes" "carried" "[LPassNotes$Sheet;", Cond.methodLink RX2 88 yX1_passes, Cond.methodLink RX2 91 yX1_isOpen, Cond.instanceMethod yX1_isOpen, Cond.selects RX1 yX1_isOpen yX1_isOpen, Cond.code yX1_isOpen cX1_isOpen 2 (some .boolean)]
def wsL_foresee_r5 : List Cond := [Cond.methodLink RX2 94 yX1_first, Cond.instanceMethod yX1_first, Cond.selects RX1 yX1_first yX1_first, Cond.code yX1_first cX1_first 2 (some .int), Cond.methodLink RX2 97 yX1_second, Cond.instanceMethod yX1_second, Cond.selects RX1 yX1_second yX1_second, Cond.code yX1_second cX1_second 2 (some .int), Cond.methodLink RX2 100 yX2_carry, Cond.instanceMethod yX2_carry, Cond.selects RX2 yX2_carry yX2_carry, Cond.code yX2_carry cX2_carry 5 none, Cond.methodLink RX2 104 yX1_takesIn, Cond.instanceMethod yX1_takesIn, Cond.selects RX1 yX1_takesIn yX1_takesIn, Cond.code yX1_takesIn cX1_takesIn 3 (some .boolean), Cond.fieldLink RX1 9 "PassNotes$Land" "areas" "[I", Cond.methodLink RX2 108 yX2_isNewer, Cond.instanceMethod yX2_isNewer, Cond.selects RX2 yX2_isNewer yX2_isNewer, Cond.code yX2_isNewer cX2_isNewer 3 (some .boolean), Cond.methodLink RX2 112 yX3_number, Cond.instanceMethod yX3_number, Cond.selects RX3 yX3_number yX3_number]
def wsL_foresee_r6 : List Cond := [Cond.code yX3_number cX3_number 1 (some .int), Cond.methodLink RX2 74 yX2_throwOldAway, Cond.instanceMethod yX2_throwOldAway, Cond.selects RX2 yX2_throwOldAway yX2_throwOldAway, Cond.code yX2_throwOldAway cX2_throwOldAway 3 none, Cond.methodLink RX4 167 yX2_sheets, Cond.instanceMethod yX2_sheets, Cond.selects RX2 yX2_sheets yX2_sheets, Cond.code yX2_sheets cX2_sheets 3 (some .int), Cond.methodLink RX2 55 yX2_sheetsOf, Cond.instanceMethod yX2_sheetsOf, Cond.selects RX2 yX2_sheetsOf yX2_sheetsOf, Cond.code yX2_sheetsOf cX2_sheetsOf 4 (some .int), Cond.methodLink RX4 170 yX2_reachedPairs, Cond.instanceMethod yX2_reachedPairs, Cond.selects RX2 yX2_reachedPairs yX2_reachedPairs, Cond.code yX2_reachedPairs cX2_reachedPairs 4 (some .int), Cond.methodLink RX2 146 yX2_letter, Cond.instanceMethod yX2_letter, Cond.selects RX2 yX2_letter yX2_letter, Cond.code yX2_letter cX2_letter 6 (some .int), Cond.constant RX2 142 (1073741824), Cond.methodLink RX2 139 yX2_knownWay, Cond.instanceMethod yX2_knownWay]
def wsL_foresee_r7 : List Cond := [Cond.selects RX2 yX2_knownWay yX2_knownWay, Cond.code yX2_knownWay cX2_knownWay 3 (some .int), Cond.fieldLink RX2 24 "PassNotes$Notes" "ways" "[[I", Cond.methodLink RX2 121 yX2_findWays, Cond.instanceMethod yX2_findWays, Cond.selects RX2 yX2_findWays yX2_findWays, Cond.code yX2_findWays cX2_findWays 7 none, Cond.fieldLink RX2 12 "PassNotes$Notes" "chart" "LPassNotes$Chart;", Cond.methodLink RX2 125 yX0_clear, Cond.instanceMethod yX0_clear, Cond.selects RX0 yX0_clear yX0_clear, Cond.initialized RX0, Cond.code yX0_clear cX0_clear 1 none, Cond.fieldLink RX0 21 "PassNotes$Chart" "steps" "I", Cond.methodLink RX2 115 yX3_tells, Cond.instanceMethod yX3_tells, Cond.selects RX3 yX3_tells yX3_tells, Cond.code yX3_tells cX3_tells 2 (some .boolean), Cond.methodLink RX2 128 yX3_length, Cond.instanceMethod yX3_length, Cond.selects RX3 yX3_length yX3_length, Cond.code yX3_length cX3_length 2 (some .int), Cond.methodLink RX2 131 yX0_addStep, Cond.instanceMethod yX0_addStep]
def wsL_foresee_r8 : List Cond := [Cond.selects RX0 yX0_addStep yX0_addStep, Cond.code yX0_addStep cX0_addStep 4 none, Cond.fieldLink RX0 9 "PassNotes$Chart" "froms" "[I", Cond.fieldLink RX0 15 "PassNotes$Chart" "tos" "[I", Cond.fieldLink RX0 18 "PassNotes$Chart" "lengths" "[I", Cond.methodLink RX2 135 yX0_search, Cond.instanceMethod yX0_search, Cond.selects RX0 yX0_search yX0_search, Cond.code yX0_search cX0_search 7 none, Cond.constant RX0 25 (1073741824), Cond.methodLink RX2 143 yX1_isStep, Cond.instanceMethod yX1_isStep, Cond.selects RX1 yX1_isStep yX1_isStep, Cond.code yX1_isStep cX1_isStep 6 (some .boolean)]
def wsL_foresee : List Cond := .codeWith yL_foresee cL_foresee 5 (some .int) [(0, 10, 13, 13), (0, 10, 17, 21)] :: ((wsL_foresee_r1 ++ (wsL_foresee_r2 ++ (wsL_foresee_r3 ++ (wsL_foresee_r4 ++ (wsL_foresee_r5 ++ (wsL_foresee_r6 ++ (wsL_foresee_r7 ++ wsL_foresee_r8))))))) ++ wsX40 ++ wsX20 ++ wsX30 ++ wsX10 ++ wsX00 ++ (vx_atS RX4 148 "java/lang/IndexOutOfBoundsException" ["java/lang/RuntimeException", "java/lang/Exception"]).filter goodWord ++ (vx_atS RX4 43 "java/lang/IllegalArgumentException" ["java/lang/RuntimeException", "java/lang/Exception"]).filter goodWord)
def wsL_law0_r1 : List Cond := [Cond.classLink RL 8 RX4, Cond.instantiable RX4 5, Cond.initialized RX4, Cond.classLink RL 62 RX5, Cond.instantiable RX5 16, Cond.initialized RX5, Cond.arrayClass .long, Cond.methodLink RL 61 yX4_init, Cond.instanceMethod yX4_init, Cond.code yX4_init cX4_init 1 none, Cond.methodLink RX4 1 objectInit, Cond.instanceMethod objectInit, Cond.code objectInit ⟨#[0xb1]⟩ 1 none, Cond.classLink RX4 7 RX1, Cond.instantiable RX1 7, Cond.initialized RX1, Cond.fieldLink RX4 10 "PassNotes" "land" "LPassNotes$Land;", Cond.classLink RX4 16 RX2, Cond.instantiable RX2 8, Cond.initialized RX2, Cond.fieldLink RX4 21 "PassNotes" "now" "LPassNotes$Notes;", Cond.fieldLink RX4 25 "PassNotes" "later" "LPassNotes$Notes;", Cond.classLink RX4 28 RX0, Cond.instantiable RX0 4]
def wsL_law0_r2 : List Cond := [Cond.initialized RX0, Cond.fieldLink RX4 31 "PassNotes" "truthChart" "LPassNotes$Chart;", Cond.arrayClass .int, Cond.fieldLink RX4 35 "PassNotes" "truthWays" "[I", Cond.instanceMethod yX1_init, Cond.code yX1_init cX1_init 1 none, Cond.methodLink RX1 3 objectInit, Cond.fieldLink RX1 9 "PassNotes$Land" "areas" "[I", Cond.fieldLink RX1 15 "PassNotes$Land" "firsts" "[I", Cond.fieldLink RX1 18 "PassNotes$Land" "seconds" "[I", Cond.fieldLink RX1 21 "PassNotes$Land" "lengths" "[I", Cond.arrayClass .boolean, Cond.fieldLink RX1 24 "PassNotes$Land" "opens" "[Z", Cond.methodLink RX4 18 yX2_init, Cond.instanceMethod yX2_init, Cond.code yX2_init cX2_init 2 none, Cond.methodLink RX2 3 objectInit, Cond.classLink RX2 9 RX0, Cond.fieldLink RX2 12 "PassNotes$Notes" "chart" "LPassNotes$Chart;", Cond.fieldLink RX2 18 "PassNotes$Notes" "wrote" "[I", Cond.classLink RX2 22 "[[I", Cond.fieldLink RX2 24 "PassNotes$Notes" "ways" "[[I", Cond.fieldLink RX2 27 "PassNotes$Notes" "waysFound" "[Z", Cond.classLink RX2 31 RX3]
def wsL_law0_r3 : List Cond := [Cond.fieldLink RX2 33 "PassNotes$Notes" "held" "[LPassNotes$Sheet;", Cond.fieldLink RX2 37 "PassNotes$Notes" "carried" "[LPassNotes$Sheet;", Cond.fieldLink RX2 40 "PassNotes$Notes" "land" "LPassNotes$Land;", Cond.instanceMethod yX0_init, Cond.code yX0_init cX0_init 1 none, Cond.methodLink RX0 3 objectInit, Cond.fieldLink RX0 9 "PassNotes$Chart" "froms" "[I", Cond.fieldLink RX0 15 "PassNotes$Chart" "tos" "[I", Cond.fieldLink RX0 18 "PassNotes$Chart" "lengths" "[I", Cond.methodLink RL 64 yX5_init, Cond.instanceMethod yX5_init, Cond.code yX5_init cX5_init 2 none, Cond.methodLink RX5 1 objectInit, Cond.fieldLink RX5 9 "PassNotesModel" "area" "[I", Cond.fieldLink RX5 13 "PassNotesModel" "written" "[I", Cond.classLink RX5 16 "[I", Cond.fieldLink RX5 17 "PassNotesModel" "has" "[[I", Cond.fieldLink RX5 21 "PassNotesModel" "one" "[I", Cond.fieldLink RX5 24 "PassNotesModel" "other" "[I", Cond.fieldLink RX5 27 "PassNotesModel" "length" "[I", Cond.fieldLink RX5 30 "PassNotesModel" "far" "[I", Cond.fieldLink RX5 33 "PassNotesModel" "hops" "[I", Cond.fieldLink RX5 36 "PassNotesModel" "code" "[I", Cond.fieldLink RX5 39 "PassNotesModel" "first" "[I"]
def wsL_law0_r4 : List Cond := [Cond.fieldLink RX5 42 "PassNotesModel" "steps" "[I", Cond.fieldLink RX5 45 "PassNotesModel" "NO_SHEET" "[I", Cond.methodLink RL 65 yL_hut, Cond.static yL_hut, Cond.initialized RL, Cond.codeWith yL_hut cL_hut 4 (some .int) [(0, 9, 12, 13), (0, 9, 15, 15)], Cond.classLink RL 13 "java/lang/IllegalArgumentException", Cond.classLink RL 15 "java/lang/IllegalStateException", Cond.methodLink RL 7 yX4_hut, Cond.instanceMethod yX4_hut, Cond.selects RX4 yX4_hut yX4_hut, Cond.code yX4_hut cX4_hut 2 (some .int), Cond.classLink RX4 39 "java/lang/IllegalArgumentException", Cond.initialized "java/lang/IllegalArgumentException", Cond.classLink RX4 50 "java/lang/IllegalStateException", Cond.initialized "java/lang/IllegalStateException", Cond.methodLink RX4 46 yX1_huts, Cond.instanceMethod yX1_huts, Cond.selects RX1 yX1_huts yX1_huts, Cond.code yX1_huts cX1_huts 1 (some .int), Cond.fieldLink RX1 28 "PassNotes$Land" "huts" "I", Cond.methodLink RX4 55 yX1_addHut, Cond.instanceMethod yX1_addHut, Cond.selects RX1 yX1_addHut yX1_addHut]
def wsL_law0_r5 : List Cond := [Cond.code yX1_addHut cX1_addHut 2 (some .int), Cond.methodLink RL 70 yX5_hut, Cond.instanceMethod yX5_hut, Cond.selects RX5 yX5_hut yX5_hut, Cond.code yX5_hut cX5_hut 2 (some .int), Cond.fieldLink RX5 48 "PassNotesModel" "thrown" "I", Cond.fieldLink RX5 52 "PassNotesModel" "huts" "I", Cond.methodLink RX5 55 yX5_isIn, Cond.static yX5_isIn, Cond.code yX5_isIn cX5_isIn 3 (some .boolean), Cond.methodLink RX5 158 yX5_no, Cond.instanceMethod yX5_no, Cond.selects RX5 yX5_no yX5_no, Cond.code yX5_no cX5_no 2 (some .int), Cond.methodLink RL 71 yX5_thrown, Cond.instanceMethod yX5_thrown, Cond.selects RX5 yX5_thrown yX5_thrown, Cond.code yX5_thrown cX5_thrown 1 (some .int), Cond.methodLink RL 75 yL_pass, Cond.static yL_pass, Cond.codeWith yL_pass cL_pass 6 (some .int) [(0, 12, 15, 21), (0, 12, 19, 13), (0, 12, 23, 15)], Cond.classLink RL 21 "java/lang/IndexOutOfBoundsException", Cond.methodLink RL 17 yX4_pass, Cond.instanceMethod yX4_pass]
def wsL_law0_r6 : List Cond := [Cond.selects RX4 yX4_pass yX4_pass, Cond.code yX4_pass cX4_pass 4 (some .int), Cond.methodLink RX4 59 yX4_checkHut, Cond.instanceMethod yX4_checkHut, Cond.selects RX4 yX4_checkHut yX4_checkHut, Cond.code yX4_checkHut cX4_checkHut 2 none, Cond.classLink RX4 144 "java/lang/IndexOutOfBoundsException", Cond.initialized "java/lang/IndexOutOfBoundsException", Cond.methodLink RX4 65 yX4_checkLength, Cond.instanceMethod yX4_checkLength, Cond.selects RX4 yX4_checkLength yX4_checkLength, Cond.code yX4_checkLength cX4_checkLength 2 none, Cond.methodLink RX4 68 yX1_passes, Cond.instanceMethod yX1_passes, Cond.selects RX1 yX1_passes yX1_passes, Cond.code yX1_passes cX1_passes 1 (some .int), Cond.fieldLink RX1 32 "PassNotes$Land" "passes" "I", Cond.methodLink RX4 73 yX1_addPass, Cond.instanceMethod yX1_addPass, Cond.selects RX1 yX1_addPass yX1_addPass, Cond.code yX1_addPass cX1_addPass 4 (some .int), Cond.methodLink RL 78 yX5_pass, Cond.instanceMethod yX5_pass, Cond.selects RX5 yX5_pass yX5_pass]
def wsL_law0_r7 : List Cond := [Cond.code yX5_pass cX5_pass 4 (some .int), Cond.fieldLink RX5 59 "PassNotesModel" "passes" "I", Cond.fieldLink RX5 73 "PassNotesModel" "open" "I", Cond.methodLink RX5 162 yX5_isHut, Cond.instanceMethod yX5_isHut, Cond.selects RX5 yX5_isHut yX5_isHut, Cond.code yX5_isHut cX5_isHut 2 (some .boolean), Cond.methodLink RL 79 yL_setLength, Cond.static yL_setLength, Cond.codeWith yL_setLength cL_setLength 5 (some .int) [(0, 10, 13, 21), (0, 10, 17, 13)], Cond.methodLink RL 23 yX4_setLength, Cond.instanceMethod yX4_setLength, Cond.selects RX4 yX4_setLength yX4_setLength, Cond.code yX4_setLength cX4_setLength 3 (some .int), Cond.methodLink RX4 77 yX4_checkPass, Cond.instanceMethod yX4_checkPass, Cond.selects RX4 yX4_checkPass yX4_checkPass, Cond.code yX4_checkPass cX4_checkPass 2 none, Cond.methodLink RX4 80 yX1_changeLength, Cond.instanceMethod yX1_changeLength, Cond.selects RX1 yX1_changeLength yX1_changeLength, Cond.code yX1_changeLength cX1_changeLength 4 (some .int), Cond.methodLink RL 82 yX5_setLength, Cond.instanceMethod yX5_setLength]
def wsL_law0_r8 : List Cond := [Cond.selects RX5 yX5_setLength yX5_setLength, Cond.code yX5_setLength cX5_setLength 4 (some .int), Cond.methodLink RX5 165 yX5_isPass, Cond.instanceMethod yX5_isPass, Cond.selects RX5 yX5_isPass yX5_isPass, Cond.code yX5_isPass cX5_isPass 2 (some .boolean), Cond.methodLink RL 83 yL_setOpen, Cond.static yL_setOpen, Cond.codeWith yL_setOpen cL_setOpen 5 (some .int) [(0, 17, 20, 21)], Cond.methodLink RL 27 yX4_setOpen, Cond.instanceMethod yX4_setOpen, Cond.selects RX4 yX4_setOpen yX4_setOpen, Cond.code yX4_setOpen cX4_setOpen 3 (some .boolean), Cond.methodLink RX4 84 yX1_changeOpen, Cond.instanceMethod yX1_changeOpen, Cond.selects RX1 yX1_changeOpen yX1_changeOpen, Cond.code yX1_changeOpen cX1_changeOpen 4 (some .boolean), Cond.methodLink RL 86 yX5_setOpen, Cond.instanceMethod yX5_setOpen, Cond.selects RX5 yX5_setOpen yX5_setOpen, Cond.code yX5_setOpen cX5_setOpen 4 (some .boolean), Cond.methodLink RX5 76 yX5_has, Cond.static yX5_has, Cond.code yX5_has cX5_has 2 (some .boolean)]
def wsL_law0_r9 : List Cond := [Cond.methodLink RL 87 yL_burn, Cond.static yL_burn, Cond.codeWith yL_burn cL_burn 4 (some .int) [(0, 9, 12, 21)], Cond.methodLink RL 31 yX4_burn, Cond.instanceMethod yX4_burn, Cond.selects RX4 yX4_burn yX4_burn, Cond.code yX4_burn cX4_burn 2 (some .int), Cond.methodLink RX4 88 yX2_burnAll, Cond.instanceMethod yX2_burnAll, Cond.selects RX2 yX2_burnAll yX2_burnAll, Cond.code yX2_burnAll cX2_burnAll 4 (some .int), Cond.methodLink RX2 55 yX2_sheetsOf, Cond.instanceMethod yX2_sheetsOf, Cond.selects RX2 yX2_sheetsOf yX2_sheetsOf, Cond.code yX2_sheetsOf cX2_sheetsOf 4 (some .int), Cond.methodLink RX2 51 yX2_slot, Cond.static yX2_slot, Cond.code yX2_slot cX2_slot 2 (some .int), Cond.methodLink RX2 48 yX2_forgetWays, Cond.instanceMethod yX2_forgetWays, Cond.selects RX2 yX2_forgetWays yX2_forgetWays, Cond.code yX2_forgetWays cX2_forgetWays 2 none, Cond.methodLink RL 89 yX5_burn, Cond.instanceMethod yX5_burn]
def wsL_law0_r10 : List Cond := [Cond.selects RX5 yX5_burn yX5_burn, Cond.code yX5_burn cX5_burn 4 (some .int), Cond.methodLink RX5 168 yX5_sheetsOf, Cond.instanceMethod yX5_sheetsOf, Cond.selects RX5 yX5_sheetsOf yX5_sheetsOf, Cond.code yX5_sheetsOf cX5_sheetsOf 4 (some .int), Cond.methodLink RX5 78 yX5_isThere, Cond.instanceMethod yX5_isThere, Cond.selects RX5 yX5_isThere yX5_isThere, Cond.code yX5_isThere cX5_isThere 3 (some .boolean), Cond.methodLink RX5 62 yX5_of, Cond.instanceMethod yX5_of, Cond.selects RX5 yX5_of yX5_of, Cond.code yX5_of cX5_of 3 (some (.array .int)), Cond.methodLink RL 90 yL_sheet, Cond.static yL_sheet, Cond.codeWith yL_sheet cL_sheet 6 (some .int) [(0, 12, 15, 21)], Cond.methodLink RL 34 yX4_sheet, Cond.instanceMethod yX4_sheet, Cond.selects RX4 yX4_sheet yX4_sheet, Cond.code yX4_sheet cX4_sheet 5 (some .int), Cond.methodLink RX4 91 yX4_checkWhat, Cond.instanceMethod yX4_checkWhat, Cond.selects RX4 yX4_checkWhat yX4_checkWhat]
def wsL_law0_r11 : List Cond := [Cond.code yX4_checkWhat cX4_checkWhat 3 none, Cond.methodLink RX4 95 yX2_held, Cond.instanceMethod yX2_held, Cond.selects RX2 yX2_held yX2_held, Cond.code yX2_held cX2_held 3 (some (.object "PassNotes$Sheet")), Cond.methodLink RX4 99 yX3_number, Cond.instanceMethod yX3_number, Cond.selects RX3 yX3_number yX3_number, Cond.initialized RX3, Cond.code yX3_number cX3_number 1 (some .int), Cond.fieldLink RX3 15 "PassNotes$Sheet" "number" "I", Cond.methodLink RX4 104 yX2_minute, Cond.instanceMethod yX2_minute, Cond.selects RX2 yX2_minute yX2_minute, Cond.code yX2_minute cX2_minute 1 (some .int), Cond.fieldLink RX2 44 "PassNotes$Notes" "minute" "I", Cond.methodLink RX4 107 yX3_age, Cond.instanceMethod yX3_age, Cond.selects RX3 yX3_age yX3_age, Cond.code yX3_age cX3_age 2 (some .int), Cond.fieldLink RX3 19 "PassNotes$Sheet" "written" "I", Cond.methodLink RX4 110 yX3_passesTold, Cond.instanceMethod yX3_passesTold, Cond.selects RX3 yX3_passesTold yX3_passesTold]
def wsL_law0_r12 : List Cond := [Cond.code yX3_passesTold cX3_passesTold 3 (some .int), Cond.fieldLink RX3 9 "PassNotes$Sheet" "lengths" "[I", Cond.methodLink RX3 32 yX3_tells, Cond.instanceMethod yX3_tells, Cond.selects RX3 yX3_tells yX3_tells, Cond.code yX3_tells cX3_tells 2 (some .boolean), Cond.methodLink RL 92 yX5_sheet, Cond.instanceMethod yX5_sheet, Cond.selects RX5 yX5_sheet yX5_sheet, Cond.code yX5_sheet cX5_sheet 4 (some .int), Cond.methodLink RX5 176 yX5_sheetTold, Cond.instanceMethod yX5_sheetTold, Cond.selects RX5 yX5_sheetTold yX5_sheetTold, Cond.code yX5_sheetTold cX5_sheetTold 4 (some .int), Cond.methodLink RX5 81 yX5_age, Cond.instanceMethod yX5_age, Cond.selects RX5 yX5_age yX5_age, Cond.code yX5_age cX5_age 3 (some .int), Cond.fieldLink RX5 66 "PassNotesModel" "minute" "I", Cond.methodLink RX5 171 yJ6_bitCount_0f7a4, Cond.static yJ6_bitCount_0f7a4, Cond.initialized RJ6, Cond.code yJ6_bitCount_0f7a4 cJ6_bitCount_0f7a4 1 (some .int), Cond.constant RJ6 265 (1431655765)]
def wsL_law0_r13 : List Cond := [Cond.constant RJ6 266 (858993459), Cond.constant RJ6 267 (252645135), Cond.methodLink RL 93 yL_way, Cond.static yL_way, Cond.codeWith yL_way cL_way 6 (some .int) [(0, 12, 15, 21)], Cond.methodLink RL 37 yX4_way, Cond.instanceMethod yX4_way, Cond.selects RX4 yX4_way yX4_way, Cond.code yX4_way cX4_way 5 (some .int), Cond.constant RX4 116 (1073741824), Cond.methodLink RX4 113 yX2_knownWay, Cond.instanceMethod yX2_knownWay, Cond.selects RX2 yX2_knownWay yX2_knownWay, Cond.code yX2_knownWay cX2_knownWay 3 (some .int), Cond.methodLink RX2 121 yX2_findWays, Cond.instanceMethod yX2_findWays, Cond.selects RX2 yX2_findWays yX2_findWays, Cond.code yX2_findWays cX2_findWays 7 none, Cond.methodLink RX2 125 yX0_clear, Cond.instanceMethod yX0_clear, Cond.selects RX0 yX0_clear yX0_clear, Cond.code yX0_clear cX0_clear 1 none, Cond.fieldLink RX0 21 "PassNotes$Chart" "steps" "I", Cond.methodLink RX2 88 yX1_passes]
def wsL_law0_r14 : List Cond := [Cond.methodLink RX2 94 yX1_first, Cond.instanceMethod yX1_first, Cond.selects RX1 yX1_first yX1_first, Cond.code yX1_first cX1_first 2 (some .int), Cond.methodLink RX2 97 yX1_second, Cond.instanceMethod yX1_second, Cond.selects RX1 yX1_second yX1_second, Cond.code yX1_second cX1_second 2 (some .int), Cond.methodLink RX2 115 yX3_tells, Cond.methodLink RX2 128 yX3_length, Cond.instanceMethod yX3_length, Cond.selects RX3 yX3_length yX3_length, Cond.code yX3_length cX3_length 2 (some .int), Cond.methodLink RX2 131 yX0_addStep, Cond.instanceMethod yX0_addStep, Cond.selects RX0 yX0_addStep yX0_addStep, Cond.code yX0_addStep cX0_addStep 4 none, Cond.methodLink RX2 135 yX0_search, Cond.instanceMethod yX0_search, Cond.selects RX0 yX0_search yX0_search, Cond.code yX0_search cX0_search 7 none, Cond.constant RX0 25 (1073741824), Cond.methodLink RL 95 yX5_way, Cond.instanceMethod yX5_way]
def wsL_law0_r15 : List Cond := [Cond.selects RX5 yX5_way yX5_way, Cond.code yX5_way cX5_way 4 (some .int), Cond.methodLink RX5 143 yX5_lookBy, Cond.instanceMethod yX5_lookBy, Cond.selects RX5 yX5_lookBy yX5_lookBy, Cond.code yX5_lookBy cX5_lookBy 2 none, Cond.methodLink RX5 136 yX5_lengthsFor, Cond.instanceMethod yX5_lengthsFor, Cond.selects RX5 yX5_lengthsFor yX5_lengthsFor, Cond.code yX5_lengthsFor cX5_lengthsFor 4 (some (.array .int)), Cond.methodLink RX5 117 yX5_isTaken, Cond.instanceMethod yX5_isTaken, Cond.selects RX5 yX5_isTaken yX5_isTaken, Cond.code yX5_isTaken cX5_isTaken 3 (some .boolean), Cond.methodLink RX5 114 yX5_isTold, Cond.instanceMethod yX5_isTold, Cond.selects RX5 yX5_isTold yX5_isTold, Cond.code yX5_isTold cX5_isTold 4 (some .boolean), Cond.methodLink RX5 120 yX5_shorten, Cond.static yX5_shorten, Cond.code yX5_shorten cX5_shorten 5 none, Cond.methodLink RX5 139 yX5_look, Cond.instanceMethod yX5_look, Cond.selects RX5 yX5_look yX5_look]
def wsL_law0_r16 : List Cond := [Cond.code yX5_look cX5_look 7 none, Cond.methodLink RX5 128 yX5_reach, Cond.instanceMethod yX5_reach, Cond.selects RX5 yX5_reach yX5_reach, Cond.code yX5_reach cX5_reach 6 none, Cond.methodLink RX5 124 yX5_isBetter, Cond.instanceMethod yX5_isBetter, Cond.selects RX5 yX5_isBetter yX5_isBetter, Cond.code yX5_isBetter cX5_isBetter 5 (some .boolean), Cond.methodLink RX5 132 yX5_nearest, Cond.instanceMethod yX5_nearest, Cond.selects RX5 yX5_nearest yX5_nearest, Cond.code yX5_nearest cX5_nearest 4 (some .int), Cond.methodLink RX5 180 yX5_wayTold, Cond.instanceMethod yX5_wayTold, Cond.selects RX5 yX5_wayTold yX5_wayTold, Cond.code yX5_wayTold cX5_wayTold 3 (some .int), Cond.methodLink RL 96 yL_post, Cond.static yL_post, Cond.codeWith yL_post cL_post 5 (some .int) [(0, 10, 13, 21)], Cond.methodLink RL 40 yX4_post, Cond.instanceMethod yX4_post, Cond.selects RX4 yX4_post yX4_post, Cond.code yX4_post cX4_post 3 (some .int)]
def wsL_law0_r17 : List Cond := [Cond.methodLink RX4 117 yX2_letter, Cond.instanceMethod yX2_letter, Cond.selects RX2 yX2_letter yX2_letter, Cond.code yX2_letter cX2_letter 6 (some .int), Cond.constant RX2 142 (1073741824), Cond.methodLink RX2 139 yX2_knownWay, Cond.methodLink RX2 143 yX1_isStep, Cond.instanceMethod yX1_isStep, Cond.selects RX1 yX1_isStep yX1_isStep, Cond.code yX1_isStep cX1_isStep 6 (some .boolean), Cond.methodLink RL 98 yX5_post, Cond.instanceMethod yX5_post, Cond.selects RX5 yX5_post yX5_post, Cond.code yX5_post cX5_post 3 (some .int), Cond.methodLink RX5 152 yX5_lookAll, Cond.instanceMethod yX5_lookAll, Cond.selects RX5 yX5_lookAll yX5_lookAll, Cond.code yX5_lookAll cX5_lookAll 3 none, Cond.methodLink RX5 155 yX5_letter, Cond.instanceMethod yX5_letter, Cond.selects RX5 yX5_letter yX5_letter, Cond.code yX5_letter cX5_letter 6 (some .int), Cond.methodLink RX5 146 yX5_isOpenBetween, Cond.instanceMethod yX5_isOpenBetween]
def wsL_law0_r18 : List Cond := [Cond.selects RX5 yX5_isOpenBetween yX5_isOpenBetween, Cond.code yX5_isOpenBetween cX5_isOpenBetween 4 (some .boolean), Cond.methodLink RX5 69 yX5_isAt, Cond.instanceMethod yX5_isAt, Cond.selects RX5 yX5_isAt yX5_isAt, Cond.code yX5_isAt cX5_isAt 3 (some .boolean), Cond.methodLink RL 99 yL_truth, Cond.static yL_truth, Cond.codeWith yL_truth cL_truth 5 (some .int) [(0, 10, 13, 21)], Cond.methodLink RL 43 yX4_truth, Cond.instanceMethod yX4_truth, Cond.selects RX4 yX4_truth yX4_truth, Cond.code yX4_truth cX4_truth 4 (some .int), Cond.methodLink RX4 120 yX1_draw, Cond.instanceMethod yX1_draw, Cond.selects RX1 yX1_draw yX1_draw, Cond.code yX1_draw cX1_draw 3 none, Cond.methodLink RX1 35 yX0_clear, Cond.methodLink RX1 40 yX0_addStep, Cond.methodLink RX4 124 yX0_search, Cond.methodLink RL 101 yX5_truth, Cond.instanceMethod yX5_truth, Cond.selects RX5 yX5_truth yX5_truth, Cond.code yX5_truth cX5_truth 3 (some .int)]
def wsL_law0_r19 : List Cond := [Cond.methodLink RX5 149 yX5_lengthsNow, Cond.instanceMethod yX5_lengthsNow, Cond.selects RX5 yX5_lengthsNow yX5_lengthsNow, Cond.code yX5_lengthsNow cX5_lengthsNow 4 (some (.array .int)), Cond.methodLink RL 102 yL_about, Cond.static yL_about, Cond.codeWith yL_about cL_about 5 (some .int) [(0, 10, 13, 21)], Cond.methodLink RL 46 yX4_about, Cond.instanceMethod yX4_about, Cond.selects RX4 yX4_about yX4_about, Cond.code yX4_about cX4_about 3 (some .int), Cond.methodLink RX4 128 yX1_first, Cond.methodLink RX4 131 yX1_second, Cond.methodLink RX4 134 yX1_length, Cond.instanceMethod yX1_length, Cond.selects RX1 yX1_length yX1_length, Cond.code yX1_length cX1_length 2 (some .int), Cond.methodLink RX4 137 yX1_isOpen, Cond.instanceMethod yX1_isOpen, Cond.selects RX1 yX1_isOpen yX1_isOpen, Cond.code yX1_isOpen cX1_isOpen 2 (some .boolean), Cond.methodLink RX4 141 yX2_takersForOpen, Cond.instanceMethod yX2_takersForOpen, Cond.selects RX2 yX2_takersForOpen yX2_takersForOpen]
def wsL_law0_r20 : List Cond := [Cond.code yX2_takersForOpen cX2_takersForOpen 4 (some .int), Cond.methodLink RX2 59 yX1_huts, Cond.methodLink RX2 118 yX2_takesForOpen, Cond.instanceMethod yX2_takesForOpen, Cond.selects RX2 yX2_takesForOpen yX2_takesForOpen, Cond.code yX2_takesForOpen cX2_takesForOpen 5 (some .boolean), Cond.methodLink RL 104 yX5_about, Cond.instanceMethod yX5_about, Cond.selects RX5 yX5_about yX5_about, Cond.code yX5_about cX5_about 3 (some .int), Cond.methodLink RX5 186 yX5_passTold, Cond.instanceMethod yX5_passTold, Cond.selects RX5 yX5_passTold yX5_passTold, Cond.code yX5_passTold cX5_passTold 3 (some .int), Cond.methodLink RX5 183 yX5_takers, Cond.instanceMethod yX5_takers, Cond.selects RX5 yX5_takers yX5_takers, Cond.code yX5_takers cX5_takers 4 (some .int), Cond.methodLink RL 105 yL_told, Cond.static yL_told, Cond.codeWith yL_told cL_told 5 (some .int) [(0, 10, 13, 21)], Cond.methodLink RL 49 yX4_told, Cond.instanceMethod yX4_told, Cond.selects RX4 yX4_told yX4_told]
def wsL_law0_r21 : List Cond := [Cond.code yX4_told cX4_told 3 (some .int), Cond.methodLink RX4 149 yX1_area, Cond.instanceMethod yX1_area, Cond.selects RX1 yX1_area yX1_area, Cond.code yX1_area cX1_area 2 (some .int), Cond.methodLink RX4 152 yX2_sheetsOf, Cond.methodLink RX4 155 yX2_wroteInAll, Cond.instanceMethod yX2_wroteInAll, Cond.selects RX2 yX2_wroteInAll yX2_wroteInAll, Cond.code yX2_wroteInAll cX2_wroteInAll 2 (some .int), Cond.methodLink RX4 158 yX2_knownHuts, Cond.instanceMethod yX2_knownHuts, Cond.selects RX2 yX2_knownHuts yX2_knownHuts, Cond.code yX2_knownHuts cX2_knownHuts 4 (some .int), Cond.methodLink RX4 161 yX2_reachedHuts, Cond.instanceMethod yX2_reachedHuts, Cond.selects RX2 yX2_reachedHuts yX2_reachedHuts, Cond.code yX2_reachedHuts cX2_reachedHuts 4 (some .int), Cond.methodLink RX2 146 yX2_letter, Cond.methodLink RL 107 yX5_told, Cond.instanceMethod yX5_told, Cond.selects RX5 yX5_told yX5_told, Cond.code yX5_told cX5_told 3 (some .int), Cond.methodLink RX5 195 yX5_hutTold]
def wsL_law0_r22 : List Cond := [Cond.instanceMethod yX5_hutTold, Cond.selects RX5 yX5_hutTold yX5_hutTold, Cond.code yX5_hutTold cX5_hutTold 3 (some .int), Cond.methodLink RX5 189 yX5_waysOf, Cond.instanceMethod yX5_waysOf, Cond.selects RX5 yX5_waysOf yX5_waysOf, Cond.code yX5_waysOf cX5_waysOf 4 (some .int), Cond.methodLink RX5 192 yX5_lettersOf, Cond.instanceMethod yX5_lettersOf, Cond.selects RX5 yX5_lettersOf yX5_lettersOf, Cond.code yX5_lettersOf cX5_lettersOf 4 (some .int), Cond.methodLink RL 108 yL_count, Cond.static yL_count, Cond.codeWith yL_count cL_count 4 (some .int) [(0, 9, 12, 21)], Cond.methodLink RL 52 yX4_count, Cond.instanceMethod yX4_count, Cond.selects RX4 yX4_count yX4_count, Cond.code yX4_count cX4_count 2 (some .int), Cond.methodLink RX4 164 yX1_openPasses, Cond.instanceMethod yX1_openPasses, Cond.selects RX1 yX1_openPasses yX1_openPasses, Cond.code yX1_openPasses cX1_openPasses 3 (some .int), Cond.methodLink RX4 167 yX2_sheets, Cond.instanceMethod yX2_sheets]
def wsL_law0_r23 : List Cond := [Cond.selects RX2 yX2_sheets yX2_sheets, Cond.code yX2_sheets cX2_sheets 3 (some .int), Cond.methodLink RX4 170 yX2_reachedPairs, Cond.instanceMethod yX2_reachedPairs, Cond.selects RX2 yX2_reachedPairs yX2_reachedPairs, Cond.code yX2_reachedPairs cX2_reachedPairs 4 (some .int), Cond.methodLink RX4 173 yX1_joinedPairs, Cond.instanceMethod yX1_joinedPairs, Cond.selects RX1 yX1_joinedPairs yX1_joinedPairs, Cond.code yX1_joinedPairs cX1_joinedPairs 7 (some .int), Cond.methodLink RX1 44 yX1_groupOf, Cond.instanceMethod yX1_groupOf, Cond.selects RX1 yX1_groupOf yX1_groupOf, Cond.code yX1_groupOf cX1_groupOf 9 (some .int), Cond.methodLink RX1 48 yJ6_bitCount_0f7a4, Cond.methodLink RL 110 yX5_count, Cond.instanceMethod yX5_count, Cond.selects RX5 yX5_count yX5_count, Cond.code yX5_count cX5_count 2 (some .int), Cond.methodLink RX5 208 yX5_counted, Cond.instanceMethod yX5_counted, Cond.selects RX5 yX5_counted yX5_counted, Cond.code yX5_counted cX5_counted 2 (some .int), Cond.methodLink RX5 198 yX5_sheets]
def wsL_law0_r24 : List Cond := [Cond.instanceMethod yX5_sheets, Cond.selects RX5 yX5_sheets yX5_sheets, Cond.code yX5_sheets cX5_sheets 3 (some .int), Cond.methodLink RX5 202 yX5_letters, Cond.instanceMethod yX5_letters, Cond.selects RX5 yX5_letters yX5_letters, Cond.code yX5_letters cX5_letters 4 (some .int), Cond.methodLink RX5 205 yX5_pairsOver, Cond.instanceMethod yX5_pairsOver, Cond.selects RX5 yX5_pairsOver yX5_pairsOver, Cond.code yX5_pairsOver cX5_pairsOver 6 (some .int), Cond.methodLink RL 111 yL_go, Cond.static yL_go, Cond.codeWith yL_go cL_go 4 (some .int) [(0, 9, 12, 13)], Cond.methodLink RL 55 yX4_go, Cond.instanceMethod yX4_go, Cond.selects RX4 yX4_go yX4_go, Cond.code yX4_go cX4_go 2 (some .int), Cond.methodLink RX4 178 yX4_checkMinutes, Cond.instanceMethod yX4_checkMinutes, Cond.selects RX4 yX4_checkMinutes yX4_checkMinutes, Cond.code yX4_checkMinutes cX4_checkMinutes 2 none, Cond.methodLink RX4 181 yX2_passMinutes, Cond.instanceMethod yX2_passMinutes]
def wsL_law0_r25 : List Cond := [Cond.selects RX2 yX2_passMinutes yX2_passMinutes, Cond.code yX2_passMinutes cX2_passMinutes 4 (some .int), Cond.methodLink RX2 68 yX2_writeSheets, Cond.instanceMethod yX2_writeSheets, Cond.selects RX2 yX2_writeSheets yX2_writeSheets, Cond.code yX2_writeSheets cX2_writeSheets 3 (some .int), Cond.instantiable RX3 3, Cond.methodLink RX2 77 yX2_mustWrite, Cond.instanceMethod yX2_mustWrite, Cond.selects RX2 yX2_mustWrite yX2_mustWrite, Cond.code yX2_mustWrite cX2_mustWrite 3 (some .boolean), Cond.methodLink RX2 65 yX3_age, Cond.methodLink RX2 84 yX3_tellsAsNow, Cond.instanceMethod yX3_tellsAsNow, Cond.selects RX3 yX3_tellsAsNow yX3_tellsAsNow, Cond.code yX3_tellsAsNow cX3_tellsAsNow 4 (some .boolean), Cond.methodLink RX3 22 yX1_passes, Cond.methodLink RX3 28 yX1_tellsNow, Cond.instanceMethod yX1_tellsNow, Cond.selects RX1 yX1_tellsNow yX1_tellsNow, Cond.code yX1_tellsNow cX1_tellsNow 4 (some .int), Cond.methodLink RX2 81 yX3_init, Cond.instanceMethod yX3_init, Cond.code yX3_init cX3_init 6 none]
def wsL_law0_r26 : List Cond := [Cond.methodLink RX3 3 objectInit, Cond.methodLink RX2 71 yX2_carrySheets, Cond.instanceMethod yX2_carrySheets, Cond.selects RX2 yX2_carrySheets yX2_carrySheets, Cond.code yX2_carrySheets cX2_carrySheets 2 none, Cond.methodLink RX2 91 yX1_isOpen, Cond.methodLink RX2 100 yX2_carry, Cond.instanceMethod yX2_carry, Cond.selects RX2 yX2_carry yX2_carry, Cond.code yX2_carry cX2_carry 5 none, Cond.methodLink RX2 104 yX1_takesIn, Cond.instanceMethod yX1_takesIn, Cond.selects RX1 yX1_takesIn yX1_takesIn, Cond.code yX1_takesIn cX1_takesIn 3 (some .boolean), Cond.methodLink RX2 108 yX2_isNewer, Cond.instanceMethod yX2_isNewer, Cond.selects RX2 yX2_isNewer yX2_isNewer, Cond.code yX2_isNewer cX2_isNewer 3 (some .boolean), Cond.methodLink RX2 112 yX3_number, Cond.methodLink RX2 74 yX2_throwOldAway, Cond.instanceMethod yX2_throwOldAway, Cond.selects RX2 yX2_throwOldAway yX2_throwOldAway, Cond.code yX2_throwOldAway cX2_throwOldAway 3 none, Cond.methodLink RL 113 yX5_go]
def wsL_law0_r27 : List Cond := [Cond.instanceMethod yX5_go, Cond.selects RX5 yX5_go yX5_go, Cond.code yX5_go cX5_go 2 (some .int), Cond.methodLink RX5 214 yX5_stepAll, Cond.instanceMethod yX5_stepAll, Cond.selects RX5 yX5_stepAll yX5_stepAll, Cond.code yX5_stepAll cX5_stepAll 4 (some .int), Cond.methodLink RX5 211 yX5_step, Cond.instanceMethod yX5_step, Cond.selects RX5 yX5_step yX5_step, Cond.code yX5_step cX5_step 4 (some .int), Cond.methodLink RX5 104 arraycopyName, Cond.native arraycopyName, Cond.static arraycopyName, Cond.initialized "java/lang/System", Cond.methodLink RX5 96 yX5_isDue, Cond.instanceMethod yX5_isDue, Cond.selects RX5 yX5_isDue yX5_isDue, Cond.code yX5_isDue cX5_isDue 2 (some .boolean), Cond.methodLink RX5 85 yX5_isTrue, Cond.instanceMethod yX5_isTrue, Cond.selects RX5 yX5_isTrue yX5_isTrue, Cond.code yX5_isTrue cX5_isTrue 5 (some .boolean), Cond.methodLink RX5 100 yX5_write]
def wsL_law0_r28 : List Cond := [Cond.instanceMethod yX5_write, Cond.selects RX5 yX5_write yX5_write, Cond.code yX5_write cX5_write 2 none, Cond.methodLink RX5 89 yX5_sheetNow, Cond.instanceMethod yX5_sheetNow, Cond.selects RX5 yX5_sheetNow yX5_sheetNow, Cond.code yX5_sheetNow cX5_sheetNow 4 (some (.array .int)), Cond.methodLink RX5 110 yX5_carry, Cond.instanceMethod yX5_carry, Cond.selects RX5 yX5_carry yX5_carry, Cond.code yX5_carry cX5_carry 7 none, Cond.methodLink RX5 93 yX5_takes, Cond.instanceMethod yX5_takes, Cond.selects RX5 yX5_takes yX5_takes, Cond.code yX5_takes cX5_takes 3 (some .boolean), Cond.methodLink RL 114 yL_foresee, Cond.static yL_foresee, Cond.codeWith yL_foresee cL_foresee 5 (some .int) [(0, 10, 13, 13), (0, 10, 17, 21)], Cond.methodLink RL 58 yX4_foresee, Cond.instanceMethod yX4_foresee, Cond.selects RX4 yX4_foresee yX4_foresee, Cond.code yX4_foresee cX4_foresee 3 (some .int), Cond.methodLink RX4 186 yX2_copy, Cond.instanceMethod yX2_copy]
def wsL_law0_r29 : List Cond := [Cond.selects RX2 yX2_copy yX2_copy, Cond.code yX2_copy cX2_copy 3 none, Cond.methodLink RL 116 yX5_foresee, Cond.instanceMethod yX5_foresee, Cond.selects RX5 yX5_foresee yX5_foresee, Cond.code yX5_foresee cX5_foresee 3 (some .int), Cond.methodLink RX5 224 yX5_foreseen, Cond.instanceMethod yX5_foreseen, Cond.selects RX5 yX5_foreseen yX5_foreseen, Cond.code yX5_foreseen cX5_foreseen 7 (some .int), Cond.methodLink RX5 221 yX5_part, Cond.instanceMethod yX5_part, Cond.selects RX5 yX5_part yX5_part, Cond.code yX5_part cX5_part 3 none, Cond.methodLink RX5 217 yX5_keepBy, Cond.instanceMethod yX5_keepBy, Cond.selects RX5 yX5_keepBy yX5_keepBy, Cond.code yX5_keepBy cX5_keepBy 4 none, Cond.methodLink RL 117 yX4_settles, Cond.instanceMethod yX4_settles, Cond.selects RX4 yX4_settles yX4_settles, Cond.code yX4_settles cX4_settles 3 (some .int), Cond.methodLink RL 120 yX5_settles, Cond.instanceMethod yX5_settles]
def wsL_law0_r30 : List Cond := [Cond.selects RX5 yX5_settles yX5_settles, Cond.code yX5_settles cX5_settles 5 (some .int), Cond.methodLink RX5 230 yX5_settledBehind, Cond.instanceMethod yX5_settledBehind, Cond.selects RX5 yX5_settledBehind yX5_settledBehind, Cond.code yX5_settledBehind cX5_settledBehind 3 (some .int), Cond.methodLink RX5 227 yX5_isSettled, Cond.instanceMethod yX5_isSettled, Cond.selects RX5 yX5_isSettled yX5_isSettled, Cond.code yX5_isSettled cX5_isSettled 2 (some .boolean), Cond.methodLink RL 121 yX4_advise, Cond.instanceMethod yX4_advise, Cond.selects RX4 yX4_advise yX4_advise, Cond.code yX4_advise cX4_advise 5 (some .int), Cond.methodLink RL 124 yX5_advise, Cond.instanceMethod yX5_advise, Cond.selects RX5 yX5_advise yX5_advise, Cond.code yX5_advise cX5_advise 5 (some .int), Cond.methodLink RL 125 yX4_mean, Cond.instanceMethod yX4_mean, Cond.selects RX4 yX4_mean yX4_mean, Cond.code yX4_mean cX4_mean 2 (some .double), Cond.methodLink RX4 190 yX2_ages, Cond.instanceMethod yX2_ages]
def wsL_law0_r31 : List Cond := [Cond.selects RX2 yX2_ages yX2_ages, Cond.code yX2_ages cX2_ages 4 (some .int), Cond.methodLink RL 129 yX5_mean, Cond.instanceMethod yX5_mean, Cond.selects RX5 yX5_mean yX5_mean, Cond.code yX5_mean cX5_mean 5 (some .double), Cond.methodLink RL 130 yX4_digest, Cond.instanceMethod yX4_digest, Cond.selects RX4 yX4_digest yX4_digest, Cond.code yX4_digest cX4_digest 5 (some .long), Cond.constantLong RX4 193 (1627), Cond.constantLong RX4 195 (31), Cond.methodLink RX4 197 yX4_count, Cond.methodLink RX4 200 yX4_told, Cond.methodLink RX4 203 yX4_about, Cond.methodLink RX4 206 yX4_digestOfPair, Cond.instanceMethod yX4_digestOfPair, Cond.selects RX4 yX4_digestOfPair yX4_digestOfPair, Cond.code yX4_digestOfPair cX4_digestOfPair 8 (some .long), Cond.methodLink RX4 210 yX4_sheet, Cond.methodLink RX4 213 yX4_way, Cond.methodLink RL 134 yX5_digest, Cond.instanceMethod yX5_digest, Cond.selects RX5 yX5_digest yX5_digest]
def wsL_law0_r32 : List Cond := [Cond.code yX5_digest cX5_digest 6 (some .long), Cond.constantLong RX5 233 (1627), Cond.constantLong RX5 235 (31)]
def wsL_law0 : List Cond := (wsL_law0_r1 ++ (wsL_law0_r2 ++ (wsL_law0_r3 ++ (wsL_law0_r4 ++ (wsL_law0_r5 ++ (wsL_law0_r6 ++ (wsL_law0_r7 ++ (wsL_law0_r8 ++ (wsL_law0_r9 ++ (wsL_law0_r10 ++ (wsL_law0_r11 ++ (wsL_law0_r12 ++ (wsL_law0_r13 ++ (wsL_law0_r14 ++ (wsL_law0_r15 ++ (wsL_law0_r16 ++ (wsL_law0_r17 ++ (wsL_law0_r18 ++ (wsL_law0_r19 ++ (wsL_law0_r20 ++ (wsL_law0_r21 ++ (wsL_law0_r22 ++ (wsL_law0_r23 ++ (wsL_law0_r24 ++ (wsL_law0_r25 ++ (wsL_law0_r26 ++ (wsL_law0_r27 ++ (wsL_law0_r28 ++ (wsL_law0_r29 ++ (wsL_law0_r30 ++ (wsL_law0_r31 ++ wsL_law0_r32))))))))))))))))))))))))))))))) ++ wsX40 ++ wsX50 ++ wsX10 ++ wsX20 ++ wsX00 ++ wsX30 ++ ([] : List Cond)
def wsL_law : List Cond := wsL_law0 ++ (vx_atS RX4 43 "java/lang/IllegalArgumentException" ["java/lang/RuntimeException", "java/lang/Exception"]).filter goodWord ++ (vx_atS RX4 54 "java/lang/IllegalStateException" ["java/lang/RuntimeException", "java/lang/Exception"]).filter goodWord ++ (vx_atS RX4 148 "java/lang/IndexOutOfBoundsException" ["java/lang/RuntimeException", "java/lang/Exception"]).filter goodWord
set_option maxRecDepth 20000 in
theorem wsL_law_in0 : ∀ w ∈ wsL_law0, w ∈ lw_tbl := fun w h => (goodIn_p wsL_law0 [80, 83, 88, 118, 124, 693, 538, 211, 574, 754, 757, 761, 750, 582, 457, 587, 231, 593, 765, 769, 600, 484, 604, 773, 777, 611, 615, 781, 784, 622, 626, 358, 242, 272, 788, 792, 796, 800, 507, 511, 516, 336, 376, 288, 522, 246, 804, 808, 812, 200, 527, 219, 223, 227, 235, 239, 250, 254, 258, 817, 821, 825, 829, 833, 836, 840, 844, 848, 852, 856, 641, 215, 264, 860, 864, 868, 872, 876, 649, 653, 880, 884, 480, 491, 320, 495, 499, 888, 892, 896, 453, 462, 467, 471, 475, 900, 904, 908, 912, 372, 381, 354, 207, 193, 197, 916, 920, 924, 928, 932, 675, 679, 276, 280, 284, 292, 297, 301, 316, 324, 328, 332, 340, 936, 940, 944, 948, 952, 956, 960, 967, 971, 687, 268, 975, 979, 983, 987, 189, 991, 995, 999, 344, 1003, 350, 362, 1007, 366, 503, 1011] (by decide +kernel) (by decide +kernel) w h).1
theorem wsL_law_x0 : ∀ w ∈ (vx_atS RX4 43 "java/lang/IllegalArgumentException" ["java/lang/RuntimeException", "java/lang/Exception"]).filter goodWord, w ∈ lw_tbl := by decide +kernel
theorem wsL_law_x1 : ∀ w ∈ (vx_atS RX4 54 "java/lang/IllegalStateException" ["java/lang/RuntimeException", "java/lang/Exception"]).filter goodWord, w ∈ lw_tbl := by decide +kernel
theorem wsL_law_x2 : ∀ w ∈ (vx_atS RX4 148 "java/lang/IndexOutOfBoundsException" ["java/lang/RuntimeException", "java/lang/Exception"]).filter goodWord, w ∈ lw_tbl := by decide +kernel
theorem wsL_law_in : ∀ w ∈ wsL_law, w ∈ lw_tbl := fun w h => (List.mem_append.mp h).elim (fun h => (List.mem_append.mp h).elim (fun h => (List.mem_append.mp h).elim (fun h => wsL_law_in0 w h) (fun h => wsL_law_x0 w h)) (fun h => wsL_law_x1 w h)) (fun h => wsL_law_x2 w h)
theorem inlX0 : ∀ w ∈ wsX00, w ∈ wsL_law := fun _ h => List.mem_append_left _ (List.mem_append_left _ (List.mem_append_left _ (List.mem_append_left _ (List.mem_append_left _ (List.mem_append_right _ h)))))
theorem inX0 : ∀ w ∈ wsX00, w ∈ lw_tbl := fun w h => wsL_law_in w (inlX0 w h)
theorem inlX1 : ∀ w ∈ wsX10, w ∈ wsL_law := fun _ h => List.mem_append_left _ (List.mem_append_left _ (List.mem_append_left _ (List.mem_append_left _ (List.mem_append_left _ (List.mem_append_left _ (List.mem_append_left _ (List.mem_append_right _ h)))))))
theorem inX1 : ∀ w ∈ wsX10, w ∈ lw_tbl := fun w h => wsL_law_in w (inlX1 w h)
theorem inlX2 : ∀ w ∈ wsX20, w ∈ wsL_law := fun _ h => List.mem_append_left _ (List.mem_append_left _ (List.mem_append_left _ (List.mem_append_left _ (List.mem_append_left _ (List.mem_append_left _ (List.mem_append_right _ h))))))
theorem inX2 : ∀ w ∈ wsX20, w ∈ lw_tbl := fun w h => wsL_law_in w (inlX2 w h)
theorem inlX3 : ∀ w ∈ wsX30, w ∈ wsL_law := fun _ h => List.mem_append_left _ (List.mem_append_left _ (List.mem_append_left _ (List.mem_append_left _ (List.mem_append_right _ h))))
theorem inX3 : ∀ w ∈ wsX30, w ∈ lw_tbl := fun w h => wsL_law_in w (inlX3 w h)
theorem inlX4 : ∀ w ∈ wsX40, w ∈ wsL_law := fun _ h => List.mem_append_left _ (List.mem_append_left _ (List.mem_append_left _ (List.mem_append_left _ (List.mem_append_left _ (List.mem_append_left _ (List.mem_append_left _ (List.mem_append_left _ (List.mem_append_left _ (List.mem_append_right _ h)))))))))
theorem inX4 : ∀ w ∈ wsX40, w ∈ lw_tbl := fun w h => wsL_law_in w (inlX4 w h)
theorem inlX5 : ∀ w ∈ wsX50, w ∈ wsL_law := fun _ h => List.mem_append_left _ (List.mem_append_left _ (List.mem_append_left _ (List.mem_append_left _ (List.mem_append_left _ (List.mem_append_left _ (List.mem_append_left _ (List.mem_append_left _ (List.mem_append_right _ h))))))))
theorem inX5 : ∀ w ∈ wsX50, w ∈ lw_tbl := fun w h => wsL_law_in w (inlX5 w h)
theorem inJ6 : ∀ w ∈ wsJ60, w ∈ lw_tbl := by decide +kernel
theorem inJ0 : ∀ w ∈ wsJ00, w ∈ lw_tbl := by decide +kernel
theorem inJ10 : ∀ w ∈ wsJ100, w ∈ lw_tbl := by decide +kernel
theorem dX0_init_0 : decode cX0_init 0 = .ok (.aload_n 0, 1) := by decide +kernel
theorem dX0_init_1 : decode cX0_init 1 = .ok (.invokespecial 3, 3) := by decide +kernel
theorem dX0_init_4 : decode cX0_init 4 = .ok (.aload_n 0, 1) := by decide +kernel
theorem dX0_init_5 : decode cX0_init 5 = .ok (.bipush 40, 2) := by decide +kernel
theorem dX0_init_7 : decode cX0_init 7 = .ok (.newarray .int, 2) := by decide +kernel
theorem dX0_init_9 : decode cX0_init 9 = .ok (.putfield 9, 3) := by decide +kernel
theorem dX0_init_12 : decode cX0_init 12 = .ok (.aload_n 0, 1) := by decide +kernel
theorem dX0_init_13 : decode cX0_init 13 = .ok (.bipush 40, 2) := by decide +kernel
theorem dX0_init_15 : decode cX0_init 15 = .ok (.newarray .int, 2) := by decide +kernel
theorem dX0_init_17 : decode cX0_init 17 = .ok (.putfield 15, 3) := by decide +kernel
theorem dX0_init_20 : decode cX0_init 20 = .ok (.aload_n 0, 1) := by decide +kernel
theorem dX0_init_21 : decode cX0_init 21 = .ok (.bipush 40, 2) := by decide +kernel
theorem dX0_init_23 : decode cX0_init 23 = .ok (.newarray .int, 2) := by decide +kernel
theorem dX0_init_25 : decode cX0_init 25 = .ok (.putfield 18, 3) := by decide +kernel
theorem dX0_init_28 : decode cX0_init 28 = .ok (.return_, 1) := by decide +kernel
theorem dX0_clear_0 : decode cX0_clear 0 = .ok (.aload_n 0, 1) := by decide +kernel
theorem dX0_clear_1 : decode cX0_clear 1 = .ok (.iconst 0, 1) := by decide +kernel
theorem dX0_clear_2 : decode cX0_clear 2 = .ok (.putfield 21, 3) := by decide +kernel
theorem dX0_clear_5 : decode cX0_clear 5 = .ok (.return_, 1) := by decide +kernel
theorem dX0_addStep_0 : decode cX0_addStep 0 = .ok (.aload_n 0, 1) := by decide +kernel
theorem dX0_addStep_1 : decode cX0_addStep 1 = .ok (.getfield 21, 3) := by decide +kernel
theorem dX0_addStep_4 : decode cX0_addStep 4 = .ok (.aload_n 0, 1) := by decide +kernel
theorem dX0_addStep_5 : decode cX0_addStep 5 = .ok (.getfield 9, 3) := by decide +kernel
theorem dX0_addStep_8 : decode cX0_addStep 8 = .ok (.arraylength, 1) := by decide +kernel
theorem dX0_addStep_9 : decode cX0_addStep 9 = .ok (.if_icmp .ge 43, 3) := by decide +kernel
theorem dX0_addStep_12 : decode cX0_addStep 12 = .ok (.aload_n 0, 1) := by decide +kernel
theorem dX0_addStep_13 : decode cX0_addStep 13 = .ok (.getfield 9, 3) := by decide +kernel
theorem dX0_addStep_16 : decode cX0_addStep 16 = .ok (.aload_n 0, 1) := by decide +kernel
theorem dX0_addStep_17 : decode cX0_addStep 17 = .ok (.getfield 21, 3) := by decide +kernel
theorem dX0_addStep_20 : decode cX0_addStep 20 = .ok (.iload_n 1, 1) := by decide +kernel
theorem dX0_addStep_21 : decode cX0_addStep 21 = .ok (.iastore, 1) := by decide +kernel
theorem dX0_addStep_22 : decode cX0_addStep 22 = .ok (.aload_n 0, 1) := by decide +kernel
theorem dX0_addStep_23 : decode cX0_addStep 23 = .ok (.getfield 15, 3) := by decide +kernel
theorem dX0_addStep_26 : decode cX0_addStep 26 = .ok (.aload_n 0, 1) := by decide +kernel
theorem dX0_addStep_27 : decode cX0_addStep 27 = .ok (.getfield 21, 3) := by decide +kernel
theorem dX0_addStep_30 : decode cX0_addStep 30 = .ok (.iload_n 2, 1) := by decide +kernel
theorem dX0_addStep_31 : decode cX0_addStep 31 = .ok (.iastore, 1) := by decide +kernel
theorem dX0_addStep_32 : decode cX0_addStep 32 = .ok (.aload_n 0, 1) := by decide +kernel
theorem dX0_addStep_33 : decode cX0_addStep 33 = .ok (.getfield 18, 3) := by decide +kernel
theorem dX0_addStep_36 : decode cX0_addStep 36 = .ok (.aload_n 0, 1) := by decide +kernel
theorem dX0_addStep_37 : decode cX0_addStep 37 = .ok (.getfield 21, 3) := by decide +kernel
theorem dX0_addStep_40 : decode cX0_addStep 40 = .ok (.iload_n 3, 1) := by decide +kernel
theorem dX0_addStep_41 : decode cX0_addStep 41 = .ok (.iastore, 1) := by decide +kernel
theorem dX0_addStep_42 : decode cX0_addStep 42 = .ok (.aload_n 0, 1) := by decide +kernel
theorem dX0_addStep_43 : decode cX0_addStep 43 = .ok (.dup, 1) := by decide +kernel
theorem dX0_addStep_44 : decode cX0_addStep 44 = .ok (.getfield 21, 3) := by decide +kernel
theorem dX0_addStep_47 : decode cX0_addStep 47 = .ok (.iconst 1, 1) := by decide +kernel
theorem dX0_addStep_48 : decode cX0_addStep 48 = .ok (.iadd, 1) := by decide +kernel
theorem dX0_addStep_49 : decode cX0_addStep 49 = .ok (.putfield 21, 3) := by decide +kernel
theorem dX0_addStep_52 : decode cX0_addStep 52 = .ok (.return_, 1) := by decide +kernel
theorem dX0_search_0 : decode cX0_search 0 = .ok (.iconst 0, 1) := by decide +kernel
theorem dX0_search_1 : decode cX0_search 1 = .ok (.istore_n 3, 1) := by decide +kernel
theorem dX0_search_2 : decode cX0_search 2 = .ok (.iload_n 3, 1) := by decide +kernel
theorem dX0_search_3 : decode cX0_search 3 = .ok (.aload_n 2, 1) := by decide +kernel
theorem dX0_search_4 : decode cX0_search 4 = .ok (.arraylength, 1) := by decide +kernel
theorem dX0_search_5 : decode cX0_search 5 = .ok (.if_icmp .ge 14, 3) := by decide +kernel
theorem dX0_search_8 : decode cX0_search 8 = .ok (.aload_n 2, 1) := by decide +kernel
theorem dX0_search_9 : decode cX0_search 9 = .ok (.iload_n 3, 1) := by decide +kernel
theorem dX0_search_10 : decode cX0_search 10 = .ok (.ldc 25, 2) := by decide +kernel
theorem dX0_search_12 : decode cX0_search 12 = .ok (.iastore, 1) := by decide +kernel
theorem dX0_search_13 : decode cX0_search 13 = .ok (.iinc 3 1, 3) := by decide +kernel
theorem dX0_search_16 : decode cX0_search 16 = .ok (.goto (-14), 3) := by decide +kernel
theorem dX0_search_19 : decode cX0_search 19 = .ok (.aload_n 2, 1) := by decide +kernel
theorem dX0_search_20 : decode cX0_search 20 = .ok (.iload_n 1, 1) := by decide +kernel
theorem dX0_search_21 : decode cX0_search 21 = .ok (.iload_n 1, 1) := by decide +kernel
theorem dX0_search_22 : decode cX0_search 22 = .ok (.iastore, 1) := by decide +kernel
theorem dX0_search_23 : decode cX0_search 23 = .ok (.iconst 1, 1) := by decide +kernel
theorem dX0_search_24 : decode cX0_search 24 = .ok (.istore_n 3, 1) := by decide +kernel
theorem dX0_search_25 : decode cX0_search 25 = .ok (.iconst 0, 1) := by decide +kernel
theorem dX0_search_26 : decode cX0_search 26 = .ok (.istore 4, 2) := by decide +kernel
theorem dX0_search_28 : decode cX0_search 28 = .ok (.iload 4, 2) := by decide +kernel
theorem dX0_search_30 : decode cX0_search 30 = .ok (.bipush 10, 2) := by decide +kernel
theorem dX0_search_32 : decode cX0_search 32 = .ok (.if_icmp .ge 125, 3) := by decide +kernel
theorem dX0_search_35 : decode cX0_search 35 = .ok (.iload_n 3, 1) := by decide +kernel
theorem dX0_search_36 : decode cX0_search 36 = .ok (.ifCond .eq 121, 3) := by decide +kernel
theorem dX0_search_39 : decode cX0_search 39 = .ok (.iconst 0, 1) := by decide +kernel
theorem dX0_search_40 : decode cX0_search 40 = .ok (.istore_n 3, 1) := by decide +kernel
theorem dX0_search_41 : decode cX0_search 41 = .ok (.iconst 0, 1) := by decide +kernel
theorem dX0_search_42 : decode cX0_search 42 = .ok (.istore 5, 2) := by decide +kernel
theorem dX0_search_44 : decode cX0_search 44 = .ok (.iload 5, 2) := by decide +kernel
theorem dX0_search_46 : decode cX0_search 46 = .ok (.aload_n 0, 1) := by decide +kernel
theorem dX0_search_47 : decode cX0_search 47 = .ok (.getfield 21, 3) := by decide +kernel
theorem dX0_search_50 : decode cX0_search 50 = .ok (.if_icmp .ge 101, 3) := by decide +kernel
theorem dX0_search_53 : decode cX0_search 53 = .ok (.aload_n 2, 1) := by decide +kernel
theorem dX0_search_54 : decode cX0_search 54 = .ok (.aload_n 0, 1) := by decide +kernel
theorem dX0_search_55 : decode cX0_search 55 = .ok (.getfield 9, 3) := by decide +kernel
theorem dX0_search_58 : decode cX0_search 58 = .ok (.iload 5, 2) := by decide +kernel
theorem dX0_search_60 : decode cX0_search 60 = .ok (.iaload, 1) := by decide +kernel
theorem dX0_search_61 : decode cX0_search 61 = .ok (.iaload, 1) := by decide +kernel
theorem dX0_search_62 : decode cX0_search 62 = .ok (.istore 6, 2) := by decide +kernel
theorem dX0_search_64 : decode cX0_search 64 = .ok (.iload 6, 2) := by decide +kernel
theorem dX0_search_66 : decode cX0_search 66 = .ok (.ldc 25, 2) := by decide +kernel
theorem dX0_search_68 : decode cX0_search 68 = .ok (.if_icmp .ne 6, 3) := by decide +kernel
theorem dX0_search_71 : decode cX0_search 71 = .ok (.goto 74, 3) := by decide +kernel
theorem dX0_search_74 : decode cX0_search 74 = .ok (.iload 6, 2) := by decide +kernel
theorem dX0_search_76 : decode cX0_search 76 = .ok (.aload_n 0, 1) := by decide +kernel
theorem dX0_search_77 : decode cX0_search 77 = .ok (.getfield 18, 3) := by decide +kernel
theorem dX0_search_80 : decode cX0_search 80 = .ok (.iload 5, 2) := by decide +kernel
theorem dX0_search_82 : decode cX0_search 82 = .ok (.iaload, 1) := by decide +kernel
theorem dX0_search_83 : decode cX0_search 83 = .ok (.sipush 256, 3) := by decide +kernel
theorem dX0_search_86 : decode cX0_search 86 = .ok (.imul, 1) := by decide +kernel
theorem dX0_search_87 : decode cX0_search 87 = .ok (.bipush 16, 2) := by decide +kernel
theorem dX0_search_89 : decode cX0_search 89 = .ok (.iadd, 1) := by decide +kernel
theorem dX0_search_90 : decode cX0_search 90 = .ok (.iadd, 1) := by decide +kernel
theorem dX0_search_91 : decode cX0_search 91 = .ok (.istore 6, 2) := by decide +kernel
theorem dX0_search_93 : decode cX0_search 93 = .ok (.aload_n 0, 1) := by decide +kernel
theorem dX0_search_94 : decode cX0_search 94 = .ok (.getfield 9, 3) := by decide +kernel
theorem dX0_search_97 : decode cX0_search 97 = .ok (.iload 5, 2) := by decide +kernel
theorem dX0_search_99 : decode cX0_search 99 = .ok (.iaload, 1) := by decide +kernel
theorem dX0_search_100 : decode cX0_search 100 = .ok (.iload_n 1, 1) := by decide +kernel
theorem dX0_search_101 : decode cX0_search 101 = .ok (.if_icmp .ne 17, 3) := by decide +kernel
theorem dX0_search_104 : decode cX0_search 104 = .ok (.iload 6, 2) := by decide +kernel
theorem dX0_search_106 : decode cX0_search 106 = .ok (.aload_n 0, 1) := by decide +kernel
theorem dX0_search_107 : decode cX0_search 107 = .ok (.getfield 15, 3) := by decide +kernel
theorem dX0_search_110 : decode cX0_search 110 = .ok (.iload 5, 2) := by decide +kernel
theorem dX0_search_112 : decode cX0_search 112 = .ok (.iaload, 1) := by decide +kernel
theorem dX0_search_113 : decode cX0_search 113 = .ok (.iload_n 1, 1) := by decide +kernel
theorem dX0_search_114 : decode cX0_search 114 = .ok (.isub, 1) := by decide +kernel
theorem dX0_search_115 : decode cX0_search 115 = .ok (.iadd, 1) := by decide +kernel
theorem dX0_search_116 : decode cX0_search 116 = .ok (.istore 6, 2) := by decide +kernel
theorem dX0_search_118 : decode cX0_search 118 = .ok (.iload 6, 2) := by decide +kernel
theorem dX0_search_120 : decode cX0_search 120 = .ok (.aload_n 2, 1) := by decide +kernel
theorem dX0_search_121 : decode cX0_search 121 = .ok (.aload_n 0, 1) := by decide +kernel
theorem dX0_search_122 : decode cX0_search 122 = .ok (.getfield 15, 3) := by decide +kernel
theorem dX0_search_125 : decode cX0_search 125 = .ok (.iload 5, 2) := by decide +kernel
theorem dX0_search_127 : decode cX0_search 127 = .ok (.iaload, 1) := by decide +kernel
theorem dX0_search_128 : decode cX0_search 128 = .ok (.iaload, 1) := by decide +kernel
theorem dX0_search_129 : decode cX0_search 129 = .ok (.if_icmp .ge 16, 3) := by decide +kernel
theorem dX0_search_132 : decode cX0_search 132 = .ok (.aload_n 2, 1) := by decide +kernel
theorem dX0_search_133 : decode cX0_search 133 = .ok (.aload_n 0, 1) := by decide +kernel
theorem dX0_search_134 : decode cX0_search 134 = .ok (.getfield 15, 3) := by decide +kernel
theorem dX0_search_137 : decode cX0_search 137 = .ok (.iload 5, 2) := by decide +kernel
theorem dX0_search_139 : decode cX0_search 139 = .ok (.iaload, 1) := by decide +kernel
theorem dX0_search_140 : decode cX0_search 140 = .ok (.iload 6, 2) := by decide +kernel
theorem dX0_search_142 : decode cX0_search 142 = .ok (.iastore, 1) := by decide +kernel
theorem dX0_search_143 : decode cX0_search 143 = .ok (.iconst 1, 1) := by decide +kernel
theorem dX0_search_144 : decode cX0_search 144 = .ok (.istore_n 3, 1) := by decide +kernel
theorem dX0_search_145 : decode cX0_search 145 = .ok (.iinc 5 1, 3) := by decide +kernel
theorem dX0_search_148 : decode cX0_search 148 = .ok (.goto (-104), 3) := by decide +kernel
theorem dX0_search_151 : decode cX0_search 151 = .ok (.iinc 4 1, 3) := by decide +kernel
theorem dX0_search_154 : decode cX0_search 154 = .ok (.goto (-126), 3) := by decide +kernel
theorem dX0_search_157 : decode cX0_search 157 = .ok (.return_, 1) := by decide +kernel
theorem dX1_init_0 : decode cX1_init 0 = .ok (.aload_n 0, 1) := by decide +kernel
theorem dX1_init_1 : decode cX1_init 1 = .ok (.invokespecial 3, 3) := by decide +kernel
theorem dX1_init_4 : decode cX1_init 4 = .ok (.aload_n 0, 1) := by decide +kernel
theorem dX1_init_5 : decode cX1_init 5 = .ok (.bipush 10, 2) := by decide +kernel
theorem dX1_init_7 : decode cX1_init 7 = .ok (.newarray .int, 2) := by decide +kernel
theorem dX1_init_9 : decode cX1_init 9 = .ok (.putfield 9, 3) := by decide +kernel
theorem dX1_init_12 : decode cX1_init 12 = .ok (.aload_n 0, 1) := by decide +kernel
theorem dX1_init_13 : decode cX1_init 13 = .ok (.bipush 20, 2) := by decide +kernel
theorem dX1_init_15 : decode cX1_init 15 = .ok (.newarray .int, 2) := by decide +kernel
theorem dX1_init_17 : decode cX1_init 17 = .ok (.putfield 15, 3) := by decide +kernel
theorem dX1_init_20 : decode cX1_init 20 = .ok (.aload_n 0, 1) := by decide +kernel
theorem dX1_init_21 : decode cX1_init 21 = .ok (.bipush 20, 2) := by decide +kernel
theorem dX1_init_23 : decode cX1_init 23 = .ok (.newarray .int, 2) := by decide +kernel
theorem dX1_init_25 : decode cX1_init 25 = .ok (.putfield 18, 3) := by decide +kernel
theorem dX1_init_28 : decode cX1_init 28 = .ok (.aload_n 0, 1) := by decide +kernel
theorem dX1_init_29 : decode cX1_init 29 = .ok (.bipush 20, 2) := by decide +kernel
theorem dX1_init_31 : decode cX1_init 31 = .ok (.newarray .int, 2) := by decide +kernel
theorem dX1_init_33 : decode cX1_init 33 = .ok (.putfield 21, 3) := by decide +kernel
theorem dX1_init_36 : decode cX1_init 36 = .ok (.aload_n 0, 1) := by decide +kernel
theorem dX1_init_37 : decode cX1_init 37 = .ok (.bipush 20, 2) := by decide +kernel
theorem dX1_init_39 : decode cX1_init 39 = .ok (.newarray .boolean, 2) := by decide +kernel
theorem dX1_init_41 : decode cX1_init 41 = .ok (.putfield 24, 3) := by decide +kernel
theorem dX1_init_44 : decode cX1_init 44 = .ok (.return_, 1) := by decide +kernel
theorem dX1_huts_0 : decode cX1_huts 0 = .ok (.aload_n 0, 1) := by decide +kernel
theorem dX1_huts_1 : decode cX1_huts 1 = .ok (.getfield 28, 3) := by decide +kernel
theorem dX1_huts_4 : decode cX1_huts 4 = .ok (.ireturn, 1) := by decide +kernel
theorem dX1_passes_0 : decode cX1_passes 0 = .ok (.aload_n 0, 1) := by decide +kernel
theorem dX1_passes_1 : decode cX1_passes 1 = .ok (.getfield 32, 3) := by decide +kernel
theorem dX1_passes_4 : decode cX1_passes 4 = .ok (.ireturn, 1) := by decide +kernel
theorem dX1_area_0 : decode cX1_area 0 = .ok (.aload_n 0, 1) := by decide +kernel
theorem dX1_area_1 : decode cX1_area 1 = .ok (.getfield 9, 3) := by decide +kernel
theorem dX1_area_4 : decode cX1_area 4 = .ok (.iload_n 1, 1) := by decide +kernel
theorem dX1_area_5 : decode cX1_area 5 = .ok (.iaload, 1) := by decide +kernel
theorem dX1_area_6 : decode cX1_area 6 = .ok (.ireturn, 1) := by decide +kernel
theorem dX1_first_0 : decode cX1_first 0 = .ok (.aload_n 0, 1) := by decide +kernel
theorem dX1_first_1 : decode cX1_first 1 = .ok (.getfield 15, 3) := by decide +kernel
theorem dX1_first_4 : decode cX1_first 4 = .ok (.iload_n 1, 1) := by decide +kernel
theorem dX1_first_5 : decode cX1_first 5 = .ok (.iaload, 1) := by decide +kernel
theorem dX1_first_6 : decode cX1_first 6 = .ok (.ireturn, 1) := by decide +kernel
theorem dX1_second_0 : decode cX1_second 0 = .ok (.aload_n 0, 1) := by decide +kernel
theorem dX1_second_1 : decode cX1_second 1 = .ok (.getfield 18, 3) := by decide +kernel
theorem dX1_second_4 : decode cX1_second 4 = .ok (.iload_n 1, 1) := by decide +kernel
theorem dX1_second_5 : decode cX1_second 5 = .ok (.iaload, 1) := by decide +kernel
theorem dX1_second_6 : decode cX1_second 6 = .ok (.ireturn, 1) := by decide +kernel
theorem dX1_length_0 : decode cX1_length 0 = .ok (.aload_n 0, 1) := by decide +kernel
theorem dX1_length_1 : decode cX1_length 1 = .ok (.getfield 21, 3) := by decide +kernel
theorem dX1_length_4 : decode cX1_length 4 = .ok (.iload_n 1, 1) := by decide +kernel
theorem dX1_length_5 : decode cX1_length 5 = .ok (.iaload, 1) := by decide +kernel
theorem dX1_length_6 : decode cX1_length 6 = .ok (.ireturn, 1) := by decide +kernel
theorem dX1_isOpen_0 : decode cX1_isOpen 0 = .ok (.aload_n 0, 1) := by decide +kernel
theorem dX1_isOpen_1 : decode cX1_isOpen 1 = .ok (.getfield 24, 3) := by decide +kernel
theorem dX1_isOpen_4 : decode cX1_isOpen 4 = .ok (.iload_n 1, 1) := by decide +kernel
theorem dX1_isOpen_5 : decode cX1_isOpen 5 = .ok (.baload, 1) := by decide +kernel
theorem dX1_isOpen_6 : decode cX1_isOpen 6 = .ok (.ireturn, 1) := by decide +kernel
theorem dX1_addHut_0 : decode cX1_addHut 0 = .ok (.aload_n 0, 1) := by decide +kernel
theorem dX1_addHut_1 : decode cX1_addHut 1 = .ok (.getfield 28, 3) := by decide +kernel
theorem dX1_addHut_4 : decode cX1_addHut 4 = .ok (.bipush 10, 2) := by decide +kernel
theorem dX1_addHut_6 : decode cX1_addHut 6 = .ok (.if_icmp .lt 5, 3) := by decide +kernel
theorem dX1_addHut_9 : decode cX1_addHut 9 = .ok (.iconst (-1), 1) := by decide +kernel
theorem dX1_addHut_10 : decode cX1_addHut 10 = .ok (.ireturn, 1) := by decide +kernel
theorem dX1_addHut_11 : decode cX1_addHut 11 = .ok (.aload_n 0, 1) := by decide +kernel
theorem dX1_addHut_12 : decode cX1_addHut 12 = .ok (.getfield 9, 3) := by decide +kernel
theorem dX1_addHut_15 : decode cX1_addHut 15 = .ok (.aload_n 0, 1) := by decide +kernel
theorem dX1_addHut_16 : decode cX1_addHut 16 = .ok (.getfield 28, 3) := by decide +kernel
theorem dX1_addHut_19 : decode cX1_addHut 19 = .ok (.iload_n 1, 1) := by decide +kernel
theorem dX1_addHut_20 : decode cX1_addHut 20 = .ok (.iastore, 1) := by decide +kernel
theorem dX1_addHut_21 : decode cX1_addHut 21 = .ok (.aload_n 0, 1) := by decide +kernel
theorem dX1_addHut_22 : decode cX1_addHut 22 = .ok (.dup, 1) := by decide +kernel
theorem dX1_addHut_23 : decode cX1_addHut 23 = .ok (.getfield 28, 3) := by decide +kernel
theorem dX1_addHut_26 : decode cX1_addHut 26 = .ok (.iconst 1, 1) := by decide +kernel
theorem dX1_addHut_27 : decode cX1_addHut 27 = .ok (.iadd, 1) := by decide +kernel
theorem dX1_addHut_28 : decode cX1_addHut 28 = .ok (.putfield 28, 3) := by decide +kernel
theorem dX1_addHut_31 : decode cX1_addHut 31 = .ok (.aload_n 0, 1) := by decide +kernel
theorem dX1_addHut_32 : decode cX1_addHut 32 = .ok (.getfield 28, 3) := by decide +kernel
theorem dX1_addHut_35 : decode cX1_addHut 35 = .ok (.iconst 1, 1) := by decide +kernel
theorem dX1_addHut_36 : decode cX1_addHut 36 = .ok (.isub, 1) := by decide +kernel
theorem dX1_addHut_37 : decode cX1_addHut 37 = .ok (.ireturn, 1) := by decide +kernel
theorem dX1_addPass_0 : decode cX1_addPass 0 = .ok (.aload_n 0, 1) := by decide +kernel
theorem dX1_addPass_1 : decode cX1_addPass 1 = .ok (.getfield 32, 3) := by decide +kernel
theorem dX1_addPass_4 : decode cX1_addPass 4 = .ok (.bipush 20, 2) := by decide +kernel
theorem dX1_addPass_6 : decode cX1_addPass 6 = .ok (.if_icmp .lt 5, 3) := by decide +kernel
theorem dX1_addPass_9 : decode cX1_addPass 9 = .ok (.iconst (-1), 1) := by decide +kernel
theorem dX1_addPass_10 : decode cX1_addPass 10 = .ok (.ireturn, 1) := by decide +kernel
theorem dX1_addPass_11 : decode cX1_addPass 11 = .ok (.aload_n 0, 1) := by decide +kernel
theorem dX1_addPass_12 : decode cX1_addPass 12 = .ok (.getfield 15, 3) := by decide +kernel
theorem dX1_addPass_15 : decode cX1_addPass 15 = .ok (.aload_n 0, 1) := by decide +kernel
theorem dX1_addPass_16 : decode cX1_addPass 16 = .ok (.getfield 32, 3) := by decide +kernel
theorem dX1_addPass_19 : decode cX1_addPass 19 = .ok (.iload_n 1, 1) := by decide +kernel
theorem dX1_addPass_20 : decode cX1_addPass 20 = .ok (.iastore, 1) := by decide +kernel
theorem dX1_addPass_21 : decode cX1_addPass 21 = .ok (.aload_n 0, 1) := by decide +kernel
theorem dX1_addPass_22 : decode cX1_addPass 22 = .ok (.getfield 18, 3) := by decide +kernel
theorem dX1_addPass_25 : decode cX1_addPass 25 = .ok (.aload_n 0, 1) := by decide +kernel
theorem dX1_addPass_26 : decode cX1_addPass 26 = .ok (.getfield 32, 3) := by decide +kernel
theorem dX1_addPass_29 : decode cX1_addPass 29 = .ok (.iload_n 2, 1) := by decide +kernel
theorem dX1_addPass_30 : decode cX1_addPass 30 = .ok (.iastore, 1) := by decide +kernel
theorem dX1_addPass_31 : decode cX1_addPass 31 = .ok (.aload_n 0, 1) := by decide +kernel
theorem dX1_addPass_32 : decode cX1_addPass 32 = .ok (.getfield 21, 3) := by decide +kernel
theorem dX1_addPass_35 : decode cX1_addPass 35 = .ok (.aload_n 0, 1) := by decide +kernel
theorem dX1_addPass_36 : decode cX1_addPass 36 = .ok (.getfield 32, 3) := by decide +kernel
theorem dX1_addPass_39 : decode cX1_addPass 39 = .ok (.iload_n 3, 1) := by decide +kernel
theorem dX1_addPass_40 : decode cX1_addPass 40 = .ok (.iastore, 1) := by decide +kernel
theorem dX1_addPass_41 : decode cX1_addPass 41 = .ok (.aload_n 0, 1) := by decide +kernel
theorem dX1_addPass_42 : decode cX1_addPass 42 = .ok (.getfield 24, 3) := by decide +kernel
theorem dX1_addPass_45 : decode cX1_addPass 45 = .ok (.aload_n 0, 1) := by decide +kernel
theorem dX1_addPass_46 : decode cX1_addPass 46 = .ok (.getfield 32, 3) := by decide +kernel
theorem dX1_addPass_49 : decode cX1_addPass 49 = .ok (.iconst 1, 1) := by decide +kernel
theorem dX1_addPass_50 : decode cX1_addPass 50 = .ok (.bastore, 1) := by decide +kernel
theorem dX1_addPass_51 : decode cX1_addPass 51 = .ok (.aload_n 0, 1) := by decide +kernel
theorem dX1_addPass_52 : decode cX1_addPass 52 = .ok (.dup, 1) := by decide +kernel
theorem dX1_addPass_53 : decode cX1_addPass 53 = .ok (.getfield 32, 3) := by decide +kernel
theorem dX1_addPass_56 : decode cX1_addPass 56 = .ok (.iconst 1, 1) := by decide +kernel
theorem dX1_addPass_57 : decode cX1_addPass 57 = .ok (.iadd, 1) := by decide +kernel
theorem dX1_addPass_58 : decode cX1_addPass 58 = .ok (.putfield 32, 3) := by decide +kernel
theorem dX1_addPass_61 : decode cX1_addPass 61 = .ok (.aload_n 0, 1) := by decide +kernel
theorem dX1_addPass_62 : decode cX1_addPass 62 = .ok (.getfield 32, 3) := by decide +kernel
theorem dX1_addPass_65 : decode cX1_addPass 65 = .ok (.iconst 1, 1) := by decide +kernel
theorem dX1_addPass_66 : decode cX1_addPass 66 = .ok (.isub, 1) := by decide +kernel
theorem dX1_addPass_67 : decode cX1_addPass 67 = .ok (.ireturn, 1) := by decide +kernel
theorem dX1_changeLength_0 : decode cX1_changeLength 0 = .ok (.aload_n 0, 1) := by decide +kernel
theorem dX1_changeLength_1 : decode cX1_changeLength 1 = .ok (.getfield 21, 3) := by decide +kernel
theorem dX1_changeLength_4 : decode cX1_changeLength 4 = .ok (.iload_n 1, 1) := by decide +kernel
theorem dX1_changeLength_5 : decode cX1_changeLength 5 = .ok (.iaload, 1) := by decide +kernel
theorem dX1_changeLength_6 : decode cX1_changeLength 6 = .ok (.istore_n 3, 1) := by decide +kernel
theorem dX1_changeLength_7 : decode cX1_changeLength 7 = .ok (.aload_n 0, 1) := by decide +kernel
theorem dX1_changeLength_8 : decode cX1_changeLength 8 = .ok (.getfield 21, 3) := by decide +kernel
theorem dX1_changeLength_11 : decode cX1_changeLength 11 = .ok (.iload_n 1, 1) := by decide +kernel
theorem dX1_changeLength_12 : decode cX1_changeLength 12 = .ok (.iload_n 2, 1) := by decide +kernel
theorem dX1_changeLength_13 : decode cX1_changeLength 13 = .ok (.iastore, 1) := by decide +kernel
theorem dX1_changeLength_14 : decode cX1_changeLength 14 = .ok (.iload_n 3, 1) := by decide +kernel
theorem dX1_changeLength_15 : decode cX1_changeLength 15 = .ok (.ireturn, 1) := by decide +kernel
theorem dX1_changeOpen_0 : decode cX1_changeOpen 0 = .ok (.aload_n 0, 1) := by decide +kernel
theorem dX1_changeOpen_1 : decode cX1_changeOpen 1 = .ok (.getfield 24, 3) := by decide +kernel
theorem dX1_changeOpen_4 : decode cX1_changeOpen 4 = .ok (.iload_n 1, 1) := by decide +kernel
theorem dX1_changeOpen_5 : decode cX1_changeOpen 5 = .ok (.baload, 1) := by decide +kernel
theorem dX1_changeOpen_6 : decode cX1_changeOpen 6 = .ok (.istore_n 3, 1) := by decide +kernel
theorem dX1_changeOpen_7 : decode cX1_changeOpen 7 = .ok (.aload_n 0, 1) := by decide +kernel
theorem dX1_changeOpen_8 : decode cX1_changeOpen 8 = .ok (.getfield 24, 3) := by decide +kernel
theorem dX1_changeOpen_11 : decode cX1_changeOpen 11 = .ok (.iload_n 1, 1) := by decide +kernel
theorem dX1_changeOpen_12 : decode cX1_changeOpen 12 = .ok (.iload_n 2, 1) := by decide +kernel
theorem dX1_changeOpen_13 : decode cX1_changeOpen 13 = .ok (.bastore, 1) := by decide +kernel
theorem dX1_changeOpen_14 : decode cX1_changeOpen 14 = .ok (.iload_n 3, 1) := by decide +kernel
theorem dX1_changeOpen_15 : decode cX1_changeOpen 15 = .ok (.ireturn, 1) := by decide +kernel
theorem dX1_openPasses_0 : decode cX1_openPasses 0 = .ok (.iconst 0, 1) := by decide +kernel
theorem dX1_openPasses_1 : decode cX1_openPasses 1 = .ok (.istore_n 1, 1) := by decide +kernel
theorem dX1_openPasses_2 : decode cX1_openPasses 2 = .ok (.iconst 0, 1) := by decide +kernel
theorem dX1_openPasses_3 : decode cX1_openPasses 3 = .ok (.istore_n 2, 1) := by decide +kernel
theorem dX1_openPasses_4 : decode cX1_openPasses 4 = .ok (.iload_n 2, 1) := by decide +kernel
theorem dX1_openPasses_5 : decode cX1_openPasses 5 = .ok (.aload_n 0, 1) := by decide +kernel
theorem dX1_openPasses_6 : decode cX1_openPasses 6 = .ok (.getfield 32, 3) := by decide +kernel
theorem dX1_openPasses_9 : decode cX1_openPasses 9 = .ok (.if_icmp .ge 21, 3) := by decide +kernel
theorem dX1_openPasses_12 : decode cX1_openPasses 12 = .ok (.aload_n 0, 1) := by decide +kernel
theorem dX1_openPasses_13 : decode cX1_openPasses 13 = .ok (.getfield 24, 3) := by decide +kernel
theorem dX1_openPasses_16 : decode cX1_openPasses 16 = .ok (.iload_n 2, 1) := by decide +kernel
theorem dX1_openPasses_17 : decode cX1_openPasses 17 = .ok (.baload, 1) := by decide +kernel
theorem dX1_openPasses_18 : decode cX1_openPasses 18 = .ok (.ifCond .eq 6, 3) := by decide +kernel
theorem dX1_openPasses_21 : decode cX1_openPasses 21 = .ok (.iinc 1 1, 3) := by decide +kernel
theorem dX1_openPasses_24 : decode cX1_openPasses 24 = .ok (.iinc 2 1, 3) := by decide +kernel
theorem dX1_openPasses_27 : decode cX1_openPasses 27 = .ok (.goto (-23), 3) := by decide +kernel
theorem dX1_openPasses_30 : decode cX1_openPasses 30 = .ok (.iload_n 1, 1) := by decide +kernel
theorem dX1_openPasses_31 : decode cX1_openPasses 31 = .ok (.ireturn, 1) := by decide +kernel
theorem dX1_takesIn_0 : decode cX1_takesIn 0 = .ok (.aload_n 0, 1) := by decide +kernel
theorem dX1_takesIn_1 : decode cX1_takesIn 1 = .ok (.getfield 9, 3) := by decide +kernel
theorem dX1_takesIn_4 : decode cX1_takesIn 4 = .ok (.iload_n 1, 1) := by decide +kernel
theorem dX1_takesIn_5 : decode cX1_takesIn 5 = .ok (.iaload, 1) := by decide +kernel
theorem dX1_takesIn_6 : decode cX1_takesIn 6 = .ok (.ifCond .eq 27, 3) := by decide +kernel
theorem dX1_takesIn_9 : decode cX1_takesIn 9 = .ok (.aload_n 0, 1) := by decide +kernel
theorem dX1_takesIn_10 : decode cX1_takesIn 10 = .ok (.getfield 9, 3) := by decide +kernel
theorem dX1_takesIn_13 : decode cX1_takesIn 13 = .ok (.iload_n 2, 1) := by decide +kernel
theorem dX1_takesIn_14 : decode cX1_takesIn 14 = .ok (.iaload, 1) := by decide +kernel
theorem dX1_takesIn_15 : decode cX1_takesIn 15 = .ok (.ifCond .eq 18, 3) := by decide +kernel
theorem dX1_takesIn_18 : decode cX1_takesIn 18 = .ok (.aload_n 0, 1) := by decide +kernel
theorem dX1_takesIn_19 : decode cX1_takesIn 19 = .ok (.getfield 9, 3) := by decide +kernel
theorem dX1_takesIn_22 : decode cX1_takesIn 22 = .ok (.iload_n 1, 1) := by decide +kernel
theorem dX1_takesIn_23 : decode cX1_takesIn 23 = .ok (.iaload, 1) := by decide +kernel
theorem dX1_takesIn_24 : decode cX1_takesIn 24 = .ok (.aload_n 0, 1) := by decide +kernel
theorem dX1_takesIn_25 : decode cX1_takesIn 25 = .ok (.getfield 9, 3) := by decide +kernel
theorem dX1_takesIn_28 : decode cX1_takesIn 28 = .ok (.iload_n 2, 1) := by decide +kernel
theorem dX1_takesIn_29 : decode cX1_takesIn 29 = .ok (.iaload, 1) := by decide +kernel
theorem dX1_takesIn_30 : decode cX1_takesIn 30 = .ok (.if_icmp .ne 7, 3) := by decide +kernel
theorem dX1_takesIn_33 : decode cX1_takesIn 33 = .ok (.iconst 1, 1) := by decide +kernel
theorem dX1_takesIn_34 : decode cX1_takesIn 34 = .ok (.goto 4, 3) := by decide +kernel
theorem dX1_takesIn_37 : decode cX1_takesIn 37 = .ok (.iconst 0, 1) := by decide +kernel
theorem dX1_takesIn_38 : decode cX1_takesIn 38 = .ok (.ireturn, 1) := by decide +kernel
theorem dX1_tellsNow_0 : decode cX1_tellsNow 0 = .ok (.aload_n 0, 1) := by decide +kernel
theorem dX1_tellsNow_1 : decode cX1_tellsNow 1 = .ok (.getfield 15, 3) := by decide +kernel
theorem dX1_tellsNow_4 : decode cX1_tellsNow 4 = .ok (.iload_n 2, 1) := by decide +kernel
theorem dX1_tellsNow_5 : decode cX1_tellsNow 5 = .ok (.iaload, 1) := by decide +kernel
theorem dX1_tellsNow_6 : decode cX1_tellsNow 6 = .ok (.iload_n 1, 1) := by decide +kernel
theorem dX1_tellsNow_7 : decode cX1_tellsNow 7 = .ok (.if_icmp .eq 13, 3) := by decide +kernel
theorem dX1_tellsNow_10 : decode cX1_tellsNow 10 = .ok (.aload_n 0, 1) := by decide +kernel
theorem dX1_tellsNow_11 : decode cX1_tellsNow 11 = .ok (.getfield 18, 3) := by decide +kernel
theorem dX1_tellsNow_14 : decode cX1_tellsNow 14 = .ok (.iload_n 2, 1) := by decide +kernel
theorem dX1_tellsNow_15 : decode cX1_tellsNow 15 = .ok (.iaload, 1) := by decide +kernel
theorem dX1_tellsNow_16 : decode cX1_tellsNow 16 = .ok (.iload_n 1, 1) := by decide +kernel
theorem dX1_tellsNow_17 : decode cX1_tellsNow 17 = .ok (.if_icmp .ne 7, 3) := by decide +kernel
theorem dX1_tellsNow_20 : decode cX1_tellsNow 20 = .ok (.iconst 1, 1) := by decide +kernel
theorem dX1_tellsNow_21 : decode cX1_tellsNow 21 = .ok (.goto 4, 3) := by decide +kernel
theorem dX1_tellsNow_24 : decode cX1_tellsNow 24 = .ok (.iconst 0, 1) := by decide +kernel
theorem dX1_tellsNow_25 : decode cX1_tellsNow 25 = .ok (.istore_n 3, 1) := by decide +kernel
theorem dX1_tellsNow_26 : decode cX1_tellsNow 26 = .ok (.iload_n 3, 1) := by decide +kernel
theorem dX1_tellsNow_27 : decode cX1_tellsNow 27 = .ok (.ifCond .eq 21, 3) := by decide +kernel
theorem dX1_tellsNow_30 : decode cX1_tellsNow 30 = .ok (.aload_n 0, 1) := by decide +kernel
theorem dX1_tellsNow_31 : decode cX1_tellsNow 31 = .ok (.getfield 24, 3) := by decide +kernel
theorem dX1_tellsNow_34 : decode cX1_tellsNow 34 = .ok (.iload_n 2, 1) := by decide +kernel
theorem dX1_tellsNow_35 : decode cX1_tellsNow 35 = .ok (.baload, 1) := by decide +kernel
theorem dX1_tellsNow_36 : decode cX1_tellsNow 36 = .ok (.ifCond .eq 12, 3) := by decide +kernel
theorem dX1_tellsNow_39 : decode cX1_tellsNow 39 = .ok (.aload_n 0, 1) := by decide +kernel
theorem dX1_tellsNow_40 : decode cX1_tellsNow 40 = .ok (.getfield 21, 3) := by decide +kernel
theorem dX1_tellsNow_43 : decode cX1_tellsNow 43 = .ok (.iload_n 2, 1) := by decide +kernel
theorem dX1_tellsNow_44 : decode cX1_tellsNow 44 = .ok (.iaload, 1) := by decide +kernel
theorem dX1_tellsNow_45 : decode cX1_tellsNow 45 = .ok (.goto 4, 3) := by decide +kernel
theorem dX1_tellsNow_48 : decode cX1_tellsNow 48 = .ok (.iconst 0, 1) := by decide +kernel
theorem dX1_tellsNow_49 : decode cX1_tellsNow 49 = .ok (.ireturn, 1) := by decide +kernel
theorem dX1_isStep_0 : decode cX1_isStep 0 = .ok (.iconst 0, 1) := by decide +kernel
theorem dX1_isStep_1 : decode cX1_isStep 1 = .ok (.istore_n 3, 1) := by decide +kernel
theorem dX1_isStep_2 : decode cX1_isStep 2 = .ok (.iload_n 3, 1) := by decide +kernel
theorem dX1_isStep_3 : decode cX1_isStep 3 = .ok (.aload_n 0, 1) := by decide +kernel
theorem dX1_isStep_4 : decode cX1_isStep 4 = .ok (.getfield 32, 3) := by decide +kernel
theorem dX1_isStep_7 : decode cX1_isStep 7 = .ok (.if_icmp .ge 84, 3) := by decide +kernel
theorem dX1_isStep_10 : decode cX1_isStep 10 = .ok (.aload_n 0, 1) := by decide +kernel
theorem dX1_isStep_11 : decode cX1_isStep 11 = .ok (.getfield 15, 3) := by decide +kernel
theorem dX1_isStep_14 : decode cX1_isStep 14 = .ok (.iload_n 3, 1) := by decide +kernel
theorem dX1_isStep_15 : decode cX1_isStep 15 = .ok (.iaload, 1) := by decide +kernel
theorem dX1_isStep_16 : decode cX1_isStep 16 = .ok (.iload_n 1, 1) := by decide +kernel
theorem dX1_isStep_17 : decode cX1_isStep 17 = .ok (.if_icmp .ne 17, 3) := by decide +kernel
theorem dX1_isStep_20 : decode cX1_isStep 20 = .ok (.aload_n 0, 1) := by decide +kernel
theorem dX1_isStep_21 : decode cX1_isStep 21 = .ok (.getfield 18, 3) := by decide +kernel
theorem dX1_isStep_24 : decode cX1_isStep 24 = .ok (.iload_n 3, 1) := by decide +kernel
theorem dX1_isStep_25 : decode cX1_isStep 25 = .ok (.iaload, 1) := by decide +kernel
theorem dX1_isStep_26 : decode cX1_isStep 26 = .ok (.iload_n 2, 1) := by decide +kernel
theorem dX1_isStep_27 : decode cX1_isStep 27 = .ok (.if_icmp .ne 7, 3) := by decide +kernel
theorem dX1_isStep_30 : decode cX1_isStep 30 = .ok (.iconst 1, 1) := by decide +kernel
theorem dX1_isStep_31 : decode cX1_isStep 31 = .ok (.goto 4, 3) := by decide +kernel
theorem dX1_isStep_34 : decode cX1_isStep 34 = .ok (.iconst 0, 1) := by decide +kernel
theorem dX1_isStep_35 : decode cX1_isStep 35 = .ok (.istore 4, 2) := by decide +kernel
theorem dX1_isStep_37 : decode cX1_isStep 37 = .ok (.aload_n 0, 1) := by decide +kernel
theorem dX1_isStep_38 : decode cX1_isStep 38 = .ok (.getfield 15, 3) := by decide +kernel
theorem dX1_isStep_41 : decode cX1_isStep 41 = .ok (.iload_n 3, 1) := by decide +kernel
theorem dX1_isStep_42 : decode cX1_isStep 42 = .ok (.iaload, 1) := by decide +kernel
theorem dX1_isStep_43 : decode cX1_isStep 43 = .ok (.iload_n 2, 1) := by decide +kernel
theorem dX1_isStep_44 : decode cX1_isStep 44 = .ok (.if_icmp .ne 17, 3) := by decide +kernel
theorem dX1_isStep_47 : decode cX1_isStep 47 = .ok (.aload_n 0, 1) := by decide +kernel
theorem dX1_isStep_48 : decode cX1_isStep 48 = .ok (.getfield 18, 3) := by decide +kernel
theorem dX1_isStep_51 : decode cX1_isStep 51 = .ok (.iload_n 3, 1) := by decide +kernel
theorem dX1_isStep_52 : decode cX1_isStep 52 = .ok (.iaload, 1) := by decide +kernel
theorem dX1_isStep_53 : decode cX1_isStep 53 = .ok (.iload_n 1, 1) := by decide +kernel
theorem dX1_isStep_54 : decode cX1_isStep 54 = .ok (.if_icmp .ne 7, 3) := by decide +kernel
theorem dX1_isStep_57 : decode cX1_isStep 57 = .ok (.iconst 1, 1) := by decide +kernel
theorem dX1_isStep_58 : decode cX1_isStep 58 = .ok (.goto 4, 3) := by decide +kernel
theorem dX1_isStep_61 : decode cX1_isStep 61 = .ok (.iconst 0, 1) := by decide +kernel
theorem dX1_isStep_62 : decode cX1_isStep 62 = .ok (.istore 5, 2) := by decide +kernel
theorem dX1_isStep_64 : decode cX1_isStep 64 = .ok (.aload_n 0, 1) := by decide +kernel
theorem dX1_isStep_65 : decode cX1_isStep 65 = .ok (.getfield 24, 3) := by decide +kernel
theorem dX1_isStep_68 : decode cX1_isStep 68 = .ok (.iload_n 3, 1) := by decide +kernel
theorem dX1_isStep_69 : decode cX1_isStep 69 = .ok (.baload, 1) := by decide +kernel
theorem dX1_isStep_70 : decode cX1_isStep 70 = .ok (.ifCond .eq 15, 3) := by decide +kernel
theorem dX1_isStep_73 : decode cX1_isStep 73 = .ok (.iload 4, 2) := by decide +kernel
theorem dX1_isStep_75 : decode cX1_isStep 75 = .ok (.ifCond .ne 8, 3) := by decide +kernel
theorem dX1_isStep_78 : decode cX1_isStep 78 = .ok (.iload 5, 2) := by decide +kernel
theorem dX1_isStep_80 : decode cX1_isStep 80 = .ok (.ifCond .eq 5, 3) := by decide +kernel
theorem dX1_isStep_83 : decode cX1_isStep 83 = .ok (.iconst 1, 1) := by decide +kernel
theorem dX1_isStep_84 : decode cX1_isStep 84 = .ok (.ireturn, 1) := by decide +kernel
theorem dX1_isStep_85 : decode cX1_isStep 85 = .ok (.iinc 3 1, 3) := by decide +kernel
theorem dX1_isStep_88 : decode cX1_isStep 88 = .ok (.goto (-86), 3) := by decide +kernel
theorem dX1_isStep_91 : decode cX1_isStep 91 = .ok (.iconst 0, 1) := by decide +kernel
theorem dX1_isStep_92 : decode cX1_isStep 92 = .ok (.ireturn, 1) := by decide +kernel
set_option maxRecDepth 20000 in
theorem ggX1_draw_X0_clear : GoodIn wsX1_draw wsX0_clear := goodIn_r _ [10, 11, 26, 27, 28, 29] (by decide +kernel) (by decide +kernel)
set_option maxRecDepth 20000 in
theorem gX1_draw_X0_clear : GoodIn wsX1_draw (wsV RX1 35 RX0 yX0_clear wsX0_clear) := goodIn_app (goodIn_of _ (by decide +kernel)) ggX1_draw_X0_clear
set_option maxRecDepth 20000 in
theorem ggX1_draw_X0_addStep : GoodIn wsX1_draw wsX0_addStep := goodIn_r _ [15, 11, 16, 17, 18, 26, 27, 28, 29] (by decide +kernel) (by decide +kernel)
set_option maxRecDepth 20000 in
theorem gX1_draw_X0_addStep : GoodIn wsX1_draw (wsV RX1 40 RX0 yX0_addStep wsX0_addStep) := goodIn_app (goodIn_of _ (by decide +kernel)) ggX1_draw_X0_addStep
theorem dX1_draw_0 : decode cX1_draw 0 = .ok (.aload_n 1, 1) := by decide +kernel
theorem dX1_draw_1 : decode cX1_draw 1 = .ok (.invokevirtual 35, 3) := by decide +kernel
theorem dX1_draw_4 : decode cX1_draw 4 = .ok (.iconst 0, 1) := by decide +kernel
theorem dX1_draw_5 : decode cX1_draw 5 = .ok (.istore_n 2, 1) := by decide +kernel
theorem dX1_draw_6 : decode cX1_draw 6 = .ok (.iload_n 2, 1) := by decide +kernel
theorem dX1_draw_7 : decode cX1_draw 7 = .ok (.aload_n 0, 1) := by decide +kernel
theorem dX1_draw_8 : decode cX1_draw 8 = .ok (.getfield 32, 3) := by decide +kernel
theorem dX1_draw_11 : decode cX1_draw 11 = .ok (.if_icmp .ge 62, 3) := by decide +kernel
theorem dX1_draw_14 : decode cX1_draw 14 = .ok (.aload_n 0, 1) := by decide +kernel
theorem dX1_draw_15 : decode cX1_draw 15 = .ok (.getfield 24, 3) := by decide +kernel
theorem dX1_draw_18 : decode cX1_draw 18 = .ok (.iload_n 2, 1) := by decide +kernel
theorem dX1_draw_19 : decode cX1_draw 19 = .ok (.baload, 1) := by decide +kernel
theorem dX1_draw_20 : decode cX1_draw 20 = .ok (.ifCond .eq 47, 3) := by decide +kernel
theorem dX1_draw_23 : decode cX1_draw 23 = .ok (.aload_n 1, 1) := by decide +kernel
theorem dX1_draw_24 : decode cX1_draw 24 = .ok (.aload_n 0, 1) := by decide +kernel
theorem dX1_draw_25 : decode cX1_draw 25 = .ok (.getfield 15, 3) := by decide +kernel
theorem dX1_draw_28 : decode cX1_draw 28 = .ok (.iload_n 2, 1) := by decide +kernel
theorem dX1_draw_29 : decode cX1_draw 29 = .ok (.iaload, 1) := by decide +kernel
theorem dX1_draw_30 : decode cX1_draw 30 = .ok (.aload_n 0, 1) := by decide +kernel
theorem dX1_draw_31 : decode cX1_draw 31 = .ok (.getfield 18, 3) := by decide +kernel
theorem dX1_draw_34 : decode cX1_draw 34 = .ok (.iload_n 2, 1) := by decide +kernel
theorem dX1_draw_35 : decode cX1_draw 35 = .ok (.iaload, 1) := by decide +kernel
theorem dX1_draw_36 : decode cX1_draw 36 = .ok (.aload_n 0, 1) := by decide +kernel
theorem dX1_draw_37 : decode cX1_draw 37 = .ok (.getfield 21, 3) := by decide +kernel
theorem dX1_draw_40 : decode cX1_draw 40 = .ok (.iload_n 2, 1) := by decide +kernel
theorem dX1_draw_41 : decode cX1_draw 41 = .ok (.iaload, 1) := by decide +kernel
theorem dX1_draw_42 : decode cX1_draw 42 = .ok (.invokevirtual 40, 3) := by decide +kernel
theorem dX1_draw_45 : decode cX1_draw 45 = .ok (.aload_n 1, 1) := by decide +kernel
theorem dX1_draw_46 : decode cX1_draw 46 = .ok (.aload_n 0, 1) := by decide +kernel
theorem dX1_draw_47 : decode cX1_draw 47 = .ok (.getfield 18, 3) := by decide +kernel
theorem dX1_draw_50 : decode cX1_draw 50 = .ok (.iload_n 2, 1) := by decide +kernel
theorem dX1_draw_51 : decode cX1_draw 51 = .ok (.iaload, 1) := by decide +kernel
theorem dX1_draw_52 : decode cX1_draw 52 = .ok (.aload_n 0, 1) := by decide +kernel
theorem dX1_draw_53 : decode cX1_draw 53 = .ok (.getfield 15, 3) := by decide +kernel
theorem dX1_draw_56 : decode cX1_draw 56 = .ok (.iload_n 2, 1) := by decide +kernel
theorem dX1_draw_57 : decode cX1_draw 57 = .ok (.iaload, 1) := by decide +kernel
theorem dX1_draw_58 : decode cX1_draw 58 = .ok (.aload_n 0, 1) := by decide +kernel
theorem dX1_draw_59 : decode cX1_draw 59 = .ok (.getfield 21, 3) := by decide +kernel
theorem dX1_draw_62 : decode cX1_draw 62 = .ok (.iload_n 2, 1) := by decide +kernel
theorem dX1_draw_63 : decode cX1_draw 63 = .ok (.iaload, 1) := by decide +kernel
theorem dX1_draw_64 : decode cX1_draw 64 = .ok (.invokevirtual 40, 3) := by decide +kernel
theorem dX1_draw_67 : decode cX1_draw 67 = .ok (.iinc 2 1, 3) := by decide +kernel
theorem dX1_draw_70 : decode cX1_draw 70 = .ok (.goto (-64), 3) := by decide +kernel
theorem dX1_draw_73 : decode cX1_draw 73 = .ok (.return_, 1) := by decide +kernel
set_option maxRecDepth 20000 in
theorem ggX1_joinedPairs_X1_groupOf : GoodIn wsX1_joinedPairs wsX1_groupOf := goodIn_r _ [6, 7, 8, 9, 10, 18, 19, 20, 21, 22, 23, 24] (by decide +kernel) (by decide +kernel)
set_option maxRecDepth 20000 in
theorem gX1_joinedPairs_X1_groupOf : GoodIn wsX1_joinedPairs (wsV RX1 44 RX1 yX1_groupOf wsX1_groupOf) := goodIn_app (goodIn_of _ (by decide +kernel)) ggX1_joinedPairs_X1_groupOf
set_option maxRecDepth 20000 in
theorem ggX1_joinedPairs_J6_bitCount_0f7a4 : GoodIn wsX1_joinedPairs wsJ6_bitCount_0f7a4 := goodIn_r _ [14, 15, 16, 17] (by decide +kernel) (by decide +kernel)
set_option maxRecDepth 20000 in
theorem gX1_joinedPairs_J6_bitCount_0f7a4 : GoodIn wsX1_joinedPairs (va_wsS RX1 48 yJ6_bitCount_0f7a4 wsJ6_bitCount_0f7a4) := goodIn_app (goodIn_of _ (by decide +kernel)) ggX1_joinedPairs_J6_bitCount_0f7a4
theorem dX1_joinedPairs_0 : decode cX1_joinedPairs 0 = .ok (.iconst 0, 1) := by decide +kernel
theorem dX1_joinedPairs_1 : decode cX1_joinedPairs 1 = .ok (.istore_n 2, 1) := by decide +kernel
theorem dX1_joinedPairs_2 : decode cX1_joinedPairs 2 = .ok (.iconst 0, 1) := by decide +kernel
theorem dX1_joinedPairs_3 : decode cX1_joinedPairs 3 = .ok (.istore_n 3, 1) := by decide +kernel
theorem dX1_joinedPairs_4 : decode cX1_joinedPairs 4 = .ok (.iconst 0, 1) := by decide +kernel
theorem dX1_joinedPairs_5 : decode cX1_joinedPairs 5 = .ok (.istore 4, 2) := by decide +kernel
theorem dX1_joinedPairs_7 : decode cX1_joinedPairs 7 = .ok (.iload 4, 2) := by decide +kernel
theorem dX1_joinedPairs_9 : decode cX1_joinedPairs 9 = .ok (.aload_n 0, 1) := by decide +kernel
theorem dX1_joinedPairs_10 : decode cX1_joinedPairs 10 = .ok (.getfield 28, 3) := by decide +kernel
theorem dX1_joinedPairs_13 : decode cX1_joinedPairs 13 = .ok (.if_icmp .ge 49, 3) := by decide +kernel
theorem dX1_joinedPairs_16 : decode cX1_joinedPairs 16 = .ok (.iload_n 3, 1) := by decide +kernel
theorem dX1_joinedPairs_17 : decode cX1_joinedPairs 17 = .ok (.iload 4, 2) := by decide +kernel
theorem dX1_joinedPairs_19 : decode cX1_joinedPairs 19 = .ok (.ishr, 1) := by decide +kernel
theorem dX1_joinedPairs_20 : decode cX1_joinedPairs 20 = .ok (.iconst 1, 1) := by decide +kernel
theorem dX1_joinedPairs_21 : decode cX1_joinedPairs 21 = .ok (.iand, 1) := by decide +kernel
theorem dX1_joinedPairs_22 : decode cX1_joinedPairs 22 = .ok (.ifCond .ne 34, 3) := by decide +kernel
theorem dX1_joinedPairs_25 : decode cX1_joinedPairs 25 = .ok (.aload_n 0, 1) := by decide +kernel
theorem dX1_joinedPairs_26 : decode cX1_joinedPairs 26 = .ok (.iload 4, 2) := by decide +kernel
theorem dX1_joinedPairs_28 : decode cX1_joinedPairs 28 = .ok (.iload_n 1, 1) := by decide +kernel
theorem dX1_joinedPairs_29 : decode cX1_joinedPairs 29 = .ok (.invokevirtual 44, 3) := by decide +kernel
theorem dX1_joinedPairs_32 : decode cX1_joinedPairs 32 = .ok (.istore 5, 2) := by decide +kernel
theorem dX1_joinedPairs_34 : decode cX1_joinedPairs 34 = .ok (.iload 5, 2) := by decide +kernel
theorem dX1_joinedPairs_36 : decode cX1_joinedPairs 36 = .ok (.invokestatic 48, 3) := by decide +kernel
theorem dX1_joinedPairs_39 : decode cX1_joinedPairs 39 = .ok (.istore 6, 2) := by decide +kernel
theorem dX1_joinedPairs_41 : decode cX1_joinedPairs 41 = .ok (.iload_n 2, 1) := by decide +kernel
theorem dX1_joinedPairs_42 : decode cX1_joinedPairs 42 = .ok (.iload 6, 2) := by decide +kernel
theorem dX1_joinedPairs_44 : decode cX1_joinedPairs 44 = .ok (.iload 6, 2) := by decide +kernel
theorem dX1_joinedPairs_46 : decode cX1_joinedPairs 46 = .ok (.iconst 1, 1) := by decide +kernel
theorem dX1_joinedPairs_47 : decode cX1_joinedPairs 47 = .ok (.isub, 1) := by decide +kernel
theorem dX1_joinedPairs_48 : decode cX1_joinedPairs 48 = .ok (.imul, 1) := by decide +kernel
theorem dX1_joinedPairs_49 : decode cX1_joinedPairs 49 = .ok (.iadd, 1) := by decide +kernel
theorem dX1_joinedPairs_50 : decode cX1_joinedPairs 50 = .ok (.istore_n 2, 1) := by decide +kernel
theorem dX1_joinedPairs_51 : decode cX1_joinedPairs 51 = .ok (.iload_n 3, 1) := by decide +kernel
theorem dX1_joinedPairs_52 : decode cX1_joinedPairs 52 = .ok (.iload 5, 2) := by decide +kernel
theorem dX1_joinedPairs_54 : decode cX1_joinedPairs 54 = .ok (.ior, 1) := by decide +kernel
theorem dX1_joinedPairs_55 : decode cX1_joinedPairs 55 = .ok (.istore_n 3, 1) := by decide +kernel
theorem dX1_joinedPairs_56 : decode cX1_joinedPairs 56 = .ok (.iinc 4 1, 3) := by decide +kernel
theorem dX1_joinedPairs_59 : decode cX1_joinedPairs 59 = .ok (.goto (-52), 3) := by decide +kernel
theorem dX1_joinedPairs_62 : decode cX1_joinedPairs 62 = .ok (.iload_n 2, 1) := by decide +kernel
theorem dX1_joinedPairs_63 : decode cX1_joinedPairs 63 = .ok (.ireturn, 1) := by decide +kernel
theorem dX1_groupOf_0 : decode cX1_groupOf 0 = .ok (.iconst 1, 1) := by decide +kernel
theorem dX1_groupOf_1 : decode cX1_groupOf 1 = .ok (.iload_n 1, 1) := by decide +kernel
theorem dX1_groupOf_2 : decode cX1_groupOf 2 = .ok (.ishl, 1) := by decide +kernel
theorem dX1_groupOf_3 : decode cX1_groupOf 3 = .ok (.istore_n 3, 1) := by decide +kernel
theorem dX1_groupOf_4 : decode cX1_groupOf 4 = .ok (.iconst 1, 1) := by decide +kernel
theorem dX1_groupOf_5 : decode cX1_groupOf 5 = .ok (.istore 4, 2) := by decide +kernel
theorem dX1_groupOf_7 : decode cX1_groupOf 7 = .ok (.iconst 0, 1) := by decide +kernel
theorem dX1_groupOf_8 : decode cX1_groupOf 8 = .ok (.istore 5, 2) := by decide +kernel
theorem dX1_groupOf_10 : decode cX1_groupOf 10 = .ok (.iload 5, 2) := by decide +kernel
theorem dX1_groupOf_12 : decode cX1_groupOf 12 = .ok (.bipush 10, 2) := by decide +kernel
theorem dX1_groupOf_14 : decode cX1_groupOf 14 = .ok (.if_icmp .ge 97, 3) := by decide +kernel
theorem dX1_groupOf_17 : decode cX1_groupOf 17 = .ok (.iload 4, 2) := by decide +kernel
theorem dX1_groupOf_19 : decode cX1_groupOf 19 = .ok (.ifCond .eq 92, 3) := by decide +kernel
theorem dX1_groupOf_22 : decode cX1_groupOf 22 = .ok (.iload_n 3, 1) := by decide +kernel
theorem dX1_groupOf_23 : decode cX1_groupOf 23 = .ok (.istore 6, 2) := by decide +kernel
theorem dX1_groupOf_25 : decode cX1_groupOf 25 = .ok (.iconst 0, 1) := by decide +kernel
theorem dX1_groupOf_26 : decode cX1_groupOf 26 = .ok (.istore 7, 2) := by decide +kernel
theorem dX1_groupOf_28 : decode cX1_groupOf 28 = .ok (.iload 7, 2) := by decide +kernel
theorem dX1_groupOf_30 : decode cX1_groupOf 30 = .ok (.aload_n 0, 1) := by decide +kernel
theorem dX1_groupOf_31 : decode cX1_groupOf 31 = .ok (.getfield 32, 3) := by decide +kernel
theorem dX1_groupOf_34 : decode cX1_groupOf 34 = .ok (.if_icmp .ge 58, 3) := by decide +kernel
theorem dX1_groupOf_37 : decode cX1_groupOf 37 = .ok (.iconst 1, 1) := by decide +kernel
theorem dX1_groupOf_38 : decode cX1_groupOf 38 = .ok (.aload_n 0, 1) := by decide +kernel
theorem dX1_groupOf_39 : decode cX1_groupOf 39 = .ok (.getfield 15, 3) := by decide +kernel
theorem dX1_groupOf_42 : decode cX1_groupOf 42 = .ok (.iload 7, 2) := by decide +kernel
theorem dX1_groupOf_44 : decode cX1_groupOf 44 = .ok (.iaload, 1) := by decide +kernel
theorem dX1_groupOf_45 : decode cX1_groupOf 45 = .ok (.ishl, 1) := by decide +kernel
theorem dX1_groupOf_46 : decode cX1_groupOf 46 = .ok (.iconst 1, 1) := by decide +kernel
theorem dX1_groupOf_47 : decode cX1_groupOf 47 = .ok (.aload_n 0, 1) := by decide +kernel
theorem dX1_groupOf_48 : decode cX1_groupOf 48 = .ok (.getfield 18, 3) := by decide +kernel
theorem dX1_groupOf_51 : decode cX1_groupOf 51 = .ok (.iload 7, 2) := by decide +kernel
theorem dX1_groupOf_53 : decode cX1_groupOf 53 = .ok (.iaload, 1) := by decide +kernel
theorem dX1_groupOf_54 : decode cX1_groupOf 54 = .ok (.ishl, 1) := by decide +kernel
theorem dX1_groupOf_55 : decode cX1_groupOf 55 = .ok (.ior, 1) := by decide +kernel
theorem dX1_groupOf_56 : decode cX1_groupOf 56 = .ok (.istore 8, 2) := by decide +kernel
theorem dX1_groupOf_58 : decode cX1_groupOf 58 = .ok (.aload_n 0, 1) := by decide +kernel
theorem dX1_groupOf_59 : decode cX1_groupOf 59 = .ok (.getfield 24, 3) := by decide +kernel
theorem dX1_groupOf_62 : decode cX1_groupOf 62 = .ok (.iload 7, 2) := by decide +kernel
theorem dX1_groupOf_64 : decode cX1_groupOf 64 = .ok (.baload, 1) := by decide +kernel
theorem dX1_groupOf_65 : decode cX1_groupOf 65 = .ok (.ifCond .eq 21, 3) := by decide +kernel
theorem dX1_groupOf_68 : decode cX1_groupOf 68 = .ok (.iload 7, 2) := by decide +kernel
theorem dX1_groupOf_70 : decode cX1_groupOf 70 = .ok (.iload_n 2, 1) := by decide +kernel
theorem dX1_groupOf_71 : decode cX1_groupOf 71 = .ok (.if_icmp .eq 15, 3) := by decide +kernel
theorem dX1_groupOf_74 : decode cX1_groupOf 74 = .ok (.iload_n 3, 1) := by decide +kernel
theorem dX1_groupOf_75 : decode cX1_groupOf 75 = .ok (.iload 8, 2) := by decide +kernel
theorem dX1_groupOf_77 : decode cX1_groupOf 77 = .ok (.iand, 1) := by decide +kernel
theorem dX1_groupOf_78 : decode cX1_groupOf 78 = .ok (.ifCond .eq 8, 3) := by decide +kernel
theorem dX1_groupOf_81 : decode cX1_groupOf 81 = .ok (.iload_n 3, 1) := by decide +kernel
theorem dX1_groupOf_82 : decode cX1_groupOf 82 = .ok (.iload 8, 2) := by decide +kernel
theorem dX1_groupOf_84 : decode cX1_groupOf 84 = .ok (.ior, 1) := by decide +kernel
theorem dX1_groupOf_85 : decode cX1_groupOf 85 = .ok (.istore_n 3, 1) := by decide +kernel
theorem dX1_groupOf_86 : decode cX1_groupOf 86 = .ok (.iinc 7 1, 3) := by decide +kernel
theorem dX1_groupOf_89 : decode cX1_groupOf 89 = .ok (.goto (-61), 3) := by decide +kernel
theorem dX1_groupOf_92 : decode cX1_groupOf 92 = .ok (.iload_n 3, 1) := by decide +kernel
theorem dX1_groupOf_93 : decode cX1_groupOf 93 = .ok (.iload 6, 2) := by decide +kernel
theorem dX1_groupOf_95 : decode cX1_groupOf 95 = .ok (.if_icmp .eq 7, 3) := by decide +kernel
theorem dX1_groupOf_98 : decode cX1_groupOf 98 = .ok (.iconst 1, 1) := by decide +kernel
theorem dX1_groupOf_99 : decode cX1_groupOf 99 = .ok (.goto 4, 3) := by decide +kernel
theorem dX1_groupOf_102 : decode cX1_groupOf 102 = .ok (.iconst 0, 1) := by decide +kernel
theorem dX1_groupOf_103 : decode cX1_groupOf 103 = .ok (.istore 4, 2) := by decide +kernel
theorem dX1_groupOf_105 : decode cX1_groupOf 105 = .ok (.iinc 5 1, 3) := by decide +kernel
theorem dX1_groupOf_108 : decode cX1_groupOf 108 = .ok (.goto (-98), 3) := by decide +kernel
theorem dX1_groupOf_111 : decode cX1_groupOf 111 = .ok (.iload_n 3, 1) := by decide +kernel
theorem dX1_groupOf_112 : decode cX1_groupOf 112 = .ok (.ireturn, 1) := by decide +kernel
set_option maxRecDepth 20000 in
theorem ggX2_init_X0_init : GoodIn wsX2_init wsX0_init := goodIn_r _ [19, 20, 2, 3, 8, 21, 22, 23, 24, 25, 26, 27] (by decide +kernel) (by decide +kernel)
set_option maxRecDepth 20000 in
theorem gX2_init_X0_init_n11 : GoodIn wsX2_init (wsX0_init) := ggX2_init_X0_init
theorem dX2_init_0 : decode cX2_init 0 = .ok (.aload_n 0, 1) := by decide +kernel
theorem dX2_init_1 : decode cX2_init 1 = .ok (.invokespecial 3, 3) := by decide +kernel
theorem dX2_init_4 : decode cX2_init 4 = .ok (.aload_n 0, 1) := by decide +kernel
theorem dX2_init_5 : decode cX2_init 5 = .ok (.new 9, 3) := by decide +kernel
theorem dX2_init_8 : decode cX2_init 8 = .ok (.dup, 1) := by decide +kernel
theorem dX2_init_9 : decode cX2_init 9 = .ok (.invokespecial 11, 3) := by decide +kernel
theorem dX2_init_12 : decode cX2_init 12 = .ok (.putfield 12, 3) := by decide +kernel
theorem dX2_init_15 : decode cX2_init 15 = .ok (.aload_n 0, 1) := by decide +kernel
theorem dX2_init_16 : decode cX2_init 16 = .ok (.bipush 10, 2) := by decide +kernel
theorem dX2_init_18 : decode cX2_init 18 = .ok (.newarray .int, 2) := by decide +kernel
theorem dX2_init_20 : decode cX2_init 20 = .ok (.putfield 18, 3) := by decide +kernel
theorem dX2_init_23 : decode cX2_init 23 = .ok (.aload_n 0, 1) := by decide +kernel
theorem dX2_init_24 : decode cX2_init 24 = .ok (.bipush 10, 2) := by decide +kernel
theorem dX2_init_26 : decode cX2_init 26 = .ok (.bipush 10, 2) := by decide +kernel
theorem dX2_init_28 : decode cX2_init 28 = .ok (.multianewarray 22 2, 4) := by decide +kernel
theorem dX2_init_32 : decode cX2_init 32 = .ok (.putfield 24, 3) := by decide +kernel
theorem dX2_init_35 : decode cX2_init 35 = .ok (.aload_n 0, 1) := by decide +kernel
theorem dX2_init_36 : decode cX2_init 36 = .ok (.bipush 10, 2) := by decide +kernel
theorem dX2_init_38 : decode cX2_init 38 = .ok (.newarray .boolean, 2) := by decide +kernel
theorem dX2_init_40 : decode cX2_init 40 = .ok (.putfield 27, 3) := by decide +kernel
theorem dX2_init_43 : decode cX2_init 43 = .ok (.aload_n 0, 1) := by decide +kernel
theorem dX2_init_44 : decode cX2_init 44 = .ok (.bipush 100, 2) := by decide +kernel
theorem dX2_init_46 : decode cX2_init 46 = .ok (.anewarray 31, 3) := by decide +kernel
theorem dX2_init_49 : decode cX2_init 49 = .ok (.putfield 33, 3) := by decide +kernel
theorem dX2_init_52 : decode cX2_init 52 = .ok (.aload_n 0, 1) := by decide +kernel
theorem dX2_init_53 : decode cX2_init 53 = .ok (.bipush 100, 2) := by decide +kernel
theorem dX2_init_55 : decode cX2_init 55 = .ok (.anewarray 31, 3) := by decide +kernel
theorem dX2_init_58 : decode cX2_init 58 = .ok (.putfield 37, 3) := by decide +kernel
theorem dX2_init_61 : decode cX2_init 61 = .ok (.aload_n 0, 1) := by decide +kernel
theorem dX2_init_62 : decode cX2_init 62 = .ok (.aload_n 1, 1) := by decide +kernel
theorem dX2_init_63 : decode cX2_init 63 = .ok (.putfield 40, 3) := by decide +kernel
theorem dX2_init_66 : decode cX2_init 66 = .ok (.return_, 1) := by decide +kernel
set_option maxRecDepth 20000 in
theorem ggX2_copy_X2_forgetWays : GoodIn wsX2_copy wsX2_forgetWays := goodIn_r _ [8, 9, 10, 11, 12, 13, 14, 15, 16, 17] (by decide +kernel) (by decide +kernel)
set_option maxRecDepth 20000 in
theorem gX2_copy_X2_forgetWays : GoodIn wsX2_copy (wsV RX2 48 RX2 yX2_forgetWays wsX2_forgetWays) := goodIn_app (goodIn_of _ (by decide +kernel)) ggX2_copy_X2_forgetWays
theorem dX2_copy_0 : decode cX2_copy 0 = .ok (.aload_n 0, 1) := by decide +kernel
theorem dX2_copy_1 : decode cX2_copy 1 = .ok (.aload_n 1, 1) := by decide +kernel
theorem dX2_copy_2 : decode cX2_copy 2 = .ok (.getfield 44, 3) := by decide +kernel
theorem dX2_copy_5 : decode cX2_copy 5 = .ok (.putfield 44, 3) := by decide +kernel
theorem dX2_copy_8 : decode cX2_copy 8 = .ok (.iconst 0, 1) := by decide +kernel
theorem dX2_copy_9 : decode cX2_copy 9 = .ok (.istore_n 2, 1) := by decide +kernel
theorem dX2_copy_10 : decode cX2_copy 10 = .ok (.iload_n 2, 1) := by decide +kernel
theorem dX2_copy_11 : decode cX2_copy 11 = .ok (.bipush 10, 2) := by decide +kernel
theorem dX2_copy_13 : decode cX2_copy 13 = .ok (.if_icmp .ge 21, 3) := by decide +kernel
theorem dX2_copy_16 : decode cX2_copy 16 = .ok (.aload_n 0, 1) := by decide +kernel
theorem dX2_copy_17 : decode cX2_copy 17 = .ok (.getfield 18, 3) := by decide +kernel
theorem dX2_copy_20 : decode cX2_copy 20 = .ok (.iload_n 2, 1) := by decide +kernel
theorem dX2_copy_21 : decode cX2_copy 21 = .ok (.aload_n 1, 1) := by decide +kernel
theorem dX2_copy_22 : decode cX2_copy 22 = .ok (.getfield 18, 3) := by decide +kernel
theorem dX2_copy_25 : decode cX2_copy 25 = .ok (.iload_n 2, 1) := by decide +kernel
theorem dX2_copy_26 : decode cX2_copy 26 = .ok (.iaload, 1) := by decide +kernel
theorem dX2_copy_27 : decode cX2_copy 27 = .ok (.iastore, 1) := by decide +kernel
theorem dX2_copy_28 : decode cX2_copy 28 = .ok (.iinc 2 1, 3) := by decide +kernel
theorem dX2_copy_31 : decode cX2_copy 31 = .ok (.goto (-21), 3) := by decide +kernel
theorem dX2_copy_34 : decode cX2_copy 34 = .ok (.iconst 0, 1) := by decide +kernel
theorem dX2_copy_35 : decode cX2_copy 35 = .ok (.istore_n 2, 1) := by decide +kernel
theorem dX2_copy_36 : decode cX2_copy 36 = .ok (.iload_n 2, 1) := by decide +kernel
theorem dX2_copy_37 : decode cX2_copy 37 = .ok (.aload_n 0, 1) := by decide +kernel
theorem dX2_copy_38 : decode cX2_copy 38 = .ok (.getfield 33, 3) := by decide +kernel
theorem dX2_copy_41 : decode cX2_copy 41 = .ok (.arraylength, 1) := by decide +kernel
theorem dX2_copy_42 : decode cX2_copy 42 = .ok (.if_icmp .ge 21, 3) := by decide +kernel
theorem dX2_copy_45 : decode cX2_copy 45 = .ok (.aload_n 0, 1) := by decide +kernel
theorem dX2_copy_46 : decode cX2_copy 46 = .ok (.getfield 33, 3) := by decide +kernel
theorem dX2_copy_49 : decode cX2_copy 49 = .ok (.iload_n 2, 1) := by decide +kernel
theorem dX2_copy_50 : decode cX2_copy 50 = .ok (.aload_n 1, 1) := by decide +kernel
theorem dX2_copy_51 : decode cX2_copy 51 = .ok (.getfield 33, 3) := by decide +kernel
theorem dX2_copy_54 : decode cX2_copy 54 = .ok (.iload_n 2, 1) := by decide +kernel
theorem dX2_copy_55 : decode cX2_copy 55 = .ok (.aaload, 1) := by decide +kernel
theorem dX2_copy_56 : decode cX2_copy 56 = .ok (.aastore, 1) := by decide +kernel
theorem dX2_copy_57 : decode cX2_copy 57 = .ok (.iinc 2 1, 3) := by decide +kernel
theorem dX2_copy_60 : decode cX2_copy 60 = .ok (.goto (-24), 3) := by decide +kernel
theorem dX2_copy_63 : decode cX2_copy 63 = .ok (.aload_n 0, 1) := by decide +kernel
theorem dX2_copy_64 : decode cX2_copy 64 = .ok (.invokevirtual 48, 3) := by decide +kernel
theorem dX2_copy_67 : decode cX2_copy 67 = .ok (.return_, 1) := by decide +kernel
theorem dX2_minute_0 : decode cX2_minute 0 = .ok (.aload_n 0, 1) := by decide +kernel
theorem dX2_minute_1 : decode cX2_minute 1 = .ok (.getfield 44, 3) := by decide +kernel
theorem dX2_minute_4 : decode cX2_minute 4 = .ok (.ireturn, 1) := by decide +kernel
theorem dX2_wroteInAll_0 : decode cX2_wroteInAll 0 = .ok (.aload_n 0, 1) := by decide +kernel
theorem dX2_wroteInAll_1 : decode cX2_wroteInAll 1 = .ok (.getfield 18, 3) := by decide +kernel
theorem dX2_wroteInAll_4 : decode cX2_wroteInAll 4 = .ok (.iload_n 1, 1) := by decide +kernel
theorem dX2_wroteInAll_5 : decode cX2_wroteInAll 5 = .ok (.iaload, 1) := by decide +kernel
theorem dX2_wroteInAll_6 : decode cX2_wroteInAll 6 = .ok (.ireturn, 1) := by decide +kernel
set_option maxRecDepth 20000 in
theorem ggX2_held_X2_slot : GoodIn wsX2_held wsX2_slot := goodIn_r _ [5] (by decide +kernel) (by decide +kernel)
set_option maxRecDepth 20000 in
theorem gX2_held_X2_slot : GoodIn wsX2_held (va_wsS RX2 51 yX2_slot wsX2_slot) := goodIn_app (goodIn_of _ (by decide +kernel)) ggX2_held_X2_slot
theorem dX2_held_0 : decode cX2_held 0 = .ok (.aload_n 0, 1) := by decide +kernel
theorem dX2_held_1 : decode cX2_held 1 = .ok (.getfield 33, 3) := by decide +kernel
theorem dX2_held_4 : decode cX2_held 4 = .ok (.iload_n 1, 1) := by decide +kernel
theorem dX2_held_5 : decode cX2_held 5 = .ok (.iload_n 2, 1) := by decide +kernel
theorem dX2_held_6 : decode cX2_held 6 = .ok (.invokestatic 51, 3) := by decide +kernel
theorem dX2_held_9 : decode cX2_held 9 = .ok (.aaload, 1) := by decide +kernel
theorem dX2_held_10 : decode cX2_held 10 = .ok (.areturn, 1) := by decide +kernel
set_option maxRecDepth 20000 in
theorem ggX2_burnAll_X2_sheetsOf : GoodIn wsX2_burnAll wsX2_sheetsOf := goodIn_r _ [6, 1, 7, 8, 5, 9, 15, 16, 17, 18, 19, 20, 21, 22] (by decide +kernel) (by decide +kernel)
set_option maxRecDepth 20000 in
theorem gX2_burnAll_X2_sheetsOf : GoodIn wsX2_burnAll (wsV RX2 55 RX2 yX2_sheetsOf wsX2_sheetsOf) := goodIn_app (goodIn_of _ (by decide +kernel)) ggX2_burnAll_X2_sheetsOf
set_option maxRecDepth 20000 in
theorem ggX2_burnAll_X2_slot : GoodIn wsX2_burnAll wsX2_slot := goodIn_r _ [9] (by decide +kernel) (by decide +kernel)
set_option maxRecDepth 20000 in
theorem gX2_burnAll_X2_slot : GoodIn wsX2_burnAll (va_wsS RX2 51 yX2_slot wsX2_slot) := goodIn_app (goodIn_of _ (by decide +kernel)) ggX2_burnAll_X2_slot
set_option maxRecDepth 20000 in
theorem ggX2_burnAll_X2_forgetWays : GoodIn wsX2_burnAll wsX2_forgetWays := goodIn_r _ [13, 14, 15, 16, 17, 18, 19, 20, 21, 22] (by decide +kernel) (by decide +kernel)
set_option maxRecDepth 20000 in
theorem gX2_burnAll_X2_forgetWays : GoodIn wsX2_burnAll (wsV RX2 48 RX2 yX2_forgetWays wsX2_forgetWays) := goodIn_app (goodIn_of _ (by decide +kernel)) ggX2_burnAll_X2_forgetWays
theorem dX2_burnAll_0 : decode cX2_burnAll 0 = .ok (.aload_n 0, 1) := by decide +kernel
theorem dX2_burnAll_1 : decode cX2_burnAll 1 = .ok (.iload_n 1, 1) := by decide +kernel
theorem dX2_burnAll_2 : decode cX2_burnAll 2 = .ok (.invokevirtual 55, 3) := by decide +kernel
theorem dX2_burnAll_5 : decode cX2_burnAll 5 = .ok (.istore_n 2, 1) := by decide +kernel
theorem dX2_burnAll_6 : decode cX2_burnAll 6 = .ok (.iconst 0, 1) := by decide +kernel
theorem dX2_burnAll_7 : decode cX2_burnAll 7 = .ok (.istore_n 3, 1) := by decide +kernel
theorem dX2_burnAll_8 : decode cX2_burnAll 8 = .ok (.iload_n 3, 1) := by decide +kernel
theorem dX2_burnAll_9 : decode cX2_burnAll 9 = .ok (.bipush 10, 2) := by decide +kernel
theorem dX2_burnAll_11 : decode cX2_burnAll 11 = .ok (.if_icmp .ge 20, 3) := by decide +kernel
theorem dX2_burnAll_14 : decode cX2_burnAll 14 = .ok (.aload_n 0, 1) := by decide +kernel
theorem dX2_burnAll_15 : decode cX2_burnAll 15 = .ok (.getfield 33, 3) := by decide +kernel
theorem dX2_burnAll_18 : decode cX2_burnAll 18 = .ok (.iload_n 1, 1) := by decide +kernel
theorem dX2_burnAll_19 : decode cX2_burnAll 19 = .ok (.iload_n 3, 1) := by decide +kernel
theorem dX2_burnAll_20 : decode cX2_burnAll 20 = .ok (.invokestatic 51, 3) := by decide +kernel
theorem dX2_burnAll_23 : decode cX2_burnAll 23 = .ok (.aconst_null, 1) := by decide +kernel
theorem dX2_burnAll_24 : decode cX2_burnAll 24 = .ok (.aastore, 1) := by decide +kernel
theorem dX2_burnAll_25 : decode cX2_burnAll 25 = .ok (.iinc 3 1, 3) := by decide +kernel
theorem dX2_burnAll_28 : decode cX2_burnAll 28 = .ok (.goto (-20), 3) := by decide +kernel
theorem dX2_burnAll_31 : decode cX2_burnAll 31 = .ok (.aload_n 0, 1) := by decide +kernel
theorem dX2_burnAll_32 : decode cX2_burnAll 32 = .ok (.invokevirtual 48, 3) := by decide +kernel
theorem dX2_burnAll_35 : decode cX2_burnAll 35 = .ok (.iload_n 2, 1) := by decide +kernel
theorem dX2_burnAll_36 : decode cX2_burnAll 36 = .ok (.ireturn, 1) := by decide +kernel
set_option maxRecDepth 20000 in
theorem ggX2_sheetsOf_X2_slot : GoodIn wsX2_sheetsOf wsX2_slot := goodIn_r _ [5] (by decide +kernel) (by decide +kernel)
set_option maxRecDepth 20000 in
theorem gX2_sheetsOf_X2_slot : GoodIn wsX2_sheetsOf (va_wsS RX2 51 yX2_slot wsX2_slot) := goodIn_app (goodIn_of _ (by decide +kernel)) ggX2_sheetsOf_X2_slot
theorem dX2_sheetsOf_0 : decode cX2_sheetsOf 0 = .ok (.iconst 0, 1) := by decide +kernel
theorem dX2_sheetsOf_1 : decode cX2_sheetsOf 1 = .ok (.istore_n 2, 1) := by decide +kernel
theorem dX2_sheetsOf_2 : decode cX2_sheetsOf 2 = .ok (.iconst 0, 1) := by decide +kernel
theorem dX2_sheetsOf_3 : decode cX2_sheetsOf 3 = .ok (.istore_n 3, 1) := by decide +kernel
theorem dX2_sheetsOf_4 : decode cX2_sheetsOf 4 = .ok (.iload_n 3, 1) := by decide +kernel
theorem dX2_sheetsOf_5 : decode cX2_sheetsOf 5 = .ok (.bipush 10, 2) := by decide +kernel
theorem dX2_sheetsOf_7 : decode cX2_sheetsOf 7 = .ok (.if_icmp .ge 25, 3) := by decide +kernel
theorem dX2_sheetsOf_10 : decode cX2_sheetsOf 10 = .ok (.aload_n 0, 1) := by decide +kernel
theorem dX2_sheetsOf_11 : decode cX2_sheetsOf 11 = .ok (.getfield 33, 3) := by decide +kernel
theorem dX2_sheetsOf_14 : decode cX2_sheetsOf 14 = .ok (.iload_n 1, 1) := by decide +kernel
theorem dX2_sheetsOf_15 : decode cX2_sheetsOf 15 = .ok (.iload_n 3, 1) := by decide +kernel
theorem dX2_sheetsOf_16 : decode cX2_sheetsOf 16 = .ok (.invokestatic 51, 3) := by decide +kernel
theorem dX2_sheetsOf_19 : decode cX2_sheetsOf 19 = .ok (.aaload, 1) := by decide +kernel
theorem dX2_sheetsOf_20 : decode cX2_sheetsOf 20 = .ok (.ifnull 6, 3) := by decide +kernel
theorem dX2_sheetsOf_23 : decode cX2_sheetsOf 23 = .ok (.iinc 2 1, 3) := by decide +kernel
theorem dX2_sheetsOf_26 : decode cX2_sheetsOf 26 = .ok (.iinc 3 1, 3) := by decide +kernel
theorem dX2_sheetsOf_29 : decode cX2_sheetsOf 29 = .ok (.goto (-25), 3) := by decide +kernel
theorem dX2_sheetsOf_32 : decode cX2_sheetsOf 32 = .ok (.iload_n 2, 1) := by decide +kernel
theorem dX2_sheetsOf_33 : decode cX2_sheetsOf 33 = .ok (.ireturn, 1) := by decide +kernel
set_option maxRecDepth 20000 in
theorem ggX2_sheets_X1_huts : GoodIn wsX2_sheets wsX1_huts := goodIn_r _ [6, 7, 25, 26, 27, 28, 29, 30, 31] (by decide +kernel) (by decide +kernel)
set_option maxRecDepth 20000 in
theorem gX2_sheets_X1_huts : GoodIn wsX2_sheets (wsV RX2 59 RX1 yX1_huts wsX1_huts) := goodIn_app (goodIn_of _ (by decide +kernel)) ggX2_sheets_X1_huts
set_option maxRecDepth 20000 in
theorem ggX2_sheets_X2_sheetsOf : GoodIn wsX2_sheets wsX2_sheetsOf := goodIn_r _ [12, 13, 14, 15, 11, 16, 17, 18, 19, 20, 21, 22, 23, 24] (by decide +kernel) (by decide +kernel)
set_option maxRecDepth 20000 in
theorem gX2_sheets_X2_sheetsOf : GoodIn wsX2_sheets (wsV RX2 55 RX2 yX2_sheetsOf wsX2_sheetsOf) := goodIn_app (goodIn_of _ (by decide +kernel)) ggX2_sheets_X2_sheetsOf
theorem dX2_sheets_0 : decode cX2_sheets 0 = .ok (.iconst 0, 1) := by decide +kernel
theorem dX2_sheets_1 : decode cX2_sheets 1 = .ok (.istore_n 1, 1) := by decide +kernel
theorem dX2_sheets_2 : decode cX2_sheets 2 = .ok (.iconst 0, 1) := by decide +kernel
theorem dX2_sheets_3 : decode cX2_sheets 3 = .ok (.istore_n 2, 1) := by decide +kernel
theorem dX2_sheets_4 : decode cX2_sheets 4 = .ok (.iload_n 2, 1) := by decide +kernel
theorem dX2_sheets_5 : decode cX2_sheets 5 = .ok (.aload_n 0, 1) := by decide +kernel
theorem dX2_sheets_6 : decode cX2_sheets 6 = .ok (.getfield 40, 3) := by decide +kernel
theorem dX2_sheets_9 : decode cX2_sheets 9 = .ok (.invokevirtual 59, 3) := by decide +kernel
theorem dX2_sheets_12 : decode cX2_sheets 12 = .ok (.if_icmp .ge 17, 3) := by decide +kernel
theorem dX2_sheets_15 : decode cX2_sheets 15 = .ok (.iload_n 1, 1) := by decide +kernel
theorem dX2_sheets_16 : decode cX2_sheets 16 = .ok (.aload_n 0, 1) := by decide +kernel
theorem dX2_sheets_17 : decode cX2_sheets 17 = .ok (.iload_n 2, 1) := by decide +kernel
theorem dX2_sheets_18 : decode cX2_sheets 18 = .ok (.invokevirtual 55, 3) := by decide +kernel
theorem dX2_sheets_21 : decode cX2_sheets 21 = .ok (.iadd, 1) := by decide +kernel
theorem dX2_sheets_22 : decode cX2_sheets 22 = .ok (.istore_n 1, 1) := by decide +kernel
theorem dX2_sheets_23 : decode cX2_sheets 23 = .ok (.iinc 2 1, 3) := by decide +kernel
theorem dX2_sheets_26 : decode cX2_sheets 26 = .ok (.goto (-22), 3) := by decide +kernel
theorem dX2_sheets_29 : decode cX2_sheets 29 = .ok (.iload_n 1, 1) := by decide +kernel
theorem dX2_sheets_30 : decode cX2_sheets 30 = .ok (.ireturn, 1) := by decide +kernel
set_option maxRecDepth 20000 in
theorem ggX2_ages_X3_age : GoodIn wsX2_ages wsX3_age := goodIn_r _ [7, 8, 17, 18, 19] (by decide +kernel) (by decide +kernel)
set_option maxRecDepth 20000 in
theorem gX2_ages_X3_age : GoodIn wsX2_ages (wsV RX2 65 RX3 yX3_age wsX3_age) := goodIn_app (goodIn_of _ (by decide +kernel)) ggX2_ages_X3_age
theorem dX2_ages_0 : decode cX2_ages 0 = .ok (.iconst 0, 1) := by decide +kernel
theorem dX2_ages_1 : decode cX2_ages 1 = .ok (.istore_n 1, 1) := by decide +kernel
theorem dX2_ages_2 : decode cX2_ages 2 = .ok (.iconst 0, 1) := by decide +kernel
theorem dX2_ages_3 : decode cX2_ages 3 = .ok (.istore_n 2, 1) := by decide +kernel
theorem dX2_ages_4 : decode cX2_ages 4 = .ok (.iload_n 2, 1) := by decide +kernel
theorem dX2_ages_5 : decode cX2_ages 5 = .ok (.aload_n 0, 1) := by decide +kernel
theorem dX2_ages_6 : decode cX2_ages 6 = .ok (.getfield 33, 3) := by decide +kernel
theorem dX2_ages_9 : decode cX2_ages 9 = .ok (.arraylength, 1) := by decide +kernel
theorem dX2_ages_10 : decode cX2_ages 10 = .ok (.if_icmp .ge 31, 3) := by decide +kernel
theorem dX2_ages_13 : decode cX2_ages 13 = .ok (.aload_n 0, 1) := by decide +kernel
theorem dX2_ages_14 : decode cX2_ages 14 = .ok (.getfield 33, 3) := by decide +kernel
theorem dX2_ages_17 : decode cX2_ages 17 = .ok (.iload_n 2, 1) := by decide +kernel
theorem dX2_ages_18 : decode cX2_ages 18 = .ok (.aaload, 1) := by decide +kernel
theorem dX2_ages_19 : decode cX2_ages 19 = .ok (.astore_n 3, 1) := by decide +kernel
theorem dX2_ages_20 : decode cX2_ages 20 = .ok (.aload_n 3, 1) := by decide +kernel
theorem dX2_ages_21 : decode cX2_ages 21 = .ok (.ifnull 14, 3) := by decide +kernel
theorem dX2_ages_24 : decode cX2_ages 24 = .ok (.iload_n 1, 1) := by decide +kernel
theorem dX2_ages_25 : decode cX2_ages 25 = .ok (.aload_n 3, 1) := by decide +kernel
theorem dX2_ages_26 : decode cX2_ages 26 = .ok (.aload_n 0, 1) := by decide +kernel
theorem dX2_ages_27 : decode cX2_ages 27 = .ok (.getfield 44, 3) := by decide +kernel
theorem dX2_ages_30 : decode cX2_ages 30 = .ok (.invokevirtual 65, 3) := by decide +kernel
theorem dX2_ages_33 : decode cX2_ages 33 = .ok (.iadd, 1) := by decide +kernel
theorem dX2_ages_34 : decode cX2_ages 34 = .ok (.istore_n 1, 1) := by decide +kernel
theorem dX2_ages_35 : decode cX2_ages 35 = .ok (.iinc 2 1, 3) := by decide +kernel
theorem dX2_ages_38 : decode cX2_ages 38 = .ok (.goto (-34), 3) := by decide +kernel
theorem dX2_ages_41 : decode cX2_ages 41 = .ok (.iload_n 1, 1) := by decide +kernel
theorem dX2_ages_42 : decode cX2_ages 42 = .ok (.ireturn, 1) := by decide +kernel
set_option maxRecDepth 20000 in
theorem ggX2_passMinutes_X2_writeSheets : GoodIn wsX2_passMinutes wsX2_writeSheets := goodIn_r _ [6, 7, 8, 9, 10, 11, 12, 1, 13, 14, 15, 16, 17, 18, 19, 20, 21, 5, 22, 23, 24, 25, 26, 27, 28, 29, 30, 31, 32, 33, 34, 35, 36, 37, 38, 39, 40, 41, 42, 43, 44, 45, 46, 47, 48, 49, 50, 51, 52, 53, 54, 55, 56, 101, 102, 103, 104, 105, 106, 107, 108, 109, 110, 111, 112, 113, 114, 115, 116, 117, 118] (by decide +kernel) (by decide +kernel)
set_option maxRecDepth 20000 in
theorem gX2_passMinutes_X2_writeSheets : GoodIn wsX2_passMinutes (wsV RX2 68 RX2 yX2_writeSheets wsX2_writeSheets) := goodIn_app (goodIn_of _ (by decide +kernel)) ggX2_passMinutes_X2_writeSheets
set_option maxRecDepth 20000 in
theorem ggX2_passMinutes_X2_carrySheets : GoodIn wsX2_passMinutes wsX2_carrySheets := goodIn_r _ [60, 9, 61, 7, 62, 37, 38, 16, 39, 40, 63, 64, 65, 66, 47, 67, 68, 69, 70, 45, 71, 72, 73, 74, 46, 75, 76, 77, 5, 78, 13, 14, 15, 17, 18, 23, 24, 25, 79, 80, 81, 82, 83, 84, 85, 86, 87, 88, 89, 90, 12, 91, 56, 101, 102, 103, 104, 105, 106, 107, 108, 112, 113, 114, 115, 116, 117, 118, 109, 110, 111] (by decide +kernel) (by decide +kernel)
set_option maxRecDepth 20000 in
theorem gX2_passMinutes_X2_carrySheets : GoodIn wsX2_passMinutes (wsV RX2 71 RX2 yX2_carrySheets wsX2_carrySheets) := goodIn_app (goodIn_of _ (by decide +kernel)) ggX2_passMinutes_X2_carrySheets
set_option maxRecDepth 20000 in
theorem ggX2_passMinutes_X2_throwOldAway : GoodIn wsX2_passMinutes wsX2_throwOldAway := goodIn_r _ [95, 9, 1, 26, 27, 28, 12, 29, 30, 101, 102, 103, 104, 105, 106, 107, 108, 109, 110, 111] (by decide +kernel) (by decide +kernel)
set_option maxRecDepth 20000 in
theorem gX2_passMinutes_X2_throwOldAway : GoodIn wsX2_passMinutes (wsV RX2 74 RX2 yX2_throwOldAway wsX2_throwOldAway) := goodIn_app (goodIn_of _ (by decide +kernel)) ggX2_passMinutes_X2_throwOldAway
set_option maxRecDepth 20000 in
theorem ggX2_passMinutes_X2_forgetWays : GoodIn wsX2_passMinutes wsX2_forgetWays := goodIn_r _ [99, 100, 101, 102, 103, 104, 105, 106, 107, 108] (by decide +kernel) (by decide +kernel)
set_option maxRecDepth 20000 in
theorem gX2_passMinutes_X2_forgetWays : GoodIn wsX2_passMinutes (wsV RX2 48 RX2 yX2_forgetWays wsX2_forgetWays) := goodIn_app (goodIn_of _ (by decide +kernel)) ggX2_passMinutes_X2_forgetWays
theorem dX2_passMinutes_0 : decode cX2_passMinutes 0 = .ok (.iconst 0, 1) := by decide +kernel
theorem dX2_passMinutes_1 : decode cX2_passMinutes 1 = .ok (.istore_n 2, 1) := by decide +kernel
theorem dX2_passMinutes_2 : decode cX2_passMinutes 2 = .ok (.iconst 0, 1) := by decide +kernel
theorem dX2_passMinutes_3 : decode cX2_passMinutes 3 = .ok (.istore_n 3, 1) := by decide +kernel
theorem dX2_passMinutes_4 : decode cX2_passMinutes 4 = .ok (.iload_n 3, 1) := by decide +kernel
theorem dX2_passMinutes_5 : decode cX2_passMinutes 5 = .ok (.iload_n 1, 1) := by decide +kernel
theorem dX2_passMinutes_6 : decode cX2_passMinutes 6 = .ok (.if_icmp .ge 34, 3) := by decide +kernel
theorem dX2_passMinutes_9 : decode cX2_passMinutes 9 = .ok (.iload_n 2, 1) := by decide +kernel
theorem dX2_passMinutes_10 : decode cX2_passMinutes 10 = .ok (.aload_n 0, 1) := by decide +kernel
theorem dX2_passMinutes_11 : decode cX2_passMinutes 11 = .ok (.invokevirtual 68, 3) := by decide +kernel
theorem dX2_passMinutes_14 : decode cX2_passMinutes 14 = .ok (.iadd, 1) := by decide +kernel
theorem dX2_passMinutes_15 : decode cX2_passMinutes 15 = .ok (.istore_n 2, 1) := by decide +kernel
theorem dX2_passMinutes_16 : decode cX2_passMinutes 16 = .ok (.aload_n 0, 1) := by decide +kernel
theorem dX2_passMinutes_17 : decode cX2_passMinutes 17 = .ok (.invokevirtual 71, 3) := by decide +kernel
theorem dX2_passMinutes_20 : decode cX2_passMinutes 20 = .ok (.aload_n 0, 1) := by decide +kernel
theorem dX2_passMinutes_21 : decode cX2_passMinutes 21 = .ok (.dup, 1) := by decide +kernel
theorem dX2_passMinutes_22 : decode cX2_passMinutes 22 = .ok (.getfield 44, 3) := by decide +kernel
theorem dX2_passMinutes_25 : decode cX2_passMinutes 25 = .ok (.iconst 1, 1) := by decide +kernel
theorem dX2_passMinutes_26 : decode cX2_passMinutes 26 = .ok (.iadd, 1) := by decide +kernel
theorem dX2_passMinutes_27 : decode cX2_passMinutes 27 = .ok (.putfield 44, 3) := by decide +kernel
theorem dX2_passMinutes_30 : decode cX2_passMinutes 30 = .ok (.aload_n 0, 1) := by decide +kernel
theorem dX2_passMinutes_31 : decode cX2_passMinutes 31 = .ok (.invokevirtual 74, 3) := by decide +kernel
theorem dX2_passMinutes_34 : decode cX2_passMinutes 34 = .ok (.iinc 3 1, 3) := by decide +kernel
theorem dX2_passMinutes_37 : decode cX2_passMinutes 37 = .ok (.goto (-33), 3) := by decide +kernel
theorem dX2_passMinutes_40 : decode cX2_passMinutes 40 = .ok (.aload_n 0, 1) := by decide +kernel
theorem dX2_passMinutes_41 : decode cX2_passMinutes 41 = .ok (.invokevirtual 48, 3) := by decide +kernel
theorem dX2_passMinutes_44 : decode cX2_passMinutes 44 = .ok (.iload_n 2, 1) := by decide +kernel
theorem dX2_passMinutes_45 : decode cX2_passMinutes 45 = .ok (.ireturn, 1) := by decide +kernel
set_option maxRecDepth 20000 in
theorem ggX2_writeSheets_X1_huts : GoodIn wsX2_writeSheets wsX1_huts := goodIn_r _ [12, 13, 64, 65, 66, 67, 68, 69, 70] (by decide +kernel) (by decide +kernel)
set_option maxRecDepth 20000 in
theorem gX2_writeSheets_X1_huts : GoodIn wsX2_writeSheets (wsV RX2 59 RX1 yX1_huts wsX1_huts) := goodIn_app (goodIn_of _ (by decide +kernel)) ggX2_writeSheets_X1_huts
set_option maxRecDepth 20000 in
theorem ggX2_writeSheets_X2_mustWrite : GoodIn wsX2_writeSheets wsX2_mustWrite := goodIn_r _ [18, 3, 7, 1, 19, 20, 17, 21, 22, 23, 24, 6, 25, 26, 27, 28, 29, 30, 31, 32, 33, 34, 11, 35, 36, 37, 38, 39, 40, 41, 42, 43, 44, 53, 54, 55, 56, 57, 58, 59, 60, 61, 62, 63, 64, 65, 66, 67, 68, 69, 70] (by decide +kernel) (by decide +kernel)
set_option maxRecDepth 20000 in
theorem gX2_writeSheets_X2_mustWrite : GoodIn wsX2_writeSheets (wsV RX2 77 RX2 yX2_mustWrite wsX2_mustWrite) := goodIn_app (goodIn_of _ (by decide +kernel)) ggX2_writeSheets_X2_mustWrite
set_option maxRecDepth 20000 in
theorem ggX2_writeSheets_X2_slot : GoodIn wsX2_writeSheets wsX2_slot := goodIn_r _ [21] (by decide +kernel) (by decide +kernel)
set_option maxRecDepth 20000 in
theorem gX2_writeSheets_X2_slot : GoodIn wsX2_writeSheets (va_wsS RX2 51 yX2_slot wsX2_slot) := goodIn_app (goodIn_of _ (by decide +kernel)) ggX2_writeSheets_X2_slot
set_option maxRecDepth 20000 in
theorem ggX2_writeSheets_X3_init : GoodIn wsX2_writeSheets wsX3_init := goodIn_r _ [47, 48, 49, 50, 51, 31, 52, 26, 32, 33, 34, 11, 35, 36, 37, 38, 39, 40, 41, 42, 43, 44, 61, 62, 63, 64, 65, 66, 67, 68, 69, 70] (by decide +kernel) (by decide +kernel)
set_option maxRecDepth 20000 in
theorem gX2_writeSheets_X3_init : GoodIn wsX2_writeSheets (wsX3_init) := ggX2_writeSheets_X3_init
theorem dX2_writeSheets_0 : decode cX2_writeSheets 0 = .ok (.iconst 0, 1) := by decide +kernel
theorem dX2_writeSheets_1 : decode cX2_writeSheets 1 = .ok (.istore_n 1, 1) := by decide +kernel
theorem dX2_writeSheets_2 : decode cX2_writeSheets 2 = .ok (.iconst 0, 1) := by decide +kernel
theorem dX2_writeSheets_3 : decode cX2_writeSheets 3 = .ok (.istore_n 2, 1) := by decide +kernel
theorem dX2_writeSheets_4 : decode cX2_writeSheets 4 = .ok (.iload_n 2, 1) := by decide +kernel
theorem dX2_writeSheets_5 : decode cX2_writeSheets 5 = .ok (.aload_n 0, 1) := by decide +kernel
theorem dX2_writeSheets_6 : decode cX2_writeSheets 6 = .ok (.getfield 40, 3) := by decide +kernel
theorem dX2_writeSheets_9 : decode cX2_writeSheets 9 = .ok (.invokevirtual 59, 3) := by decide +kernel
theorem dX2_writeSheets_12 : decode cX2_writeSheets 12 = .ok (.if_icmp .ge 62, 3) := by decide +kernel
theorem dX2_writeSheets_15 : decode cX2_writeSheets 15 = .ok (.aload_n 0, 1) := by decide +kernel
theorem dX2_writeSheets_16 : decode cX2_writeSheets 16 = .ok (.iload_n 2, 1) := by decide +kernel
theorem dX2_writeSheets_17 : decode cX2_writeSheets 17 = .ok (.invokevirtual 77, 3) := by decide +kernel
theorem dX2_writeSheets_20 : decode cX2_writeSheets 20 = .ok (.ifCond .eq 48, 3) := by decide +kernel
theorem dX2_writeSheets_23 : decode cX2_writeSheets 23 = .ok (.aload_n 0, 1) := by decide +kernel
theorem dX2_writeSheets_24 : decode cX2_writeSheets 24 = .ok (.getfield 18, 3) := by decide +kernel
theorem dX2_writeSheets_27 : decode cX2_writeSheets 27 = .ok (.iload_n 2, 1) := by decide +kernel
theorem dX2_writeSheets_28 : decode cX2_writeSheets 28 = .ok (.dup2, 1) := by decide +kernel
theorem dX2_writeSheets_29 : decode cX2_writeSheets 29 = .ok (.iaload, 1) := by decide +kernel
theorem dX2_writeSheets_30 : decode cX2_writeSheets 30 = .ok (.iconst 1, 1) := by decide +kernel
theorem dX2_writeSheets_31 : decode cX2_writeSheets 31 = .ok (.iadd, 1) := by decide +kernel
theorem dX2_writeSheets_32 : decode cX2_writeSheets 32 = .ok (.iastore, 1) := by decide +kernel
theorem dX2_writeSheets_33 : decode cX2_writeSheets 33 = .ok (.aload_n 0, 1) := by decide +kernel
theorem dX2_writeSheets_34 : decode cX2_writeSheets 34 = .ok (.getfield 33, 3) := by decide +kernel
theorem dX2_writeSheets_37 : decode cX2_writeSheets 37 = .ok (.iload_n 2, 1) := by decide +kernel
theorem dX2_writeSheets_38 : decode cX2_writeSheets 38 = .ok (.iload_n 2, 1) := by decide +kernel
theorem dX2_writeSheets_39 : decode cX2_writeSheets 39 = .ok (.invokestatic 51, 3) := by decide +kernel
theorem dX2_writeSheets_42 : decode cX2_writeSheets 42 = .ok (.new 31, 3) := by decide +kernel
theorem dX2_writeSheets_45 : decode cX2_writeSheets 45 = .ok (.dup, 1) := by decide +kernel
theorem dX2_writeSheets_46 : decode cX2_writeSheets 46 = .ok (.aload_n 0, 1) := by decide +kernel
theorem dX2_writeSheets_47 : decode cX2_writeSheets 47 = .ok (.getfield 18, 3) := by decide +kernel
theorem dX2_writeSheets_50 : decode cX2_writeSheets 50 = .ok (.iload_n 2, 1) := by decide +kernel
theorem dX2_writeSheets_51 : decode cX2_writeSheets 51 = .ok (.iaload, 1) := by decide +kernel
theorem dX2_writeSheets_52 : decode cX2_writeSheets 52 = .ok (.aload_n 0, 1) := by decide +kernel
theorem dX2_writeSheets_53 : decode cX2_writeSheets 53 = .ok (.getfield 44, 3) := by decide +kernel
theorem dX2_writeSheets_56 : decode cX2_writeSheets 56 = .ok (.aload_n 0, 1) := by decide +kernel
theorem dX2_writeSheets_57 : decode cX2_writeSheets 57 = .ok (.getfield 40, 3) := by decide +kernel
theorem dX2_writeSheets_60 : decode cX2_writeSheets 60 = .ok (.iload_n 2, 1) := by decide +kernel
theorem dX2_writeSheets_61 : decode cX2_writeSheets 61 = .ok (.invokespecial 81, 3) := by decide +kernel
theorem dX2_writeSheets_64 : decode cX2_writeSheets 64 = .ok (.aastore, 1) := by decide +kernel
theorem dX2_writeSheets_65 : decode cX2_writeSheets 65 = .ok (.iinc 1 1, 3) := by decide +kernel
theorem dX2_writeSheets_68 : decode cX2_writeSheets 68 = .ok (.iinc 2 1, 3) := by decide +kernel
theorem dX2_writeSheets_71 : decode cX2_writeSheets 71 = .ok (.goto (-67), 3) := by decide +kernel
theorem dX2_writeSheets_74 : decode cX2_writeSheets 74 = .ok (.iload_n 1, 1) := by decide +kernel
theorem dX2_writeSheets_75 : decode cX2_writeSheets 75 = .ok (.ireturn, 1) := by decide +kernel
set_option maxRecDepth 20000 in
theorem ggX2_mustWrite_X2_slot : GoodIn wsX2_mustWrite wsX2_slot := goodIn_r _ [7] (by decide +kernel) (by decide +kernel)
set_option maxRecDepth 20000 in
theorem gX2_mustWrite_X2_slot : GoodIn wsX2_mustWrite (va_wsS RX2 51 yX2_slot wsX2_slot) := goodIn_app (goodIn_of _ (by decide +kernel)) ggX2_mustWrite_X2_slot
set_option maxRecDepth 20000 in
theorem ggX2_mustWrite_X3_age : GoodIn wsX2_mustWrite wsX3_age := goodIn_r _ [12, 13, 41, 42, 43] (by decide +kernel) (by decide +kernel)
set_option maxRecDepth 20000 in
theorem gX2_mustWrite_X3_age : GoodIn wsX2_mustWrite (wsV RX2 65 RX3 yX3_age wsX3_age) := goodIn_app (goodIn_of _ (by decide +kernel)) ggX2_mustWrite_X3_age
set_option maxRecDepth 20000 in
theorem ggX2_mustWrite_X3_tellsAsNow : GoodIn wsX2_mustWrite wsX3_tellsAsNow := goodIn_r _ [17, 18, 19, 20, 21, 22, 23, 24, 25, 26, 27, 28, 29, 30, 31, 32, 41, 42, 43, 44, 45, 46, 47, 48, 49, 50] (by decide +kernel) (by decide +kernel)
set_option maxRecDepth 20000 in
theorem gX2_mustWrite_X3_tellsAsNow : GoodIn wsX2_mustWrite (wsV RX2 84 RX3 yX3_tellsAsNow wsX3_tellsAsNow) := goodIn_app (goodIn_of _ (by decide +kernel)) ggX2_mustWrite_X3_tellsAsNow
theorem dX2_mustWrite_0 : decode cX2_mustWrite 0 = .ok (.aload_n 0, 1) := by decide +kernel
theorem dX2_mustWrite_1 : decode cX2_mustWrite 1 = .ok (.getfield 33, 3) := by decide +kernel
theorem dX2_mustWrite_4 : decode cX2_mustWrite 4 = .ok (.iload_n 1, 1) := by decide +kernel
theorem dX2_mustWrite_5 : decode cX2_mustWrite 5 = .ok (.iload_n 1, 1) := by decide +kernel
theorem dX2_mustWrite_6 : decode cX2_mustWrite 6 = .ok (.invokestatic 51, 3) := by decide +kernel
theorem dX2_mustWrite_9 : decode cX2_mustWrite 9 = .ok (.aaload, 1) := by decide +kernel
theorem dX2_mustWrite_10 : decode cX2_mustWrite 10 = .ok (.astore_n 2, 1) := by decide +kernel
theorem dX2_mustWrite_11 : decode cX2_mustWrite 11 = .ok (.aload_n 2, 1) := by decide +kernel
theorem dX2_mustWrite_12 : decode cX2_mustWrite 12 = .ok (.ifnull 28, 3) := by decide +kernel
theorem dX2_mustWrite_15 : decode cX2_mustWrite 15 = .ok (.aload_n 2, 1) := by decide +kernel
theorem dX2_mustWrite_16 : decode cX2_mustWrite 16 = .ok (.aload_n 0, 1) := by decide +kernel
theorem dX2_mustWrite_17 : decode cX2_mustWrite 17 = .ok (.getfield 44, 3) := by decide +kernel
theorem dX2_mustWrite_20 : decode cX2_mustWrite 20 = .ok (.invokevirtual 65, 3) := by decide +kernel
theorem dX2_mustWrite_23 : decode cX2_mustWrite 23 = .ok (.bipush 20, 2) := by decide +kernel
theorem dX2_mustWrite_25 : decode cX2_mustWrite 25 = .ok (.if_icmp .ge 15, 3) := by decide +kernel
theorem dX2_mustWrite_28 : decode cX2_mustWrite 28 = .ok (.aload_n 2, 1) := by decide +kernel
theorem dX2_mustWrite_29 : decode cX2_mustWrite 29 = .ok (.aload_n 0, 1) := by decide +kernel
theorem dX2_mustWrite_30 : decode cX2_mustWrite 30 = .ok (.getfield 40, 3) := by decide +kernel
theorem dX2_mustWrite_33 : decode cX2_mustWrite 33 = .ok (.iload_n 1, 1) := by decide +kernel
theorem dX2_mustWrite_34 : decode cX2_mustWrite 34 = .ok (.invokevirtual 84, 3) := by decide +kernel
theorem dX2_mustWrite_37 : decode cX2_mustWrite 37 = .ok (.ifCond .ne 7, 3) := by decide +kernel
theorem dX2_mustWrite_40 : decode cX2_mustWrite 40 = .ok (.iconst 1, 1) := by decide +kernel
theorem dX2_mustWrite_41 : decode cX2_mustWrite 41 = .ok (.goto 4, 3) := by decide +kernel
theorem dX2_mustWrite_44 : decode cX2_mustWrite 44 = .ok (.iconst 0, 1) := by decide +kernel
theorem dX2_mustWrite_45 : decode cX2_mustWrite 45 = .ok (.ireturn, 1) := by decide +kernel
set_option maxRecDepth 20000 in
theorem ggX2_carrySheets_X1_passes : GoodIn wsX2_carrySheets wsX1_passes := goodIn_r _ [8, 9, 61, 62, 63, 64, 65, 66, 67] (by decide +kernel) (by decide +kernel)
set_option maxRecDepth 20000 in
theorem gX2_carrySheets_X1_passes : GoodIn wsX2_carrySheets (wsV RX2 88 RX1 yX1_passes wsX1_passes) := goodIn_app (goodIn_of _ (by decide +kernel)) ggX2_carrySheets_X1_passes
set_option maxRecDepth 20000 in
theorem ggX2_carrySheets_X1_isOpen : GoodIn wsX2_carrySheets wsX1_isOpen := goodIn_r _ [13, 14, 61, 62, 63, 64, 65, 66, 67] (by decide +kernel) (by decide +kernel)
set_option maxRecDepth 20000 in
theorem gX2_carrySheets_X1_isOpen : GoodIn wsX2_carrySheets (wsV RX2 91 RX1 yX1_isOpen wsX1_isOpen) := goodIn_app (goodIn_of _ (by decide +kernel)) ggX2_carrySheets_X1_isOpen
set_option maxRecDepth 20000 in
theorem ggX2_carrySheets_X1_first : GoodIn wsX2_carrySheets wsX1_first := goodIn_r _ [18, 19, 61, 62, 63, 64, 65, 66, 67] (by decide +kernel) (by decide +kernel)
set_option maxRecDepth 20000 in
theorem gX2_carrySheets_X1_first : GoodIn wsX2_carrySheets (wsV RX2 94 RX1 yX1_first wsX1_first) := goodIn_app (goodIn_of _ (by decide +kernel)) ggX2_carrySheets_X1_first
set_option maxRecDepth 20000 in
theorem ggX2_carrySheets_X1_second : GoodIn wsX2_carrySheets wsX1_second := goodIn_r _ [23, 24, 61, 62, 63, 64, 65, 66, 67] (by decide +kernel) (by decide +kernel)
set_option maxRecDepth 20000 in
theorem gX2_carrySheets_X1_second : GoodIn wsX2_carrySheets (wsV RX2 97 RX1 yX1_second wsX1_second) := goodIn_app (goodIn_of _ (by decide +kernel)) ggX2_carrySheets_X1_second
set_option maxRecDepth 20000 in
theorem ggX2_carrySheets_X2_carry : GoodIn wsX2_carrySheets wsX2_carry := goodIn_r _ [29, 3, 1, 2, 30, 31, 32, 7, 33, 34, 35, 36, 28, 37, 38, 39, 40, 41, 42, 43, 44, 45, 46, 47, 48, 49, 50, 51, 52, 53, 54, 55, 56, 57, 58, 59, 60, 61, 62, 63, 64, 65, 66, 67, 68, 69, 70] (by decide +kernel) (by decide +kernel)
set_option maxRecDepth 20000 in
theorem gX2_carrySheets_X2_carry : GoodIn wsX2_carrySheets (wsV RX2 100 RX2 yX2_carry wsX2_carry) := goodIn_app (goodIn_of _ (by decide +kernel)) ggX2_carrySheets_X2_carry
theorem dX2_carrySheets_0 : decode cX2_carrySheets 0 = .ok (.iconst 0, 1) := by decide +kernel
theorem dX2_carrySheets_1 : decode cX2_carrySheets 1 = .ok (.istore_n 1, 1) := by decide +kernel
theorem dX2_carrySheets_2 : decode cX2_carrySheets 2 = .ok (.iload_n 1, 1) := by decide +kernel
theorem dX2_carrySheets_3 : decode cX2_carrySheets 3 = .ok (.aload_n 0, 1) := by decide +kernel
theorem dX2_carrySheets_4 : decode cX2_carrySheets 4 = .ok (.getfield 33, 3) := by decide +kernel
theorem dX2_carrySheets_7 : decode cX2_carrySheets 7 = .ok (.arraylength, 1) := by decide +kernel
theorem dX2_carrySheets_8 : decode cX2_carrySheets 8 = .ok (.if_icmp .ge 21, 3) := by decide +kernel
theorem dX2_carrySheets_11 : decode cX2_carrySheets 11 = .ok (.aload_n 0, 1) := by decide +kernel
theorem dX2_carrySheets_12 : decode cX2_carrySheets 12 = .ok (.getfield 37, 3) := by decide +kernel
theorem dX2_carrySheets_15 : decode cX2_carrySheets 15 = .ok (.iload_n 1, 1) := by decide +kernel
theorem dX2_carrySheets_16 : decode cX2_carrySheets 16 = .ok (.aload_n 0, 1) := by decide +kernel
theorem dX2_carrySheets_17 : decode cX2_carrySheets 17 = .ok (.getfield 33, 3) := by decide +kernel
theorem dX2_carrySheets_20 : decode cX2_carrySheets 20 = .ok (.iload_n 1, 1) := by decide +kernel
theorem dX2_carrySheets_21 : decode cX2_carrySheets 21 = .ok (.aaload, 1) := by decide +kernel
theorem dX2_carrySheets_22 : decode cX2_carrySheets 22 = .ok (.aastore, 1) := by decide +kernel
theorem dX2_carrySheets_23 : decode cX2_carrySheets 23 = .ok (.iinc 1 1, 3) := by decide +kernel
theorem dX2_carrySheets_26 : decode cX2_carrySheets 26 = .ok (.goto (-24), 3) := by decide +kernel
theorem dX2_carrySheets_29 : decode cX2_carrySheets 29 = .ok (.iconst 0, 1) := by decide +kernel
theorem dX2_carrySheets_30 : decode cX2_carrySheets 30 = .ok (.istore_n 1, 1) := by decide +kernel
theorem dX2_carrySheets_31 : decode cX2_carrySheets 31 = .ok (.iload_n 1, 1) := by decide +kernel
theorem dX2_carrySheets_32 : decode cX2_carrySheets 32 = .ok (.aload_n 0, 1) := by decide +kernel
theorem dX2_carrySheets_33 : decode cX2_carrySheets 33 = .ok (.getfield 40, 3) := by decide +kernel
theorem dX2_carrySheets_36 : decode cX2_carrySheets 36 = .ok (.invokevirtual 88, 3) := by decide +kernel
theorem dX2_carrySheets_39 : decode cX2_carrySheets 39 = .ok (.if_icmp .ge 60, 3) := by decide +kernel
theorem dX2_carrySheets_42 : decode cX2_carrySheets 42 = .ok (.aload_n 0, 1) := by decide +kernel
theorem dX2_carrySheets_43 : decode cX2_carrySheets 43 = .ok (.getfield 40, 3) := by decide +kernel
theorem dX2_carrySheets_46 : decode cX2_carrySheets 46 = .ok (.iload_n 1, 1) := by decide +kernel
theorem dX2_carrySheets_47 : decode cX2_carrySheets 47 = .ok (.invokevirtual 91, 3) := by decide +kernel
theorem dX2_carrySheets_50 : decode cX2_carrySheets 50 = .ok (.ifCond .eq 43, 3) := by decide +kernel
theorem dX2_carrySheets_53 : decode cX2_carrySheets 53 = .ok (.aload_n 0, 1) := by decide +kernel
theorem dX2_carrySheets_54 : decode cX2_carrySheets 54 = .ok (.aload_n 0, 1) := by decide +kernel
theorem dX2_carrySheets_55 : decode cX2_carrySheets 55 = .ok (.getfield 40, 3) := by decide +kernel
theorem dX2_carrySheets_58 : decode cX2_carrySheets 58 = .ok (.iload_n 1, 1) := by decide +kernel
theorem dX2_carrySheets_59 : decode cX2_carrySheets 59 = .ok (.invokevirtual 94, 3) := by decide +kernel
theorem dX2_carrySheets_62 : decode cX2_carrySheets 62 = .ok (.aload_n 0, 1) := by decide +kernel
theorem dX2_carrySheets_63 : decode cX2_carrySheets 63 = .ok (.getfield 40, 3) := by decide +kernel
theorem dX2_carrySheets_66 : decode cX2_carrySheets 66 = .ok (.iload_n 1, 1) := by decide +kernel
theorem dX2_carrySheets_67 : decode cX2_carrySheets 67 = .ok (.invokevirtual 97, 3) := by decide +kernel
theorem dX2_carrySheets_70 : decode cX2_carrySheets 70 = .ok (.invokevirtual 100, 3) := by decide +kernel
theorem dX2_carrySheets_73 : decode cX2_carrySheets 73 = .ok (.aload_n 0, 1) := by decide +kernel
theorem dX2_carrySheets_74 : decode cX2_carrySheets 74 = .ok (.aload_n 0, 1) := by decide +kernel
theorem dX2_carrySheets_75 : decode cX2_carrySheets 75 = .ok (.getfield 40, 3) := by decide +kernel
theorem dX2_carrySheets_78 : decode cX2_carrySheets 78 = .ok (.iload_n 1, 1) := by decide +kernel
theorem dX2_carrySheets_79 : decode cX2_carrySheets 79 = .ok (.invokevirtual 97, 3) := by decide +kernel
theorem dX2_carrySheets_82 : decode cX2_carrySheets 82 = .ok (.aload_n 0, 1) := by decide +kernel
theorem dX2_carrySheets_83 : decode cX2_carrySheets 83 = .ok (.getfield 40, 3) := by decide +kernel
theorem dX2_carrySheets_86 : decode cX2_carrySheets 86 = .ok (.iload_n 1, 1) := by decide +kernel
theorem dX2_carrySheets_87 : decode cX2_carrySheets 87 = .ok (.invokevirtual 94, 3) := by decide +kernel
theorem dX2_carrySheets_90 : decode cX2_carrySheets 90 = .ok (.invokevirtual 100, 3) := by decide +kernel
theorem dX2_carrySheets_93 : decode cX2_carrySheets 93 = .ok (.iinc 1 1, 3) := by decide +kernel
theorem dX2_carrySheets_96 : decode cX2_carrySheets 96 = .ok (.goto (-65), 3) := by decide +kernel
theorem dX2_carrySheets_99 : decode cX2_carrySheets 99 = .ok (.aload_n 0, 1) := by decide +kernel
theorem dX2_carrySheets_100 : decode cX2_carrySheets 100 = .ok (.getfield 33, 3) := by decide +kernel
theorem dX2_carrySheets_103 : decode cX2_carrySheets 103 = .ok (.astore_n 1, 1) := by decide +kernel
theorem dX2_carrySheets_104 : decode cX2_carrySheets 104 = .ok (.aload_n 0, 1) := by decide +kernel
theorem dX2_carrySheets_105 : decode cX2_carrySheets 105 = .ok (.aload_n 0, 1) := by decide +kernel
theorem dX2_carrySheets_106 : decode cX2_carrySheets 106 = .ok (.getfield 37, 3) := by decide +kernel
theorem dX2_carrySheets_109 : decode cX2_carrySheets 109 = .ok (.putfield 33, 3) := by decide +kernel
theorem dX2_carrySheets_112 : decode cX2_carrySheets 112 = .ok (.aload_n 0, 1) := by decide +kernel
theorem dX2_carrySheets_113 : decode cX2_carrySheets 113 = .ok (.aload_n 1, 1) := by decide +kernel
theorem dX2_carrySheets_114 : decode cX2_carrySheets 114 = .ok (.putfield 37, 3) := by decide +kernel
theorem dX2_carrySheets_117 : decode cX2_carrySheets 117 = .ok (.return_, 1) := by decide +kernel
set_option maxRecDepth 20000 in
theorem ggX2_carry_X1_huts : GoodIn wsX2_carry wsX1_huts := goodIn_r _ [8, 9, 37, 38, 39, 40, 41, 42, 43] (by decide +kernel) (by decide +kernel)
set_option maxRecDepth 20000 in
theorem gX2_carry_X1_huts : GoodIn wsX2_carry (wsV RX2 59 RX1 yX1_huts wsX1_huts) := goodIn_app (goodIn_of _ (by decide +kernel)) ggX2_carry_X1_huts
set_option maxRecDepth 20000 in
theorem ggX2_carry_X2_slot : GoodIn wsX2_carry wsX2_slot := goodIn_r _ [13] (by decide +kernel) (by decide +kernel)
set_option maxRecDepth 20000 in
theorem gX2_carry_X2_slot : GoodIn wsX2_carry (va_wsS RX2 51 yX2_slot wsX2_slot) := goodIn_app (goodIn_of _ (by decide +kernel)) ggX2_carry_X2_slot
set_option maxRecDepth 20000 in
theorem ggX2_carry_X1_takesIn : GoodIn wsX2_carry wsX1_takesIn := goodIn_r _ [17, 18, 37, 38, 39, 40, 41, 42, 43] (by decide +kernel) (by decide +kernel)
set_option maxRecDepth 20000 in
theorem gX2_carry_X1_takesIn : GoodIn wsX2_carry (wsV RX2 104 RX1 yX1_takesIn wsX1_takesIn) := goodIn_app (goodIn_of _ (by decide +kernel)) ggX2_carry_X1_takesIn
set_option maxRecDepth 20000 in
theorem ggX2_carry_X2_isNewer : GoodIn wsX2_carry wsX2_isNewer := goodIn_r _ [22, 23, 24, 25, 26, 27, 28, 44, 45, 46] (by decide +kernel) (by decide +kernel)
set_option maxRecDepth 20000 in
theorem gX2_carry_X2_isNewer : GoodIn wsX2_carry (wsV RX2 108 RX2 yX2_isNewer wsX2_isNewer) := goodIn_app (goodIn_of _ (by decide +kernel)) ggX2_carry_X2_isNewer
theorem dX2_carry_0 : decode cX2_carry 0 = .ok (.iconst 0, 1) := by decide +kernel
theorem dX2_carry_1 : decode cX2_carry 1 = .ok (.istore_n 3, 1) := by decide +kernel
theorem dX2_carry_2 : decode cX2_carry 2 = .ok (.iload_n 3, 1) := by decide +kernel
theorem dX2_carry_3 : decode cX2_carry 3 = .ok (.aload_n 0, 1) := by decide +kernel
theorem dX2_carry_4 : decode cX2_carry 4 = .ok (.getfield 40, 3) := by decide +kernel
theorem dX2_carry_7 : decode cX2_carry 7 = .ok (.invokevirtual 59, 3) := by decide +kernel
theorem dX2_carry_10 : decode cX2_carry 10 = .ok (.if_icmp .ge 74, 3) := by decide +kernel
theorem dX2_carry_13 : decode cX2_carry 13 = .ok (.aload_n 0, 1) := by decide +kernel
theorem dX2_carry_14 : decode cX2_carry 14 = .ok (.getfield 33, 3) := by decide +kernel
theorem dX2_carry_17 : decode cX2_carry 17 = .ok (.iload_n 1, 1) := by decide +kernel
theorem dX2_carry_18 : decode cX2_carry 18 = .ok (.iload_n 3, 1) := by decide +kernel
theorem dX2_carry_19 : decode cX2_carry 19 = .ok (.invokestatic 51, 3) := by decide +kernel
theorem dX2_carry_22 : decode cX2_carry 22 = .ok (.aaload, 1) := by decide +kernel
theorem dX2_carry_23 : decode cX2_carry 23 = .ok (.astore 4, 2) := by decide +kernel
theorem dX2_carry_25 : decode cX2_carry 25 = .ok (.aload 4, 2) := by decide +kernel
theorem dX2_carry_27 : decode cX2_carry 27 = .ok (.ifnull 51, 3) := by decide +kernel
theorem dX2_carry_30 : decode cX2_carry 30 = .ok (.iload_n 3, 1) := by decide +kernel
theorem dX2_carry_31 : decode cX2_carry 31 = .ok (.iload_n 2, 1) := by decide +kernel
theorem dX2_carry_32 : decode cX2_carry 32 = .ok (.if_icmp .eq 46, 3) := by decide +kernel
theorem dX2_carry_35 : decode cX2_carry 35 = .ok (.aload_n 0, 1) := by decide +kernel
theorem dX2_carry_36 : decode cX2_carry 36 = .ok (.getfield 40, 3) := by decide +kernel
theorem dX2_carry_39 : decode cX2_carry 39 = .ok (.iload_n 2, 1) := by decide +kernel
theorem dX2_carry_40 : decode cX2_carry 40 = .ok (.iload_n 3, 1) := by decide +kernel
theorem dX2_carry_41 : decode cX2_carry 41 = .ok (.invokevirtual 104, 3) := by decide +kernel
theorem dX2_carry_44 : decode cX2_carry 44 = .ok (.ifCond .eq 34, 3) := by decide +kernel
theorem dX2_carry_47 : decode cX2_carry 47 = .ok (.aload_n 0, 1) := by decide +kernel
theorem dX2_carry_48 : decode cX2_carry 48 = .ok (.aload 4, 2) := by decide +kernel
theorem dX2_carry_50 : decode cX2_carry 50 = .ok (.aload_n 0, 1) := by decide +kernel
theorem dX2_carry_51 : decode cX2_carry 51 = .ok (.getfield 37, 3) := by decide +kernel
theorem dX2_carry_54 : decode cX2_carry 54 = .ok (.iload_n 2, 1) := by decide +kernel
theorem dX2_carry_55 : decode cX2_carry 55 = .ok (.iload_n 3, 1) := by decide +kernel
theorem dX2_carry_56 : decode cX2_carry 56 = .ok (.invokestatic 51, 3) := by decide +kernel
theorem dX2_carry_59 : decode cX2_carry 59 = .ok (.aaload, 1) := by decide +kernel
theorem dX2_carry_60 : decode cX2_carry 60 = .ok (.invokevirtual 108, 3) := by decide +kernel
theorem dX2_carry_63 : decode cX2_carry 63 = .ok (.ifCond .eq 15, 3) := by decide +kernel
theorem dX2_carry_66 : decode cX2_carry 66 = .ok (.aload_n 0, 1) := by decide +kernel
theorem dX2_carry_67 : decode cX2_carry 67 = .ok (.getfield 37, 3) := by decide +kernel
theorem dX2_carry_70 : decode cX2_carry 70 = .ok (.iload_n 2, 1) := by decide +kernel
theorem dX2_carry_71 : decode cX2_carry 71 = .ok (.iload_n 3, 1) := by decide +kernel
theorem dX2_carry_72 : decode cX2_carry 72 = .ok (.invokestatic 51, 3) := by decide +kernel
theorem dX2_carry_75 : decode cX2_carry 75 = .ok (.aload 4, 2) := by decide +kernel
theorem dX2_carry_77 : decode cX2_carry 77 = .ok (.aastore, 1) := by decide +kernel
theorem dX2_carry_78 : decode cX2_carry 78 = .ok (.iinc 3 1, 3) := by decide +kernel
theorem dX2_carry_81 : decode cX2_carry 81 = .ok (.goto (-79), 3) := by decide +kernel
theorem dX2_carry_84 : decode cX2_carry 84 = .ok (.return_, 1) := by decide +kernel
set_option maxRecDepth 20000 in
theorem ggX2_isNewer_X3_number : GoodIn wsX2_isNewer wsX3_number := goodIn_r _ [5, 6, 7, 8, 9] (by decide +kernel) (by decide +kernel)
set_option maxRecDepth 20000 in
theorem gX2_isNewer_X3_number : GoodIn wsX2_isNewer (wsV RX2 112 RX3 yX3_number wsX3_number) := goodIn_app (goodIn_of _ (by decide +kernel)) ggX2_isNewer_X3_number
theorem dX2_isNewer_0 : decode cX2_isNewer 0 = .ok (.aload_n 2, 1) := by decide +kernel
theorem dX2_isNewer_1 : decode cX2_isNewer 1 = .ok (.ifnull 14, 3) := by decide +kernel
theorem dX2_isNewer_4 : decode cX2_isNewer 4 = .ok (.aload_n 1, 1) := by decide +kernel
theorem dX2_isNewer_5 : decode cX2_isNewer 5 = .ok (.invokevirtual 112, 3) := by decide +kernel
theorem dX2_isNewer_8 : decode cX2_isNewer 8 = .ok (.aload_n 2, 1) := by decide +kernel
theorem dX2_isNewer_9 : decode cX2_isNewer 9 = .ok (.invokevirtual 112, 3) := by decide +kernel
theorem dX2_isNewer_12 : decode cX2_isNewer 12 = .ok (.if_icmp .le 7, 3) := by decide +kernel
theorem dX2_isNewer_15 : decode cX2_isNewer 15 = .ok (.iconst 1, 1) := by decide +kernel
theorem dX2_isNewer_16 : decode cX2_isNewer 16 = .ok (.goto 4, 3) := by decide +kernel
theorem dX2_isNewer_19 : decode cX2_isNewer 19 = .ok (.iconst 0, 1) := by decide +kernel
theorem dX2_isNewer_20 : decode cX2_isNewer 20 = .ok (.ireturn, 1) := by decide +kernel
set_option maxRecDepth 20000 in
theorem ggX2_throwOldAway_X3_age : GoodIn wsX2_throwOldAway wsX3_age := goodIn_r _ [7, 8, 17, 18, 19] (by decide +kernel) (by decide +kernel)
set_option maxRecDepth 20000 in
theorem gX2_throwOldAway_X3_age : GoodIn wsX2_throwOldAway (wsV RX2 65 RX3 yX3_age wsX3_age) := goodIn_app (goodIn_of _ (by decide +kernel)) ggX2_throwOldAway_X3_age
theorem dX2_throwOldAway_0 : decode cX2_throwOldAway 0 = .ok (.iconst 0, 1) := by decide +kernel
theorem dX2_throwOldAway_1 : decode cX2_throwOldAway 1 = .ok (.istore_n 1, 1) := by decide +kernel
theorem dX2_throwOldAway_2 : decode cX2_throwOldAway 2 = .ok (.iload_n 1, 1) := by decide +kernel
theorem dX2_throwOldAway_3 : decode cX2_throwOldAway 3 = .ok (.aload_n 0, 1) := by decide +kernel
theorem dX2_throwOldAway_4 : decode cX2_throwOldAway 4 = .ok (.getfield 33, 3) := by decide +kernel
theorem dX2_throwOldAway_7 : decode cX2_throwOldAway 7 = .ok (.arraylength, 1) := by decide +kernel
theorem dX2_throwOldAway_8 : decode cX2_throwOldAway 8 = .ok (.if_icmp .ge 40, 3) := by decide +kernel
theorem dX2_throwOldAway_11 : decode cX2_throwOldAway 11 = .ok (.aload_n 0, 1) := by decide +kernel
theorem dX2_throwOldAway_12 : decode cX2_throwOldAway 12 = .ok (.getfield 33, 3) := by decide +kernel
theorem dX2_throwOldAway_15 : decode cX2_throwOldAway 15 = .ok (.iload_n 1, 1) := by decide +kernel
theorem dX2_throwOldAway_16 : decode cX2_throwOldAway 16 = .ok (.aaload, 1) := by decide +kernel
theorem dX2_throwOldAway_17 : decode cX2_throwOldAway 17 = .ok (.astore_n 2, 1) := by decide +kernel
theorem dX2_throwOldAway_18 : decode cX2_throwOldAway 18 = .ok (.aload_n 2, 1) := by decide +kernel
theorem dX2_throwOldAway_19 : decode cX2_throwOldAway 19 = .ok (.ifnull 23, 3) := by decide +kernel
theorem dX2_throwOldAway_22 : decode cX2_throwOldAway 22 = .ok (.aload_n 2, 1) := by decide +kernel
theorem dX2_throwOldAway_23 : decode cX2_throwOldAway 23 = .ok (.aload_n 0, 1) := by decide +kernel
theorem dX2_throwOldAway_24 : decode cX2_throwOldAway 24 = .ok (.getfield 44, 3) := by decide +kernel
theorem dX2_throwOldAway_27 : decode cX2_throwOldAway 27 = .ok (.invokevirtual 65, 3) := by decide +kernel
theorem dX2_throwOldAway_30 : decode cX2_throwOldAway 30 = .ok (.bipush 30, 2) := by decide +kernel
theorem dX2_throwOldAway_32 : decode cX2_throwOldAway 32 = .ok (.if_icmp .le 10, 3) := by decide +kernel
theorem dX2_throwOldAway_35 : decode cX2_throwOldAway 35 = .ok (.aload_n 0, 1) := by decide +kernel
theorem dX2_throwOldAway_36 : decode cX2_throwOldAway 36 = .ok (.getfield 33, 3) := by decide +kernel
theorem dX2_throwOldAway_39 : decode cX2_throwOldAway 39 = .ok (.iload_n 1, 1) := by decide +kernel
theorem dX2_throwOldAway_40 : decode cX2_throwOldAway 40 = .ok (.aconst_null, 1) := by decide +kernel
theorem dX2_throwOldAway_41 : decode cX2_throwOldAway 41 = .ok (.aastore, 1) := by decide +kernel
theorem dX2_throwOldAway_42 : decode cX2_throwOldAway 42 = .ok (.iinc 1 1, 3) := by decide +kernel
theorem dX2_throwOldAway_45 : decode cX2_throwOldAway 45 = .ok (.goto (-43), 3) := by decide +kernel
theorem dX2_throwOldAway_48 : decode cX2_throwOldAway 48 = .ok (.return_, 1) := by decide +kernel
set_option maxRecDepth 20000 in
theorem ggX2_takesForOpen_X1_first : GoodIn wsX2_takesForOpen wsX1_first := goodIn_r _ [7, 8, 32, 33, 34, 35, 36, 37, 38] (by decide +kernel) (by decide +kernel)
set_option maxRecDepth 20000 in
theorem gX2_takesForOpen_X1_first : GoodIn wsX2_takesForOpen (wsV RX2 94 RX1 yX1_first wsX1_first) := goodIn_app (goodIn_of _ (by decide +kernel)) ggX2_takesForOpen_X1_first
set_option maxRecDepth 20000 in
theorem ggX2_takesForOpen_X2_slot : GoodIn wsX2_takesForOpen wsX2_slot := goodIn_r _ [12] (by decide +kernel) (by decide +kernel)
set_option maxRecDepth 20000 in
theorem gX2_takesForOpen_X2_slot : GoodIn wsX2_takesForOpen (va_wsS RX2 51 yX2_slot wsX2_slot) := goodIn_app (goodIn_of _ (by decide +kernel)) ggX2_takesForOpen_X2_slot
set_option maxRecDepth 20000 in
theorem ggX2_takesForOpen_X1_second : GoodIn wsX2_takesForOpen wsX1_second := goodIn_r _ [16, 17, 32, 33, 34, 35, 36, 37, 38] (by decide +kernel) (by decide +kernel)
set_option maxRecDepth 20000 in
theorem gX2_takesForOpen_X1_second : GoodIn wsX2_takesForOpen (wsV RX2 97 RX1 yX1_second wsX1_second) := goodIn_app (goodIn_of _ (by decide +kernel)) ggX2_takesForOpen_X1_second
set_option maxRecDepth 20000 in
theorem ggX2_takesForOpen_X3_tells : GoodIn wsX2_takesForOpen wsX3_tells := goodIn_r _ [22, 23, 39, 40, 41] (by decide +kernel) (by decide +kernel)
set_option maxRecDepth 20000 in
theorem gX2_takesForOpen_X3_tells : GoodIn wsX2_takesForOpen (wsV RX2 115 RX3 yX3_tells wsX3_tells) := goodIn_app (goodIn_of _ (by decide +kernel)) ggX2_takesForOpen_X3_tells
theorem dX2_takesForOpen_0 : decode cX2_takesForOpen 0 = .ok (.aload_n 0, 1) := by decide +kernel
theorem dX2_takesForOpen_1 : decode cX2_takesForOpen 1 = .ok (.getfield 33, 3) := by decide +kernel
theorem dX2_takesForOpen_4 : decode cX2_takesForOpen 4 = .ok (.iload_n 1, 1) := by decide +kernel
theorem dX2_takesForOpen_5 : decode cX2_takesForOpen 5 = .ok (.aload_n 0, 1) := by decide +kernel
theorem dX2_takesForOpen_6 : decode cX2_takesForOpen 6 = .ok (.getfield 40, 3) := by decide +kernel
theorem dX2_takesForOpen_9 : decode cX2_takesForOpen 9 = .ok (.iload_n 2, 1) := by decide +kernel
theorem dX2_takesForOpen_10 : decode cX2_takesForOpen 10 = .ok (.invokevirtual 94, 3) := by decide +kernel
theorem dX2_takesForOpen_13 : decode cX2_takesForOpen 13 = .ok (.invokestatic 51, 3) := by decide +kernel
theorem dX2_takesForOpen_16 : decode cX2_takesForOpen 16 = .ok (.aaload, 1) := by decide +kernel
theorem dX2_takesForOpen_17 : decode cX2_takesForOpen 17 = .ok (.astore_n 3, 1) := by decide +kernel
theorem dX2_takesForOpen_18 : decode cX2_takesForOpen 18 = .ok (.aload_n 0, 1) := by decide +kernel
theorem dX2_takesForOpen_19 : decode cX2_takesForOpen 19 = .ok (.getfield 33, 3) := by decide +kernel
theorem dX2_takesForOpen_22 : decode cX2_takesForOpen 22 = .ok (.iload_n 1, 1) := by decide +kernel
theorem dX2_takesForOpen_23 : decode cX2_takesForOpen 23 = .ok (.aload_n 0, 1) := by decide +kernel
theorem dX2_takesForOpen_24 : decode cX2_takesForOpen 24 = .ok (.getfield 40, 3) := by decide +kernel
theorem dX2_takesForOpen_27 : decode cX2_takesForOpen 27 = .ok (.iload_n 2, 1) := by decide +kernel
theorem dX2_takesForOpen_28 : decode cX2_takesForOpen 28 = .ok (.invokevirtual 97, 3) := by decide +kernel
theorem dX2_takesForOpen_31 : decode cX2_takesForOpen 31 = .ok (.invokestatic 51, 3) := by decide +kernel
theorem dX2_takesForOpen_34 : decode cX2_takesForOpen 34 = .ok (.aaload, 1) := by decide +kernel
theorem dX2_takesForOpen_35 : decode cX2_takesForOpen 35 = .ok (.astore 4, 2) := by decide +kernel
theorem dX2_takesForOpen_37 : decode cX2_takesForOpen 37 = .ok (.aload_n 3, 1) := by decide +kernel
theorem dX2_takesForOpen_38 : decode cX2_takesForOpen 38 = .ok (.ifnull 29, 3) := by decide +kernel
theorem dX2_takesForOpen_41 : decode cX2_takesForOpen 41 = .ok (.aload 4, 2) := by decide +kernel
theorem dX2_takesForOpen_43 : decode cX2_takesForOpen 43 = .ok (.ifnull 24, 3) := by decide +kernel
theorem dX2_takesForOpen_46 : decode cX2_takesForOpen 46 = .ok (.aload_n 3, 1) := by decide +kernel
theorem dX2_takesForOpen_47 : decode cX2_takesForOpen 47 = .ok (.iload_n 2, 1) := by decide +kernel
theorem dX2_takesForOpen_48 : decode cX2_takesForOpen 48 = .ok (.invokevirtual 115, 3) := by decide +kernel
theorem dX2_takesForOpen_51 : decode cX2_takesForOpen 51 = .ok (.ifCond .eq 16, 3) := by decide +kernel
theorem dX2_takesForOpen_54 : decode cX2_takesForOpen 54 = .ok (.aload 4, 2) := by decide +kernel
theorem dX2_takesForOpen_56 : decode cX2_takesForOpen 56 = .ok (.iload_n 2, 1) := by decide +kernel
theorem dX2_takesForOpen_57 : decode cX2_takesForOpen 57 = .ok (.invokevirtual 115, 3) := by decide +kernel
theorem dX2_takesForOpen_60 : decode cX2_takesForOpen 60 = .ok (.ifCond .eq 7, 3) := by decide +kernel
theorem dX2_takesForOpen_63 : decode cX2_takesForOpen 63 = .ok (.iconst 1, 1) := by decide +kernel
theorem dX2_takesForOpen_64 : decode cX2_takesForOpen 64 = .ok (.goto 4, 3) := by decide +kernel
theorem dX2_takesForOpen_67 : decode cX2_takesForOpen 67 = .ok (.iconst 0, 1) := by decide +kernel
theorem dX2_takesForOpen_68 : decode cX2_takesForOpen 68 = .ok (.ireturn, 1) := by decide +kernel
set_option maxRecDepth 20000 in
theorem ggX2_takersForOpen_X1_huts : GoodIn wsX2_takersForOpen wsX1_huts := goodIn_r _ [6, 7, 41, 42, 43, 44, 45, 46, 47] (by decide +kernel) (by decide +kernel)
set_option maxRecDepth 20000 in
theorem gX2_takersForOpen_X1_huts : GoodIn wsX2_takersForOpen (wsV RX2 59 RX1 yX1_huts wsX1_huts) := goodIn_app (goodIn_of _ (by decide +kernel)) ggX2_takersForOpen_X1_huts
set_option maxRecDepth 20000 in
theorem ggX2_takersForOpen_X2_takesForOpen : GoodIn wsX2_takersForOpen wsX2_takesForOpen := goodIn_r _ [12, 13, 1, 14, 15, 16, 5, 17, 18, 19, 20, 11, 21, 22, 23, 24, 25, 26, 27, 28, 29, 30, 31, 32, 33, 34, 35, 36, 37, 38, 39, 40, 41, 42, 43, 44, 45, 46, 47, 48, 49, 50] (by decide +kernel) (by decide +kernel)
set_option maxRecDepth 20000 in
theorem gX2_takersForOpen_X2_takesForOpen : GoodIn wsX2_takersForOpen (wsV RX2 118 RX2 yX2_takesForOpen wsX2_takesForOpen) := goodIn_app (goodIn_of _ (by decide +kernel)) ggX2_takersForOpen_X2_takesForOpen
theorem dX2_takersForOpen_0 : decode cX2_takersForOpen 0 = .ok (.iconst 0, 1) := by decide +kernel
theorem dX2_takersForOpen_1 : decode cX2_takersForOpen 1 = .ok (.istore_n 2, 1) := by decide +kernel
theorem dX2_takersForOpen_2 : decode cX2_takersForOpen 2 = .ok (.iconst 0, 1) := by decide +kernel
theorem dX2_takersForOpen_3 : decode cX2_takersForOpen 3 = .ok (.istore_n 3, 1) := by decide +kernel
theorem dX2_takersForOpen_4 : decode cX2_takersForOpen 4 = .ok (.iload_n 3, 1) := by decide +kernel
theorem dX2_takersForOpen_5 : decode cX2_takersForOpen 5 = .ok (.aload_n 0, 1) := by decide +kernel
theorem dX2_takersForOpen_6 : decode cX2_takersForOpen 6 = .ok (.getfield 40, 3) := by decide +kernel
theorem dX2_takersForOpen_9 : decode cX2_takersForOpen 9 = .ok (.invokevirtual 59, 3) := by decide +kernel
theorem dX2_takersForOpen_12 : decode cX2_takersForOpen 12 = .ok (.if_icmp .ge 21, 3) := by decide +kernel
theorem dX2_takersForOpen_15 : decode cX2_takersForOpen 15 = .ok (.aload_n 0, 1) := by decide +kernel
theorem dX2_takersForOpen_16 : decode cX2_takersForOpen 16 = .ok (.iload_n 3, 1) := by decide +kernel
theorem dX2_takersForOpen_17 : decode cX2_takersForOpen 17 = .ok (.iload_n 1, 1) := by decide +kernel
theorem dX2_takersForOpen_18 : decode cX2_takersForOpen 18 = .ok (.invokevirtual 118, 3) := by decide +kernel
theorem dX2_takersForOpen_21 : decode cX2_takersForOpen 21 = .ok (.ifCond .eq 6, 3) := by decide +kernel
theorem dX2_takersForOpen_24 : decode cX2_takersForOpen 24 = .ok (.iinc 2 1, 3) := by decide +kernel
theorem dX2_takersForOpen_27 : decode cX2_takersForOpen 27 = .ok (.iinc 3 1, 3) := by decide +kernel
theorem dX2_takersForOpen_30 : decode cX2_takersForOpen 30 = .ok (.goto (-26), 3) := by decide +kernel
theorem dX2_takersForOpen_33 : decode cX2_takersForOpen 33 = .ok (.iload_n 2, 1) := by decide +kernel
theorem dX2_takersForOpen_34 : decode cX2_takersForOpen 34 = .ok (.ireturn, 1) := by decide +kernel
set_option maxRecDepth 20000 in
theorem ggX2_knownWay_X2_findWays : GoodIn wsX2_knownWay wsX2_findWays := goodIn_r _ [7, 8, 9, 10, 2, 1, 11, 12, 13, 14, 15, 16, 17, 18, 19, 20, 21, 22, 23, 24, 25, 26, 27, 28, 29, 30, 31, 32, 33, 34, 6, 35, 36, 37, 38, 39, 40, 41, 42, 43, 44, 45, 46, 47, 48, 49, 50, 51, 52, 53, 54, 55, 56, 57, 58, 59, 60, 61, 62, 63, 64, 65, 66, 67, 68, 69, 70, 71, 72, 73, 74, 75, 76, 77, 78, 79] (by decide +kernel) (by decide +kernel)
set_option maxRecDepth 20000 in
theorem gX2_knownWay_X2_findWays : GoodIn wsX2_knownWay (wsV RX2 121 RX2 yX2_findWays wsX2_findWays) := goodIn_app (goodIn_of _ (by decide +kernel)) ggX2_knownWay_X2_findWays
theorem dX2_knownWay_0 : decode cX2_knownWay 0 = .ok (.aload_n 0, 1) := by decide +kernel
theorem dX2_knownWay_1 : decode cX2_knownWay 1 = .ok (.getfield 27, 3) := by decide +kernel
theorem dX2_knownWay_4 : decode cX2_knownWay 4 = .ok (.iload_n 1, 1) := by decide +kernel
theorem dX2_knownWay_5 : decode cX2_knownWay 5 = .ok (.baload, 1) := by decide +kernel
theorem dX2_knownWay_6 : decode cX2_knownWay 6 = .ok (.ifCond .ne 8, 3) := by decide +kernel
theorem dX2_knownWay_9 : decode cX2_knownWay 9 = .ok (.aload_n 0, 1) := by decide +kernel
theorem dX2_knownWay_10 : decode cX2_knownWay 10 = .ok (.iload_n 1, 1) := by decide +kernel
theorem dX2_knownWay_11 : decode cX2_knownWay 11 = .ok (.invokevirtual 121, 3) := by decide +kernel
theorem dX2_knownWay_14 : decode cX2_knownWay 14 = .ok (.aload_n 0, 1) := by decide +kernel
theorem dX2_knownWay_15 : decode cX2_knownWay 15 = .ok (.getfield 24, 3) := by decide +kernel
theorem dX2_knownWay_18 : decode cX2_knownWay 18 = .ok (.iload_n 1, 1) := by decide +kernel
theorem dX2_knownWay_19 : decode cX2_knownWay 19 = .ok (.aaload, 1) := by decide +kernel
theorem dX2_knownWay_20 : decode cX2_knownWay 20 = .ok (.iload_n 2, 1) := by decide +kernel
theorem dX2_knownWay_21 : decode cX2_knownWay 21 = .ok (.iaload, 1) := by decide +kernel
theorem dX2_knownWay_22 : decode cX2_knownWay 22 = .ok (.ireturn, 1) := by decide +kernel
set_option maxRecDepth 20000 in
theorem ggX2_findWays_X0_clear : GoodIn wsX2_findWays wsX0_clear := goodIn_r _ [10, 11, 62, 63, 64, 65] (by decide +kernel) (by decide +kernel)
set_option maxRecDepth 20000 in
theorem gX2_findWays_X0_clear : GoodIn wsX2_findWays (wsV RX2 125 RX0 yX0_clear wsX0_clear) := goodIn_app (goodIn_of _ (by decide +kernel)) ggX2_findWays_X0_clear
set_option maxRecDepth 20000 in
theorem ggX2_findWays_X1_passes : GoodIn wsX2_findWays wsX1_passes := goodIn_r _ [16, 17, 66, 67, 68, 69, 70, 71, 72] (by decide +kernel) (by decide +kernel)
set_option maxRecDepth 20000 in
theorem gX2_findWays_X1_passes : GoodIn wsX2_findWays (wsV RX2 88 RX1 yX1_passes wsX1_passes) := goodIn_app (goodIn_of _ (by decide +kernel)) ggX2_findWays_X1_passes
set_option maxRecDepth 20000 in
theorem ggX2_findWays_X1_first : GoodIn wsX2_findWays wsX1_first := goodIn_r _ [21, 22, 66, 67, 68, 69, 70, 71, 72] (by decide +kernel) (by decide +kernel)
set_option maxRecDepth 20000 in
theorem gX2_findWays_X1_first : GoodIn wsX2_findWays (wsV RX2 94 RX1 yX1_first wsX1_first) := goodIn_app (goodIn_of _ (by decide +kernel)) ggX2_findWays_X1_first
set_option maxRecDepth 20000 in
theorem ggX2_findWays_X1_second : GoodIn wsX2_findWays wsX1_second := goodIn_r _ [26, 27, 66, 67, 68, 69, 70, 71, 72] (by decide +kernel) (by decide +kernel)
set_option maxRecDepth 20000 in
theorem gX2_findWays_X1_second : GoodIn wsX2_findWays (wsV RX2 97 RX1 yX1_second wsX1_second) := goodIn_app (goodIn_of _ (by decide +kernel)) ggX2_findWays_X1_second
set_option maxRecDepth 20000 in
theorem ggX2_findWays_X2_slot : GoodIn wsX2_findWays wsX2_slot := goodIn_r _ [31] (by decide +kernel) (by decide +kernel)
set_option maxRecDepth 20000 in
theorem gX2_findWays_X2_slot : GoodIn wsX2_findWays (va_wsS RX2 51 yX2_slot wsX2_slot) := goodIn_app (goodIn_of _ (by decide +kernel)) ggX2_findWays_X2_slot
set_option maxRecDepth 20000 in
theorem ggX2_findWays_X3_tells : GoodIn wsX2_findWays wsX3_tells := goodIn_r _ [36, 37, 73, 74, 75] (by decide +kernel) (by decide +kernel)
set_option maxRecDepth 20000 in
theorem gX2_findWays_X3_tells : GoodIn wsX2_findWays (wsV RX2 115 RX3 yX3_tells wsX3_tells) := goodIn_app (goodIn_of _ (by decide +kernel)) ggX2_findWays_X3_tells
set_option maxRecDepth 20000 in
theorem ggX2_findWays_X3_length : GoodIn wsX2_findWays wsX3_length := goodIn_r _ [41, 37, 73, 74, 75] (by decide +kernel) (by decide +kernel)
set_option maxRecDepth 20000 in
theorem gX2_findWays_X3_length : GoodIn wsX2_findWays (wsV RX2 128 RX3 yX3_length wsX3_length) := goodIn_app (goodIn_of _ (by decide +kernel)) ggX2_findWays_X3_length
set_option maxRecDepth 20000 in
theorem ggX2_findWays_X0_addStep : GoodIn wsX2_findWays wsX0_addStep := goodIn_r _ [45, 11, 46, 47, 48, 62, 63, 64, 65] (by decide +kernel) (by decide +kernel)
set_option maxRecDepth 20000 in
theorem gX2_findWays_X0_addStep : GoodIn wsX2_findWays (wsV RX2 131 RX0 yX0_addStep wsX0_addStep) := goodIn_app (goodIn_of _ (by decide +kernel)) ggX2_findWays_X0_addStep
set_option maxRecDepth 20000 in
theorem ggX2_findWays_X0_search : GoodIn wsX2_findWays wsX0_search := goodIn_r _ [52, 53, 11, 46, 48, 47, 62, 63, 64, 65] (by decide +kernel) (by decide +kernel)
set_option maxRecDepth 20000 in
theorem gX2_findWays_X0_search : GoodIn wsX2_findWays (wsV RX2 135 RX0 yX0_search wsX0_search) := goodIn_app (goodIn_of _ (by decide +kernel)) ggX2_findWays_X0_search
theorem dX2_findWays_0 : decode cX2_findWays 0 = .ok (.aload_n 0, 1) := by decide +kernel
theorem dX2_findWays_1 : decode cX2_findWays 1 = .ok (.getfield 12, 3) := by decide +kernel
theorem dX2_findWays_4 : decode cX2_findWays 4 = .ok (.invokevirtual 125, 3) := by decide +kernel
theorem dX2_findWays_7 : decode cX2_findWays 7 = .ok (.iconst 0, 1) := by decide +kernel
theorem dX2_findWays_8 : decode cX2_findWays 8 = .ok (.istore_n 2, 1) := by decide +kernel
theorem dX2_findWays_9 : decode cX2_findWays 9 = .ok (.iload_n 2, 1) := by decide +kernel
theorem dX2_findWays_10 : decode cX2_findWays 10 = .ok (.aload_n 0, 1) := by decide +kernel
theorem dX2_findWays_11 : decode cX2_findWays 11 = .ok (.getfield 40, 3) := by decide +kernel
theorem dX2_findWays_14 : decode cX2_findWays 14 = .ok (.invokevirtual 88, 3) := by decide +kernel
theorem dX2_findWays_17 : decode cX2_findWays 17 = .ok (.if_icmp .ge 113, 3) := by decide +kernel
theorem dX2_findWays_20 : decode cX2_findWays 20 = .ok (.aload_n 0, 1) := by decide +kernel
theorem dX2_findWays_21 : decode cX2_findWays 21 = .ok (.getfield 40, 3) := by decide +kernel
theorem dX2_findWays_24 : decode cX2_findWays 24 = .ok (.iload_n 2, 1) := by decide +kernel
theorem dX2_findWays_25 : decode cX2_findWays 25 = .ok (.invokevirtual 94, 3) := by decide +kernel
theorem dX2_findWays_28 : decode cX2_findWays 28 = .ok (.istore_n 3, 1) := by decide +kernel
theorem dX2_findWays_29 : decode cX2_findWays 29 = .ok (.aload_n 0, 1) := by decide +kernel
theorem dX2_findWays_30 : decode cX2_findWays 30 = .ok (.getfield 40, 3) := by decide +kernel
theorem dX2_findWays_33 : decode cX2_findWays 33 = .ok (.iload_n 2, 1) := by decide +kernel
theorem dX2_findWays_34 : decode cX2_findWays 34 = .ok (.invokevirtual 97, 3) := by decide +kernel
theorem dX2_findWays_37 : decode cX2_findWays 37 = .ok (.istore 4, 2) := by decide +kernel
theorem dX2_findWays_39 : decode cX2_findWays 39 = .ok (.aload_n 0, 1) := by decide +kernel
theorem dX2_findWays_40 : decode cX2_findWays 40 = .ok (.getfield 33, 3) := by decide +kernel
theorem dX2_findWays_43 : decode cX2_findWays 43 = .ok (.iload_n 1, 1) := by decide +kernel
theorem dX2_findWays_44 : decode cX2_findWays 44 = .ok (.iload_n 3, 1) := by decide +kernel
theorem dX2_findWays_45 : decode cX2_findWays 45 = .ok (.invokestatic 51, 3) := by decide +kernel
theorem dX2_findWays_48 : decode cX2_findWays 48 = .ok (.aaload, 1) := by decide +kernel
theorem dX2_findWays_49 : decode cX2_findWays 49 = .ok (.astore 5, 2) := by decide +kernel
theorem dX2_findWays_51 : decode cX2_findWays 51 = .ok (.aload_n 0, 1) := by decide +kernel
theorem dX2_findWays_52 : decode cX2_findWays 52 = .ok (.getfield 33, 3) := by decide +kernel
theorem dX2_findWays_55 : decode cX2_findWays 55 = .ok (.iload_n 1, 1) := by decide +kernel
theorem dX2_findWays_56 : decode cX2_findWays 56 = .ok (.iload 4, 2) := by decide +kernel
theorem dX2_findWays_58 : decode cX2_findWays 58 = .ok (.invokestatic 51, 3) := by decide +kernel
theorem dX2_findWays_61 : decode cX2_findWays 61 = .ok (.aaload, 1) := by decide +kernel
theorem dX2_findWays_62 : decode cX2_findWays 62 = .ok (.astore 6, 2) := by decide +kernel
theorem dX2_findWays_64 : decode cX2_findWays 64 = .ok (.aload 5, 2) := by decide +kernel
theorem dX2_findWays_66 : decode cX2_findWays 66 = .ok (.ifnull 58, 3) := by decide +kernel
theorem dX2_findWays_69 : decode cX2_findWays 69 = .ok (.aload 6, 2) := by decide +kernel
theorem dX2_findWays_71 : decode cX2_findWays 71 = .ok (.ifnull 53, 3) := by decide +kernel
theorem dX2_findWays_74 : decode cX2_findWays 74 = .ok (.aload 5, 2) := by decide +kernel
theorem dX2_findWays_76 : decode cX2_findWays 76 = .ok (.iload_n 2, 1) := by decide +kernel
theorem dX2_findWays_77 : decode cX2_findWays 77 = .ok (.invokevirtual 115, 3) := by decide +kernel
theorem dX2_findWays_80 : decode cX2_findWays 80 = .ok (.ifCond .eq 44, 3) := by decide +kernel
theorem dX2_findWays_83 : decode cX2_findWays 83 = .ok (.aload 6, 2) := by decide +kernel
theorem dX2_findWays_85 : decode cX2_findWays 85 = .ok (.iload_n 2, 1) := by decide +kernel
theorem dX2_findWays_86 : decode cX2_findWays 86 = .ok (.invokevirtual 115, 3) := by decide +kernel
theorem dX2_findWays_89 : decode cX2_findWays 89 = .ok (.ifCond .eq 35, 3) := by decide +kernel
theorem dX2_findWays_92 : decode cX2_findWays 92 = .ok (.aload_n 0, 1) := by decide +kernel
theorem dX2_findWays_93 : decode cX2_findWays 93 = .ok (.getfield 12, 3) := by decide +kernel
theorem dX2_findWays_96 : decode cX2_findWays 96 = .ok (.iload_n 3, 1) := by decide +kernel
theorem dX2_findWays_97 : decode cX2_findWays 97 = .ok (.iload 4, 2) := by decide +kernel
theorem dX2_findWays_99 : decode cX2_findWays 99 = .ok (.aload 5, 2) := by decide +kernel
theorem dX2_findWays_101 : decode cX2_findWays 101 = .ok (.iload_n 2, 1) := by decide +kernel
theorem dX2_findWays_102 : decode cX2_findWays 102 = .ok (.invokevirtual 128, 3) := by decide +kernel
theorem dX2_findWays_105 : decode cX2_findWays 105 = .ok (.invokevirtual 131, 3) := by decide +kernel
theorem dX2_findWays_108 : decode cX2_findWays 108 = .ok (.aload_n 0, 1) := by decide +kernel
theorem dX2_findWays_109 : decode cX2_findWays 109 = .ok (.getfield 12, 3) := by decide +kernel
theorem dX2_findWays_112 : decode cX2_findWays 112 = .ok (.iload 4, 2) := by decide +kernel
theorem dX2_findWays_114 : decode cX2_findWays 114 = .ok (.iload_n 3, 1) := by decide +kernel
theorem dX2_findWays_115 : decode cX2_findWays 115 = .ok (.aload 6, 2) := by decide +kernel
theorem dX2_findWays_117 : decode cX2_findWays 117 = .ok (.iload_n 2, 1) := by decide +kernel
theorem dX2_findWays_118 : decode cX2_findWays 118 = .ok (.invokevirtual 128, 3) := by decide +kernel
theorem dX2_findWays_121 : decode cX2_findWays 121 = .ok (.invokevirtual 131, 3) := by decide +kernel
theorem dX2_findWays_124 : decode cX2_findWays 124 = .ok (.iinc 2 1, 3) := by decide +kernel
theorem dX2_findWays_127 : decode cX2_findWays 127 = .ok (.goto (-118), 3) := by decide +kernel
theorem dX2_findWays_130 : decode cX2_findWays 130 = .ok (.aload_n 0, 1) := by decide +kernel
theorem dX2_findWays_131 : decode cX2_findWays 131 = .ok (.getfield 12, 3) := by decide +kernel
theorem dX2_findWays_134 : decode cX2_findWays 134 = .ok (.iload_n 1, 1) := by decide +kernel
theorem dX2_findWays_135 : decode cX2_findWays 135 = .ok (.aload_n 0, 1) := by decide +kernel
theorem dX2_findWays_136 : decode cX2_findWays 136 = .ok (.getfield 24, 3) := by decide +kernel
theorem dX2_findWays_139 : decode cX2_findWays 139 = .ok (.iload_n 1, 1) := by decide +kernel
theorem dX2_findWays_140 : decode cX2_findWays 140 = .ok (.aaload, 1) := by decide +kernel
theorem dX2_findWays_141 : decode cX2_findWays 141 = .ok (.invokevirtual 135, 3) := by decide +kernel
theorem dX2_findWays_144 : decode cX2_findWays 144 = .ok (.aload_n 0, 1) := by decide +kernel
theorem dX2_findWays_145 : decode cX2_findWays 145 = .ok (.getfield 27, 3) := by decide +kernel
theorem dX2_findWays_148 : decode cX2_findWays 148 = .ok (.iload_n 1, 1) := by decide +kernel
theorem dX2_findWays_149 : decode cX2_findWays 149 = .ok (.iconst 1, 1) := by decide +kernel
theorem dX2_findWays_150 : decode cX2_findWays 150 = .ok (.bastore, 1) := by decide +kernel
theorem dX2_findWays_151 : decode cX2_findWays 151 = .ok (.return_, 1) := by decide +kernel
theorem dX2_forgetWays_0 : decode cX2_forgetWays 0 = .ok (.iconst 0, 1) := by decide +kernel
theorem dX2_forgetWays_1 : decode cX2_forgetWays 1 = .ok (.istore_n 1, 1) := by decide +kernel
theorem dX2_forgetWays_2 : decode cX2_forgetWays 2 = .ok (.iload_n 1, 1) := by decide +kernel
theorem dX2_forgetWays_3 : decode cX2_forgetWays 3 = .ok (.bipush 10, 2) := by decide +kernel
theorem dX2_forgetWays_5 : decode cX2_forgetWays 5 = .ok (.if_icmp .ge 16, 3) := by decide +kernel
theorem dX2_forgetWays_8 : decode cX2_forgetWays 8 = .ok (.aload_n 0, 1) := by decide +kernel
theorem dX2_forgetWays_9 : decode cX2_forgetWays 9 = .ok (.getfield 27, 3) := by decide +kernel
theorem dX2_forgetWays_12 : decode cX2_forgetWays 12 = .ok (.iload_n 1, 1) := by decide +kernel
theorem dX2_forgetWays_13 : decode cX2_forgetWays 13 = .ok (.iconst 0, 1) := by decide +kernel
theorem dX2_forgetWays_14 : decode cX2_forgetWays 14 = .ok (.bastore, 1) := by decide +kernel
theorem dX2_forgetWays_15 : decode cX2_forgetWays 15 = .ok (.iinc 1 1, 3) := by decide +kernel
theorem dX2_forgetWays_18 : decode cX2_forgetWays 18 = .ok (.goto (-16), 3) := by decide +kernel
theorem dX2_forgetWays_21 : decode cX2_forgetWays 21 = .ok (.return_, 1) := by decide +kernel
set_option maxRecDepth 20000 in
theorem ggX2_knownHuts_X1_huts : GoodIn wsX2_knownHuts wsX1_huts := goodIn_r _ [7, 8, 76, 77, 78, 79, 80, 81, 82] (by decide +kernel) (by decide +kernel)
set_option maxRecDepth 20000 in
theorem gX2_knownHuts_X1_huts : GoodIn wsX2_knownHuts (wsV RX2 59 RX1 yX1_huts wsX1_huts) := goodIn_app (goodIn_of _ (by decide +kernel)) ggX2_knownHuts_X1_huts
set_option maxRecDepth 20000 in
theorem ggX2_knownHuts_X2_knownWay : GoodIn wsX2_knownHuts wsX2_knownWay := goodIn_r _ [13, 14, 15, 16, 17, 18, 12, 19, 20, 1, 21, 22, 23, 24, 25, 26, 27, 28, 29, 30, 6, 31, 32, 33, 34, 35, 36, 37, 38, 39, 40, 41, 42, 43, 44, 45, 46, 47, 48, 49, 50, 51, 52, 53, 54, 55, 56, 57, 58, 59, 60, 61, 62, 63, 64, 65, 66, 67, 68, 69, 70, 71, 72, 73, 74, 75, 83, 84, 85, 86, 76, 77, 78, 79, 80, 81, 82, 87, 88, 89] (by decide +kernel) (by decide +kernel)
set_option maxRecDepth 20000 in
theorem gX2_knownHuts_X2_knownWay : GoodIn wsX2_knownHuts (wsV RX2 139 RX2 yX2_knownWay wsX2_knownWay) := goodIn_app (goodIn_of _ (by decide +kernel)) ggX2_knownHuts_X2_knownWay
theorem dX2_knownHuts_0 : decode cX2_knownHuts 0 = .ok (.iconst 0, 1) := by decide +kernel
theorem dX2_knownHuts_1 : decode cX2_knownHuts 1 = .ok (.istore_n 2, 1) := by decide +kernel
theorem dX2_knownHuts_2 : decode cX2_knownHuts 2 = .ok (.iconst 0, 1) := by decide +kernel
theorem dX2_knownHuts_3 : decode cX2_knownHuts 3 = .ok (.istore_n 3, 1) := by decide +kernel
theorem dX2_knownHuts_4 : decode cX2_knownHuts 4 = .ok (.iload_n 3, 1) := by decide +kernel
theorem dX2_knownHuts_5 : decode cX2_knownHuts 5 = .ok (.aload_n 0, 1) := by decide +kernel
theorem dX2_knownHuts_6 : decode cX2_knownHuts 6 = .ok (.getfield 40, 3) := by decide +kernel
theorem dX2_knownHuts_9 : decode cX2_knownHuts 9 = .ok (.invokevirtual 59, 3) := by decide +kernel
theorem dX2_knownHuts_12 : decode cX2_knownHuts 12 = .ok (.if_icmp .ge 23, 3) := by decide +kernel
theorem dX2_knownHuts_15 : decode cX2_knownHuts 15 = .ok (.aload_n 0, 1) := by decide +kernel
theorem dX2_knownHuts_16 : decode cX2_knownHuts 16 = .ok (.iload_n 1, 1) := by decide +kernel
theorem dX2_knownHuts_17 : decode cX2_knownHuts 17 = .ok (.iload_n 3, 1) := by decide +kernel
theorem dX2_knownHuts_18 : decode cX2_knownHuts 18 = .ok (.invokevirtual 139, 3) := by decide +kernel
theorem dX2_knownHuts_21 : decode cX2_knownHuts 21 = .ok (.ldc 142, 2) := by decide +kernel
theorem dX2_knownHuts_23 : decode cX2_knownHuts 23 = .ok (.if_icmp .eq 6, 3) := by decide +kernel
theorem dX2_knownHuts_26 : decode cX2_knownHuts 26 = .ok (.iinc 2 1, 3) := by decide +kernel
theorem dX2_knownHuts_29 : decode cX2_knownHuts 29 = .ok (.iinc 3 1, 3) := by decide +kernel
theorem dX2_knownHuts_32 : decode cX2_knownHuts 32 = .ok (.goto (-28), 3) := by decide +kernel
theorem dX2_knownHuts_35 : decode cX2_knownHuts 35 = .ok (.iload_n 2, 1) := by decide +kernel
theorem dX2_knownHuts_36 : decode cX2_knownHuts 36 = .ok (.ireturn, 1) := by decide +kernel
set_option maxRecDepth 20000 in
theorem ggX2_letter_X2_knownWay : GoodIn wsX2_letter wsX2_knownWay := goodIn_r _ [7, 8, 9, 10, 11, 12, 6, 13, 14, 2, 15, 16, 17, 18, 19, 20, 21, 22, 23, 24, 25, 26, 27, 28, 29, 30, 31, 32, 33, 34, 35, 36, 37, 38, 39, 40, 41, 42, 43, 44, 45, 46, 47, 48, 49, 50, 51, 52, 53, 54, 55, 56, 57, 58, 59, 60, 61, 62, 68, 69, 70, 71, 72, 73, 74, 75, 76, 77, 78, 79, 80, 81, 82, 83, 84, 85, 86, 87, 88, 89] (by decide +kernel) (by decide +kernel)
set_option maxRecDepth 20000 in
theorem gX2_letter_X2_knownWay : GoodIn wsX2_letter (wsV RX2 139 RX2 yX2_knownWay wsX2_knownWay) := goodIn_app (goodIn_of _ (by decide +kernel)) ggX2_letter_X2_knownWay
set_option maxRecDepth 20000 in
theorem ggX2_letter_X1_isStep : GoodIn wsX2_letter wsX1_isStep := goodIn_r _ [66, 27, 32, 37, 67, 80, 81, 82, 83, 84, 85, 86] (by decide +kernel) (by decide +kernel)
set_option maxRecDepth 20000 in
theorem gX2_letter_X1_isStep : GoodIn wsX2_letter (wsV RX2 143 RX1 yX1_isStep wsX1_isStep) := goodIn_app (goodIn_of _ (by decide +kernel)) ggX2_letter_X1_isStep
theorem dX2_letter_0 : decode cX2_letter 0 = .ok (.iload_n 1, 1) := by decide +kernel
theorem dX2_letter_1 : decode cX2_letter 1 = .ok (.istore_n 3, 1) := by decide +kernel
theorem dX2_letter_2 : decode cX2_letter 2 = .ok (.iconst 0, 1) := by decide +kernel
theorem dX2_letter_3 : decode cX2_letter 3 = .ok (.istore 4, 2) := by decide +kernel
theorem dX2_letter_5 : decode cX2_letter 5 = .ok (.iload 4, 2) := by decide +kernel
theorem dX2_letter_7 : decode cX2_letter 7 = .ok (.bipush 20, 2) := by decide +kernel
theorem dX2_letter_9 : decode cX2_letter 9 = .ok (.if_icmp .gt 56, 3) := by decide +kernel
theorem dX2_letter_12 : decode cX2_letter 12 = .ok (.iload_n 3, 1) := by decide +kernel
theorem dX2_letter_13 : decode cX2_letter 13 = .ok (.iload_n 2, 1) := by decide +kernel
theorem dX2_letter_14 : decode cX2_letter 14 = .ok (.if_icmp .ne 6, 3) := by decide +kernel
theorem dX2_letter_17 : decode cX2_letter 17 = .ok (.iload 4, 2) := by decide +kernel
theorem dX2_letter_19 : decode cX2_letter 19 = .ok (.ireturn, 1) := by decide +kernel
theorem dX2_letter_20 : decode cX2_letter 20 = .ok (.aload_n 0, 1) := by decide +kernel
theorem dX2_letter_21 : decode cX2_letter 21 = .ok (.iload_n 3, 1) := by decide +kernel
theorem dX2_letter_22 : decode cX2_letter 22 = .ok (.iload_n 2, 1) := by decide +kernel
theorem dX2_letter_23 : decode cX2_letter 23 = .ok (.invokevirtual 139, 3) := by decide +kernel
theorem dX2_letter_26 : decode cX2_letter 26 = .ok (.istore 5, 2) := by decide +kernel
theorem dX2_letter_28 : decode cX2_letter 28 = .ok (.iload 5, 2) := by decide +kernel
theorem dX2_letter_30 : decode cX2_letter 30 = .ok (.ldc 142, 2) := by decide +kernel
theorem dX2_letter_32 : decode cX2_letter 32 = .ok (.if_icmp .eq 19, 3) := by decide +kernel
theorem dX2_letter_35 : decode cX2_letter 35 = .ok (.aload_n 0, 1) := by decide +kernel
theorem dX2_letter_36 : decode cX2_letter 36 = .ok (.getfield 40, 3) := by decide +kernel
theorem dX2_letter_39 : decode cX2_letter 39 = .ok (.iload_n 3, 1) := by decide +kernel
theorem dX2_letter_40 : decode cX2_letter 40 = .ok (.iload 5, 2) := by decide +kernel
theorem dX2_letter_42 : decode cX2_letter 42 = .ok (.bipush 16, 2) := by decide +kernel
theorem dX2_letter_44 : decode cX2_letter 44 = .ok (.irem, 1) := by decide +kernel
theorem dX2_letter_45 : decode cX2_letter 45 = .ok (.invokevirtual 143, 3) := by decide +kernel
theorem dX2_letter_48 : decode cX2_letter 48 = .ok (.ifCond .ne 5, 3) := by decide +kernel
theorem dX2_letter_51 : decode cX2_letter 51 = .ok (.iconst (-1), 1) := by decide +kernel
theorem dX2_letter_52 : decode cX2_letter 52 = .ok (.ireturn, 1) := by decide +kernel
theorem dX2_letter_53 : decode cX2_letter 53 = .ok (.iload 5, 2) := by decide +kernel
theorem dX2_letter_55 : decode cX2_letter 55 = .ok (.bipush 16, 2) := by decide +kernel
theorem dX2_letter_57 : decode cX2_letter 57 = .ok (.irem, 1) := by decide +kernel
theorem dX2_letter_58 : decode cX2_letter 58 = .ok (.istore_n 3, 1) := by decide +kernel
theorem dX2_letter_59 : decode cX2_letter 59 = .ok (.iinc 4 1, 3) := by decide +kernel
theorem dX2_letter_62 : decode cX2_letter 62 = .ok (.goto (-57), 3) := by decide +kernel
theorem dX2_letter_65 : decode cX2_letter 65 = .ok (.iconst (-1), 1) := by decide +kernel
theorem dX2_letter_66 : decode cX2_letter 66 = .ok (.ireturn, 1) := by decide +kernel
set_option maxRecDepth 20000 in
theorem ggX2_reachedHuts_X1_huts : GoodIn wsX2_reachedHuts wsX1_huts := goodIn_r _ [6, 7, 85, 86, 87, 88, 89, 90, 91] (by decide +kernel) (by decide +kernel)
set_option maxRecDepth 20000 in
theorem gX2_reachedHuts_X1_huts : GoodIn wsX2_reachedHuts (wsV RX2 59 RX1 yX1_huts wsX1_huts) := goodIn_app (goodIn_of _ (by decide +kernel)) ggX2_reachedHuts_X1_huts
set_option maxRecDepth 20000 in
theorem ggX2_reachedHuts_X2_letter : GoodIn wsX2_reachedHuts wsX2_letter := goodIn_r _ [12, 13, 1, 14, 15, 16, 11, 17, 18, 19, 20, 21, 22, 23, 24, 25, 26, 27, 28, 29, 30, 31, 32, 33, 34, 5, 35, 36, 37, 38, 39, 40, 41, 42, 43, 44, 45, 46, 47, 48, 49, 50, 51, 52, 53, 54, 55, 56, 57, 58, 59, 60, 61, 62, 63, 64, 65, 66, 67, 68, 69, 70, 71, 72, 73, 74, 75, 76, 77, 78, 79, 80, 81, 82, 83, 84, 92, 93, 94, 95, 85, 86, 87, 88, 89, 90, 91, 96, 97, 98] (by decide +kernel) (by decide +kernel)
set_option maxRecDepth 20000 in
theorem gX2_reachedHuts_X2_letter : GoodIn wsX2_reachedHuts (wsV RX2 146 RX2 yX2_letter wsX2_letter) := goodIn_app (goodIn_of _ (by decide +kernel)) ggX2_reachedHuts_X2_letter
theorem dX2_reachedHuts_0 : decode cX2_reachedHuts 0 = .ok (.iconst 0, 1) := by decide +kernel
theorem dX2_reachedHuts_1 : decode cX2_reachedHuts 1 = .ok (.istore_n 2, 1) := by decide +kernel
theorem dX2_reachedHuts_2 : decode cX2_reachedHuts 2 = .ok (.iconst 0, 1) := by decide +kernel
theorem dX2_reachedHuts_3 : decode cX2_reachedHuts 3 = .ok (.istore_n 3, 1) := by decide +kernel
theorem dX2_reachedHuts_4 : decode cX2_reachedHuts 4 = .ok (.iload_n 3, 1) := by decide +kernel
theorem dX2_reachedHuts_5 : decode cX2_reachedHuts 5 = .ok (.aload_n 0, 1) := by decide +kernel
theorem dX2_reachedHuts_6 : decode cX2_reachedHuts 6 = .ok (.getfield 40, 3) := by decide +kernel
theorem dX2_reachedHuts_9 : decode cX2_reachedHuts 9 = .ok (.invokevirtual 59, 3) := by decide +kernel
theorem dX2_reachedHuts_12 : decode cX2_reachedHuts 12 = .ok (.if_icmp .ge 21, 3) := by decide +kernel
theorem dX2_reachedHuts_15 : decode cX2_reachedHuts 15 = .ok (.aload_n 0, 1) := by decide +kernel
theorem dX2_reachedHuts_16 : decode cX2_reachedHuts 16 = .ok (.iload_n 1, 1) := by decide +kernel
theorem dX2_reachedHuts_17 : decode cX2_reachedHuts 17 = .ok (.iload_n 3, 1) := by decide +kernel
theorem dX2_reachedHuts_18 : decode cX2_reachedHuts 18 = .ok (.invokevirtual 146, 3) := by decide +kernel
theorem dX2_reachedHuts_21 : decode cX2_reachedHuts 21 = .ok (.ifCond .lt 6, 3) := by decide +kernel
theorem dX2_reachedHuts_24 : decode cX2_reachedHuts 24 = .ok (.iinc 2 1, 3) := by decide +kernel
theorem dX2_reachedHuts_27 : decode cX2_reachedHuts 27 = .ok (.iinc 3 1, 3) := by decide +kernel
theorem dX2_reachedHuts_30 : decode cX2_reachedHuts 30 = .ok (.goto (-26), 3) := by decide +kernel
theorem dX2_reachedHuts_33 : decode cX2_reachedHuts 33 = .ok (.iload_n 2, 1) := by decide +kernel
theorem dX2_reachedHuts_34 : decode cX2_reachedHuts 34 = .ok (.ireturn, 1) := by decide +kernel
set_option maxRecDepth 20000 in
theorem ggX2_reachedPairs_X1_huts : GoodIn wsX2_reachedPairs wsX1_huts := goodIn_r _ [6, 7, 85, 86, 87, 88, 89, 90, 91] (by decide +kernel) (by decide +kernel)
set_option maxRecDepth 20000 in
theorem gX2_reachedPairs_X1_huts : GoodIn wsX2_reachedPairs (wsV RX2 59 RX1 yX1_huts wsX1_huts) := goodIn_app (goodIn_of _ (by decide +kernel)) ggX2_reachedPairs_X1_huts
set_option maxRecDepth 20000 in
theorem ggX2_reachedPairs_X2_letter : GoodIn wsX2_reachedPairs wsX2_letter := goodIn_r _ [12, 13, 1, 14, 15, 16, 11, 17, 18, 19, 20, 21, 22, 23, 24, 25, 26, 27, 28, 29, 30, 31, 32, 33, 34, 5, 35, 36, 37, 38, 39, 40, 41, 42, 43, 44, 45, 46, 47, 48, 49, 50, 51, 52, 53, 54, 55, 56, 57, 58, 59, 60, 61, 62, 63, 64, 65, 66, 67, 68, 69, 70, 71, 72, 73, 74, 75, 76, 77, 78, 79, 80, 81, 82, 83, 84, 92, 93, 94, 95, 85, 86, 87, 88, 89, 90, 91, 96, 97, 98] (by decide +kernel) (by decide +kernel)
set_option maxRecDepth 20000 in
theorem gX2_reachedPairs_X2_letter : GoodIn wsX2_reachedPairs (wsV RX2 146 RX2 yX2_letter wsX2_letter) := goodIn_app (goodIn_of _ (by decide +kernel)) ggX2_reachedPairs_X2_letter
theorem dX2_reachedPairs_0 : decode cX2_reachedPairs 0 = .ok (.iconst 0, 1) := by decide +kernel
theorem dX2_reachedPairs_1 : decode cX2_reachedPairs 1 = .ok (.istore_n 1, 1) := by decide +kernel
theorem dX2_reachedPairs_2 : decode cX2_reachedPairs 2 = .ok (.iconst 0, 1) := by decide +kernel
theorem dX2_reachedPairs_3 : decode cX2_reachedPairs 3 = .ok (.istore_n 2, 1) := by decide +kernel
theorem dX2_reachedPairs_4 : decode cX2_reachedPairs 4 = .ok (.iload_n 2, 1) := by decide +kernel
theorem dX2_reachedPairs_5 : decode cX2_reachedPairs 5 = .ok (.aload_n 0, 1) := by decide +kernel
theorem dX2_reachedPairs_6 : decode cX2_reachedPairs 6 = .ok (.getfield 40, 3) := by decide +kernel
theorem dX2_reachedPairs_9 : decode cX2_reachedPairs 9 = .ok (.invokevirtual 59, 3) := by decide +kernel
theorem dX2_reachedPairs_12 : decode cX2_reachedPairs 12 = .ok (.if_icmp .ge 45, 3) := by decide +kernel
theorem dX2_reachedPairs_15 : decode cX2_reachedPairs 15 = .ok (.iconst 0, 1) := by decide +kernel
theorem dX2_reachedPairs_16 : decode cX2_reachedPairs 16 = .ok (.istore_n 3, 1) := by decide +kernel
theorem dX2_reachedPairs_17 : decode cX2_reachedPairs 17 = .ok (.iload_n 3, 1) := by decide +kernel
theorem dX2_reachedPairs_18 : decode cX2_reachedPairs 18 = .ok (.aload_n 0, 1) := by decide +kernel
theorem dX2_reachedPairs_19 : decode cX2_reachedPairs 19 = .ok (.getfield 40, 3) := by decide +kernel
theorem dX2_reachedPairs_22 : decode cX2_reachedPairs 22 = .ok (.invokevirtual 59, 3) := by decide +kernel
theorem dX2_reachedPairs_25 : decode cX2_reachedPairs 25 = .ok (.if_icmp .ge 26, 3) := by decide +kernel
theorem dX2_reachedPairs_28 : decode cX2_reachedPairs 28 = .ok (.iload_n 2, 1) := by decide +kernel
theorem dX2_reachedPairs_29 : decode cX2_reachedPairs 29 = .ok (.iload_n 3, 1) := by decide +kernel
theorem dX2_reachedPairs_30 : decode cX2_reachedPairs 30 = .ok (.if_icmp .eq 15, 3) := by decide +kernel
theorem dX2_reachedPairs_33 : decode cX2_reachedPairs 33 = .ok (.aload_n 0, 1) := by decide +kernel
theorem dX2_reachedPairs_34 : decode cX2_reachedPairs 34 = .ok (.iload_n 2, 1) := by decide +kernel
theorem dX2_reachedPairs_35 : decode cX2_reachedPairs 35 = .ok (.iload_n 3, 1) := by decide +kernel
theorem dX2_reachedPairs_36 : decode cX2_reachedPairs 36 = .ok (.invokevirtual 146, 3) := by decide +kernel
theorem dX2_reachedPairs_39 : decode cX2_reachedPairs 39 = .ok (.ifCond .lt 6, 3) := by decide +kernel
theorem dX2_reachedPairs_42 : decode cX2_reachedPairs 42 = .ok (.iinc 1 1, 3) := by decide +kernel
theorem dX2_reachedPairs_45 : decode cX2_reachedPairs 45 = .ok (.iinc 3 1, 3) := by decide +kernel
theorem dX2_reachedPairs_48 : decode cX2_reachedPairs 48 = .ok (.goto (-31), 3) := by decide +kernel
theorem dX2_reachedPairs_51 : decode cX2_reachedPairs 51 = .ok (.iinc 2 1, 3) := by decide +kernel
theorem dX2_reachedPairs_54 : decode cX2_reachedPairs 54 = .ok (.goto (-50), 3) := by decide +kernel
theorem dX2_reachedPairs_57 : decode cX2_reachedPairs 57 = .ok (.iload_n 1, 1) := by decide +kernel
theorem dX2_reachedPairs_58 : decode cX2_reachedPairs 58 = .ok (.ireturn, 1) := by decide +kernel
theorem dX2_slot_0 : decode cX2_slot 0 = .ok (.iload_n 0, 1) := by decide +kernel
theorem dX2_slot_1 : decode cX2_slot 1 = .ok (.bipush 10, 2) := by decide +kernel
theorem dX2_slot_3 : decode cX2_slot 3 = .ok (.imul, 1) := by decide +kernel
theorem dX2_slot_4 : decode cX2_slot 4 = .ok (.iload_n 1, 1) := by decide +kernel
theorem dX2_slot_5 : decode cX2_slot 5 = .ok (.iadd, 1) := by decide +kernel
theorem dX2_slot_6 : decode cX2_slot 6 = .ok (.ireturn, 1) := by decide +kernel
set_option maxRecDepth 20000 in
theorem ggX3_init_X1_passes : GoodIn wsX3_init wsX1_passes := goodIn_r _ [12, 13, 25, 26, 27, 28, 29, 30, 31] (by decide +kernel) (by decide +kernel)
set_option maxRecDepth 20000 in
theorem gX3_init_X1_passes : GoodIn wsX3_init (wsV RX3 22 RX1 yX1_passes wsX1_passes) := goodIn_app (goodIn_of _ (by decide +kernel)) ggX3_init_X1_passes
set_option maxRecDepth 20000 in
theorem ggX3_init_X1_tellsNow : GoodIn wsX3_init wsX1_tellsNow := goodIn_r _ [17, 18, 19, 20, 21, 25, 26, 27, 28, 29, 30, 31] (by decide +kernel) (by decide +kernel)
set_option maxRecDepth 20000 in
theorem gX3_init_X1_tellsNow : GoodIn wsX3_init (wsV RX3 28 RX1 yX1_tellsNow wsX1_tellsNow) := goodIn_app (goodIn_of _ (by decide +kernel)) ggX3_init_X1_tellsNow
theorem dX3_init_0 : decode cX3_init 0 = .ok (.aload_n 0, 1) := by decide +kernel
theorem dX3_init_1 : decode cX3_init 1 = .ok (.invokespecial 3, 3) := by decide +kernel
theorem dX3_init_4 : decode cX3_init 4 = .ok (.aload_n 0, 1) := by decide +kernel
theorem dX3_init_5 : decode cX3_init 5 = .ok (.bipush 20, 2) := by decide +kernel
theorem dX3_init_7 : decode cX3_init 7 = .ok (.newarray .int, 2) := by decide +kernel
theorem dX3_init_9 : decode cX3_init 9 = .ok (.putfield 9, 3) := by decide +kernel
theorem dX3_init_12 : decode cX3_init 12 = .ok (.aload_n 0, 1) := by decide +kernel
theorem dX3_init_13 : decode cX3_init 13 = .ok (.iload_n 1, 1) := by decide +kernel
theorem dX3_init_14 : decode cX3_init 14 = .ok (.putfield 15, 3) := by decide +kernel
theorem dX3_init_17 : decode cX3_init 17 = .ok (.aload_n 0, 1) := by decide +kernel
theorem dX3_init_18 : decode cX3_init 18 = .ok (.iload_n 2, 1) := by decide +kernel
theorem dX3_init_19 : decode cX3_init 19 = .ok (.putfield 19, 3) := by decide +kernel
theorem dX3_init_22 : decode cX3_init 22 = .ok (.iconst 0, 1) := by decide +kernel
theorem dX3_init_23 : decode cX3_init 23 = .ok (.istore 5, 2) := by decide +kernel
theorem dX3_init_25 : decode cX3_init 25 = .ok (.iload 5, 2) := by decide +kernel
theorem dX3_init_27 : decode cX3_init 27 = .ok (.aload_n 3, 1) := by decide +kernel
theorem dX3_init_28 : decode cX3_init 28 = .ok (.invokevirtual 22, 3) := by decide +kernel
theorem dX3_init_31 : decode cX3_init 31 = .ok (.if_icmp .ge 24, 3) := by decide +kernel
theorem dX3_init_34 : decode cX3_init 34 = .ok (.aload_n 0, 1) := by decide +kernel
theorem dX3_init_35 : decode cX3_init 35 = .ok (.getfield 9, 3) := by decide +kernel
theorem dX3_init_38 : decode cX3_init 38 = .ok (.iload 5, 2) := by decide +kernel
theorem dX3_init_40 : decode cX3_init 40 = .ok (.aload_n 3, 1) := by decide +kernel
theorem dX3_init_41 : decode cX3_init 41 = .ok (.iload 4, 2) := by decide +kernel
theorem dX3_init_43 : decode cX3_init 43 = .ok (.iload 5, 2) := by decide +kernel
theorem dX3_init_45 : decode cX3_init 45 = .ok (.invokevirtual 28, 3) := by decide +kernel
theorem dX3_init_48 : decode cX3_init 48 = .ok (.iastore, 1) := by decide +kernel
theorem dX3_init_49 : decode cX3_init 49 = .ok (.iinc 5 1, 3) := by decide +kernel
theorem dX3_init_52 : decode cX3_init 52 = .ok (.goto (-27), 3) := by decide +kernel
theorem dX3_init_55 : decode cX3_init 55 = .ok (.return_, 1) := by decide +kernel
theorem dX3_number_0 : decode cX3_number 0 = .ok (.aload_n 0, 1) := by decide +kernel
theorem dX3_number_1 : decode cX3_number 1 = .ok (.getfield 15, 3) := by decide +kernel
theorem dX3_number_4 : decode cX3_number 4 = .ok (.ireturn, 1) := by decide +kernel
theorem dX3_age_0 : decode cX3_age 0 = .ok (.iload_n 1, 1) := by decide +kernel
theorem dX3_age_1 : decode cX3_age 1 = .ok (.aload_n 0, 1) := by decide +kernel
theorem dX3_age_2 : decode cX3_age 2 = .ok (.getfield 19, 3) := by decide +kernel
theorem dX3_age_5 : decode cX3_age 5 = .ok (.isub, 1) := by decide +kernel
theorem dX3_age_6 : decode cX3_age 6 = .ok (.ireturn, 1) := by decide +kernel
theorem dX3_length_0 : decode cX3_length 0 = .ok (.aload_n 0, 1) := by decide +kernel
theorem dX3_length_1 : decode cX3_length 1 = .ok (.getfield 9, 3) := by decide +kernel
theorem dX3_length_4 : decode cX3_length 4 = .ok (.iload_n 1, 1) := by decide +kernel
theorem dX3_length_5 : decode cX3_length 5 = .ok (.iaload, 1) := by decide +kernel
theorem dX3_length_6 : decode cX3_length 6 = .ok (.ireturn, 1) := by decide +kernel
theorem dX3_tells_0 : decode cX3_tells 0 = .ok (.aload_n 0, 1) := by decide +kernel
theorem dX3_tells_1 : decode cX3_tells 1 = .ok (.getfield 9, 3) := by decide +kernel
theorem dX3_tells_4 : decode cX3_tells 4 = .ok (.iload_n 1, 1) := by decide +kernel
theorem dX3_tells_5 : decode cX3_tells 5 = .ok (.iaload, 1) := by decide +kernel
theorem dX3_tells_6 : decode cX3_tells 6 = .ok (.ifCond .le 7, 3) := by decide +kernel
theorem dX3_tells_9 : decode cX3_tells 9 = .ok (.iconst 1, 1) := by decide +kernel
theorem dX3_tells_10 : decode cX3_tells 10 = .ok (.goto 4, 3) := by decide +kernel
theorem dX3_tells_13 : decode cX3_tells 13 = .ok (.iconst 0, 1) := by decide +kernel
theorem dX3_tells_14 : decode cX3_tells 14 = .ok (.ireturn, 1) := by decide +kernel
set_option maxRecDepth 20000 in
theorem ggX3_passesTold_X3_tells : GoodIn wsX3_passesTold wsX3_tells := goodIn_r _ [6, 1, 7, 8, 9] (by decide +kernel) (by decide +kernel)
set_option maxRecDepth 20000 in
theorem gX3_passesTold_X3_tells : GoodIn wsX3_passesTold (wsV RX3 32 RX3 yX3_tells wsX3_tells) := goodIn_app (goodIn_of _ (by decide +kernel)) ggX3_passesTold_X3_tells
theorem dX3_passesTold_0 : decode cX3_passesTold 0 = .ok (.iconst 0, 1) := by decide +kernel
theorem dX3_passesTold_1 : decode cX3_passesTold 1 = .ok (.istore_n 1, 1) := by decide +kernel
theorem dX3_passesTold_2 : decode cX3_passesTold 2 = .ok (.iconst 0, 1) := by decide +kernel
theorem dX3_passesTold_3 : decode cX3_passesTold 3 = .ok (.istore_n 2, 1) := by decide +kernel
theorem dX3_passesTold_4 : decode cX3_passesTold 4 = .ok (.iload_n 2, 1) := by decide +kernel
theorem dX3_passesTold_5 : decode cX3_passesTold 5 = .ok (.aload_n 0, 1) := by decide +kernel
theorem dX3_passesTold_6 : decode cX3_passesTold 6 = .ok (.getfield 9, 3) := by decide +kernel
theorem dX3_passesTold_9 : decode cX3_passesTold 9 = .ok (.arraylength, 1) := by decide +kernel
theorem dX3_passesTold_10 : decode cX3_passesTold 10 = .ok (.if_icmp .ge 20, 3) := by decide +kernel
theorem dX3_passesTold_13 : decode cX3_passesTold 13 = .ok (.aload_n 0, 1) := by decide +kernel
theorem dX3_passesTold_14 : decode cX3_passesTold 14 = .ok (.iload_n 2, 1) := by decide +kernel
theorem dX3_passesTold_15 : decode cX3_passesTold 15 = .ok (.invokevirtual 32, 3) := by decide +kernel
theorem dX3_passesTold_18 : decode cX3_passesTold 18 = .ok (.ifCond .eq 6, 3) := by decide +kernel
theorem dX3_passesTold_21 : decode cX3_passesTold 21 = .ok (.iinc 1 1, 3) := by decide +kernel
theorem dX3_passesTold_24 : decode cX3_passesTold 24 = .ok (.iinc 2 1, 3) := by decide +kernel
theorem dX3_passesTold_27 : decode cX3_passesTold 27 = .ok (.goto (-23), 3) := by decide +kernel
theorem dX3_passesTold_30 : decode cX3_passesTold 30 = .ok (.iload_n 1, 1) := by decide +kernel
theorem dX3_passesTold_31 : decode cX3_passesTold 31 = .ok (.ireturn, 1) := by decide +kernel
set_option maxRecDepth 20000 in
theorem ggX3_tellsAsNow_X1_passes : GoodIn wsX3_tellsAsNow wsX1_passes := goodIn_r _ [6, 7, 19, 20, 21, 22, 23, 24, 25] (by decide +kernel) (by decide +kernel)
set_option maxRecDepth 20000 in
theorem gX3_tellsAsNow_X1_passes : GoodIn wsX3_tellsAsNow (wsV RX3 22 RX1 yX1_passes wsX1_passes) := goodIn_app (goodIn_of _ (by decide +kernel)) ggX3_tellsAsNow_X1_passes
set_option maxRecDepth 20000 in
theorem ggX3_tellsAsNow_X1_tellsNow : GoodIn wsX3_tellsAsNow wsX1_tellsNow := goodIn_r _ [11, 12, 13, 14, 15, 19, 20, 21, 22, 23, 24, 25] (by decide +kernel) (by decide +kernel)
set_option maxRecDepth 20000 in
theorem gX3_tellsAsNow_X1_tellsNow : GoodIn wsX3_tellsAsNow (wsV RX3 28 RX1 yX1_tellsNow wsX1_tellsNow) := goodIn_app (goodIn_of _ (by decide +kernel)) ggX3_tellsAsNow_X1_tellsNow
theorem dX3_tellsAsNow_0 : decode cX3_tellsAsNow 0 = .ok (.iconst 0, 1) := by decide +kernel
theorem dX3_tellsAsNow_1 : decode cX3_tellsAsNow 1 = .ok (.istore_n 3, 1) := by decide +kernel
theorem dX3_tellsAsNow_2 : decode cX3_tellsAsNow 2 = .ok (.iload_n 3, 1) := by decide +kernel
theorem dX3_tellsAsNow_3 : decode cX3_tellsAsNow 3 = .ok (.aload_n 1, 1) := by decide +kernel
theorem dX3_tellsAsNow_4 : decode cX3_tellsAsNow 4 = .ok (.invokevirtual 22, 3) := by decide +kernel
theorem dX3_tellsAsNow_7 : decode cX3_tellsAsNow 7 = .ok (.if_icmp .ge 26, 3) := by decide +kernel
theorem dX3_tellsAsNow_10 : decode cX3_tellsAsNow 10 = .ok (.aload_n 0, 1) := by decide +kernel
theorem dX3_tellsAsNow_11 : decode cX3_tellsAsNow 11 = .ok (.getfield 9, 3) := by decide +kernel
theorem dX3_tellsAsNow_14 : decode cX3_tellsAsNow 14 = .ok (.iload_n 3, 1) := by decide +kernel
theorem dX3_tellsAsNow_15 : decode cX3_tellsAsNow 15 = .ok (.iaload, 1) := by decide +kernel
theorem dX3_tellsAsNow_16 : decode cX3_tellsAsNow 16 = .ok (.aload_n 1, 1) := by decide +kernel
theorem dX3_tellsAsNow_17 : decode cX3_tellsAsNow 17 = .ok (.iload_n 2, 1) := by decide +kernel
theorem dX3_tellsAsNow_18 : decode cX3_tellsAsNow 18 = .ok (.iload_n 3, 1) := by decide +kernel
theorem dX3_tellsAsNow_19 : decode cX3_tellsAsNow 19 = .ok (.invokevirtual 28, 3) := by decide +kernel
theorem dX3_tellsAsNow_22 : decode cX3_tellsAsNow 22 = .ok (.if_icmp .eq 5, 3) := by decide +kernel
theorem dX3_tellsAsNow_25 : decode cX3_tellsAsNow 25 = .ok (.iconst 0, 1) := by decide +kernel
theorem dX3_tellsAsNow_26 : decode cX3_tellsAsNow 26 = .ok (.ireturn, 1) := by decide +kernel
theorem dX3_tellsAsNow_27 : decode cX3_tellsAsNow 27 = .ok (.iinc 3 1, 3) := by decide +kernel
theorem dX3_tellsAsNow_30 : decode cX3_tellsAsNow 30 = .ok (.goto (-28), 3) := by decide +kernel
theorem dX3_tellsAsNow_33 : decode cX3_tellsAsNow 33 = .ok (.iconst 1, 1) := by decide +kernel
theorem dX3_tellsAsNow_34 : decode cX3_tellsAsNow 34 = .ok (.ireturn, 1) := by decide +kernel
set_option maxRecDepth 20000 in
theorem ggX4_init_X1_init : GoodIn wsX4_init wsX1_init := goodIn_r _ [20, 21, 2, 3, 17, 22, 23, 24, 25, 26, 27, 48, 49, 50, 51, 52, 53, 54] (by decide +kernel) (by decide +kernel)
set_option maxRecDepth 20000 in
theorem gX4_init_X1_init_n9 : GoodIn wsX4_init (wsX1_init) := ggX4_init_X1_init
set_option maxRecDepth 20000 in
theorem ggX4_init_X2_init : GoodIn wsX4_init wsX2_init := goodIn_r _ [30, 31, 2, 3, 32, 14, 15, 33, 17, 34, 35, 36, 26, 37, 38, 39, 40, 41, 42, 43, 44, 45, 46, 47, 68, 69, 70, 71, 60, 61, 62, 63, 64, 65, 66, 67] (by decide +kernel) (by decide +kernel)
set_option maxRecDepth 20000 in
theorem gX4_init_X2_init : GoodIn wsX4_init (wsX2_init) := ggX4_init_X2_init
set_option maxRecDepth 20000 in
theorem ggX4_init_X0_init : GoodIn wsX4_init wsX0_init := goodIn_r _ [43, 44, 2, 3, 17, 45, 46, 47, 68, 69, 70, 71] (by decide +kernel) (by decide +kernel)
set_option maxRecDepth 20000 in
theorem gX4_init_X0_init_n30 : GoodIn wsX4_init (wsX0_init) := ggX4_init_X0_init
theorem dX4_init_0 : decode cX4_init 0 = .ok (.aload_n 0, 1) := by decide +kernel
theorem dX4_init_1 : decode cX4_init 1 = .ok (.invokespecial 1, 3) := by decide +kernel
theorem dX4_init_4 : decode cX4_init 4 = .ok (.aload_n 0, 1) := by decide +kernel
theorem dX4_init_5 : decode cX4_init 5 = .ok (.new 7, 3) := by decide +kernel
theorem dX4_init_8 : decode cX4_init 8 = .ok (.dup, 1) := by decide +kernel
theorem dX4_init_9 : decode cX4_init 9 = .ok (.invokespecial 9, 3) := by decide +kernel
theorem dX4_init_12 : decode cX4_init 12 = .ok (.putfield 10, 3) := by decide +kernel
theorem dX4_init_15 : decode cX4_init 15 = .ok (.aload_n 0, 1) := by decide +kernel
theorem dX4_init_16 : decode cX4_init 16 = .ok (.new 16, 3) := by decide +kernel
theorem dX4_init_19 : decode cX4_init 19 = .ok (.dup, 1) := by decide +kernel
theorem dX4_init_20 : decode cX4_init 20 = .ok (.aload_n 0, 1) := by decide +kernel
theorem dX4_init_21 : decode cX4_init 21 = .ok (.getfield 10, 3) := by decide +kernel
theorem dX4_init_24 : decode cX4_init 24 = .ok (.invokespecial 18, 3) := by decide +kernel
theorem dX4_init_27 : decode cX4_init 27 = .ok (.putfield 21, 3) := by decide +kernel
theorem dX4_init_30 : decode cX4_init 30 = .ok (.aload_n 0, 1) := by decide +kernel
theorem dX4_init_31 : decode cX4_init 31 = .ok (.new 16, 3) := by decide +kernel
theorem dX4_init_34 : decode cX4_init 34 = .ok (.dup, 1) := by decide +kernel
theorem dX4_init_35 : decode cX4_init 35 = .ok (.aload_n 0, 1) := by decide +kernel
theorem dX4_init_36 : decode cX4_init 36 = .ok (.getfield 10, 3) := by decide +kernel
theorem dX4_init_39 : decode cX4_init 39 = .ok (.invokespecial 18, 3) := by decide +kernel
theorem dX4_init_42 : decode cX4_init 42 = .ok (.putfield 25, 3) := by decide +kernel
theorem dX4_init_45 : decode cX4_init 45 = .ok (.aload_n 0, 1) := by decide +kernel
theorem dX4_init_46 : decode cX4_init 46 = .ok (.new 28, 3) := by decide +kernel
theorem dX4_init_49 : decode cX4_init 49 = .ok (.dup, 1) := by decide +kernel
theorem dX4_init_50 : decode cX4_init 50 = .ok (.invokespecial 30, 3) := by decide +kernel
theorem dX4_init_53 : decode cX4_init 53 = .ok (.putfield 31, 3) := by decide +kernel
theorem dX4_init_56 : decode cX4_init 56 = .ok (.aload_n 0, 1) := by decide +kernel
theorem dX4_init_57 : decode cX4_init 57 = .ok (.bipush 10, 2) := by decide +kernel
theorem dX4_init_59 : decode cX4_init 59 = .ok (.newarray .int, 2) := by decide +kernel
theorem dX4_init_61 : decode cX4_init 61 = .ok (.putfield 35, 3) := by decide +kernel
theorem dX4_init_64 : decode cX4_init 64 = .ok (.return_, 1) := by decide +kernel
set_option maxRecDepth 20000 in
theorem ggX4_hut_X1_huts : GoodIn wsX4_hut wsX1_huts := goodIn_r _ [10, 11, 22, 23, 24, 25, 26, 27, 28] (by decide +kernel) (by decide +kernel)
set_option maxRecDepth 20000 in
theorem gX4_hut_X1_huts : GoodIn wsX4_hut (wsV RX4 46 RX1 yX1_huts wsX1_huts) := goodIn_app (goodIn_of _ (by decide +kernel)) ggX4_hut_X1_huts
set_option maxRecDepth 20000 in
theorem ggX4_hut_X1_addHut : GoodIn wsX4_hut wsX1_addHut := goodIn_r _ [15, 11, 16, 22, 23, 24, 25, 26, 27, 28] (by decide +kernel) (by decide +kernel)
set_option maxRecDepth 20000 in
theorem gX4_hut_X1_addHut : GoodIn wsX4_hut (wsV RX4 55 RX1 yX1_addHut wsX1_addHut) := goodIn_app (goodIn_of _ (by decide +kernel)) ggX4_hut_X1_addHut
theorem dX4_hut_0 : decode cX4_hut 0 = .ok (.iload_n 1, 1) := by decide +kernel
theorem dX4_hut_1 : decode cX4_hut 1 = .ok (.ifCond .lt 8, 3) := by decide +kernel
theorem dX4_hut_4 : decode cX4_hut 4 = .ok (.iload_n 1, 1) := by decide +kernel
theorem dX4_hut_5 : decode cX4_hut 5 = .ok (.iconst 3, 1) := by decide +kernel
theorem dX4_hut_6 : decode cX4_hut 6 = .ok (.if_icmp .le 13, 3) := by decide +kernel
theorem dX4_hut_9 : decode cX4_hut 9 = .ok (.new 39, 3) := by decide +kernel
theorem dX4_hut_12 : decode cX4_hut 12 = .ok (.dup, 1) := by decide +kernel
theorem dX4_hut_13 : decode cX4_hut 13 = .ok (.ldc 41, 2) := by decide +kernel
theorem dX4_hut_15 : decode cX4_hut 15 = .ok (.invokespecial 43, 3) := by decide +kernel
theorem dX4_hut_18 : decode cX4_hut 18 = .ok (.athrow, 1) := by decide +kernel
theorem dX4_hut_19 : decode cX4_hut 19 = .ok (.aload_n 0, 1) := by decide +kernel
theorem dX4_hut_20 : decode cX4_hut 20 = .ok (.getfield 10, 3) := by decide +kernel
theorem dX4_hut_23 : decode cX4_hut 23 = .ok (.invokevirtual 46, 3) := by decide +kernel
theorem dX4_hut_26 : decode cX4_hut 26 = .ok (.bipush 10, 2) := by decide +kernel
theorem dX4_hut_28 : decode cX4_hut 28 = .ok (.if_icmp .lt 13, 3) := by decide +kernel
theorem dX4_hut_31 : decode cX4_hut 31 = .ok (.new 50, 3) := by decide +kernel
theorem dX4_hut_34 : decode cX4_hut 34 = .ok (.dup, 1) := by decide +kernel
theorem dX4_hut_35 : decode cX4_hut 35 = .ok (.ldc 52, 2) := by decide +kernel
theorem dX4_hut_37 : decode cX4_hut 37 = .ok (.invokespecial 54, 3) := by decide +kernel
theorem dX4_hut_40 : decode cX4_hut 40 = .ok (.athrow, 1) := by decide +kernel
theorem dX4_hut_41 : decode cX4_hut 41 = .ok (.aload_n 0, 1) := by decide +kernel
theorem dX4_hut_42 : decode cX4_hut 42 = .ok (.getfield 10, 3) := by decide +kernel
theorem dX4_hut_45 : decode cX4_hut 45 = .ok (.iload_n 1, 1) := by decide +kernel
theorem dX4_hut_46 : decode cX4_hut 46 = .ok (.invokevirtual 55, 3) := by decide +kernel
theorem dX4_hut_49 : decode cX4_hut 49 = .ok (.ireturn, 1) := by decide +kernel
set_option maxRecDepth 20000 in
theorem ggX4_pass_X4_checkHut : GoodIn wsX4_pass wsX4_checkHut := goodIn_ca (goodIn_r _ [10, 11, 12, 5, 13, 14, 15, 16, 17, 18, 36, 37, 38, 39, 40, 41, 42, 43, 44, 45, 46, 47] (by decide +kernel) (by decide +kernel)) (goodIn_sub (fun _ h => List.mem_cons_of_mem _ (List.mem_append_right _ h)) (by decide +kernel))
set_option maxRecDepth 20000 in
theorem gX4_pass_X4_checkHut : GoodIn wsX4_pass (wsV RX4 59 RX4 yX4_checkHut wsX4_checkHut) := goodIn_app (goodIn_of _ (by decide +kernel)) ggX4_pass_X4_checkHut
set_option maxRecDepth 20000 in
theorem ggX4_pass_X4_checkLength : GoodIn wsX4_pass wsX4_checkLength := goodIn_ca (goodIn_r _ [22, 1, 2] (by decide +kernel) (by decide +kernel)) (goodIn_sub (fun _ h => List.mem_cons_of_mem _ (List.mem_append_left _ (List.mem_append_left _ (List.mem_append_right _ h)))) (by decide +kernel))
set_option maxRecDepth 20000 in
theorem gX4_pass_X4_checkLength : GoodIn wsX4_pass (wsV RX4 65 RX4 yX4_checkLength wsX4_checkLength) := goodIn_app (goodIn_of _ (by decide +kernel)) ggX4_pass_X4_checkLength
set_option maxRecDepth 20000 in
theorem ggX4_pass_X1_passes : GoodIn wsX4_pass wsX1_passes := goodIn_r _ [26, 27, 41, 42, 43, 44, 45, 46, 47] (by decide +kernel) (by decide +kernel)
set_option maxRecDepth 20000 in
theorem gX4_pass_X1_passes : GoodIn wsX4_pass (wsV RX4 68 RX1 yX1_passes wsX1_passes) := goodIn_app (goodIn_of _ (by decide +kernel)) ggX4_pass_X1_passes
set_option maxRecDepth 20000 in
theorem ggX4_pass_X1_addPass : GoodIn wsX4_pass wsX1_addPass := goodIn_r _ [31, 27, 32, 33, 34, 35, 41, 42, 43, 44, 45, 46, 47] (by decide +kernel) (by decide +kernel)
set_option maxRecDepth 20000 in
theorem gX4_pass_X1_addPass : GoodIn wsX4_pass (wsV RX4 73 RX1 yX1_addPass wsX1_addPass) := goodIn_app (goodIn_of _ (by decide +kernel)) ggX4_pass_X1_addPass
theorem dX4_pass_0 : decode cX4_pass 0 = .ok (.aload_n 0, 1) := by decide +kernel
theorem dX4_pass_1 : decode cX4_pass 1 = .ok (.iload_n 1, 1) := by decide +kernel
theorem dX4_pass_2 : decode cX4_pass 2 = .ok (.invokevirtual 59, 3) := by decide +kernel
theorem dX4_pass_5 : decode cX4_pass 5 = .ok (.aload_n 0, 1) := by decide +kernel
theorem dX4_pass_6 : decode cX4_pass 6 = .ok (.iload_n 2, 1) := by decide +kernel
theorem dX4_pass_7 : decode cX4_pass 7 = .ok (.invokevirtual 59, 3) := by decide +kernel
theorem dX4_pass_10 : decode cX4_pass 10 = .ok (.iload_n 1, 1) := by decide +kernel
theorem dX4_pass_11 : decode cX4_pass 11 = .ok (.iload_n 2, 1) := by decide +kernel
theorem dX4_pass_12 : decode cX4_pass 12 = .ok (.if_icmp .ne 13, 3) := by decide +kernel
theorem dX4_pass_15 : decode cX4_pass 15 = .ok (.new 39, 3) := by decide +kernel
theorem dX4_pass_18 : decode cX4_pass 18 = .ok (.dup, 1) := by decide +kernel
theorem dX4_pass_19 : decode cX4_pass 19 = .ok (.ldc 63, 2) := by decide +kernel
theorem dX4_pass_21 : decode cX4_pass 21 = .ok (.invokespecial 43, 3) := by decide +kernel
theorem dX4_pass_24 : decode cX4_pass 24 = .ok (.athrow, 1) := by decide +kernel
theorem dX4_pass_25 : decode cX4_pass 25 = .ok (.aload_n 0, 1) := by decide +kernel
theorem dX4_pass_26 : decode cX4_pass 26 = .ok (.iload_n 3, 1) := by decide +kernel
theorem dX4_pass_27 : decode cX4_pass 27 = .ok (.invokevirtual 65, 3) := by decide +kernel
theorem dX4_pass_30 : decode cX4_pass 30 = .ok (.aload_n 0, 1) := by decide +kernel
theorem dX4_pass_31 : decode cX4_pass 31 = .ok (.getfield 10, 3) := by decide +kernel
theorem dX4_pass_34 : decode cX4_pass 34 = .ok (.invokevirtual 68, 3) := by decide +kernel
theorem dX4_pass_37 : decode cX4_pass 37 = .ok (.bipush 20, 2) := by decide +kernel
theorem dX4_pass_39 : decode cX4_pass 39 = .ok (.if_icmp .lt 13, 3) := by decide +kernel
theorem dX4_pass_42 : decode cX4_pass 42 = .ok (.new 50, 3) := by decide +kernel
theorem dX4_pass_45 : decode cX4_pass 45 = .ok (.dup, 1) := by decide +kernel
theorem dX4_pass_46 : decode cX4_pass 46 = .ok (.ldc 71, 2) := by decide +kernel
theorem dX4_pass_48 : decode cX4_pass 48 = .ok (.invokespecial 54, 3) := by decide +kernel
theorem dX4_pass_51 : decode cX4_pass 51 = .ok (.athrow, 1) := by decide +kernel
theorem dX4_pass_52 : decode cX4_pass 52 = .ok (.aload_n 0, 1) := by decide +kernel
theorem dX4_pass_53 : decode cX4_pass 53 = .ok (.getfield 10, 3) := by decide +kernel
theorem dX4_pass_56 : decode cX4_pass 56 = .ok (.iload_n 1, 1) := by decide +kernel
theorem dX4_pass_57 : decode cX4_pass 57 = .ok (.iload_n 2, 1) := by decide +kernel
theorem dX4_pass_58 : decode cX4_pass 58 = .ok (.iload_n 3, 1) := by decide +kernel
theorem dX4_pass_59 : decode cX4_pass 59 = .ok (.invokevirtual 73, 3) := by decide +kernel
theorem dX4_pass_62 : decode cX4_pass 62 = .ok (.ireturn, 1) := by decide +kernel
set_option maxRecDepth 20000 in
theorem ggX4_setLength_X4_checkPass : GoodIn wsX4_setLength wsX4_checkPass := goodIn_ca (goodIn_r _ [6, 7, 8, 1, 9, 10, 11, 12, 13, 14, 26, 27, 28, 29, 30, 31, 32, 33, 34, 35, 36, 37] (by decide +kernel) (by decide +kernel)) (goodIn_sub (fun _ h => List.mem_cons_of_mem _ (List.mem_append_left _ (List.mem_append_right _ h))) (by decide +kernel))
set_option maxRecDepth 20000 in
theorem gX4_setLength_X4_checkPass : GoodIn wsX4_setLength (wsV RX4 77 RX4 yX4_checkPass wsX4_checkPass) := goodIn_app (goodIn_of _ (by decide +kernel)) ggX4_setLength_X4_checkPass
set_option maxRecDepth 20000 in
theorem ggX4_setLength_X4_checkLength : GoodIn wsX4_setLength wsX4_checkLength := goodIn_ca (goodIn_r _ [18, 19, 20] (by decide +kernel) (by decide +kernel)) (goodIn_sub (fun _ h => List.mem_cons_of_mem _ (List.mem_append_right _ h)) (by decide +kernel))
set_option maxRecDepth 20000 in
theorem gX4_setLength_X4_checkLength : GoodIn wsX4_setLength (wsV RX4 65 RX4 yX4_checkLength wsX4_checkLength) := goodIn_app (goodIn_of _ (by decide +kernel)) ggX4_setLength_X4_checkLength
set_option maxRecDepth 20000 in
theorem ggX4_setLength_X1_changeLength : GoodIn wsX4_setLength wsX1_changeLength := goodIn_r _ [24, 25, 31, 32, 33, 34, 35, 36, 37] (by decide +kernel) (by decide +kernel)
set_option maxRecDepth 20000 in
theorem gX4_setLength_X1_changeLength : GoodIn wsX4_setLength (wsV RX4 80 RX1 yX1_changeLength wsX1_changeLength) := goodIn_app (goodIn_of _ (by decide +kernel)) ggX4_setLength_X1_changeLength
theorem dX4_setLength_0 : decode cX4_setLength 0 = .ok (.aload_n 0, 1) := by decide +kernel
theorem dX4_setLength_1 : decode cX4_setLength 1 = .ok (.iload_n 1, 1) := by decide +kernel
theorem dX4_setLength_2 : decode cX4_setLength 2 = .ok (.invokevirtual 77, 3) := by decide +kernel
theorem dX4_setLength_5 : decode cX4_setLength 5 = .ok (.aload_n 0, 1) := by decide +kernel
theorem dX4_setLength_6 : decode cX4_setLength 6 = .ok (.iload_n 2, 1) := by decide +kernel
theorem dX4_setLength_7 : decode cX4_setLength 7 = .ok (.invokevirtual 65, 3) := by decide +kernel
theorem dX4_setLength_10 : decode cX4_setLength 10 = .ok (.aload_n 0, 1) := by decide +kernel
theorem dX4_setLength_11 : decode cX4_setLength 11 = .ok (.getfield 10, 3) := by decide +kernel
theorem dX4_setLength_14 : decode cX4_setLength 14 = .ok (.iload_n 1, 1) := by decide +kernel
theorem dX4_setLength_15 : decode cX4_setLength 15 = .ok (.iload_n 2, 1) := by decide +kernel
theorem dX4_setLength_16 : decode cX4_setLength 16 = .ok (.invokevirtual 80, 3) := by decide +kernel
theorem dX4_setLength_19 : decode cX4_setLength 19 = .ok (.ireturn, 1) := by decide +kernel
set_option maxRecDepth 20000 in
theorem ggX4_setOpen_X4_checkPass : GoodIn wsX4_setOpen wsX4_checkPass := goodIn_ca (goodIn_r _ [6, 7, 8, 1, 9, 10, 11, 12, 13, 14, 20, 21, 22, 23, 24, 25, 26, 27, 28, 29, 30, 31] (by decide +kernel) (by decide +kernel)) (goodIn_sub (fun _ h => List.mem_cons_of_mem _ (List.mem_append_right _ h)) (by decide +kernel))
set_option maxRecDepth 20000 in
theorem gX4_setOpen_X4_checkPass : GoodIn wsX4_setOpen (wsV RX4 77 RX4 yX4_checkPass wsX4_checkPass) := goodIn_app (goodIn_of _ (by decide +kernel)) ggX4_setOpen_X4_checkPass
set_option maxRecDepth 20000 in
theorem ggX4_setOpen_X1_changeOpen : GoodIn wsX4_setOpen wsX1_changeOpen := goodIn_r _ [18, 19, 25, 26, 27, 28, 29, 30, 31] (by decide +kernel) (by decide +kernel)
set_option maxRecDepth 20000 in
theorem gX4_setOpen_X1_changeOpen : GoodIn wsX4_setOpen (wsV RX4 84 RX1 yX1_changeOpen wsX1_changeOpen) := goodIn_app (goodIn_of _ (by decide +kernel)) ggX4_setOpen_X1_changeOpen
theorem dX4_setOpen_0 : decode cX4_setOpen 0 = .ok (.aload_n 0, 1) := by decide +kernel
theorem dX4_setOpen_1 : decode cX4_setOpen 1 = .ok (.iload_n 1, 1) := by decide +kernel
theorem dX4_setOpen_2 : decode cX4_setOpen 2 = .ok (.invokevirtual 77, 3) := by decide +kernel
theorem dX4_setOpen_5 : decode cX4_setOpen 5 = .ok (.aload_n 0, 1) := by decide +kernel
theorem dX4_setOpen_6 : decode cX4_setOpen 6 = .ok (.getfield 10, 3) := by decide +kernel
theorem dX4_setOpen_9 : decode cX4_setOpen 9 = .ok (.iload_n 1, 1) := by decide +kernel
theorem dX4_setOpen_10 : decode cX4_setOpen 10 = .ok (.iload_n 2, 1) := by decide +kernel
theorem dX4_setOpen_11 : decode cX4_setOpen 11 = .ok (.invokevirtual 84, 3) := by decide +kernel
theorem dX4_setOpen_14 : decode cX4_setOpen 14 = .ok (.ireturn, 1) := by decide +kernel
set_option maxRecDepth 20000 in
theorem ggX4_burn_X4_checkHut : GoodIn wsX4_burn wsX4_checkHut := goodIn_ca (goodIn_r _ [6, 7, 8, 9, 10, 11, 12, 13, 14, 15, 34, 35, 36, 37, 38, 39, 40, 41, 42, 43, 44, 45] (by decide +kernel) (by decide +kernel)) (goodIn_sub (fun _ h => List.mem_cons_of_mem _ (List.mem_append_right _ h)) (by decide +kernel))
set_option maxRecDepth 20000 in
theorem gX4_burn_X4_checkHut : GoodIn wsX4_burn (wsV RX4 59 RX4 yX4_checkHut wsX4_checkHut) := goodIn_app (goodIn_of _ (by decide +kernel)) ggX4_burn_X4_checkHut
set_option maxRecDepth 20000 in
theorem ggX4_burn_X2_burnAll : GoodIn wsX4_burn wsX2_burnAll := goodIn_r _ [20, 21, 22, 23, 24, 19, 25, 26, 27, 28, 29, 30, 31, 32, 33, 46, 47, 48, 49, 50, 51, 52, 53] (by decide +kernel) (by decide +kernel)
set_option maxRecDepth 20000 in
theorem gX4_burn_X2_burnAll : GoodIn wsX4_burn (wsV RX4 88 RX2 yX2_burnAll wsX2_burnAll) := goodIn_app (goodIn_of _ (by decide +kernel)) ggX4_burn_X2_burnAll
theorem dX4_burn_0 : decode cX4_burn 0 = .ok (.aload_n 0, 1) := by decide +kernel
theorem dX4_burn_1 : decode cX4_burn 1 = .ok (.iload_n 1, 1) := by decide +kernel
theorem dX4_burn_2 : decode cX4_burn 2 = .ok (.invokevirtual 59, 3) := by decide +kernel
theorem dX4_burn_5 : decode cX4_burn 5 = .ok (.aload_n 0, 1) := by decide +kernel
theorem dX4_burn_6 : decode cX4_burn 6 = .ok (.getfield 21, 3) := by decide +kernel
theorem dX4_burn_9 : decode cX4_burn 9 = .ok (.iload_n 1, 1) := by decide +kernel
theorem dX4_burn_10 : decode cX4_burn 10 = .ok (.invokevirtual 88, 3) := by decide +kernel
theorem dX4_burn_13 : decode cX4_burn 13 = .ok (.ireturn, 1) := by decide +kernel
set_option maxRecDepth 20000 in
theorem ggX4_sheet_X4_checkHut : GoodIn wsX4_sheet wsX4_checkHut := goodIn_ca (goodIn_r _ [6, 7, 8, 9, 10, 11, 12, 13, 14, 15, 54, 55, 56, 57, 58, 59, 60, 61, 62, 63, 64, 65] (by decide +kernel) (by decide +kernel)) (goodIn_sub (fun _ h => List.mem_cons_of_mem _ (List.mem_append_right _ h)) (by decide +kernel))
set_option maxRecDepth 20000 in
theorem gX4_sheet_X4_checkHut : GoodIn wsX4_sheet (wsV RX4 59 RX4 yX4_checkHut wsX4_checkHut) := goodIn_app (goodIn_of _ (by decide +kernel)) ggX4_sheet_X4_checkHut
set_option maxRecDepth 20000 in
theorem ggX4_sheet_X4_checkWhat : GoodIn wsX4_sheet wsX4_checkWhat := goodIn_ca (goodIn_r _ [19, 7, 8] (by decide +kernel) (by decide +kernel)) (goodIn_sub (fun _ h => List.mem_cons_of_mem _ (List.mem_append_right _ h)) (by decide +kernel))
set_option maxRecDepth 20000 in
theorem gX4_sheet_X4_checkWhat : GoodIn wsX4_sheet (wsV RX4 91 RX4 yX4_checkWhat wsX4_checkWhat) := goodIn_app (goodIn_of _ (by decide +kernel)) ggX4_sheet_X4_checkWhat
set_option maxRecDepth 20000 in
theorem ggX4_sheet_X2_held : GoodIn wsX4_sheet wsX2_held := goodIn_r _ [24, 25, 26, 27, 23, 28, 66, 67, 68, 69, 70, 71, 72, 73] (by decide +kernel) (by decide +kernel)
set_option maxRecDepth 20000 in
theorem gX4_sheet_X2_held : GoodIn wsX4_sheet (wsV RX4 95 RX2 yX2_held wsX2_held) := goodIn_app (goodIn_of _ (by decide +kernel)) ggX4_sheet_X2_held
set_option maxRecDepth 20000 in
theorem ggX4_sheet_X3_number : GoodIn wsX4_sheet wsX3_number := goodIn_r _ [33, 34, 74, 75, 76] (by decide +kernel) (by decide +kernel)
set_option maxRecDepth 20000 in
theorem gX4_sheet_X3_number : GoodIn wsX4_sheet (wsV RX4 99 RX3 yX3_number wsX3_number) := goodIn_app (goodIn_of _ (by decide +kernel)) ggX4_sheet_X3_number
set_option maxRecDepth 20000 in
theorem ggX4_sheet_X2_minute : GoodIn wsX4_sheet wsX2_minute := goodIn_r _ [38, 39, 66, 67, 68, 69, 70, 71, 72, 73] (by decide +kernel) (by decide +kernel)
set_option maxRecDepth 20000 in
theorem gX4_sheet_X2_minute : GoodIn wsX4_sheet (wsV RX4 104 RX2 yX2_minute wsX2_minute) := goodIn_app (goodIn_of _ (by decide +kernel)) ggX4_sheet_X2_minute
set_option maxRecDepth 20000 in
theorem ggX4_sheet_X3_age : GoodIn wsX4_sheet wsX3_age := goodIn_r _ [43, 44, 74, 75, 76] (by decide +kernel) (by decide +kernel)
set_option maxRecDepth 20000 in
theorem gX4_sheet_X3_age : GoodIn wsX4_sheet (wsV RX4 107 RX3 yX3_age wsX3_age) := goodIn_app (goodIn_of _ (by decide +kernel)) ggX4_sheet_X3_age
set_option maxRecDepth 20000 in
theorem ggX4_sheet_X3_passesTold : GoodIn wsX4_sheet wsX3_passesTold := goodIn_r _ [48, 49, 50, 51, 52, 32, 53, 74, 75, 76] (by decide +kernel) (by decide +kernel)
set_option maxRecDepth 20000 in
theorem gX4_sheet_X3_passesTold : GoodIn wsX4_sheet (wsV RX4 110 RX3 yX3_passesTold wsX3_passesTold) := goodIn_app (goodIn_of _ (by decide +kernel)) ggX4_sheet_X3_passesTold
theorem dX4_sheet_0 : decode cX4_sheet 0 = .ok (.aload_n 0, 1) := by decide +kernel
theorem dX4_sheet_1 : decode cX4_sheet 1 = .ok (.iload_n 1, 1) := by decide +kernel
theorem dX4_sheet_2 : decode cX4_sheet 2 = .ok (.invokevirtual 59, 3) := by decide +kernel
theorem dX4_sheet_5 : decode cX4_sheet 5 = .ok (.aload_n 0, 1) := by decide +kernel
theorem dX4_sheet_6 : decode cX4_sheet 6 = .ok (.iload_n 2, 1) := by decide +kernel
theorem dX4_sheet_7 : decode cX4_sheet 7 = .ok (.invokevirtual 59, 3) := by decide +kernel
theorem dX4_sheet_10 : decode cX4_sheet 10 = .ok (.aload_n 0, 1) := by decide +kernel
theorem dX4_sheet_11 : decode cX4_sheet 11 = .ok (.iload_n 3, 1) := by decide +kernel
theorem dX4_sheet_12 : decode cX4_sheet 12 = .ok (.iconst 2, 1) := by decide +kernel
theorem dX4_sheet_13 : decode cX4_sheet 13 = .ok (.invokevirtual 91, 3) := by decide +kernel
theorem dX4_sheet_16 : decode cX4_sheet 16 = .ok (.aload_n 0, 1) := by decide +kernel
theorem dX4_sheet_17 : decode cX4_sheet 17 = .ok (.getfield 21, 3) := by decide +kernel
theorem dX4_sheet_20 : decode cX4_sheet 20 = .ok (.iload_n 1, 1) := by decide +kernel
theorem dX4_sheet_21 : decode cX4_sheet 21 = .ok (.iload_n 2, 1) := by decide +kernel
theorem dX4_sheet_22 : decode cX4_sheet 22 = .ok (.invokevirtual 95, 3) := by decide +kernel
theorem dX4_sheet_25 : decode cX4_sheet 25 = .ok (.astore 4, 2) := by decide +kernel
theorem dX4_sheet_27 : decode cX4_sheet 27 = .ok (.aload 4, 2) := by decide +kernel
theorem dX4_sheet_29 : decode cX4_sheet 29 = .ok (.ifnonnull 5, 3) := by decide +kernel
theorem dX4_sheet_32 : decode cX4_sheet 32 = .ok (.iconst (-1), 1) := by decide +kernel
theorem dX4_sheet_33 : decode cX4_sheet 33 = .ok (.ireturn, 1) := by decide +kernel
theorem dX4_sheet_34 : decode cX4_sheet 34 = .ok (.iload_n 3, 1) := by decide +kernel
theorem dX4_sheet_35 : decode cX4_sheet 35 = .ok (.lookupswitch 44 #[(0, 25), (1, 31)], 25) := by decide +kernel
theorem dX4_sheet_60 : decode cX4_sheet 60 = .ok (.aload 4, 2) := by decide +kernel
theorem dX4_sheet_62 : decode cX4_sheet 62 = .ok (.invokevirtual 99, 3) := by decide +kernel
theorem dX4_sheet_65 : decode cX4_sheet 65 = .ok (.ireturn, 1) := by decide +kernel
theorem dX4_sheet_66 : decode cX4_sheet 66 = .ok (.aload 4, 2) := by decide +kernel
theorem dX4_sheet_68 : decode cX4_sheet 68 = .ok (.aload_n 0, 1) := by decide +kernel
theorem dX4_sheet_69 : decode cX4_sheet 69 = .ok (.getfield 21, 3) := by decide +kernel
theorem dX4_sheet_72 : decode cX4_sheet 72 = .ok (.invokevirtual 104, 3) := by decide +kernel
theorem dX4_sheet_75 : decode cX4_sheet 75 = .ok (.invokevirtual 107, 3) := by decide +kernel
theorem dX4_sheet_78 : decode cX4_sheet 78 = .ok (.ireturn, 1) := by decide +kernel
theorem dX4_sheet_79 : decode cX4_sheet 79 = .ok (.aload 4, 2) := by decide +kernel
theorem dX4_sheet_81 : decode cX4_sheet 81 = .ok (.invokevirtual 110, 3) := by decide +kernel
theorem dX4_sheet_84 : decode cX4_sheet 84 = .ok (.ireturn, 1) := by decide +kernel
set_option maxRecDepth 20000 in
theorem ggX4_way_X4_checkHut : GoodIn wsX4_way wsX4_checkHut := goodIn_ca (goodIn_r _ [7, 8, 9, 10, 11, 12, 13, 14, 15, 16, 81, 82, 83, 84, 85, 86, 87, 88, 89, 90, 91, 92] (by decide +kernel) (by decide +kernel)) (goodIn_sub (fun _ h => List.mem_cons_of_mem _ (List.mem_append_right _ h)) (by decide +kernel))
set_option maxRecDepth 20000 in
theorem gX4_way_X4_checkHut : GoodIn wsX4_way (wsV RX4 59 RX4 yX4_checkHut wsX4_checkHut) := goodIn_app (goodIn_of _ (by decide +kernel)) ggX4_way_X4_checkHut
set_option maxRecDepth 20000 in
theorem ggX4_way_X4_checkWhat : GoodIn wsX4_way wsX4_checkWhat := goodIn_ca (goodIn_r _ [20, 8, 9] (by decide +kernel) (by decide +kernel)) (goodIn_sub (fun _ h => List.mem_cons_of_mem _ (List.mem_append_right _ h)) (by decide +kernel))
set_option maxRecDepth 20000 in
theorem gX4_way_X4_checkWhat : GoodIn wsX4_way (wsV RX4 91 RX4 yX4_checkWhat wsX4_checkWhat) := goodIn_app (goodIn_of _ (by decide +kernel)) ggX4_way_X4_checkWhat
set_option maxRecDepth 20000 in
theorem ggX4_way_X2_knownWay : GoodIn wsX4_way wsX2_knownWay := goodIn_r _ [25, 26, 27, 28, 29, 30, 24, 31, 32, 33, 34, 35, 36, 37, 38, 39, 40, 41, 42, 43, 14, 44, 45, 46, 47, 48, 49, 50, 51, 52, 53, 54, 55, 56, 57, 58, 59, 60, 61, 62, 63, 64, 65, 66, 67, 68, 69, 70, 71, 72, 73, 74, 75, 76, 77, 78, 79, 80, 93, 94, 95, 96, 97, 98, 99, 100, 101, 102, 103, 104, 86, 87, 88, 89, 90, 91, 92, 105, 106, 107] (by decide +kernel) (by decide +kernel)
set_option maxRecDepth 20000 in
theorem gX4_way_X2_knownWay : GoodIn wsX4_way (wsV RX4 113 RX2 yX2_knownWay wsX2_knownWay) := goodIn_app (goodIn_of _ (by decide +kernel)) ggX4_way_X2_knownWay
theorem dX4_way_0 : decode cX4_way 0 = .ok (.aload_n 0, 1) := by decide +kernel
theorem dX4_way_1 : decode cX4_way 1 = .ok (.iload_n 1, 1) := by decide +kernel
theorem dX4_way_2 : decode cX4_way 2 = .ok (.invokevirtual 59, 3) := by decide +kernel
theorem dX4_way_5 : decode cX4_way 5 = .ok (.aload_n 0, 1) := by decide +kernel
theorem dX4_way_6 : decode cX4_way 6 = .ok (.iload_n 2, 1) := by decide +kernel
theorem dX4_way_7 : decode cX4_way 7 = .ok (.invokevirtual 59, 3) := by decide +kernel
theorem dX4_way_10 : decode cX4_way 10 = .ok (.aload_n 0, 1) := by decide +kernel
theorem dX4_way_11 : decode cX4_way 11 = .ok (.iload_n 3, 1) := by decide +kernel
theorem dX4_way_12 : decode cX4_way 12 = .ok (.iconst 2, 1) := by decide +kernel
theorem dX4_way_13 : decode cX4_way 13 = .ok (.invokevirtual 91, 3) := by decide +kernel
theorem dX4_way_16 : decode cX4_way 16 = .ok (.aload_n 0, 1) := by decide +kernel
theorem dX4_way_17 : decode cX4_way 17 = .ok (.getfield 21, 3) := by decide +kernel
theorem dX4_way_20 : decode cX4_way 20 = .ok (.iload_n 1, 1) := by decide +kernel
theorem dX4_way_21 : decode cX4_way 21 = .ok (.iload_n 2, 1) := by decide +kernel
theorem dX4_way_22 : decode cX4_way 22 = .ok (.invokevirtual 113, 3) := by decide +kernel
theorem dX4_way_25 : decode cX4_way 25 = .ok (.istore 4, 2) := by decide +kernel
theorem dX4_way_27 : decode cX4_way 27 = .ok (.iload 4, 2) := by decide +kernel
theorem dX4_way_29 : decode cX4_way 29 = .ok (.ldc 116, 2) := by decide +kernel
theorem dX4_way_31 : decode cX4_way 31 = .ok (.if_icmp .ne 5, 3) := by decide +kernel
theorem dX4_way_34 : decode cX4_way 34 = .ok (.iconst (-1), 1) := by decide +kernel
theorem dX4_way_35 : decode cX4_way 35 = .ok (.ireturn, 1) := by decide +kernel
theorem dX4_way_36 : decode cX4_way 36 = .ok (.iload_n 3, 1) := by decide +kernel
theorem dX4_way_37 : decode cX4_way 37 = .ok (.lookupswitch 44 #[(0, 27), (1, 34)], 27) := by decide +kernel
theorem dX4_way_64 : decode cX4_way 64 = .ok (.iload 4, 2) := by decide +kernel
theorem dX4_way_66 : decode cX4_way 66 = .ok (.sipush 256, 3) := by decide +kernel
theorem dX4_way_69 : decode cX4_way 69 = .ok (.idiv, 1) := by decide +kernel
theorem dX4_way_70 : decode cX4_way 70 = .ok (.ireturn, 1) := by decide +kernel
theorem dX4_way_71 : decode cX4_way 71 = .ok (.iload 4, 2) := by decide +kernel
theorem dX4_way_73 : decode cX4_way 73 = .ok (.sipush 256, 3) := by decide +kernel
theorem dX4_way_76 : decode cX4_way 76 = .ok (.irem, 1) := by decide +kernel
theorem dX4_way_77 : decode cX4_way 77 = .ok (.bipush 16, 2) := by decide +kernel
theorem dX4_way_79 : decode cX4_way 79 = .ok (.idiv, 1) := by decide +kernel
theorem dX4_way_80 : decode cX4_way 80 = .ok (.ireturn, 1) := by decide +kernel
theorem dX4_way_81 : decode cX4_way 81 = .ok (.iload 4, 2) := by decide +kernel
theorem dX4_way_83 : decode cX4_way 83 = .ok (.bipush 16, 2) := by decide +kernel
theorem dX4_way_85 : decode cX4_way 85 = .ok (.irem, 1) := by decide +kernel
theorem dX4_way_86 : decode cX4_way 86 = .ok (.ireturn, 1) := by decide +kernel
set_option maxRecDepth 20000 in
theorem ggX4_post_X4_checkHut : GoodIn wsX4_post wsX4_checkHut := goodIn_ca (goodIn_r _ [6, 7, 8, 9, 10, 11, 12, 13, 14, 15, 86, 87, 88, 89, 90, 91, 92, 93, 94, 95, 96, 97] (by decide +kernel) (by decide +kernel)) (goodIn_sub (fun _ h => List.mem_cons_of_mem _ (List.mem_append_right _ h)) (by decide +kernel))
set_option maxRecDepth 20000 in
theorem gX4_post_X4_checkHut : GoodIn wsX4_post (wsV RX4 59 RX4 yX4_checkHut wsX4_checkHut) := goodIn_app (goodIn_of _ (by decide +kernel)) ggX4_post_X4_checkHut
set_option maxRecDepth 20000 in
theorem ggX4_post_X2_letter : GoodIn wsX4_post wsX2_letter := goodIn_r _ [20, 21, 22, 23, 24, 25, 19, 26, 27, 28, 29, 30, 31, 32, 33, 34, 35, 36, 37, 38, 39, 40, 41, 42, 43, 13, 44, 45, 46, 47, 48, 49, 50, 51, 52, 53, 54, 55, 56, 57, 58, 59, 60, 61, 62, 63, 64, 65, 66, 67, 68, 69, 70, 71, 72, 73, 74, 75, 76, 77, 78, 79, 80, 81, 82, 83, 84, 85, 98, 99, 100, 101, 102, 103, 104, 105, 106, 107, 108, 109, 91, 92, 93, 94, 95, 96, 97, 110, 111, 112] (by decide +kernel) (by decide +kernel)
set_option maxRecDepth 20000 in
theorem gX4_post_X2_letter : GoodIn wsX4_post (wsV RX4 117 RX2 yX2_letter wsX2_letter) := goodIn_app (goodIn_of _ (by decide +kernel)) ggX4_post_X2_letter
theorem dX4_post_0 : decode cX4_post 0 = .ok (.aload_n 0, 1) := by decide +kernel
theorem dX4_post_1 : decode cX4_post 1 = .ok (.iload_n 1, 1) := by decide +kernel
theorem dX4_post_2 : decode cX4_post 2 = .ok (.invokevirtual 59, 3) := by decide +kernel
theorem dX4_post_5 : decode cX4_post 5 = .ok (.aload_n 0, 1) := by decide +kernel
theorem dX4_post_6 : decode cX4_post 6 = .ok (.iload_n 2, 1) := by decide +kernel
theorem dX4_post_7 : decode cX4_post 7 = .ok (.invokevirtual 59, 3) := by decide +kernel
theorem dX4_post_10 : decode cX4_post 10 = .ok (.aload_n 0, 1) := by decide +kernel
theorem dX4_post_11 : decode cX4_post 11 = .ok (.getfield 21, 3) := by decide +kernel
theorem dX4_post_14 : decode cX4_post 14 = .ok (.iload_n 1, 1) := by decide +kernel
theorem dX4_post_15 : decode cX4_post 15 = .ok (.iload_n 2, 1) := by decide +kernel
theorem dX4_post_16 : decode cX4_post 16 = .ok (.invokevirtual 117, 3) := by decide +kernel
theorem dX4_post_19 : decode cX4_post 19 = .ok (.ireturn, 1) := by decide +kernel
set_option maxRecDepth 20000 in
theorem ggX4_truth_X4_checkHut : GoodIn wsX4_truth wsX4_checkHut := goodIn_ca (goodIn_r _ [9, 10, 11, 1, 12, 13, 14, 15, 16, 17, 45, 46, 47, 48, 49, 50, 51, 52, 53, 54, 55, 56] (by decide +kernel) (by decide +kernel)) (goodIn_sub (fun _ h => List.mem_cons_of_mem _ (List.mem_append_right _ h)) (by decide +kernel))
set_option maxRecDepth 20000 in
theorem gX4_truth_X4_checkHut : GoodIn wsX4_truth (wsV RX4 59 RX4 yX4_checkHut wsX4_checkHut) := goodIn_app (goodIn_of _ (by decide +kernel)) ggX4_truth_X4_checkHut
set_option maxRecDepth 20000 in
theorem ggX4_truth_X1_draw : GoodIn wsX4_truth wsX1_draw := goodIn_r _ [21, 22, 23, 24, 25, 26, 27, 28, 29, 30, 31, 32, 33, 34, 35, 36, 37, 38, 39, 50, 51, 52, 53, 54, 55, 56, 57, 58, 59, 60] (by decide +kernel) (by decide +kernel)
set_option maxRecDepth 20000 in
theorem gX4_truth_X1_draw : GoodIn wsX4_truth (wsV RX4 120 RX1 yX1_draw wsX1_draw) := goodIn_app (goodIn_of _ (by decide +kernel)) ggX4_truth_X1_draw
set_option maxRecDepth 20000 in
theorem ggX4_truth_X0_search : GoodIn wsX4_truth wsX0_search := goodIn_r _ [43, 44, 32, 37, 39, 38, 57, 58, 59, 60] (by decide +kernel) (by decide +kernel)
set_option maxRecDepth 20000 in
theorem gX4_truth_X0_search : GoodIn wsX4_truth (wsV RX4 124 RX0 yX0_search wsX0_search) := goodIn_app (goodIn_of _ (by decide +kernel)) ggX4_truth_X0_search
theorem dX4_truth_0 : decode cX4_truth 0 = .ok (.aload_n 0, 1) := by decide +kernel
theorem dX4_truth_1 : decode cX4_truth 1 = .ok (.iload_n 1, 1) := by decide +kernel
theorem dX4_truth_2 : decode cX4_truth 2 = .ok (.invokevirtual 59, 3) := by decide +kernel
theorem dX4_truth_5 : decode cX4_truth 5 = .ok (.aload_n 0, 1) := by decide +kernel
theorem dX4_truth_6 : decode cX4_truth 6 = .ok (.iload_n 2, 1) := by decide +kernel
theorem dX4_truth_7 : decode cX4_truth 7 = .ok (.invokevirtual 59, 3) := by decide +kernel
theorem dX4_truth_10 : decode cX4_truth 10 = .ok (.aload_n 0, 1) := by decide +kernel
theorem dX4_truth_11 : decode cX4_truth 11 = .ok (.getfield 10, 3) := by decide +kernel
theorem dX4_truth_14 : decode cX4_truth 14 = .ok (.aload_n 0, 1) := by decide +kernel
theorem dX4_truth_15 : decode cX4_truth 15 = .ok (.getfield 31, 3) := by decide +kernel
theorem dX4_truth_18 : decode cX4_truth 18 = .ok (.invokevirtual 120, 3) := by decide +kernel
theorem dX4_truth_21 : decode cX4_truth 21 = .ok (.aload_n 0, 1) := by decide +kernel
theorem dX4_truth_22 : decode cX4_truth 22 = .ok (.getfield 31, 3) := by decide +kernel
theorem dX4_truth_25 : decode cX4_truth 25 = .ok (.iload_n 1, 1) := by decide +kernel
theorem dX4_truth_26 : decode cX4_truth 26 = .ok (.aload_n 0, 1) := by decide +kernel
theorem dX4_truth_27 : decode cX4_truth 27 = .ok (.getfield 35, 3) := by decide +kernel
theorem dX4_truth_30 : decode cX4_truth 30 = .ok (.invokevirtual 124, 3) := by decide +kernel
theorem dX4_truth_33 : decode cX4_truth 33 = .ok (.aload_n 0, 1) := by decide +kernel
theorem dX4_truth_34 : decode cX4_truth 34 = .ok (.getfield 35, 3) := by decide +kernel
theorem dX4_truth_37 : decode cX4_truth 37 = .ok (.iload_n 2, 1) := by decide +kernel
theorem dX4_truth_38 : decode cX4_truth 38 = .ok (.iaload, 1) := by decide +kernel
theorem dX4_truth_39 : decode cX4_truth 39 = .ok (.istore_n 3, 1) := by decide +kernel
theorem dX4_truth_40 : decode cX4_truth 40 = .ok (.iload_n 3, 1) := by decide +kernel
theorem dX4_truth_41 : decode cX4_truth 41 = .ok (.ldc 116, 2) := by decide +kernel
theorem dX4_truth_43 : decode cX4_truth 43 = .ok (.if_icmp .ne 7, 3) := by decide +kernel
theorem dX4_truth_46 : decode cX4_truth 46 = .ok (.iconst (-1), 1) := by decide +kernel
theorem dX4_truth_47 : decode cX4_truth 47 = .ok (.goto 8, 3) := by decide +kernel
theorem dX4_truth_50 : decode cX4_truth 50 = .ok (.iload_n 3, 1) := by decide +kernel
theorem dX4_truth_51 : decode cX4_truth 51 = .ok (.sipush 256, 3) := by decide +kernel
theorem dX4_truth_54 : decode cX4_truth 54 = .ok (.idiv, 1) := by decide +kernel
theorem dX4_truth_55 : decode cX4_truth 55 = .ok (.ireturn, 1) := by decide +kernel
set_option maxRecDepth 20000 in
theorem ggX4_about_X4_checkPass : GoodIn wsX4_about wsX4_checkPass := goodIn_ca (goodIn_r _ [9, 1, 2, 3, 10, 11, 12, 13, 14, 15, 63, 64, 65, 66, 67, 68, 69, 70, 71, 72, 73, 74] (by decide +kernel) (by decide +kernel)) (goodIn_sub (fun _ h => List.mem_cons_of_mem _ (List.mem_append_right _ h)) (by decide +kernel))
set_option maxRecDepth 20000 in
theorem gX4_about_X4_checkPass : GoodIn wsX4_about (wsV RX4 77 RX4 yX4_checkPass wsX4_checkPass) := goodIn_app (goodIn_of _ (by decide +kernel)) ggX4_about_X4_checkPass
set_option maxRecDepth 20000 in
theorem ggX4_about_X1_first : GoodIn wsX4_about wsX1_first := goodIn_r _ [19, 20, 68, 69, 70, 71, 72, 73, 74] (by decide +kernel) (by decide +kernel)
set_option maxRecDepth 20000 in
theorem gX4_about_X1_first : GoodIn wsX4_about (wsV RX4 128 RX1 yX1_first wsX1_first) := goodIn_app (goodIn_of _ (by decide +kernel)) ggX4_about_X1_first
set_option maxRecDepth 20000 in
theorem ggX4_about_X1_second : GoodIn wsX4_about wsX1_second := goodIn_r _ [24, 25, 68, 69, 70, 71, 72, 73, 74] (by decide +kernel) (by decide +kernel)
set_option maxRecDepth 20000 in
theorem gX4_about_X1_second : GoodIn wsX4_about (wsV RX4 131 RX1 yX1_second wsX1_second) := goodIn_app (goodIn_of _ (by decide +kernel)) ggX4_about_X1_second
set_option maxRecDepth 20000 in
theorem ggX4_about_X1_length : GoodIn wsX4_about wsX1_length := goodIn_r _ [29, 30, 68, 69, 70, 71, 72, 73, 74] (by decide +kernel) (by decide +kernel)
set_option maxRecDepth 20000 in
theorem gX4_about_X1_length : GoodIn wsX4_about (wsV RX4 134 RX1 yX1_length wsX1_length) := goodIn_app (goodIn_of _ (by decide +kernel)) ggX4_about_X1_length
set_option maxRecDepth 20000 in
theorem ggX4_about_X1_isOpen : GoodIn wsX4_about wsX1_isOpen := goodIn_r _ [34, 35, 68, 69, 70, 71, 72, 73, 74] (by decide +kernel) (by decide +kernel)
set_option maxRecDepth 20000 in
theorem gX4_about_X1_isOpen : GoodIn wsX4_about (wsV RX4 137 RX1 yX1_isOpen wsX1_isOpen) := goodIn_app (goodIn_of _ (by decide +kernel)) ggX4_about_X1_isOpen
set_option maxRecDepth 20000 in
theorem ggX4_about_X2_takersForOpen : GoodIn wsX4_about wsX2_takersForOpen := goodIn_r _ [40, 41, 42, 43, 44, 13, 45, 46, 47, 48, 49, 39, 50, 51, 52, 17, 18, 19, 20, 53, 54, 55, 56, 22, 23, 24, 25, 57, 58, 59, 60, 61, 62, 75, 76, 77, 78, 79, 80, 81, 82, 68, 69, 70, 71, 72, 73, 74, 83, 84, 85] (by decide +kernel) (by decide +kernel)
set_option maxRecDepth 20000 in
theorem gX4_about_X2_takersForOpen : GoodIn wsX4_about (wsV RX4 141 RX2 yX2_takersForOpen wsX2_takersForOpen) := goodIn_app (goodIn_of _ (by decide +kernel)) ggX4_about_X2_takersForOpen
theorem dX4_about_0 : decode cX4_about 0 = .ok (.aload_n 0, 1) := by decide +kernel
theorem dX4_about_1 : decode cX4_about 1 = .ok (.iload_n 1, 1) := by decide +kernel
theorem dX4_about_2 : decode cX4_about 2 = .ok (.invokevirtual 77, 3) := by decide +kernel
theorem dX4_about_5 : decode cX4_about 5 = .ok (.iload_n 2, 1) := by decide +kernel
theorem dX4_about_6 : decode cX4_about 6 = .ok (.tableswitch 87 0 4 #[34, 43, 52, 61, 78], 34) := by decide +kernel
theorem dX4_about_40 : decode cX4_about 40 = .ok (.aload_n 0, 1) := by decide +kernel
theorem dX4_about_41 : decode cX4_about 41 = .ok (.getfield 10, 3) := by decide +kernel
theorem dX4_about_44 : decode cX4_about 44 = .ok (.iload_n 1, 1) := by decide +kernel
theorem dX4_about_45 : decode cX4_about 45 = .ok (.invokevirtual 128, 3) := by decide +kernel
theorem dX4_about_48 : decode cX4_about 48 = .ok (.ireturn, 1) := by decide +kernel
theorem dX4_about_49 : decode cX4_about 49 = .ok (.aload_n 0, 1) := by decide +kernel
theorem dX4_about_50 : decode cX4_about 50 = .ok (.getfield 10, 3) := by decide +kernel
theorem dX4_about_53 : decode cX4_about 53 = .ok (.iload_n 1, 1) := by decide +kernel
theorem dX4_about_54 : decode cX4_about 54 = .ok (.invokevirtual 131, 3) := by decide +kernel
theorem dX4_about_57 : decode cX4_about 57 = .ok (.ireturn, 1) := by decide +kernel
theorem dX4_about_58 : decode cX4_about 58 = .ok (.aload_n 0, 1) := by decide +kernel
theorem dX4_about_59 : decode cX4_about 59 = .ok (.getfield 10, 3) := by decide +kernel
theorem dX4_about_62 : decode cX4_about 62 = .ok (.iload_n 1, 1) := by decide +kernel
theorem dX4_about_63 : decode cX4_about 63 = .ok (.invokevirtual 134, 3) := by decide +kernel
theorem dX4_about_66 : decode cX4_about 66 = .ok (.ireturn, 1) := by decide +kernel
theorem dX4_about_67 : decode cX4_about 67 = .ok (.aload_n 0, 1) := by decide +kernel
theorem dX4_about_68 : decode cX4_about 68 = .ok (.getfield 10, 3) := by decide +kernel
theorem dX4_about_71 : decode cX4_about 71 = .ok (.iload_n 1, 1) := by decide +kernel
theorem dX4_about_72 : decode cX4_about 72 = .ok (.invokevirtual 137, 3) := by decide +kernel
theorem dX4_about_75 : decode cX4_about 75 = .ok (.ifCond .eq 7, 3) := by decide +kernel
theorem dX4_about_78 : decode cX4_about 78 = .ok (.iconst 1, 1) := by decide +kernel
theorem dX4_about_79 : decode cX4_about 79 = .ok (.goto 4, 3) := by decide +kernel
theorem dX4_about_82 : decode cX4_about 82 = .ok (.iconst 0, 1) := by decide +kernel
theorem dX4_about_83 : decode cX4_about 83 = .ok (.ireturn, 1) := by decide +kernel
theorem dX4_about_84 : decode cX4_about 84 = .ok (.aload_n 0, 1) := by decide +kernel
theorem dX4_about_85 : decode cX4_about 85 = .ok (.getfield 21, 3) := by decide +kernel
theorem dX4_about_88 : decode cX4_about 88 = .ok (.iload_n 1, 1) := by decide +kernel
theorem dX4_about_89 : decode cX4_about 89 = .ok (.invokevirtual 141, 3) := by decide +kernel
theorem dX4_about_92 : decode cX4_about 92 = .ok (.ireturn, 1) := by decide +kernel
theorem dX4_about_93 : decode cX4_about 93 = .ok (.new 144, 3) := by decide +kernel
theorem dX4_about_96 : decode cX4_about 96 = .ok (.dup, 1) := by decide +kernel
theorem dX4_about_97 : decode cX4_about 97 = .ok (.ldc 146, 2) := by decide +kernel
theorem dX4_about_99 : decode cX4_about 99 = .ok (.invokespecial 148, 3) := by decide +kernel
theorem dX4_about_102 : decode cX4_about 102 = .ok (.athrow, 1) := by decide +kernel
set_option maxRecDepth 20000 in
theorem ggX4_told_X4_checkHut : GoodIn wsX4_told wsX4_checkHut := goodIn_ca (goodIn_r _ [9, 1, 2, 3, 10, 11, 12, 13, 14, 15, 109, 110, 111, 112, 113, 114, 115, 116, 117, 118, 119, 120] (by decide +kernel) (by decide +kernel)) (goodIn_sub (fun _ h => List.mem_cons_of_mem _ (List.mem_append_right _ h)) (by decide +kernel))
set_option maxRecDepth 20000 in
theorem gX4_told_X4_checkHut : GoodIn wsX4_told (wsV RX4 59 RX4 yX4_checkHut wsX4_checkHut) := goodIn_app (goodIn_of _ (by decide +kernel)) ggX4_told_X4_checkHut
set_option maxRecDepth 20000 in
theorem ggX4_told_X1_area : GoodIn wsX4_told wsX1_area := goodIn_r _ [19, 20, 114, 115, 116, 117, 118, 119, 120] (by decide +kernel) (by decide +kernel)
set_option maxRecDepth 20000 in
theorem gX4_told_X1_area : GoodIn wsX4_told (wsV RX4 149 RX1 yX1_area wsX1_area) := goodIn_app (goodIn_of _ (by decide +kernel)) ggX4_told_X1_area
set_option maxRecDepth 20000 in
theorem ggX4_told_X2_sheetsOf : GoodIn wsX4_told wsX2_sheetsOf := goodIn_r _ [25, 26, 27, 28, 24, 29, 121, 122, 123, 124, 125, 126, 127, 128] (by decide +kernel) (by decide +kernel)
set_option maxRecDepth 20000 in
theorem gX4_told_X2_sheetsOf : GoodIn wsX4_told (wsV RX4 152 RX2 yX2_sheetsOf wsX2_sheetsOf) := goodIn_app (goodIn_of _ (by decide +kernel)) ggX4_told_X2_sheetsOf
set_option maxRecDepth 20000 in
theorem ggX4_told_X2_wroteInAll : GoodIn wsX4_told wsX2_wroteInAll := goodIn_r _ [33, 34, 121, 122, 123, 124, 125, 126, 127, 128] (by decide +kernel) (by decide +kernel)
set_option maxRecDepth 20000 in
theorem gX4_told_X2_wroteInAll : GoodIn wsX4_told (wsV RX4 155 RX2 yX2_wroteInAll wsX2_wroteInAll) := goodIn_app (goodIn_of _ (by decide +kernel)) ggX4_told_X2_wroteInAll
set_option maxRecDepth 20000 in
theorem ggX4_told_X2_knownHuts : GoodIn wsX4_told wsX2_knownHuts := goodIn_r _ [38, 39, 40, 41, 11, 12, 13, 14, 15, 42, 43, 44, 24, 45, 46, 47, 48, 49, 50, 51, 52, 26, 53, 54, 55, 56, 57, 58, 59, 60, 61, 62, 63, 64, 65, 66, 67, 68, 69, 70, 71, 72, 73, 27, 28, 29, 74, 75, 76, 77, 78, 79, 80, 81, 82, 83, 84, 85, 86, 87, 88, 89, 90, 91, 92, 93, 94, 95, 121, 122, 123, 124, 125, 126, 127, 128, 114, 115, 116, 117, 118, 119, 120, 129, 130, 131, 132, 133, 134, 135] (by decide +kernel) (by decide +kernel)
set_option maxRecDepth 20000 in
theorem gX4_told_X2_knownHuts : GoodIn wsX4_told (wsV RX4 158 RX2 yX2_knownHuts wsX2_knownHuts) := goodIn_app (goodIn_of _ (by decide +kernel)) ggX4_told_X2_knownHuts
set_option maxRecDepth 20000 in
theorem ggX4_told_X2_reachedHuts : GoodIn wsX4_told wsX2_reachedHuts := goodIn_r _ [99, 39, 41, 11, 12, 13, 14, 15, 100, 101, 102, 24, 103, 40, 42, 43, 44, 45, 46, 47, 48, 49, 50, 51, 52, 26, 53, 54, 55, 56, 57, 58, 59, 60, 61, 62, 63, 64, 65, 66, 67, 68, 69, 70, 71, 72, 73, 27, 28, 29, 74, 75, 76, 77, 78, 79, 80, 81, 82, 83, 84, 85, 86, 87, 88, 89, 90, 91, 92, 93, 94, 95, 104, 105, 106, 107, 108, 121, 122, 123, 124, 125, 126, 127, 128, 114, 115, 116, 117, 118, 119, 120, 129, 130, 131, 132, 133, 134, 135] (by decide +kernel) (by decide +kernel)
set_option maxRecDepth 20000 in
theorem gX4_told_X2_reachedHuts : GoodIn wsX4_told (wsV RX4 161 RX2 yX2_reachedHuts wsX2_reachedHuts) := goodIn_app (goodIn_of _ (by decide +kernel)) ggX4_told_X2_reachedHuts
theorem dX4_told_0 : decode cX4_told 0 = .ok (.aload_n 0, 1) := by decide +kernel
theorem dX4_told_1 : decode cX4_told 1 = .ok (.iload_n 1, 1) := by decide +kernel
theorem dX4_told_2 : decode cX4_told 2 = .ok (.invokevirtual 59, 3) := by decide +kernel
theorem dX4_told_5 : decode cX4_told 5 = .ok (.iload_n 2, 1) := by decide +kernel
theorem dX4_told_6 : decode cX4_told 6 = .ok (.tableswitch 79 0 4 #[34, 43, 52, 61, 70], 34) := by decide +kernel
theorem dX4_told_40 : decode cX4_told 40 = .ok (.aload_n 0, 1) := by decide +kernel
theorem dX4_told_41 : decode cX4_told 41 = .ok (.getfield 10, 3) := by decide +kernel
theorem dX4_told_44 : decode cX4_told 44 = .ok (.iload_n 1, 1) := by decide +kernel
theorem dX4_told_45 : decode cX4_told 45 = .ok (.invokevirtual 149, 3) := by decide +kernel
theorem dX4_told_48 : decode cX4_told 48 = .ok (.ireturn, 1) := by decide +kernel
theorem dX4_told_49 : decode cX4_told 49 = .ok (.aload_n 0, 1) := by decide +kernel
theorem dX4_told_50 : decode cX4_told 50 = .ok (.getfield 21, 3) := by decide +kernel
theorem dX4_told_53 : decode cX4_told 53 = .ok (.iload_n 1, 1) := by decide +kernel
theorem dX4_told_54 : decode cX4_told 54 = .ok (.invokevirtual 152, 3) := by decide +kernel
theorem dX4_told_57 : decode cX4_told 57 = .ok (.ireturn, 1) := by decide +kernel
theorem dX4_told_58 : decode cX4_told 58 = .ok (.aload_n 0, 1) := by decide +kernel
theorem dX4_told_59 : decode cX4_told 59 = .ok (.getfield 21, 3) := by decide +kernel
theorem dX4_told_62 : decode cX4_told 62 = .ok (.iload_n 1, 1) := by decide +kernel
theorem dX4_told_63 : decode cX4_told 63 = .ok (.invokevirtual 155, 3) := by decide +kernel
theorem dX4_told_66 : decode cX4_told 66 = .ok (.ireturn, 1) := by decide +kernel
theorem dX4_told_67 : decode cX4_told 67 = .ok (.aload_n 0, 1) := by decide +kernel
theorem dX4_told_68 : decode cX4_told 68 = .ok (.getfield 21, 3) := by decide +kernel
theorem dX4_told_71 : decode cX4_told 71 = .ok (.iload_n 1, 1) := by decide +kernel
theorem dX4_told_72 : decode cX4_told 72 = .ok (.invokevirtual 158, 3) := by decide +kernel
theorem dX4_told_75 : decode cX4_told 75 = .ok (.ireturn, 1) := by decide +kernel
theorem dX4_told_76 : decode cX4_told 76 = .ok (.aload_n 0, 1) := by decide +kernel
theorem dX4_told_77 : decode cX4_told 77 = .ok (.getfield 21, 3) := by decide +kernel
theorem dX4_told_80 : decode cX4_told 80 = .ok (.iload_n 1, 1) := by decide +kernel
theorem dX4_told_81 : decode cX4_told 81 = .ok (.invokevirtual 161, 3) := by decide +kernel
theorem dX4_told_84 : decode cX4_told 84 = .ok (.ireturn, 1) := by decide +kernel
theorem dX4_told_85 : decode cX4_told 85 = .ok (.new 144, 3) := by decide +kernel
theorem dX4_told_88 : decode cX4_told 88 = .ok (.dup, 1) := by decide +kernel
theorem dX4_told_89 : decode cX4_told 89 = .ok (.ldc 146, 2) := by decide +kernel
theorem dX4_told_91 : decode cX4_told 91 = .ok (.invokespecial 148, 3) := by decide +kernel
theorem dX4_told_94 : decode cX4_told 94 = .ok (.athrow, 1) := by decide +kernel
set_option maxRecDepth 20000 in
theorem ggX4_count_X2_minute : GoodIn wsX4_count wsX2_minute := goodIn_r _ [9, 10, 124, 125, 126, 127, 128, 129, 130, 131] (by decide +kernel) (by decide +kernel)
set_option maxRecDepth 20000 in
theorem gX4_count_X2_minute : GoodIn wsX4_count (wsV RX4 104 RX2 yX2_minute wsX2_minute) := goodIn_app (goodIn_of _ (by decide +kernel)) ggX4_count_X2_minute
set_option maxRecDepth 20000 in
theorem ggX4_count_X1_huts : GoodIn wsX4_count wsX1_huts := goodIn_r _ [15, 16, 132, 133, 134, 135, 136, 137, 138] (by decide +kernel) (by decide +kernel)
set_option maxRecDepth 20000 in
theorem gX4_count_X1_huts : GoodIn wsX4_count (wsV RX4 46 RX1 yX1_huts wsX1_huts) := goodIn_app (goodIn_of _ (by decide +kernel)) ggX4_count_X1_huts
set_option maxRecDepth 20000 in
theorem ggX4_count_X1_passes : GoodIn wsX4_count wsX1_passes := goodIn_r _ [20, 21, 132, 133, 134, 135, 136, 137, 138] (by decide +kernel) (by decide +kernel)
set_option maxRecDepth 20000 in
theorem gX4_count_X1_passes : GoodIn wsX4_count (wsV RX4 68 RX1 yX1_passes wsX1_passes) := goodIn_app (goodIn_of _ (by decide +kernel)) ggX4_count_X1_passes
set_option maxRecDepth 20000 in
theorem ggX4_count_X1_openPasses : GoodIn wsX4_count wsX1_openPasses := goodIn_r _ [25, 21, 26, 132, 133, 134, 135, 136, 137, 138] (by decide +kernel) (by decide +kernel)
set_option maxRecDepth 20000 in
theorem gX4_count_X1_openPasses : GoodIn wsX4_count (wsV RX4 164 RX1 yX1_openPasses wsX1_openPasses) := goodIn_app (goodIn_of _ (by decide +kernel)) ggX4_count_X1_openPasses
set_option maxRecDepth 20000 in
theorem ggX4_count_X2_sheets : GoodIn wsX4_count wsX2_sheets := goodIn_r _ [30, 31, 32, 12, 13, 14, 15, 16, 33, 34, 35, 8, 36, 37, 38, 39, 40, 124, 125, 126, 127, 128, 129, 130, 131, 132, 133, 134, 135, 136, 137, 138] (by decide +kernel) (by decide +kernel)
set_option maxRecDepth 20000 in
theorem gX4_count_X2_sheets : GoodIn wsX4_count (wsV RX4 167 RX2 yX2_sheets wsX2_sheets) := goodIn_app (goodIn_of _ (by decide +kernel)) ggX4_count_X2_sheets
set_option maxRecDepth 20000 in
theorem ggX4_count_X2_reachedPairs : GoodIn wsX4_count wsX2_reachedPairs := goodIn_r _ [44, 31, 32, 12, 13, 14, 15, 16, 45, 46, 47, 8, 48, 49, 50, 51, 52, 53, 54, 55, 56, 57, 58, 59, 60, 37, 61, 62, 63, 64, 65, 66, 67, 18, 19, 20, 21, 68, 69, 70, 71, 72, 73, 74, 75, 76, 77, 38, 39, 40, 78, 79, 80, 81, 82, 83, 84, 85, 86, 87, 88, 89, 90, 91, 92, 93, 94, 95, 96, 97, 98, 99, 100, 101, 102, 103, 26, 124, 125, 126, 127, 128, 129, 130, 131, 132, 133, 134, 135, 136, 137, 138, 139, 140, 141, 142, 143, 144, 145] (by decide +kernel) (by decide +kernel)
set_option maxRecDepth 20000 in
theorem gX4_count_X2_reachedPairs : GoodIn wsX4_count (wsV RX4 170 RX2 yX2_reachedPairs wsX2_reachedPairs) := goodIn_app (goodIn_of _ (by decide +kernel)) ggX4_count_X2_reachedPairs
set_option maxRecDepth 20000 in
theorem ggX4_count_X1_joinedPairs : GoodIn wsX4_count wsX1_joinedPairs := goodIn_r _ [107, 16, 108, 109, 110, 14, 111, 21, 72, 77, 26, 112, 113, 114, 115, 116, 117, 118, 132, 133, 134, 135, 136, 137, 138] (by decide +kernel) (by decide +kernel)
set_option maxRecDepth 20000 in
theorem gX4_count_X1_joinedPairs : GoodIn wsX4_count (wsV RX4 173 RX1 yX1_joinedPairs wsX1_joinedPairs) := goodIn_app (goodIn_of _ (by decide +kernel)) ggX4_count_X1_joinedPairs
theorem dX4_count_0 : decode cX4_count 0 = .ok (.iload_n 1, 1) := by decide +kernel
theorem dX4_count_1 : decode cX4_count 1 = .ok (.tableswitch 100 0 6 #[43, 51, 59, 67, 75, 83, 91], 43) := by decide +kernel
theorem dX4_count_44 : decode cX4_count 44 = .ok (.aload_n 0, 1) := by decide +kernel
theorem dX4_count_45 : decode cX4_count 45 = .ok (.getfield 21, 3) := by decide +kernel
theorem dX4_count_48 : decode cX4_count 48 = .ok (.invokevirtual 104, 3) := by decide +kernel
theorem dX4_count_51 : decode cX4_count 51 = .ok (.ireturn, 1) := by decide +kernel
theorem dX4_count_52 : decode cX4_count 52 = .ok (.aload_n 0, 1) := by decide +kernel
theorem dX4_count_53 : decode cX4_count 53 = .ok (.getfield 10, 3) := by decide +kernel
theorem dX4_count_56 : decode cX4_count 56 = .ok (.invokevirtual 46, 3) := by decide +kernel
theorem dX4_count_59 : decode cX4_count 59 = .ok (.ireturn, 1) := by decide +kernel
theorem dX4_count_60 : decode cX4_count 60 = .ok (.aload_n 0, 1) := by decide +kernel
theorem dX4_count_61 : decode cX4_count 61 = .ok (.getfield 10, 3) := by decide +kernel
theorem dX4_count_64 : decode cX4_count 64 = .ok (.invokevirtual 68, 3) := by decide +kernel
theorem dX4_count_67 : decode cX4_count 67 = .ok (.ireturn, 1) := by decide +kernel
theorem dX4_count_68 : decode cX4_count 68 = .ok (.aload_n 0, 1) := by decide +kernel
theorem dX4_count_69 : decode cX4_count 69 = .ok (.getfield 10, 3) := by decide +kernel
theorem dX4_count_72 : decode cX4_count 72 = .ok (.invokevirtual 164, 3) := by decide +kernel
theorem dX4_count_75 : decode cX4_count 75 = .ok (.ireturn, 1) := by decide +kernel
theorem dX4_count_76 : decode cX4_count 76 = .ok (.aload_n 0, 1) := by decide +kernel
theorem dX4_count_77 : decode cX4_count 77 = .ok (.getfield 21, 3) := by decide +kernel
theorem dX4_count_80 : decode cX4_count 80 = .ok (.invokevirtual 167, 3) := by decide +kernel
theorem dX4_count_83 : decode cX4_count 83 = .ok (.ireturn, 1) := by decide +kernel
theorem dX4_count_84 : decode cX4_count 84 = .ok (.aload_n 0, 1) := by decide +kernel
theorem dX4_count_85 : decode cX4_count 85 = .ok (.getfield 21, 3) := by decide +kernel
theorem dX4_count_88 : decode cX4_count 88 = .ok (.invokevirtual 170, 3) := by decide +kernel
theorem dX4_count_91 : decode cX4_count 91 = .ok (.ireturn, 1) := by decide +kernel
theorem dX4_count_92 : decode cX4_count 92 = .ok (.aload_n 0, 1) := by decide +kernel
theorem dX4_count_93 : decode cX4_count 93 = .ok (.getfield 10, 3) := by decide +kernel
theorem dX4_count_96 : decode cX4_count 96 = .ok (.iconst (-1), 1) := by decide +kernel
theorem dX4_count_97 : decode cX4_count 97 = .ok (.invokevirtual 173, 3) := by decide +kernel
theorem dX4_count_100 : decode cX4_count 100 = .ok (.ireturn, 1) := by decide +kernel
theorem dX4_count_101 : decode cX4_count 101 = .ok (.new 144, 3) := by decide +kernel
theorem dX4_count_104 : decode cX4_count 104 = .ok (.dup, 1) := by decide +kernel
theorem dX4_count_105 : decode cX4_count 105 = .ok (.ldc 176, 2) := by decide +kernel
theorem dX4_count_107 : decode cX4_count 107 = .ok (.invokespecial 148, 3) := by decide +kernel
theorem dX4_count_110 : decode cX4_count 110 = .ok (.athrow, 1) := by decide +kernel
set_option maxRecDepth 20000 in
theorem ggX4_go_X4_checkMinutes : GoodIn wsX4_go wsX4_checkMinutes := goodIn_ca (goodIn_r _ [6, 7, 8] (by decide +kernel) (by decide +kernel)) (goodIn_sub (fun _ h => List.mem_cons_of_mem _ (List.mem_append_right _ h)) (by decide +kernel))
set_option maxRecDepth 20000 in
theorem gX4_go_X4_checkMinutes : GoodIn wsX4_go (wsV RX4 178 RX4 yX4_checkMinutes wsX4_checkMinutes) := goodIn_app (goodIn_of _ (by decide +kernel)) ggX4_go_X4_checkMinutes
set_option maxRecDepth 20000 in
theorem ggX4_go_X2_passMinutes : GoodIn wsX4_go wsX2_passMinutes := goodIn_r _ [13, 14, 15, 16, 17, 12, 18, 19, 20, 21, 22, 23, 24, 25, 26, 27, 28, 29, 30, 31, 32, 33, 34, 35, 36, 37, 38, 39, 40, 41, 42, 43, 44, 45, 46, 47, 48, 49, 50, 51, 52, 53, 54, 55, 56, 57, 58, 59, 60, 61, 62, 63, 64, 65, 66, 67, 68, 69, 70, 71, 72, 73, 74, 75, 76, 77, 78, 79, 80, 81, 82, 83, 84, 85, 86, 87, 88, 89, 90, 91, 92, 93, 94, 95, 96, 97, 98, 99, 100, 101, 102, 103, 104, 105, 106, 107, 108, 109, 110, 111, 112, 118, 119, 120, 121, 122, 123, 124, 125, 126, 127, 128, 129, 130, 131, 132, 133, 134, 135] (by decide +kernel) (by decide +kernel)
set_option maxRecDepth 20000 in
theorem gX4_go_X2_passMinutes : GoodIn wsX4_go (wsV RX4 181 RX2 yX2_passMinutes wsX2_passMinutes) := goodIn_app (goodIn_of _ (by decide +kernel)) ggX4_go_X2_passMinutes
theorem dX4_go_0 : decode cX4_go 0 = .ok (.aload_n 0, 1) := by decide +kernel
theorem dX4_go_1 : decode cX4_go 1 = .ok (.iload_n 1, 1) := by decide +kernel
theorem dX4_go_2 : decode cX4_go 2 = .ok (.invokevirtual 178, 3) := by decide +kernel
theorem dX4_go_5 : decode cX4_go 5 = .ok (.aload_n 0, 1) := by decide +kernel
theorem dX4_go_6 : decode cX4_go 6 = .ok (.getfield 21, 3) := by decide +kernel
theorem dX4_go_9 : decode cX4_go 9 = .ok (.iload_n 1, 1) := by decide +kernel
theorem dX4_go_10 : decode cX4_go 10 = .ok (.invokevirtual 181, 3) := by decide +kernel
theorem dX4_go_13 : decode cX4_go 13 = .ok (.ireturn, 1) := by decide +kernel
set_option maxRecDepth 20000 in
theorem ggX4_foresee_X4_checkMinutes : GoodIn wsX4_foresee wsX4_checkMinutes := goodIn_ca (goodIn_r _ [9, 10, 11] (by decide +kernel) (by decide +kernel)) (goodIn_sub (fun _ h => List.mem_cons_of_mem _ (List.mem_append_right _ h)) (by decide +kernel))
set_option maxRecDepth 20000 in
theorem gX4_foresee_X4_checkMinutes : GoodIn wsX4_foresee (wsV RX4 178 RX4 yX4_checkMinutes wsX4_checkMinutes) := goodIn_app (goodIn_of _ (by decide +kernel)) ggX4_foresee_X4_checkMinutes
set_option maxRecDepth 20000 in
theorem ggX4_foresee_X2_copy : GoodIn wsX4_foresee wsX2_copy := goodIn_r _ [16, 17, 18, 19, 20, 21, 22, 15, 23, 24, 182, 183, 184, 185, 186, 187, 188, 189] (by decide +kernel) (by decide +kernel)
set_option maxRecDepth 20000 in
theorem gX4_foresee_X2_copy : GoodIn wsX4_foresee (wsV RX4 186 RX2 yX2_copy wsX2_copy) := goodIn_app (goodIn_of _ (by decide +kernel)) ggX4_foresee_X2_copy
set_option maxRecDepth 20000 in
theorem ggX4_foresee_X2_passMinutes : GoodIn wsX4_foresee wsX2_passMinutes := goodIn_r _ [28, 17, 29, 30, 31, 15, 32, 33, 18, 19, 34, 35, 36, 37, 38, 39, 40, 41, 42, 43, 44, 45, 46, 47, 48, 49, 50, 51, 52, 53, 54, 55, 56, 57, 58, 59, 60, 61, 62, 63, 64, 65, 66, 67, 68, 69, 70, 71, 72, 73, 74, 75, 76, 77, 78, 79, 80, 81, 82, 83, 84, 85, 86, 87, 88, 89, 90, 91, 92, 93, 94, 95, 96, 97, 98, 99, 100, 101, 102, 103, 104, 105, 106, 107, 108, 109, 110, 111, 112, 113, 114, 115, 116, 117, 118, 119, 20, 21, 22, 23, 24, 182, 183, 184, 185, 186, 187, 188, 189, 190, 191, 192, 193, 194, 195, 196, 197, 198, 199] (by decide +kernel) (by decide +kernel)
set_option maxRecDepth 20000 in
theorem gX4_foresee_X2_passMinutes : GoodIn wsX4_foresee (wsV RX4 181 RX2 yX2_passMinutes wsX2_passMinutes) := goodIn_app (goodIn_of _ (by decide +kernel)) ggX4_foresee_X2_passMinutes
set_option maxRecDepth 20000 in
theorem ggX4_foresee_X2_sheets : GoodIn wsX4_foresee wsX2_sheets := goodIn_r _ [123, 33, 37, 38, 39, 40, 41, 42, 124, 125, 126, 15, 127, 19, 47, 48, 49, 182, 183, 184, 185, 186, 187, 188, 189, 193, 194, 195, 196, 197, 198, 199] (by decide +kernel) (by decide +kernel)
set_option maxRecDepth 20000 in
theorem gX4_foresee_X2_sheets : GoodIn wsX4_foresee (wsV RX4 167 RX2 yX2_sheets wsX2_sheets) := goodIn_app (goodIn_of _ (by decide +kernel)) ggX4_foresee_X2_sheets
set_option maxRecDepth 20000 in
theorem ggX4_foresee_X2_reachedPairs : GoodIn wsX4_foresee wsX2_reachedPairs := goodIn_r _ [131, 33, 37, 38, 39, 40, 41, 42, 132, 133, 134, 15, 135, 136, 137, 138, 139, 140, 24, 141, 142, 143, 144, 145, 146, 19, 147, 148, 149, 150, 151, 152, 86, 61, 62, 63, 64, 91, 92, 93, 94, 69, 95, 96, 97, 98, 70, 47, 48, 49, 153, 154, 155, 36, 156, 59, 157, 158, 159, 160, 161, 162, 163, 164, 165, 166, 167, 168, 169, 170, 171, 172, 173, 174, 175, 176, 71, 182, 183, 184, 185, 186, 187, 188, 189, 193, 194, 195, 196, 197, 198, 199, 200, 201, 202, 203, 190, 191, 192] (by decide +kernel) (by decide +kernel)
set_option maxRecDepth 20000 in
theorem gX4_foresee_X2_reachedPairs : GoodIn wsX4_foresee (wsV RX4 170 RX2 yX2_reachedPairs wsX2_reachedPairs) := goodIn_app (goodIn_of _ (by decide +kernel)) ggX4_foresee_X2_reachedPairs
theorem dX4_foresee_0 : decode cX4_foresee 0 = .ok (.aload_n 0, 1) := by decide +kernel
theorem dX4_foresee_1 : decode cX4_foresee 1 = .ok (.iload_n 1, 1) := by decide +kernel
theorem dX4_foresee_2 : decode cX4_foresee 2 = .ok (.invokevirtual 178, 3) := by decide +kernel
theorem dX4_foresee_5 : decode cX4_foresee 5 = .ok (.iload_n 2, 1) := by decide +kernel
theorem dX4_foresee_6 : decode cX4_foresee 6 = .ok (.iconst 4, 1) := by decide +kernel
theorem dX4_foresee_7 : decode cX4_foresee 7 = .ok (.if_icmp .eq 18, 3) := by decide +kernel
theorem dX4_foresee_10 : decode cX4_foresee 10 = .ok (.iload_n 2, 1) := by decide +kernel
theorem dX4_foresee_11 : decode cX4_foresee 11 = .ok (.iconst 5, 1) := by decide +kernel
theorem dX4_foresee_12 : decode cX4_foresee 12 = .ok (.if_icmp .eq 13, 3) := by decide +kernel
theorem dX4_foresee_15 : decode cX4_foresee 15 = .ok (.new 144, 3) := by decide +kernel
theorem dX4_foresee_18 : decode cX4_foresee 18 = .ok (.dup, 1) := by decide +kernel
theorem dX4_foresee_19 : decode cX4_foresee 19 = .ok (.ldc 184, 2) := by decide +kernel
theorem dX4_foresee_21 : decode cX4_foresee 21 = .ok (.invokespecial 148, 3) := by decide +kernel
theorem dX4_foresee_24 : decode cX4_foresee 24 = .ok (.athrow, 1) := by decide +kernel
theorem dX4_foresee_25 : decode cX4_foresee 25 = .ok (.aload_n 0, 1) := by decide +kernel
theorem dX4_foresee_26 : decode cX4_foresee 26 = .ok (.getfield 25, 3) := by decide +kernel
theorem dX4_foresee_29 : decode cX4_foresee 29 = .ok (.aload_n 0, 1) := by decide +kernel
theorem dX4_foresee_30 : decode cX4_foresee 30 = .ok (.getfield 21, 3) := by decide +kernel
theorem dX4_foresee_33 : decode cX4_foresee 33 = .ok (.invokevirtual 186, 3) := by decide +kernel
theorem dX4_foresee_36 : decode cX4_foresee 36 = .ok (.aload_n 0, 1) := by decide +kernel
theorem dX4_foresee_37 : decode cX4_foresee 37 = .ok (.getfield 25, 3) := by decide +kernel
theorem dX4_foresee_40 : decode cX4_foresee 40 = .ok (.iload_n 1, 1) := by decide +kernel
theorem dX4_foresee_41 : decode cX4_foresee 41 = .ok (.invokevirtual 181, 3) := by decide +kernel
theorem dX4_foresee_44 : decode cX4_foresee 44 = .ok (.pop, 1) := by decide +kernel
theorem dX4_foresee_45 : decode cX4_foresee 45 = .ok (.iload_n 2, 1) := by decide +kernel
theorem dX4_foresee_46 : decode cX4_foresee 46 = .ok (.iconst 4, 1) := by decide +kernel
theorem dX4_foresee_47 : decode cX4_foresee 47 = .ok (.if_icmp .ne 13, 3) := by decide +kernel
theorem dX4_foresee_50 : decode cX4_foresee 50 = .ok (.aload_n 0, 1) := by decide +kernel
theorem dX4_foresee_51 : decode cX4_foresee 51 = .ok (.getfield 25, 3) := by decide +kernel
theorem dX4_foresee_54 : decode cX4_foresee 54 = .ok (.invokevirtual 167, 3) := by decide +kernel
theorem dX4_foresee_57 : decode cX4_foresee 57 = .ok (.goto 10, 3) := by decide +kernel
theorem dX4_foresee_60 : decode cX4_foresee 60 = .ok (.aload_n 0, 1) := by decide +kernel
theorem dX4_foresee_61 : decode cX4_foresee 61 = .ok (.getfield 25, 3) := by decide +kernel
theorem dX4_foresee_64 : decode cX4_foresee 64 = .ok (.invokevirtual 170, 3) := by decide +kernel
theorem dX4_foresee_67 : decode cX4_foresee 67 = .ok (.ireturn, 1) := by decide +kernel
set_option maxRecDepth 20000 in
theorem ggX4_settles_X1_joinedPairs : GoodIn wsX4_settles wsX1_joinedPairs := goodIn_r _ [8, 9, 10, 11, 12, 7, 13, 14, 15, 16, 17, 18, 19, 20, 21, 22, 23, 24, 181, 182, 183, 184, 185, 186, 187] (by decide +kernel) (by decide +kernel)
set_option maxRecDepth 20000 in
theorem gX4_settles_X1_joinedPairs : GoodIn wsX4_settles (wsV RX4 173 RX1 yX1_joinedPairs wsX1_joinedPairs) := goodIn_app (goodIn_of _ (by decide +kernel)) ggX4_settles_X1_joinedPairs
set_option maxRecDepth 20000 in
theorem ggX4_settles_X2_reachedPairs : GoodIn wsX4_settles wsX2_reachedPairs := goodIn_r _ [29, 30, 31, 32, 33, 7, 34, 9, 35, 36, 37, 28, 38, 39, 40, 41, 42, 43, 44, 45, 46, 47, 48, 49, 50, 51, 52, 53, 54, 55, 56, 57, 58, 59, 60, 61, 14, 62, 63, 64, 65, 15, 66, 67, 68, 69, 16, 70, 71, 72, 73, 74, 75, 76, 77, 78, 79, 80, 81, 82, 83, 84, 85, 86, 87, 88, 89, 90, 91, 92, 93, 94, 95, 96, 97, 98, 17, 188, 189, 190, 191, 192, 193, 194, 195, 181, 182, 183, 184, 185, 186, 187, 196, 197, 198, 199, 200, 201, 202] (by decide +kernel) (by decide +kernel)
set_option maxRecDepth 20000 in
theorem gX4_settles_X2_reachedPairs : GoodIn wsX4_settles (wsV RX4 170 RX2 yX2_reachedPairs wsX2_reachedPairs) := goodIn_app (goodIn_of _ (by decide +kernel)) ggX4_settles_X2_reachedPairs
set_option maxRecDepth 20000 in
theorem ggX4_settles_X2_copy : GoodIn wsX4_settles wsX2_copy := goodIn_r _ [102, 103, 104, 51, 105, 106, 107, 28, 108, 44, 188, 189, 190, 191, 192, 193, 194, 195] (by decide +kernel) (by decide +kernel)
set_option maxRecDepth 20000 in
theorem gX4_settles_X2_copy : GoodIn wsX4_settles (wsV RX4 186 RX2 yX2_copy wsX2_copy) := goodIn_app (goodIn_of _ (by decide +kernel)) ggX4_settles_X2_copy
set_option maxRecDepth 20000 in
theorem ggX4_settles_X2_passMinutes : GoodIn wsX4_settles wsX2_passMinutes := goodIn_r _ [112, 103, 113, 114, 115, 28, 116, 30, 104, 51, 117, 118, 76, 31, 32, 33, 7, 34, 9, 119, 120, 121, 122, 70, 71, 72, 123, 124, 125, 126, 127, 128, 129, 130, 131, 78, 132, 59, 60, 61, 14, 133, 134, 135, 136, 15, 16, 17, 137, 138, 139, 140, 141, 142, 143, 144, 145, 146, 147, 148, 149, 150, 58, 151, 152, 153, 154, 62, 63, 64, 65, 66, 67, 68, 69, 155, 156, 157, 158, 159, 160, 161, 162, 163, 164, 165, 166, 167, 168, 169, 170, 171, 172, 173, 174, 175, 105, 106, 107, 108, 44, 188, 189, 190, 191, 192, 193, 194, 195, 200, 201, 202, 181, 182, 183, 184, 185, 186, 187] (by decide +kernel) (by decide +kernel)
set_option maxRecDepth 20000 in
theorem gX4_settles_X2_passMinutes : GoodIn wsX4_settles (wsV RX4 181 RX2 yX2_passMinutes wsX2_passMinutes) := goodIn_app (goodIn_of _ (by decide +kernel)) ggX4_settles_X2_passMinutes
theorem dX4_settles_0 : decode cX4_settles 0 = .ok (.aload_n 0, 1) := by decide +kernel
theorem dX4_settles_1 : decode cX4_settles 1 = .ok (.getfield 10, 3) := by decide +kernel
theorem dX4_settles_4 : decode cX4_settles 4 = .ok (.iconst (-1), 1) := by decide +kernel
theorem dX4_settles_5 : decode cX4_settles 5 = .ok (.invokevirtual 173, 3) := by decide +kernel
theorem dX4_settles_8 : decode cX4_settles 8 = .ok (.istore_n 1, 1) := by decide +kernel
theorem dX4_settles_9 : decode cX4_settles 9 = .ok (.aload_n 0, 1) := by decide +kernel
theorem dX4_settles_10 : decode cX4_settles 10 = .ok (.getfield 21, 3) := by decide +kernel
theorem dX4_settles_13 : decode cX4_settles 13 = .ok (.invokevirtual 170, 3) := by decide +kernel
theorem dX4_settles_16 : decode cX4_settles 16 = .ok (.iload_n 1, 1) := by decide +kernel
theorem dX4_settles_17 : decode cX4_settles 17 = .ok (.if_icmp .ne 5, 3) := by decide +kernel
theorem dX4_settles_20 : decode cX4_settles 20 = .ok (.iconst 0, 1) := by decide +kernel
theorem dX4_settles_21 : decode cX4_settles 21 = .ok (.ireturn, 1) := by decide +kernel
theorem dX4_settles_22 : decode cX4_settles 22 = .ok (.aload_n 0, 1) := by decide +kernel
theorem dX4_settles_23 : decode cX4_settles 23 = .ok (.getfield 25, 3) := by decide +kernel
theorem dX4_settles_26 : decode cX4_settles 26 = .ok (.aload_n 0, 1) := by decide +kernel
theorem dX4_settles_27 : decode cX4_settles 27 = .ok (.getfield 21, 3) := by decide +kernel
theorem dX4_settles_30 : decode cX4_settles 30 = .ok (.invokevirtual 186, 3) := by decide +kernel
theorem dX4_settles_33 : decode cX4_settles 33 = .ok (.iconst 1, 1) := by decide +kernel
theorem dX4_settles_34 : decode cX4_settles 34 = .ok (.istore_n 2, 1) := by decide +kernel
theorem dX4_settles_35 : decode cX4_settles 35 = .ok (.iload_n 2, 1) := by decide +kernel
theorem dX4_settles_36 : decode cX4_settles 36 = .ok (.bipush 40, 2) := by decide +kernel
theorem dX4_settles_38 : decode cX4_settles 38 = .ok (.if_icmp .gt 31, 3) := by decide +kernel
theorem dX4_settles_41 : decode cX4_settles 41 = .ok (.aload_n 0, 1) := by decide +kernel
theorem dX4_settles_42 : decode cX4_settles 42 = .ok (.getfield 25, 3) := by decide +kernel
theorem dX4_settles_45 : decode cX4_settles 45 = .ok (.iconst 1, 1) := by decide +kernel
theorem dX4_settles_46 : decode cX4_settles 46 = .ok (.invokevirtual 181, 3) := by decide +kernel
theorem dX4_settles_49 : decode cX4_settles 49 = .ok (.pop, 1) := by decide +kernel
theorem dX4_settles_50 : decode cX4_settles 50 = .ok (.aload_n 0, 1) := by decide +kernel
theorem dX4_settles_51 : decode cX4_settles 51 = .ok (.getfield 25, 3) := by decide +kernel
theorem dX4_settles_54 : decode cX4_settles 54 = .ok (.invokevirtual 170, 3) := by decide +kernel
theorem dX4_settles_57 : decode cX4_settles 57 = .ok (.iload_n 1, 1) := by decide +kernel
theorem dX4_settles_58 : decode cX4_settles 58 = .ok (.if_icmp .ne 5, 3) := by decide +kernel
theorem dX4_settles_61 : decode cX4_settles 61 = .ok (.iload_n 2, 1) := by decide +kernel
theorem dX4_settles_62 : decode cX4_settles 62 = .ok (.ireturn, 1) := by decide +kernel
theorem dX4_settles_63 : decode cX4_settles 63 = .ok (.iinc 2 1, 3) := by decide +kernel
theorem dX4_settles_66 : decode cX4_settles 66 = .ok (.goto (-31), 3) := by decide +kernel
theorem dX4_settles_69 : decode cX4_settles 69 = .ok (.iconst (-1), 1) := by decide +kernel
theorem dX4_settles_70 : decode cX4_settles 70 = .ok (.ireturn, 1) := by decide +kernel
set_option maxRecDepth 20000 in
theorem ggX4_advise_X1_passes : GoodIn wsX4_advise wsX1_passes := goodIn_r _ [6, 7, 36, 37, 38, 39, 40, 41, 42] (by decide +kernel) (by decide +kernel)
set_option maxRecDepth 20000 in
theorem gX4_advise_X1_passes : GoodIn wsX4_advise (wsV RX4 68 RX1 yX1_passes wsX1_passes) := goodIn_app (goodIn_of _ (by decide +kernel)) ggX4_advise_X1_passes
set_option maxRecDepth 20000 in
theorem ggX4_advise_X1_isOpen : GoodIn wsX4_advise wsX1_isOpen := goodIn_r _ [11, 12, 36, 37, 38, 39, 40, 41, 42] (by decide +kernel) (by decide +kernel)
set_option maxRecDepth 20000 in
theorem gX4_advise_X1_isOpen : GoodIn wsX4_advise (wsV RX4 137 RX1 yX1_isOpen wsX1_isOpen) := goodIn_app (goodIn_of _ (by decide +kernel)) ggX4_advise_X1_isOpen
set_option maxRecDepth 20000 in
theorem ggX4_advise_X1_joinedPairs : GoodIn wsX4_advise wsX1_joinedPairs := goodIn_r _ [16, 17, 18, 19, 20, 5, 21, 7, 22, 23, 12, 24, 25, 26, 27, 28, 29, 30, 36, 37, 38, 39, 40, 41, 42] (by decide +kernel) (by decide +kernel)
set_option maxRecDepth 20000 in
theorem gX4_advise_X1_joinedPairs : GoodIn wsX4_advise (wsV RX4 173 RX1 yX1_joinedPairs wsX1_joinedPairs) := goodIn_app (goodIn_of _ (by decide +kernel)) ggX4_advise_X1_joinedPairs
theorem dX4_advise_0 : decode cX4_advise 0 = .ok (.iconst (-1), 1) := by decide +kernel
theorem dX4_advise_1 : decode cX4_advise 1 = .ok (.istore_n 1, 1) := by decide +kernel
theorem dX4_advise_2 : decode cX4_advise 2 = .ok (.iconst 0, 1) := by decide +kernel
theorem dX4_advise_3 : decode cX4_advise 3 = .ok (.istore_n 2, 1) := by decide +kernel
theorem dX4_advise_4 : decode cX4_advise 4 = .ok (.iconst 0, 1) := by decide +kernel
theorem dX4_advise_5 : decode cX4_advise 5 = .ok (.istore_n 3, 1) := by decide +kernel
theorem dX4_advise_6 : decode cX4_advise 6 = .ok (.iload_n 3, 1) := by decide +kernel
theorem dX4_advise_7 : decode cX4_advise 7 = .ok (.aload_n 0, 1) := by decide +kernel
theorem dX4_advise_8 : decode cX4_advise 8 = .ok (.getfield 10, 3) := by decide +kernel
theorem dX4_advise_11 : decode cX4_advise 11 = .ok (.invokevirtual 68, 3) := by decide +kernel
theorem dX4_advise_14 : decode cX4_advise 14 = .ok (.if_icmp .ge 46, 3) := by decide +kernel
theorem dX4_advise_17 : decode cX4_advise 17 = .ok (.aload_n 0, 1) := by decide +kernel
theorem dX4_advise_18 : decode cX4_advise 18 = .ok (.getfield 10, 3) := by decide +kernel
theorem dX4_advise_21 : decode cX4_advise 21 = .ok (.iload_n 3, 1) := by decide +kernel
theorem dX4_advise_22 : decode cX4_advise 22 = .ok (.invokevirtual 137, 3) := by decide +kernel
theorem dX4_advise_25 : decode cX4_advise 25 = .ok (.ifCond .eq 29, 3) := by decide +kernel
theorem dX4_advise_28 : decode cX4_advise 28 = .ok (.aload_n 0, 1) := by decide +kernel
theorem dX4_advise_29 : decode cX4_advise 29 = .ok (.getfield 10, 3) := by decide +kernel
theorem dX4_advise_32 : decode cX4_advise 32 = .ok (.iload_n 3, 1) := by decide +kernel
theorem dX4_advise_33 : decode cX4_advise 33 = .ok (.invokevirtual 173, 3) := by decide +kernel
theorem dX4_advise_36 : decode cX4_advise 36 = .ok (.istore 4, 2) := by decide +kernel
theorem dX4_advise_38 : decode cX4_advise 38 = .ok (.iload_n 1, 1) := by decide +kernel
theorem dX4_advise_39 : decode cX4_advise 39 = .ok (.iconst (-1), 1) := by decide +kernel
theorem dX4_advise_40 : decode cX4_advise 40 = .ok (.if_icmp .eq 9, 3) := by decide +kernel
theorem dX4_advise_43 : decode cX4_advise 43 = .ok (.iload 4, 2) := by decide +kernel
theorem dX4_advise_45 : decode cX4_advise 45 = .ok (.iload_n 2, 1) := by decide +kernel
theorem dX4_advise_46 : decode cX4_advise 46 = .ok (.if_icmp .ge 8, 3) := by decide +kernel
theorem dX4_advise_49 : decode cX4_advise 49 = .ok (.iload_n 3, 1) := by decide +kernel
theorem dX4_advise_50 : decode cX4_advise 50 = .ok (.istore_n 1, 1) := by decide +kernel
theorem dX4_advise_51 : decode cX4_advise 51 = .ok (.iload 4, 2) := by decide +kernel
theorem dX4_advise_53 : decode cX4_advise 53 = .ok (.istore_n 2, 1) := by decide +kernel
theorem dX4_advise_54 : decode cX4_advise 54 = .ok (.iinc 3 1, 3) := by decide +kernel
theorem dX4_advise_57 : decode cX4_advise 57 = .ok (.goto (-51), 3) := by decide +kernel
theorem dX4_advise_60 : decode cX4_advise 60 = .ok (.iload_n 1, 1) := by decide +kernel
theorem dX4_advise_61 : decode cX4_advise 61 = .ok (.ireturn, 1) := by decide +kernel
set_option maxRecDepth 20000 in
theorem ggX4_mean_X2_sheets : GoodIn wsX4_mean wsX2_sheets := goodIn_r _ [6, 7, 8, 9, 10, 11, 12, 13, 14, 15, 16, 5, 17, 18, 19, 20, 21, 38, 39, 40, 41, 42, 43, 44, 45, 46, 47, 48, 49, 50, 51, 52] (by decide +kernel) (by decide +kernel)
set_option maxRecDepth 20000 in
theorem gX4_mean_X2_sheets : GoodIn wsX4_mean (wsV RX4 167 RX2 yX2_sheets wsX2_sheets) := goodIn_app (goodIn_of _ (by decide +kernel)) ggX4_mean_X2_sheets
set_option maxRecDepth 20000 in
theorem ggX4_mean_X2_ages : GoodIn wsX4_mean wsX2_ages := goodIn_r _ [25, 18, 26, 27, 28, 29, 30, 31, 32, 38, 39, 40, 41, 42, 43, 44, 45, 53, 54, 55] (by decide +kernel) (by decide +kernel)
set_option maxRecDepth 20000 in
theorem gX4_mean_X2_ages : GoodIn wsX4_mean (wsV RX4 190 RX2 yX2_ages wsX2_ages) := goodIn_app (goodIn_of _ (by decide +kernel)) ggX4_mean_X2_ages
theorem dX4_mean_0 : decode cX4_mean 0 = .ok (.aload_n 0, 1) := by decide +kernel
theorem dX4_mean_1 : decode cX4_mean 1 = .ok (.getfield 21, 3) := by decide +kernel
theorem dX4_mean_4 : decode cX4_mean 4 = .ok (.invokevirtual 167, 3) := by decide +kernel
theorem dX4_mean_7 : decode cX4_mean 7 = .ok (.istore_n 1, 1) := by decide +kernel
theorem dX4_mean_8 : decode cX4_mean 8 = .ok (.iload_n 1, 1) := by decide +kernel
theorem dX4_mean_9 : decode cX4_mean 9 = .ok (.ifCond .ne 5, 3) := by decide +kernel
theorem dX4_mean_12 : decode cX4_mean 12 = .ok (.dconst 0, 1) := by decide +kernel
theorem dX4_mean_13 : decode cX4_mean 13 = .ok (.dreturn, 1) := by decide +kernel
theorem dX4_mean_14 : decode cX4_mean 14 = .ok (.aload_n 0, 1) := by decide +kernel
theorem dX4_mean_15 : decode cX4_mean 15 = .ok (.getfield 21, 3) := by decide +kernel
theorem dX4_mean_18 : decode cX4_mean 18 = .ok (.invokevirtual 190, 3) := by decide +kernel
theorem dX4_mean_21 : decode cX4_mean 21 = .ok (.i2d, 1) := by decide +kernel
theorem dX4_mean_22 : decode cX4_mean 22 = .ok (.iload_n 1, 1) := by decide +kernel
theorem dX4_mean_23 : decode cX4_mean 23 = .ok (.i2d, 1) := by decide +kernel
theorem dX4_mean_24 : decode cX4_mean 24 = .ok (.ddiv, 1) := by decide +kernel
theorem dX4_mean_25 : decode cX4_mean 25 = .ok (.dreturn, 1) := by decide +kernel
set_option maxRecDepth 20000 in
theorem ggX4_digest_X4_count : GoodIn wsX4_digest wsX4_count := goodIn_ca (goodIn_r _ [8, 9, 10, 11, 3, 12, 13, 14, 15, 16, 17, 18, 19, 20, 21, 22, 23, 24, 25, 26, 27, 28, 29, 30, 31, 32, 33, 34, 35, 36, 37, 38, 39, 40, 41, 42, 43, 44, 45, 46, 47, 48, 49, 50, 51, 52, 53, 54, 55, 56, 57, 58, 59, 60, 61, 62, 63, 64, 65, 66, 67, 68, 69, 70, 71, 72, 73, 74, 75, 76, 77, 78, 79, 80, 81, 82, 83, 84, 85, 86, 87, 88, 89, 90, 91, 92, 93, 94, 95, 96, 97, 98, 99, 100, 101, 102, 103, 104, 105, 106, 107, 108, 109, 110, 111, 112, 113, 114, 115, 116, 117, 118, 119, 120, 121, 122, 123, 124, 125, 217, 218, 219, 220, 221, 222, 223, 224, 225, 226, 227, 228, 229, 230, 231, 232, 233, 234, 235, 236, 237, 238, 239, 240, 241, 242, 243] (by decide +kernel) (by decide +kernel)) (goodIn_sub (fun _ h => List.mem_cons_of_mem _ (List.mem_append_right _ h)) (by decide +kernel))
set_option maxRecDepth 20000 in
theorem gX4_digest_X4_count : GoodIn wsX4_digest (wsV RX4 197 RX4 yX4_count wsX4_count) := goodIn_app (goodIn_of _ (by decide +kernel)) ggX4_digest_X4_count
set_option maxRecDepth 20000 in
theorem ggX4_digest_X1_huts : GoodIn wsX4_digest wsX1_huts := goodIn_r _ [22, 23, 230, 231, 232, 233, 234, 235, 236] (by decide +kernel) (by decide +kernel)
set_option maxRecDepth 20000 in
theorem gX4_digest_X1_huts : GoodIn wsX4_digest (wsV RX4 46 RX1 yX1_huts wsX1_huts) := goodIn_app (goodIn_of _ (by decide +kernel)) ggX4_digest_X1_huts
set_option maxRecDepth 20000 in
theorem ggX4_digest_X4_told : GoodIn wsX4_digest wsX4_told := goodIn_ca (goodIn_r _ [129, 9, 10, 3, 11, 130, 131, 132, 7, 133, 18, 19, 20, 21, 22, 23, 134, 135, 136, 137, 138, 139, 41, 42, 15, 43, 44, 45, 46, 47, 140, 141, 142, 143, 144, 145, 146, 147, 148, 38, 56, 39, 57, 58, 59, 60, 61, 62, 63, 64, 65, 66, 67, 68, 69, 70, 71, 72, 73, 74, 25, 26, 27, 28, 75, 76, 77, 78, 79, 80, 81, 82, 83, 84, 85, 86, 87, 88, 89, 90, 91, 92, 93, 94, 95, 96, 97, 98, 99, 100, 101, 102, 103, 104, 105, 106, 149, 150, 151, 152, 52, 53, 54, 55, 107, 108, 109, 110, 33, 217, 218, 219, 220, 221, 230, 231, 232, 233, 234, 235, 236, 222, 223, 224, 225, 226, 227, 228, 229, 237, 238, 239, 240, 241, 242, 243] (by decide +kernel) (by decide +kernel)) (goodIn_sub (fun _ h => List.mem_cons_of_mem _ (List.mem_append_right _ h)) (by decide +kernel))
set_option maxRecDepth 20000 in
theorem gX4_digest_X4_told : GoodIn wsX4_digest (wsV RX4 200 RX4 yX4_told wsX4_told) := goodIn_app (goodIn_of _ (by decide +kernel)) ggX4_digest_X4_told
set_option maxRecDepth 20000 in
theorem ggX4_digest_X1_passes : GoodIn wsX4_digest wsX1_passes := goodIn_r _ [27, 28, 230, 231, 232, 233, 234, 235, 236] (by decide +kernel) (by decide +kernel)
set_option maxRecDepth 20000 in
theorem gX4_digest_X1_passes : GoodIn wsX4_digest (wsV RX4 68 RX1 yX1_passes wsX1_passes) := goodIn_app (goodIn_of _ (by decide +kernel)) ggX4_digest_X1_passes
set_option maxRecDepth 20000 in
theorem ggX4_digest_X4_about : GoodIn wsX4_digest wsX4_about := goodIn_ca (goodIn_r _ [156, 9, 10, 3, 11, 157, 158, 159, 7, 160, 24, 25, 26, 21, 27, 28, 161, 76, 77, 78, 79, 162, 81, 82, 83, 84, 163, 164, 165, 166, 167, 168, 169, 170, 171, 33, 172, 173, 174, 15, 175, 38, 39, 19, 20, 22, 23, 176, 177, 178, 179, 44, 75, 45, 46, 47, 80, 85, 86, 87, 88, 89, 90, 217, 218, 219, 220, 221, 230, 231, 232, 233, 234, 235, 236, 222, 223, 224, 225, 226, 227, 228, 229, 241, 242, 243] (by decide +kernel) (by decide +kernel)) (goodIn_sub (fun _ h => List.mem_cons_of_mem _ (List.mem_append_right _ h)) (by decide +kernel))
set_option maxRecDepth 20000 in
theorem gX4_digest_X4_about : GoodIn wsX4_digest (wsV RX4 203 RX4 yX4_about wsX4_about) := goodIn_app (goodIn_of _ (by decide +kernel)) ggX4_digest_X4_about
set_option maxRecDepth 20000 in
theorem ggX4_digest_X4_digestOfPair : GoodIn wsX4_digest wsX4_digestOfPair := goodIn_ca (goodIn_r _ [183, 2, 184, 185, 186, 7, 187, 11, 130, 131, 132, 133, 9, 10, 3, 18, 19, 20, 21, 22, 23, 188, 189, 190, 191, 192, 193, 194, 15, 195, 44, 45, 46, 47, 196, 197, 198, 88, 199, 200, 12, 13, 14, 16, 17, 201, 202, 203, 204, 205, 206, 207, 208, 209, 90, 210, 86, 87, 89, 211, 212, 213, 214, 215, 216, 58, 59, 60, 61, 62, 63, 64, 65, 66, 67, 38, 68, 69, 70, 71, 72, 73, 74, 25, 26, 27, 28, 75, 76, 77, 78, 79, 80, 81, 82, 83, 84, 85, 91, 92, 93, 94, 95, 96, 97, 98, 99, 100, 101, 102, 103, 104, 105, 106, 217, 218, 219, 220, 221, 230, 231, 232, 233, 234, 235, 236, 222, 223, 224, 225, 226, 227, 228, 229, 241, 242, 243, 237, 238, 239, 240] (by decide +kernel) (by decide +kernel)) (goodIn_sub (fun _ h => List.mem_cons_of_mem _ (List.mem_append_right _ h)) (by decide +kernel))
set_option maxRecDepth 20000 in
theorem gX4_digest_X4_digestOfPair : GoodIn wsX4_digest (wsV RX4 206 RX4 yX4_digestOfPair wsX4_digestOfPair) := goodIn_app (goodIn_of _ (by decide +kernel)) ggX4_digest_X4_digestOfPair
theorem dX4_digest_0 : decode cX4_digest 0 = .ok (.ldc2_w 193, 3) := by decide +kernel
theorem dX4_digest_3 : decode cX4_digest 3 = .ok (.lstore_n 1, 1) := by decide +kernel
theorem dX4_digest_4 : decode cX4_digest 4 = .ok (.iconst 0, 1) := by decide +kernel
theorem dX4_digest_5 : decode cX4_digest 5 = .ok (.istore_n 3, 1) := by decide +kernel
theorem dX4_digest_6 : decode cX4_digest 6 = .ok (.iload_n 3, 1) := by decide +kernel
theorem dX4_digest_7 : decode cX4_digest 7 = .ok (.bipush 6, 2) := by decide +kernel
theorem dX4_digest_9 : decode cX4_digest 9 = .ok (.if_icmp .gt 22, 3) := by decide +kernel
theorem dX4_digest_12 : decode cX4_digest 12 = .ok (.lload_n 1, 1) := by decide +kernel
theorem dX4_digest_13 : decode cX4_digest 13 = .ok (.ldc2_w 195, 3) := by decide +kernel
theorem dX4_digest_16 : decode cX4_digest 16 = .ok (.lmul, 1) := by decide +kernel
theorem dX4_digest_17 : decode cX4_digest 17 = .ok (.aload_n 0, 1) := by decide +kernel
theorem dX4_digest_18 : decode cX4_digest 18 = .ok (.iload_n 3, 1) := by decide +kernel
theorem dX4_digest_19 : decode cX4_digest 19 = .ok (.invokevirtual 197, 3) := by decide +kernel
theorem dX4_digest_22 : decode cX4_digest 22 = .ok (.i2l, 1) := by decide +kernel
theorem dX4_digest_23 : decode cX4_digest 23 = .ok (.ladd, 1) := by decide +kernel
theorem dX4_digest_24 : decode cX4_digest 24 = .ok (.lstore_n 1, 1) := by decide +kernel
theorem dX4_digest_25 : decode cX4_digest 25 = .ok (.iinc 3 1, 3) := by decide +kernel
theorem dX4_digest_28 : decode cX4_digest 28 = .ok (.goto (-22), 3) := by decide +kernel
theorem dX4_digest_31 : decode cX4_digest 31 = .ok (.iconst 0, 1) := by decide +kernel
theorem dX4_digest_32 : decode cX4_digest 32 = .ok (.istore_n 3, 1) := by decide +kernel
theorem dX4_digest_33 : decode cX4_digest 33 = .ok (.iload_n 3, 1) := by decide +kernel
theorem dX4_digest_34 : decode cX4_digest 34 = .ok (.aload_n 0, 1) := by decide +kernel
theorem dX4_digest_35 : decode cX4_digest 35 = .ok (.getfield 10, 3) := by decide +kernel
theorem dX4_digest_38 : decode cX4_digest 38 = .ok (.invokevirtual 46, 3) := by decide +kernel
theorem dX4_digest_41 : decode cX4_digest 41 = .ok (.if_icmp .ge 39, 3) := by decide +kernel
theorem dX4_digest_44 : decode cX4_digest 44 = .ok (.iconst 0, 1) := by decide +kernel
theorem dX4_digest_45 : decode cX4_digest 45 = .ok (.istore 4, 2) := by decide +kernel
theorem dX4_digest_47 : decode cX4_digest 47 = .ok (.iload 4, 2) := by decide +kernel
theorem dX4_digest_49 : decode cX4_digest 49 = .ok (.iconst 4, 1) := by decide +kernel
theorem dX4_digest_50 : decode cX4_digest 50 = .ok (.if_icmp .gt 24, 3) := by decide +kernel
theorem dX4_digest_53 : decode cX4_digest 53 = .ok (.lload_n 1, 1) := by decide +kernel
theorem dX4_digest_54 : decode cX4_digest 54 = .ok (.ldc2_w 195, 3) := by decide +kernel
theorem dX4_digest_57 : decode cX4_digest 57 = .ok (.lmul, 1) := by decide +kernel
theorem dX4_digest_58 : decode cX4_digest 58 = .ok (.aload_n 0, 1) := by decide +kernel
theorem dX4_digest_59 : decode cX4_digest 59 = .ok (.iload_n 3, 1) := by decide +kernel
theorem dX4_digest_60 : decode cX4_digest 60 = .ok (.iload 4, 2) := by decide +kernel
theorem dX4_digest_62 : decode cX4_digest 62 = .ok (.invokevirtual 200, 3) := by decide +kernel
theorem dX4_digest_65 : decode cX4_digest 65 = .ok (.i2l, 1) := by decide +kernel
theorem dX4_digest_66 : decode cX4_digest 66 = .ok (.ladd, 1) := by decide +kernel
theorem dX4_digest_67 : decode cX4_digest 67 = .ok (.lstore_n 1, 1) := by decide +kernel
theorem dX4_digest_68 : decode cX4_digest 68 = .ok (.iinc 4 1, 3) := by decide +kernel
theorem dX4_digest_71 : decode cX4_digest 71 = .ok (.goto (-24), 3) := by decide +kernel
theorem dX4_digest_74 : decode cX4_digest 74 = .ok (.iinc 3 1, 3) := by decide +kernel
theorem dX4_digest_77 : decode cX4_digest 77 = .ok (.goto (-44), 3) := by decide +kernel
theorem dX4_digest_80 : decode cX4_digest 80 = .ok (.iconst 0, 1) := by decide +kernel
theorem dX4_digest_81 : decode cX4_digest 81 = .ok (.istore_n 3, 1) := by decide +kernel
theorem dX4_digest_82 : decode cX4_digest 82 = .ok (.iload_n 3, 1) := by decide +kernel
theorem dX4_digest_83 : decode cX4_digest 83 = .ok (.aload_n 0, 1) := by decide +kernel
theorem dX4_digest_84 : decode cX4_digest 84 = .ok (.getfield 10, 3) := by decide +kernel
theorem dX4_digest_87 : decode cX4_digest 87 = .ok (.invokevirtual 68, 3) := by decide +kernel
theorem dX4_digest_90 : decode cX4_digest 90 = .ok (.if_icmp .ge 39, 3) := by decide +kernel
theorem dX4_digest_93 : decode cX4_digest 93 = .ok (.iconst 0, 1) := by decide +kernel
theorem dX4_digest_94 : decode cX4_digest 94 = .ok (.istore 4, 2) := by decide +kernel
theorem dX4_digest_96 : decode cX4_digest 96 = .ok (.iload 4, 2) := by decide +kernel
theorem dX4_digest_98 : decode cX4_digest 98 = .ok (.iconst 4, 1) := by decide +kernel
theorem dX4_digest_99 : decode cX4_digest 99 = .ok (.if_icmp .gt 24, 3) := by decide +kernel
theorem dX4_digest_102 : decode cX4_digest 102 = .ok (.lload_n 1, 1) := by decide +kernel
theorem dX4_digest_103 : decode cX4_digest 103 = .ok (.ldc2_w 195, 3) := by decide +kernel
theorem dX4_digest_106 : decode cX4_digest 106 = .ok (.lmul, 1) := by decide +kernel
theorem dX4_digest_107 : decode cX4_digest 107 = .ok (.aload_n 0, 1) := by decide +kernel
theorem dX4_digest_108 : decode cX4_digest 108 = .ok (.iload_n 3, 1) := by decide +kernel
theorem dX4_digest_109 : decode cX4_digest 109 = .ok (.iload 4, 2) := by decide +kernel
theorem dX4_digest_111 : decode cX4_digest 111 = .ok (.invokevirtual 203, 3) := by decide +kernel
theorem dX4_digest_114 : decode cX4_digest 114 = .ok (.i2l, 1) := by decide +kernel
theorem dX4_digest_115 : decode cX4_digest 115 = .ok (.ladd, 1) := by decide +kernel
theorem dX4_digest_116 : decode cX4_digest 116 = .ok (.lstore_n 1, 1) := by decide +kernel
theorem dX4_digest_117 : decode cX4_digest 117 = .ok (.iinc 4 1, 3) := by decide +kernel
theorem dX4_digest_120 : decode cX4_digest 120 = .ok (.goto (-24), 3) := by decide +kernel
theorem dX4_digest_123 : decode cX4_digest 123 = .ok (.iinc 3 1, 3) := by decide +kernel
theorem dX4_digest_126 : decode cX4_digest 126 = .ok (.goto (-44), 3) := by decide +kernel
theorem dX4_digest_129 : decode cX4_digest 129 = .ok (.iconst 0, 1) := by decide +kernel
theorem dX4_digest_130 : decode cX4_digest 130 = .ok (.istore_n 3, 1) := by decide +kernel
theorem dX4_digest_131 : decode cX4_digest 131 = .ok (.iload_n 3, 1) := by decide +kernel
theorem dX4_digest_132 : decode cX4_digest 132 = .ok (.aload_n 0, 1) := by decide +kernel
theorem dX4_digest_133 : decode cX4_digest 133 = .ok (.getfield 10, 3) := by decide +kernel
theorem dX4_digest_136 : decode cX4_digest 136 = .ok (.invokevirtual 46, 3) := by decide +kernel
theorem dX4_digest_139 : decode cX4_digest 139 = .ok (.if_icmp .ge 39, 3) := by decide +kernel
theorem dX4_digest_142 : decode cX4_digest 142 = .ok (.iconst 0, 1) := by decide +kernel
theorem dX4_digest_143 : decode cX4_digest 143 = .ok (.istore 4, 2) := by decide +kernel
theorem dX4_digest_145 : decode cX4_digest 145 = .ok (.iload 4, 2) := by decide +kernel
theorem dX4_digest_147 : decode cX4_digest 147 = .ok (.aload_n 0, 1) := by decide +kernel
theorem dX4_digest_148 : decode cX4_digest 148 = .ok (.getfield 10, 3) := by decide +kernel
theorem dX4_digest_151 : decode cX4_digest 151 = .ok (.invokevirtual 46, 3) := by decide +kernel
theorem dX4_digest_154 : decode cX4_digest 154 = .ok (.if_icmp .ge 18, 3) := by decide +kernel
theorem dX4_digest_157 : decode cX4_digest 157 = .ok (.aload_n 0, 1) := by decide +kernel
theorem dX4_digest_158 : decode cX4_digest 158 = .ok (.lload_n 1, 1) := by decide +kernel
theorem dX4_digest_159 : decode cX4_digest 159 = .ok (.iload_n 3, 1) := by decide +kernel
theorem dX4_digest_160 : decode cX4_digest 160 = .ok (.iload 4, 2) := by decide +kernel
theorem dX4_digest_162 : decode cX4_digest 162 = .ok (.invokevirtual 206, 3) := by decide +kernel
theorem dX4_digest_165 : decode cX4_digest 165 = .ok (.lstore_n 1, 1) := by decide +kernel
theorem dX4_digest_166 : decode cX4_digest 166 = .ok (.iinc 4 1, 3) := by decide +kernel
theorem dX4_digest_169 : decode cX4_digest 169 = .ok (.goto (-24), 3) := by decide +kernel
theorem dX4_digest_172 : decode cX4_digest 172 = .ok (.iinc 3 1, 3) := by decide +kernel
theorem dX4_digest_175 : decode cX4_digest 175 = .ok (.goto (-44), 3) := by decide +kernel
theorem dX4_digest_178 : decode cX4_digest 178 = .ok (.lload_n 1, 1) := by decide +kernel
theorem dX4_digest_179 : decode cX4_digest 179 = .ok (.lreturn, 1) := by decide +kernel
set_option maxRecDepth 20000 in
theorem ggX4_digestOfPair_X4_sheet : GoodIn wsX4_digestOfPair wsX4_sheet := goodIn_ca (goodIn_r _ [6, 7, 8, 9, 10, 5, 11, 12, 13, 14, 15, 16, 17, 18, 19, 20, 21, 22, 23, 24, 25, 26, 27, 28, 29, 30, 31, 32, 33, 34, 35, 36, 37, 38, 39, 40, 41, 42, 43, 44, 45, 46, 47, 48, 49, 50, 51, 52, 53, 54, 55, 56, 57, 58, 114, 115, 116, 117, 118, 119, 120, 121, 122, 123, 124, 125, 126, 127, 128, 129, 130, 131, 132, 133, 134, 135, 136] (by decide +kernel) (by decide +kernel)) (goodIn_sub (fun _ h => List.mem_cons_of_mem _ (List.mem_append_right _ h)) (by decide +kernel))
set_option maxRecDepth 20000 in
theorem gX4_digestOfPair_X4_sheet : GoodIn wsX4_digestOfPair (wsV RX4 210 RX4 yX4_sheet wsX4_sheet) := goodIn_app (goodIn_of _ (by decide +kernel)) ggX4_digestOfPair_X4_sheet
set_option maxRecDepth 20000 in
theorem ggX4_digestOfPair_X4_way : GoodIn wsX4_digestOfPair wsX4_way := goodIn_ca (goodIn_r _ [62, 7, 63, 8, 9, 10, 5, 11, 12, 13, 14, 15, 16, 17, 18, 19, 20, 21, 22, 23, 24, 64, 65, 66, 28, 67, 68, 69, 70, 71, 72, 73, 74, 75, 30, 76, 77, 78, 79, 80, 81, 82, 83, 84, 85, 86, 87, 88, 89, 90, 91, 92, 93, 94, 95, 96, 31, 32, 33, 97, 56, 57, 37, 58, 54, 98, 99, 100, 101, 102, 103, 104, 105, 106, 107, 108, 109, 110, 111, 112, 113, 114, 115, 116, 117, 118, 119, 120, 121, 122, 123, 124, 125, 126, 127, 128, 129, 130, 131, 132, 133, 137, 138, 139, 140, 134, 135, 136] (by decide +kernel) (by decide +kernel)) (goodIn_sub (fun _ h => List.mem_cons_of_mem _ (List.mem_append_right _ h)) (by decide +kernel))
set_option maxRecDepth 20000 in
theorem gX4_digestOfPair_X4_way : GoodIn wsX4_digestOfPair (wsV RX4 213 RX4 yX4_way wsX4_way) := goodIn_app (goodIn_of _ (by decide +kernel)) ggX4_digestOfPair_X4_way
theorem dX4_digestOfPair_0 : decode cX4_digestOfPair 0 = .ok (.lload_n 1, 1) := by decide +kernel
theorem dX4_digestOfPair_1 : decode cX4_digestOfPair 1 = .ok (.lstore 5, 2) := by decide +kernel
theorem dX4_digestOfPair_3 : decode cX4_digestOfPair 3 = .ok (.iconst 0, 1) := by decide +kernel
theorem dX4_digestOfPair_4 : decode cX4_digestOfPair 4 = .ok (.istore 7, 2) := by decide +kernel
theorem dX4_digestOfPair_6 : decode cX4_digestOfPair 6 = .ok (.iload 7, 2) := by decide +kernel
theorem dX4_digestOfPair_8 : decode cX4_digestOfPair 8 = .ok (.iconst 2, 1) := by decide +kernel
theorem dX4_digestOfPair_9 : decode cX4_digestOfPair 9 = .ok (.if_icmp .gt 28, 3) := by decide +kernel
theorem dX4_digestOfPair_12 : decode cX4_digestOfPair 12 = .ok (.lload 5, 2) := by decide +kernel
theorem dX4_digestOfPair_14 : decode cX4_digestOfPair 14 = .ok (.ldc2_w 195, 3) := by decide +kernel
theorem dX4_digestOfPair_17 : decode cX4_digestOfPair 17 = .ok (.lmul, 1) := by decide +kernel
theorem dX4_digestOfPair_18 : decode cX4_digestOfPair 18 = .ok (.aload_n 0, 1) := by decide +kernel
theorem dX4_digestOfPair_19 : decode cX4_digestOfPair 19 = .ok (.iload_n 3, 1) := by decide +kernel
theorem dX4_digestOfPair_20 : decode cX4_digestOfPair 20 = .ok (.iload 4, 2) := by decide +kernel
theorem dX4_digestOfPair_22 : decode cX4_digestOfPair 22 = .ok (.iload 7, 2) := by decide +kernel
theorem dX4_digestOfPair_24 : decode cX4_digestOfPair 24 = .ok (.invokevirtual 210, 3) := by decide +kernel
theorem dX4_digestOfPair_27 : decode cX4_digestOfPair 27 = .ok (.i2l, 1) := by decide +kernel
theorem dX4_digestOfPair_28 : decode cX4_digestOfPair 28 = .ok (.ladd, 1) := by decide +kernel
theorem dX4_digestOfPair_29 : decode cX4_digestOfPair 29 = .ok (.lstore 5, 2) := by decide +kernel
theorem dX4_digestOfPair_31 : decode cX4_digestOfPair 31 = .ok (.iinc 7 1, 3) := by decide +kernel
theorem dX4_digestOfPair_34 : decode cX4_digestOfPair 34 = .ok (.goto (-28), 3) := by decide +kernel
theorem dX4_digestOfPair_37 : decode cX4_digestOfPair 37 = .ok (.iconst 0, 1) := by decide +kernel
theorem dX4_digestOfPair_38 : decode cX4_digestOfPair 38 = .ok (.istore 7, 2) := by decide +kernel
theorem dX4_digestOfPair_40 : decode cX4_digestOfPair 40 = .ok (.iload 7, 2) := by decide +kernel
theorem dX4_digestOfPair_42 : decode cX4_digestOfPair 42 = .ok (.iconst 2, 1) := by decide +kernel
theorem dX4_digestOfPair_43 : decode cX4_digestOfPair 43 = .ok (.if_icmp .gt 28, 3) := by decide +kernel
theorem dX4_digestOfPair_46 : decode cX4_digestOfPair 46 = .ok (.lload 5, 2) := by decide +kernel
theorem dX4_digestOfPair_48 : decode cX4_digestOfPair 48 = .ok (.ldc2_w 195, 3) := by decide +kernel
theorem dX4_digestOfPair_51 : decode cX4_digestOfPair 51 = .ok (.lmul, 1) := by decide +kernel
theorem dX4_digestOfPair_52 : decode cX4_digestOfPair 52 = .ok (.aload_n 0, 1) := by decide +kernel
theorem dX4_digestOfPair_53 : decode cX4_digestOfPair 53 = .ok (.iload_n 3, 1) := by decide +kernel
theorem dX4_digestOfPair_54 : decode cX4_digestOfPair 54 = .ok (.iload 4, 2) := by decide +kernel
theorem dX4_digestOfPair_56 : decode cX4_digestOfPair 56 = .ok (.iload 7, 2) := by decide +kernel
theorem dX4_digestOfPair_58 : decode cX4_digestOfPair 58 = .ok (.invokevirtual 213, 3) := by decide +kernel
theorem dX4_digestOfPair_61 : decode cX4_digestOfPair 61 = .ok (.i2l, 1) := by decide +kernel
theorem dX4_digestOfPair_62 : decode cX4_digestOfPair 62 = .ok (.ladd, 1) := by decide +kernel
theorem dX4_digestOfPair_63 : decode cX4_digestOfPair 63 = .ok (.lstore 5, 2) := by decide +kernel
theorem dX4_digestOfPair_65 : decode cX4_digestOfPair 65 = .ok (.iinc 7 1, 3) := by decide +kernel
theorem dX4_digestOfPair_68 : decode cX4_digestOfPair 68 = .ok (.goto (-28), 3) := by decide +kernel
theorem dX4_digestOfPair_71 : decode cX4_digestOfPair 71 = .ok (.lload 5, 2) := by decide +kernel
theorem dX4_digestOfPair_73 : decode cX4_digestOfPair 73 = .ok (.lreturn, 1) := by decide +kernel
set_option maxRecDepth 20000 in
theorem ggX4_checkHut_X1_huts : GoodIn wsX4_checkHut wsX1_huts := goodIn_r _ [8, 9, 15, 16, 17, 18, 19, 20, 21] (by decide +kernel) (by decide +kernel)
set_option maxRecDepth 20000 in
theorem gX4_checkHut_X1_huts : GoodIn wsX4_checkHut (wsV RX4 46 RX1 yX1_huts wsX1_huts) := goodIn_app (goodIn_of _ (by decide +kernel)) ggX4_checkHut_X1_huts
theorem dX4_checkHut_0 : decode cX4_checkHut 0 = .ok (.iload_n 1, 1) := by decide +kernel
theorem dX4_checkHut_1 : decode cX4_checkHut 1 = .ok (.ifCond .lt 14, 3) := by decide +kernel
theorem dX4_checkHut_4 : decode cX4_checkHut 4 = .ok (.iload_n 1, 1) := by decide +kernel
theorem dX4_checkHut_5 : decode cX4_checkHut 5 = .ok (.aload_n 0, 1) := by decide +kernel
theorem dX4_checkHut_6 : decode cX4_checkHut 6 = .ok (.getfield 10, 3) := by decide +kernel
theorem dX4_checkHut_9 : decode cX4_checkHut 9 = .ok (.invokevirtual 46, 3) := by decide +kernel
theorem dX4_checkHut_12 : decode cX4_checkHut 12 = .ok (.if_icmp .lt 13, 3) := by decide +kernel
theorem dX4_checkHut_15 : decode cX4_checkHut 15 = .ok (.new 144, 3) := by decide +kernel
theorem dX4_checkHut_18 : decode cX4_checkHut 18 = .ok (.dup, 1) := by decide +kernel
theorem dX4_checkHut_19 : decode cX4_checkHut 19 = .ok (.ldc 216, 2) := by decide +kernel
theorem dX4_checkHut_21 : decode cX4_checkHut 21 = .ok (.invokespecial 148, 3) := by decide +kernel
theorem dX4_checkHut_24 : decode cX4_checkHut 24 = .ok (.athrow, 1) := by decide +kernel
theorem dX4_checkHut_25 : decode cX4_checkHut 25 = .ok (.return_, 1) := by decide +kernel
set_option maxRecDepth 20000 in
theorem ggX4_checkPass_X1_passes : GoodIn wsX4_checkPass wsX1_passes := goodIn_r _ [8, 9, 15, 16, 17, 18, 19, 20, 21] (by decide +kernel) (by decide +kernel)
set_option maxRecDepth 20000 in
theorem gX4_checkPass_X1_passes : GoodIn wsX4_checkPass (wsV RX4 68 RX1 yX1_passes wsX1_passes) := goodIn_app (goodIn_of _ (by decide +kernel)) ggX4_checkPass_X1_passes
theorem dX4_checkPass_0 : decode cX4_checkPass 0 = .ok (.iload_n 1, 1) := by decide +kernel
theorem dX4_checkPass_1 : decode cX4_checkPass 1 = .ok (.ifCond .lt 14, 3) := by decide +kernel
theorem dX4_checkPass_4 : decode cX4_checkPass 4 = .ok (.iload_n 1, 1) := by decide +kernel
theorem dX4_checkPass_5 : decode cX4_checkPass 5 = .ok (.aload_n 0, 1) := by decide +kernel
theorem dX4_checkPass_6 : decode cX4_checkPass 6 = .ok (.getfield 10, 3) := by decide +kernel
theorem dX4_checkPass_9 : decode cX4_checkPass 9 = .ok (.invokevirtual 68, 3) := by decide +kernel
theorem dX4_checkPass_12 : decode cX4_checkPass 12 = .ok (.if_icmp .lt 13, 3) := by decide +kernel
theorem dX4_checkPass_15 : decode cX4_checkPass 15 = .ok (.new 144, 3) := by decide +kernel
theorem dX4_checkPass_18 : decode cX4_checkPass 18 = .ok (.dup, 1) := by decide +kernel
theorem dX4_checkPass_19 : decode cX4_checkPass 19 = .ok (.ldc 218, 2) := by decide +kernel
theorem dX4_checkPass_21 : decode cX4_checkPass 21 = .ok (.invokespecial 148, 3) := by decide +kernel
theorem dX4_checkPass_24 : decode cX4_checkPass 24 = .ok (.athrow, 1) := by decide +kernel
theorem dX4_checkPass_25 : decode cX4_checkPass 25 = .ok (.return_, 1) := by decide +kernel
theorem dX4_checkWhat_0 : decode cX4_checkWhat 0 = .ok (.iload_n 1, 1) := by decide +kernel
theorem dX4_checkWhat_1 : decode cX4_checkWhat 1 = .ok (.ifCond .lt 8, 3) := by decide +kernel
theorem dX4_checkWhat_4 : decode cX4_checkWhat 4 = .ok (.iload_n 1, 1) := by decide +kernel
theorem dX4_checkWhat_5 : decode cX4_checkWhat 5 = .ok (.iload_n 2, 1) := by decide +kernel
theorem dX4_checkWhat_6 : decode cX4_checkWhat 6 = .ok (.if_icmp .le 13, 3) := by decide +kernel
theorem dX4_checkWhat_9 : decode cX4_checkWhat 9 = .ok (.new 144, 3) := by decide +kernel
theorem dX4_checkWhat_12 : decode cX4_checkWhat 12 = .ok (.dup, 1) := by decide +kernel
theorem dX4_checkWhat_13 : decode cX4_checkWhat 13 = .ok (.ldc 220, 2) := by decide +kernel
theorem dX4_checkWhat_15 : decode cX4_checkWhat 15 = .ok (.invokespecial 148, 3) := by decide +kernel
theorem dX4_checkWhat_18 : decode cX4_checkWhat 18 = .ok (.athrow, 1) := by decide +kernel
theorem dX4_checkWhat_19 : decode cX4_checkWhat 19 = .ok (.return_, 1) := by decide +kernel
theorem dX4_checkLength_0 : decode cX4_checkLength 0 = .ok (.iload_n 1, 1) := by decide +kernel
theorem dX4_checkLength_1 : decode cX4_checkLength 1 = .ok (.iconst 1, 1) := by decide +kernel
theorem dX4_checkLength_2 : decode cX4_checkLength 2 = .ok (.if_icmp .lt 9, 3) := by decide +kernel
theorem dX4_checkLength_5 : decode cX4_checkLength 5 = .ok (.iload_n 1, 1) := by decide +kernel
theorem dX4_checkLength_6 : decode cX4_checkLength 6 = .ok (.bipush 99, 2) := by decide +kernel
theorem dX4_checkLength_8 : decode cX4_checkLength 8 = .ok (.if_icmp .le 13, 3) := by decide +kernel
theorem dX4_checkLength_11 : decode cX4_checkLength 11 = .ok (.new 39, 3) := by decide +kernel
theorem dX4_checkLength_14 : decode cX4_checkLength 14 = .ok (.dup, 1) := by decide +kernel
theorem dX4_checkLength_15 : decode cX4_checkLength 15 = .ok (.ldc 222, 2) := by decide +kernel
theorem dX4_checkLength_17 : decode cX4_checkLength 17 = .ok (.invokespecial 43, 3) := by decide +kernel
theorem dX4_checkLength_20 : decode cX4_checkLength 20 = .ok (.athrow, 1) := by decide +kernel
theorem dX4_checkLength_21 : decode cX4_checkLength 21 = .ok (.return_, 1) := by decide +kernel
theorem dX4_checkMinutes_0 : decode cX4_checkMinutes 0 = .ok (.iload_n 1, 1) := by decide +kernel
theorem dX4_checkMinutes_1 : decode cX4_checkMinutes 1 = .ok (.iconst 1, 1) := by decide +kernel
theorem dX4_checkMinutes_2 : decode cX4_checkMinutes 2 = .ok (.if_icmp .lt 9, 3) := by decide +kernel
theorem dX4_checkMinutes_5 : decode cX4_checkMinutes 5 = .ok (.iload_n 1, 1) := by decide +kernel
theorem dX4_checkMinutes_6 : decode cX4_checkMinutes 6 = .ok (.bipush 60, 2) := by decide +kernel
theorem dX4_checkMinutes_8 : decode cX4_checkMinutes 8 = .ok (.if_icmp .le 13, 3) := by decide +kernel
theorem dX4_checkMinutes_11 : decode cX4_checkMinutes 11 = .ok (.new 39, 3) := by decide +kernel
theorem dX4_checkMinutes_14 : decode cX4_checkMinutes 14 = .ok (.dup, 1) := by decide +kernel
theorem dX4_checkMinutes_15 : decode cX4_checkMinutes 15 = .ok (.ldc 224, 2) := by decide +kernel
theorem dX4_checkMinutes_17 : decode cX4_checkMinutes 17 = .ok (.invokespecial 43, 3) := by decide +kernel
theorem dX4_checkMinutes_20 : decode cX4_checkMinutes 20 = .ok (.athrow, 1) := by decide +kernel
theorem dX4_checkMinutes_21 : decode cX4_checkMinutes 21 = .ok (.return_, 1) := by decide +kernel
theorem dX5_init_0 : decode cX5_init 0 = .ok (.aload_n 0, 1) := by decide +kernel
theorem dX5_init_1 : decode cX5_init 1 = .ok (.invokespecial 1, 3) := by decide +kernel
theorem dX5_init_4 : decode cX5_init 4 = .ok (.aload_n 0, 1) := by decide +kernel
theorem dX5_init_5 : decode cX5_init 5 = .ok (.bipush 10, 2) := by decide +kernel
theorem dX5_init_7 : decode cX5_init 7 = .ok (.newarray .int, 2) := by decide +kernel
theorem dX5_init_9 : decode cX5_init 9 = .ok (.putfield 9, 3) := by decide +kernel
theorem dX5_init_12 : decode cX5_init 12 = .ok (.aload_n 0, 1) := by decide +kernel
theorem dX5_init_13 : decode cX5_init 13 = .ok (.bipush 10, 2) := by decide +kernel
theorem dX5_init_15 : decode cX5_init 15 = .ok (.newarray .int, 2) := by decide +kernel
theorem dX5_init_17 : decode cX5_init 17 = .ok (.putfield 13, 3) := by decide +kernel
theorem dX5_init_20 : decode cX5_init 20 = .ok (.aload_n 0, 1) := by decide +kernel
theorem dX5_init_21 : decode cX5_init 21 = .ok (.bipush 100, 2) := by decide +kernel
theorem dX5_init_23 : decode cX5_init 23 = .ok (.anewarray 16, 3) := by decide +kernel
theorem dX5_init_26 : decode cX5_init 26 = .ok (.putfield 17, 3) := by decide +kernel
theorem dX5_init_29 : decode cX5_init 29 = .ok (.aload_n 0, 1) := by decide +kernel
theorem dX5_init_30 : decode cX5_init 30 = .ok (.bipush 20, 2) := by decide +kernel
theorem dX5_init_32 : decode cX5_init 32 = .ok (.newarray .int, 2) := by decide +kernel
theorem dX5_init_34 : decode cX5_init 34 = .ok (.putfield 21, 3) := by decide +kernel
theorem dX5_init_37 : decode cX5_init 37 = .ok (.aload_n 0, 1) := by decide +kernel
theorem dX5_init_38 : decode cX5_init 38 = .ok (.bipush 20, 2) := by decide +kernel
theorem dX5_init_40 : decode cX5_init 40 = .ok (.newarray .int, 2) := by decide +kernel
theorem dX5_init_42 : decode cX5_init 42 = .ok (.putfield 24, 3) := by decide +kernel
theorem dX5_init_45 : decode cX5_init 45 = .ok (.aload_n 0, 1) := by decide +kernel
theorem dX5_init_46 : decode cX5_init 46 = .ok (.bipush 20, 2) := by decide +kernel
theorem dX5_init_48 : decode cX5_init 48 = .ok (.newarray .int, 2) := by decide +kernel
theorem dX5_init_50 : decode cX5_init 50 = .ok (.putfield 27, 3) := by decide +kernel
theorem dX5_init_53 : decode cX5_init 53 = .ok (.aload_n 0, 1) := by decide +kernel
theorem dX5_init_54 : decode cX5_init 54 = .ok (.bipush 10, 2) := by decide +kernel
theorem dX5_init_56 : decode cX5_init 56 = .ok (.newarray .int, 2) := by decide +kernel
theorem dX5_init_58 : decode cX5_init 58 = .ok (.putfield 30, 3) := by decide +kernel
theorem dX5_init_61 : decode cX5_init 61 = .ok (.aload_n 0, 1) := by decide +kernel
theorem dX5_init_62 : decode cX5_init 62 = .ok (.bipush 10, 2) := by decide +kernel
theorem dX5_init_64 : decode cX5_init 64 = .ok (.newarray .int, 2) := by decide +kernel
theorem dX5_init_66 : decode cX5_init 66 = .ok (.putfield 33, 3) := by decide +kernel
theorem dX5_init_69 : decode cX5_init 69 = .ok (.aload_n 0, 1) := by decide +kernel
theorem dX5_init_70 : decode cX5_init 70 = .ok (.bipush 10, 2) := by decide +kernel
theorem dX5_init_72 : decode cX5_init 72 = .ok (.newarray .int, 2) := by decide +kernel
theorem dX5_init_74 : decode cX5_init 74 = .ok (.putfield 36, 3) := by decide +kernel
theorem dX5_init_77 : decode cX5_init 77 = .ok (.aload_n 0, 1) := by decide +kernel
theorem dX5_init_78 : decode cX5_init 78 = .ok (.bipush 10, 2) := by decide +kernel
theorem dX5_init_80 : decode cX5_init 80 = .ok (.newarray .int, 2) := by decide +kernel
theorem dX5_init_82 : decode cX5_init 82 = .ok (.putfield 39, 3) := by decide +kernel
theorem dX5_init_85 : decode cX5_init 85 = .ok (.aload_n 0, 1) := by decide +kernel
theorem dX5_init_86 : decode cX5_init 86 = .ok (.bipush 100, 2) := by decide +kernel
theorem dX5_init_88 : decode cX5_init 88 = .ok (.newarray .int, 2) := by decide +kernel
theorem dX5_init_90 : decode cX5_init 90 = .ok (.putfield 42, 3) := by decide +kernel
theorem dX5_init_93 : decode cX5_init 93 = .ok (.iconst 0, 1) := by decide +kernel
theorem dX5_init_94 : decode cX5_init 94 = .ok (.istore_n 1, 1) := by decide +kernel
theorem dX5_init_95 : decode cX5_init 95 = .ok (.iload_n 1, 1) := by decide +kernel
theorem dX5_init_96 : decode cX5_init 96 = .ok (.bipush 100, 2) := by decide +kernel
theorem dX5_init_98 : decode cX5_init 98 = .ok (.if_icmp .ge 18, 3) := by decide +kernel
theorem dX5_init_101 : decode cX5_init 101 = .ok (.aload_n 0, 1) := by decide +kernel
theorem dX5_init_102 : decode cX5_init 102 = .ok (.getfield 17, 3) := by decide +kernel
theorem dX5_init_105 : decode cX5_init 105 = .ok (.iload_n 1, 1) := by decide +kernel
theorem dX5_init_106 : decode cX5_init 106 = .ok (.getstatic 45, 3) := by decide +kernel
theorem dX5_init_109 : decode cX5_init 109 = .ok (.aastore, 1) := by decide +kernel
theorem dX5_init_110 : decode cX5_init 110 = .ok (.iinc 1 1, 3) := by decide +kernel
theorem dX5_init_113 : decode cX5_init 113 = .ok (.goto (-18), 3) := by decide +kernel
theorem dX5_init_116 : decode cX5_init 116 = .ok (.return_, 1) := by decide +kernel
theorem dX5_thrown_0 : decode cX5_thrown 0 = .ok (.aload_n 0, 1) := by decide +kernel
theorem dX5_thrown_1 : decode cX5_thrown 1 = .ok (.getfield 48, 3) := by decide +kernel
theorem dX5_thrown_4 : decode cX5_thrown 4 = .ok (.ireturn, 1) := by decide +kernel
theorem dX5_no_0 : decode cX5_no 0 = .ok (.aload_n 0, 1) := by decide +kernel
theorem dX5_no_1 : decode cX5_no 1 = .ok (.iload_n 1, 1) := by decide +kernel
theorem dX5_no_2 : decode cX5_no 2 = .ok (.putfield 48, 3) := by decide +kernel
theorem dX5_no_5 : decode cX5_no 5 = .ok (.iconst 0, 1) := by decide +kernel
theorem dX5_no_6 : decode cX5_no 6 = .ok (.ireturn, 1) := by decide +kernel
theorem dX5_isIn_0 : decode cX5_isIn 0 = .ok (.iload_n 0, 1) := by decide +kernel
theorem dX5_isIn_1 : decode cX5_isIn 1 = .ok (.iload_n 1, 1) := by decide +kernel
theorem dX5_isIn_2 : decode cX5_isIn 2 = .ok (.if_icmp .lt 12, 3) := by decide +kernel
theorem dX5_isIn_5 : decode cX5_isIn 5 = .ok (.iload_n 0, 1) := by decide +kernel
theorem dX5_isIn_6 : decode cX5_isIn 6 = .ok (.iload_n 2, 1) := by decide +kernel
theorem dX5_isIn_7 : decode cX5_isIn 7 = .ok (.if_icmp .gt 7, 3) := by decide +kernel
theorem dX5_isIn_10 : decode cX5_isIn 10 = .ok (.iconst 1, 1) := by decide +kernel
theorem dX5_isIn_11 : decode cX5_isIn 11 = .ok (.goto 4, 3) := by decide +kernel
theorem dX5_isIn_14 : decode cX5_isIn 14 = .ok (.iconst 0, 1) := by decide +kernel
theorem dX5_isIn_15 : decode cX5_isIn 15 = .ok (.ireturn, 1) := by decide +kernel
set_option maxRecDepth 20000 in
theorem ggX5_isHut_X5_isIn : GoodIn wsX5_isHut wsX5_isIn := goodIn_r _ [5] (by decide +kernel) (by decide +kernel)
set_option maxRecDepth 20000 in
theorem gX5_isHut_X5_isIn : GoodIn wsX5_isHut (va_wsS RX5 55 yX5_isIn wsX5_isIn) := goodIn_app (goodIn_of _ (by decide +kernel)) ggX5_isHut_X5_isIn
theorem dX5_isHut_0 : decode cX5_isHut 0 = .ok (.iload_n 1, 1) := by decide +kernel
theorem dX5_isHut_1 : decode cX5_isHut 1 = .ok (.iconst 0, 1) := by decide +kernel
theorem dX5_isHut_2 : decode cX5_isHut 2 = .ok (.aload_n 0, 1) := by decide +kernel
theorem dX5_isHut_3 : decode cX5_isHut 3 = .ok (.getfield 52, 3) := by decide +kernel
theorem dX5_isHut_6 : decode cX5_isHut 6 = .ok (.iconst 1, 1) := by decide +kernel
theorem dX5_isHut_7 : decode cX5_isHut 7 = .ok (.isub, 1) := by decide +kernel
theorem dX5_isHut_8 : decode cX5_isHut 8 = .ok (.invokestatic 55, 3) := by decide +kernel
theorem dX5_isHut_11 : decode cX5_isHut 11 = .ok (.ireturn, 1) := by decide +kernel
set_option maxRecDepth 20000 in
theorem ggX5_isPass_X5_isIn : GoodIn wsX5_isPass wsX5_isIn := goodIn_r _ [5] (by decide +kernel) (by decide +kernel)
set_option maxRecDepth 20000 in
theorem gX5_isPass_X5_isIn : GoodIn wsX5_isPass (va_wsS RX5 55 yX5_isIn wsX5_isIn) := goodIn_app (goodIn_of _ (by decide +kernel)) ggX5_isPass_X5_isIn
theorem dX5_isPass_0 : decode cX5_isPass 0 = .ok (.iload_n 1, 1) := by decide +kernel
theorem dX5_isPass_1 : decode cX5_isPass 1 = .ok (.iconst 0, 1) := by decide +kernel
theorem dX5_isPass_2 : decode cX5_isPass 2 = .ok (.aload_n 0, 1) := by decide +kernel
theorem dX5_isPass_3 : decode cX5_isPass 3 = .ok (.getfield 59, 3) := by decide +kernel
theorem dX5_isPass_6 : decode cX5_isPass 6 = .ok (.iconst 1, 1) := by decide +kernel
theorem dX5_isPass_7 : decode cX5_isPass 7 = .ok (.isub, 1) := by decide +kernel
theorem dX5_isPass_8 : decode cX5_isPass 8 = .ok (.invokestatic 55, 3) := by decide +kernel
theorem dX5_isPass_11 : decode cX5_isPass 11 = .ok (.ireturn, 1) := by decide +kernel
theorem dX5_has_0 : decode cX5_has 0 = .ok (.iload_n 0, 1) := by decide +kernel
theorem dX5_has_1 : decode cX5_has 1 = .ok (.iload_n 1, 1) := by decide +kernel
theorem dX5_has_2 : decode cX5_has 2 = .ok (.ishr, 1) := by decide +kernel
theorem dX5_has_3 : decode cX5_has 3 = .ok (.iconst 1, 1) := by decide +kernel
theorem dX5_has_4 : decode cX5_has 4 = .ok (.iand, 1) := by decide +kernel
theorem dX5_has_5 : decode cX5_has 5 = .ok (.iconst 1, 1) := by decide +kernel
theorem dX5_has_6 : decode cX5_has 6 = .ok (.if_icmp .ne 7, 3) := by decide +kernel
theorem dX5_has_9 : decode cX5_has 9 = .ok (.iconst 1, 1) := by decide +kernel
theorem dX5_has_10 : decode cX5_has 10 = .ok (.goto 4, 3) := by decide +kernel
theorem dX5_has_13 : decode cX5_has 13 = .ok (.iconst 0, 1) := by decide +kernel
theorem dX5_has_14 : decode cX5_has 14 = .ok (.ireturn, 1) := by decide +kernel
theorem dX5_of_0 : decode cX5_of 0 = .ok (.aload_n 0, 1) := by decide +kernel
theorem dX5_of_1 : decode cX5_of 1 = .ok (.getfield 17, 3) := by decide +kernel
theorem dX5_of_4 : decode cX5_of 4 = .ok (.bipush 10, 2) := by decide +kernel
theorem dX5_of_6 : decode cX5_of 6 = .ok (.iload_n 1, 1) := by decide +kernel
theorem dX5_of_7 : decode cX5_of 7 = .ok (.imul, 1) := by decide +kernel
theorem dX5_of_8 : decode cX5_of 8 = .ok (.iload_n 2, 1) := by decide +kernel
theorem dX5_of_9 : decode cX5_of 9 = .ok (.iadd, 1) := by decide +kernel
theorem dX5_of_10 : decode cX5_of 10 = .ok (.aaload, 1) := by decide +kernel
theorem dX5_of_11 : decode cX5_of 11 = .ok (.areturn, 1) := by decide +kernel
set_option maxRecDepth 20000 in
theorem ggX5_isThere_X5_of : GoodIn wsX5_isThere wsX5_of := goodIn_r _ [5, 6, 7, 8, 9, 10, 11, 12, 13, 14, 15, 16, 17, 18, 19, 20, 21, 22] (by decide +kernel) (by decide +kernel)
set_option maxRecDepth 20000 in
theorem gX5_isThere_X5_of : GoodIn wsX5_isThere (wsV RX5 62 RX5 yX5_of wsX5_of) := goodIn_app (goodIn_of _ (by decide +kernel)) ggX5_isThere_X5_of
theorem dX5_isThere_0 : decode cX5_isThere 0 = .ok (.aload_n 0, 1) := by decide +kernel
theorem dX5_isThere_1 : decode cX5_isThere 1 = .ok (.iload_n 1, 1) := by decide +kernel
theorem dX5_isThere_2 : decode cX5_isThere 2 = .ok (.iload_n 2, 1) := by decide +kernel
theorem dX5_isThere_3 : decode cX5_isThere 3 = .ok (.invokevirtual 62, 3) := by decide +kernel
theorem dX5_isThere_6 : decode cX5_isThere 6 = .ok (.arraylength, 1) := by decide +kernel
theorem dX5_isThere_7 : decode cX5_isThere 7 = .ok (.ifCond .le 7, 3) := by decide +kernel
theorem dX5_isThere_10 : decode cX5_isThere 10 = .ok (.iconst 1, 1) := by decide +kernel
theorem dX5_isThere_11 : decode cX5_isThere 11 = .ok (.goto 4, 3) := by decide +kernel
theorem dX5_isThere_14 : decode cX5_isThere 14 = .ok (.iconst 0, 1) := by decide +kernel
theorem dX5_isThere_15 : decode cX5_isThere 15 = .ok (.ireturn, 1) := by decide +kernel
set_option maxRecDepth 20000 in
theorem ggX5_age_X5_of : GoodIn wsX5_age wsX5_of := goodIn_r _ [6, 7, 8, 9, 10, 11, 12, 13, 14, 15, 16, 17, 18, 19, 20, 21, 22, 23] (by decide +kernel) (by decide +kernel)
set_option maxRecDepth 20000 in
theorem gX5_age_X5_of : GoodIn wsX5_age (wsV RX5 62 RX5 yX5_of wsX5_of) := goodIn_app (goodIn_of _ (by decide +kernel)) ggX5_age_X5_of
theorem dX5_age_0 : decode cX5_age 0 = .ok (.aload_n 0, 1) := by decide +kernel
theorem dX5_age_1 : decode cX5_age 1 = .ok (.getfield 66, 3) := by decide +kernel
theorem dX5_age_4 : decode cX5_age 4 = .ok (.aload_n 0, 1) := by decide +kernel
theorem dX5_age_5 : decode cX5_age 5 = .ok (.iload_n 1, 1) := by decide +kernel
theorem dX5_age_6 : decode cX5_age 6 = .ok (.iload_n 2, 1) := by decide +kernel
theorem dX5_age_7 : decode cX5_age 7 = .ok (.invokevirtual 62, 3) := by decide +kernel
theorem dX5_age_10 : decode cX5_age 10 = .ok (.iconst 1, 1) := by decide +kernel
theorem dX5_age_11 : decode cX5_age 11 = .ok (.iaload, 1) := by decide +kernel
theorem dX5_age_12 : decode cX5_age 12 = .ok (.isub, 1) := by decide +kernel
theorem dX5_age_13 : decode cX5_age 13 = .ok (.ireturn, 1) := by decide +kernel
theorem dX5_isAt_0 : decode cX5_isAt 0 = .ok (.aload_n 0, 1) := by decide +kernel
theorem dX5_isAt_1 : decode cX5_isAt 1 = .ok (.getfield 21, 3) := by decide +kernel
theorem dX5_isAt_4 : decode cX5_isAt 4 = .ok (.iload_n 1, 1) := by decide +kernel
theorem dX5_isAt_5 : decode cX5_isAt 5 = .ok (.iaload, 1) := by decide +kernel
theorem dX5_isAt_6 : decode cX5_isAt 6 = .ok (.iload_n 2, 1) := by decide +kernel
theorem dX5_isAt_7 : decode cX5_isAt 7 = .ok (.if_icmp .eq 13, 3) := by decide +kernel
theorem dX5_isAt_10 : decode cX5_isAt 10 = .ok (.aload_n 0, 1) := by decide +kernel
theorem dX5_isAt_11 : decode cX5_isAt 11 = .ok (.getfield 24, 3) := by decide +kernel
theorem dX5_isAt_14 : decode cX5_isAt 14 = .ok (.iload_n 1, 1) := by decide +kernel
theorem dX5_isAt_15 : decode cX5_isAt 15 = .ok (.iaload, 1) := by decide +kernel
theorem dX5_isAt_16 : decode cX5_isAt 16 = .ok (.iload_n 2, 1) := by decide +kernel
theorem dX5_isAt_17 : decode cX5_isAt 17 = .ok (.if_icmp .ne 7, 3) := by decide +kernel
theorem dX5_isAt_20 : decode cX5_isAt 20 = .ok (.iconst 1, 1) := by decide +kernel
theorem dX5_isAt_21 : decode cX5_isAt 21 = .ok (.goto 4, 3) := by decide +kernel
theorem dX5_isAt_24 : decode cX5_isAt 24 = .ok (.iconst 0, 1) := by decide +kernel
theorem dX5_isAt_25 : decode cX5_isAt 25 = .ok (.ireturn, 1) := by decide +kernel
set_option maxRecDepth 20000 in
theorem ggX5_sheetNow_X5_isAt : GoodIn wsX5_sheetNow wsX5_isAt := goodIn_r _ [11, 12, 13, 17, 18, 19, 20, 21, 22, 23, 24, 25, 26, 27, 28, 29, 30, 31, 32] (by decide +kernel) (by decide +kernel)
set_option maxRecDepth 20000 in
theorem gX5_sheetNow_X5_isAt : GoodIn wsX5_sheetNow (wsV RX5 69 RX5 yX5_isAt wsX5_isAt) := goodIn_app (goodIn_of _ (by decide +kernel)) ggX5_sheetNow_X5_isAt
set_option maxRecDepth 20000 in
theorem ggX5_sheetNow_X5_has : GoodIn wsX5_sheetNow wsX5_has := goodIn_r _ [16] (by decide +kernel) (by decide +kernel)
set_option maxRecDepth 20000 in
theorem gX5_sheetNow_X5_has : GoodIn wsX5_sheetNow (va_wsS RX5 76 yX5_has wsX5_has) := goodIn_app (goodIn_of _ (by decide +kernel)) ggX5_sheetNow_X5_has
theorem dX5_sheetNow_0 : decode cX5_sheetNow 0 = .ok (.bipush 23, 2) := by decide +kernel
theorem dX5_sheetNow_2 : decode cX5_sheetNow 2 = .ok (.newarray .int, 2) := by decide +kernel
theorem dX5_sheetNow_4 : decode cX5_sheetNow 4 = .ok (.astore_n 2, 1) := by decide +kernel
theorem dX5_sheetNow_5 : decode cX5_sheetNow 5 = .ok (.aload_n 2, 1) := by decide +kernel
theorem dX5_sheetNow_6 : decode cX5_sheetNow 6 = .ok (.iconst 0, 1) := by decide +kernel
theorem dX5_sheetNow_7 : decode cX5_sheetNow 7 = .ok (.aload_n 0, 1) := by decide +kernel
theorem dX5_sheetNow_8 : decode cX5_sheetNow 8 = .ok (.getfield 13, 3) := by decide +kernel
theorem dX5_sheetNow_11 : decode cX5_sheetNow 11 = .ok (.iload_n 1, 1) := by decide +kernel
theorem dX5_sheetNow_12 : decode cX5_sheetNow 12 = .ok (.iaload, 1) := by decide +kernel
theorem dX5_sheetNow_13 : decode cX5_sheetNow 13 = .ok (.iconst 1, 1) := by decide +kernel
theorem dX5_sheetNow_14 : decode cX5_sheetNow 14 = .ok (.iadd, 1) := by decide +kernel
theorem dX5_sheetNow_15 : decode cX5_sheetNow 15 = .ok (.iastore, 1) := by decide +kernel
theorem dX5_sheetNow_16 : decode cX5_sheetNow 16 = .ok (.aload_n 2, 1) := by decide +kernel
theorem dX5_sheetNow_17 : decode cX5_sheetNow 17 = .ok (.iconst 1, 1) := by decide +kernel
theorem dX5_sheetNow_18 : decode cX5_sheetNow 18 = .ok (.aload_n 0, 1) := by decide +kernel
theorem dX5_sheetNow_19 : decode cX5_sheetNow 19 = .ok (.getfield 66, 3) := by decide +kernel
theorem dX5_sheetNow_22 : decode cX5_sheetNow 22 = .ok (.iastore, 1) := by decide +kernel
theorem dX5_sheetNow_23 : decode cX5_sheetNow 23 = .ok (.iconst 0, 1) := by decide +kernel
theorem dX5_sheetNow_24 : decode cX5_sheetNow 24 = .ok (.istore_n 3, 1) := by decide +kernel
theorem dX5_sheetNow_25 : decode cX5_sheetNow 25 = .ok (.iload_n 3, 1) := by decide +kernel
theorem dX5_sheetNow_26 : decode cX5_sheetNow 26 = .ok (.aload_n 0, 1) := by decide +kernel
theorem dX5_sheetNow_27 : decode cX5_sheetNow 27 = .ok (.getfield 59, 3) := by decide +kernel
theorem dX5_sheetNow_30 : decode cX5_sheetNow 30 = .ok (.if_icmp .ge 52, 3) := by decide +kernel
theorem dX5_sheetNow_33 : decode cX5_sheetNow 33 = .ok (.aload_n 0, 1) := by decide +kernel
theorem dX5_sheetNow_34 : decode cX5_sheetNow 34 = .ok (.iload_n 3, 1) := by decide +kernel
theorem dX5_sheetNow_35 : decode cX5_sheetNow 35 = .ok (.iload_n 1, 1) := by decide +kernel
theorem dX5_sheetNow_36 : decode cX5_sheetNow 36 = .ok (.invokevirtual 69, 3) := by decide +kernel
theorem dX5_sheetNow_39 : decode cX5_sheetNow 39 = .ok (.ifCond .eq 37, 3) := by decide +kernel
theorem dX5_sheetNow_42 : decode cX5_sheetNow 42 = .ok (.aload_n 0, 1) := by decide +kernel
theorem dX5_sheetNow_43 : decode cX5_sheetNow 43 = .ok (.getfield 73, 3) := by decide +kernel
theorem dX5_sheetNow_46 : decode cX5_sheetNow 46 = .ok (.iload_n 3, 1) := by decide +kernel
theorem dX5_sheetNow_47 : decode cX5_sheetNow 47 = .ok (.invokestatic 76, 3) := by decide +kernel
theorem dX5_sheetNow_50 : decode cX5_sheetNow 50 = .ok (.ifCond .ne 6, 3) := by decide +kernel
theorem dX5_sheetNow_53 : decode cX5_sheetNow 53 = .ok (.goto 23, 3) := by decide +kernel
theorem dX5_sheetNow_56 : decode cX5_sheetNow 56 = .ok (.aload_n 2, 1) := by decide +kernel
theorem dX5_sheetNow_57 : decode cX5_sheetNow 57 = .ok (.iconst 2, 1) := by decide +kernel
theorem dX5_sheetNow_58 : decode cX5_sheetNow 58 = .ok (.dup2, 1) := by decide +kernel
theorem dX5_sheetNow_59 : decode cX5_sheetNow 59 = .ok (.iaload, 1) := by decide +kernel
theorem dX5_sheetNow_60 : decode cX5_sheetNow 60 = .ok (.iconst 1, 1) := by decide +kernel
theorem dX5_sheetNow_61 : decode cX5_sheetNow 61 = .ok (.iload_n 3, 1) := by decide +kernel
theorem dX5_sheetNow_62 : decode cX5_sheetNow 62 = .ok (.ishl, 1) := by decide +kernel
theorem dX5_sheetNow_63 : decode cX5_sheetNow 63 = .ok (.ior, 1) := by decide +kernel
theorem dX5_sheetNow_64 : decode cX5_sheetNow 64 = .ok (.iastore, 1) := by decide +kernel
theorem dX5_sheetNow_65 : decode cX5_sheetNow 65 = .ok (.aload_n 2, 1) := by decide +kernel
theorem dX5_sheetNow_66 : decode cX5_sheetNow 66 = .ok (.iconst 3, 1) := by decide +kernel
theorem dX5_sheetNow_67 : decode cX5_sheetNow 67 = .ok (.iload_n 3, 1) := by decide +kernel
theorem dX5_sheetNow_68 : decode cX5_sheetNow 68 = .ok (.iadd, 1) := by decide +kernel
theorem dX5_sheetNow_69 : decode cX5_sheetNow 69 = .ok (.aload_n 0, 1) := by decide +kernel
theorem dX5_sheetNow_70 : decode cX5_sheetNow 70 = .ok (.getfield 27, 3) := by decide +kernel
theorem dX5_sheetNow_73 : decode cX5_sheetNow 73 = .ok (.iload_n 3, 1) := by decide +kernel
theorem dX5_sheetNow_74 : decode cX5_sheetNow 74 = .ok (.iaload, 1) := by decide +kernel
theorem dX5_sheetNow_75 : decode cX5_sheetNow 75 = .ok (.iastore, 1) := by decide +kernel
theorem dX5_sheetNow_76 : decode cX5_sheetNow 76 = .ok (.iinc 3 1, 3) := by decide +kernel
theorem dX5_sheetNow_79 : decode cX5_sheetNow 79 = .ok (.goto (-54), 3) := by decide +kernel
theorem dX5_sheetNow_82 : decode cX5_sheetNow 82 = .ok (.aload_n 2, 1) := by decide +kernel
theorem dX5_sheetNow_83 : decode cX5_sheetNow 83 = .ok (.areturn, 1) := by decide +kernel
set_option maxRecDepth 20000 in
theorem ggX5_isTrue_X5_isAt : GoodIn wsX5_isTrue wsX5_isAt := goodIn_r _ [8, 9, 10, 14, 15, 16, 17, 18, 19, 20, 21, 22, 23, 24, 25, 26, 27, 28, 29] (by decide +kernel) (by decide +kernel)
set_option maxRecDepth 20000 in
theorem gX5_isTrue_X5_isAt : GoodIn wsX5_isTrue (wsV RX5 69 RX5 yX5_isAt wsX5_isAt) := goodIn_app (goodIn_of _ (by decide +kernel)) ggX5_isTrue_X5_isAt
set_option maxRecDepth 20000 in
theorem ggX5_isTrue_X5_has : GoodIn wsX5_isTrue wsX5_has := goodIn_r _ [13] (by decide +kernel) (by decide +kernel)
set_option maxRecDepth 20000 in
theorem gX5_isTrue_X5_has : GoodIn wsX5_isTrue (va_wsS RX5 76 yX5_has wsX5_has) := goodIn_app (goodIn_of _ (by decide +kernel)) ggX5_isTrue_X5_has
theorem dX5_isTrue_0 : decode cX5_isTrue 0 = .ok (.iconst 0, 1) := by decide +kernel
theorem dX5_isTrue_1 : decode cX5_isTrue 1 = .ok (.istore_n 3, 1) := by decide +kernel
theorem dX5_isTrue_2 : decode cX5_isTrue 2 = .ok (.iload_n 3, 1) := by decide +kernel
theorem dX5_isTrue_3 : decode cX5_isTrue 3 = .ok (.aload_n 0, 1) := by decide +kernel
theorem dX5_isTrue_4 : decode cX5_isTrue 4 = .ok (.getfield 59, 3) := by decide +kernel
theorem dX5_isTrue_7 : decode cX5_isTrue 7 = .ok (.if_icmp .ge 69, 3) := by decide +kernel
theorem dX5_isTrue_10 : decode cX5_isTrue 10 = .ok (.aload_n 0, 1) := by decide +kernel
theorem dX5_isTrue_11 : decode cX5_isTrue 11 = .ok (.iload_n 3, 1) := by decide +kernel
theorem dX5_isTrue_12 : decode cX5_isTrue 12 = .ok (.iload_n 2, 1) := by decide +kernel
theorem dX5_isTrue_13 : decode cX5_isTrue 13 = .ok (.invokevirtual 69, 3) := by decide +kernel
theorem dX5_isTrue_16 : decode cX5_isTrue 16 = .ok (.ifCond .eq 18, 3) := by decide +kernel
theorem dX5_isTrue_19 : decode cX5_isTrue 19 = .ok (.aload_n 0, 1) := by decide +kernel
theorem dX5_isTrue_20 : decode cX5_isTrue 20 = .ok (.getfield 73, 3) := by decide +kernel
theorem dX5_isTrue_23 : decode cX5_isTrue 23 = .ok (.iload_n 3, 1) := by decide +kernel
theorem dX5_isTrue_24 : decode cX5_isTrue 24 = .ok (.invokestatic 76, 3) := by decide +kernel
theorem dX5_isTrue_27 : decode cX5_isTrue 27 = .ok (.ifCond .eq 7, 3) := by decide +kernel
theorem dX5_isTrue_30 : decode cX5_isTrue 30 = .ok (.iconst 1, 1) := by decide +kernel
theorem dX5_isTrue_31 : decode cX5_isTrue 31 = .ok (.goto 4, 3) := by decide +kernel
theorem dX5_isTrue_34 : decode cX5_isTrue 34 = .ok (.iconst 0, 1) := by decide +kernel
theorem dX5_isTrue_35 : decode cX5_isTrue 35 = .ok (.istore 4, 2) := by decide +kernel
theorem dX5_isTrue_37 : decode cX5_isTrue 37 = .ok (.iload 4, 2) := by decide +kernel
theorem dX5_isTrue_39 : decode cX5_isTrue 39 = .ok (.aload_n 1, 1) := by decide +kernel
theorem dX5_isTrue_40 : decode cX5_isTrue 40 = .ok (.iconst 2, 1) := by decide +kernel
theorem dX5_isTrue_41 : decode cX5_isTrue 41 = .ok (.iaload, 1) := by decide +kernel
theorem dX5_isTrue_42 : decode cX5_isTrue 42 = .ok (.iload_n 3, 1) := by decide +kernel
theorem dX5_isTrue_43 : decode cX5_isTrue 43 = .ok (.invokestatic 76, 3) := by decide +kernel
theorem dX5_isTrue_46 : decode cX5_isTrue 46 = .ok (.if_icmp .ne 22, 3) := by decide +kernel
theorem dX5_isTrue_49 : decode cX5_isTrue 49 = .ok (.iload 4, 2) := by decide +kernel
theorem dX5_isTrue_51 : decode cX5_isTrue 51 = .ok (.ifCond .eq 19, 3) := by decide +kernel
theorem dX5_isTrue_54 : decode cX5_isTrue 54 = .ok (.aload_n 1, 1) := by decide +kernel
theorem dX5_isTrue_55 : decode cX5_isTrue 55 = .ok (.iconst 3, 1) := by decide +kernel
theorem dX5_isTrue_56 : decode cX5_isTrue 56 = .ok (.iload_n 3, 1) := by decide +kernel
theorem dX5_isTrue_57 : decode cX5_isTrue 57 = .ok (.iadd, 1) := by decide +kernel
theorem dX5_isTrue_58 : decode cX5_isTrue 58 = .ok (.iaload, 1) := by decide +kernel
theorem dX5_isTrue_59 : decode cX5_isTrue 59 = .ok (.aload_n 0, 1) := by decide +kernel
theorem dX5_isTrue_60 : decode cX5_isTrue 60 = .ok (.getfield 27, 3) := by decide +kernel
theorem dX5_isTrue_63 : decode cX5_isTrue 63 = .ok (.iload_n 3, 1) := by decide +kernel
theorem dX5_isTrue_64 : decode cX5_isTrue 64 = .ok (.iaload, 1) := by decide +kernel
theorem dX5_isTrue_65 : decode cX5_isTrue 65 = .ok (.if_icmp .eq 5, 3) := by decide +kernel
theorem dX5_isTrue_68 : decode cX5_isTrue 68 = .ok (.iconst 0, 1) := by decide +kernel
theorem dX5_isTrue_69 : decode cX5_isTrue 69 = .ok (.ireturn, 1) := by decide +kernel
theorem dX5_isTrue_70 : decode cX5_isTrue 70 = .ok (.iinc 3 1, 3) := by decide +kernel
theorem dX5_isTrue_73 : decode cX5_isTrue 73 = .ok (.goto (-71), 3) := by decide +kernel
theorem dX5_isTrue_76 : decode cX5_isTrue 76 = .ok (.iconst 1, 1) := by decide +kernel
theorem dX5_isTrue_77 : decode cX5_isTrue 77 = .ok (.ireturn, 1) := by decide +kernel
set_option maxRecDepth 20000 in
theorem ggX5_isDue_X5_isThere : GoodIn wsX5_isDue wsX5_isThere := goodIn_r _ [5, 6, 7, 8, 4, 9, 10, 32, 33, 34, 35, 36, 37, 38, 39, 40, 41, 42, 43, 44, 45, 46, 47] (by decide +kernel) (by decide +kernel)
set_option maxRecDepth 20000 in
theorem gX5_isDue_X5_isThere : GoodIn wsX5_isDue (wsV RX5 78 RX5 yX5_isThere wsX5_isThere) := goodIn_app (goodIn_of _ (by decide +kernel)) ggX5_isDue_X5_isThere
set_option maxRecDepth 20000 in
theorem ggX5_isDue_X5_age : GoodIn wsX5_isDue wsX5_age := goodIn_r _ [14, 15, 6, 7, 8, 4, 9, 10, 32, 33, 34, 35, 36, 37, 38, 39, 40, 41, 42, 43, 44, 45, 46, 47] (by decide +kernel) (by decide +kernel)
set_option maxRecDepth 20000 in
theorem gX5_isDue_X5_age : GoodIn wsX5_isDue (wsV RX5 81 RX5 yX5_age wsX5_age) := goodIn_app (goodIn_of _ (by decide +kernel)) ggX5_isDue_X5_age
set_option maxRecDepth 20000 in
theorem ggX5_isDue_X5_of : GoodIn wsX5_isDue wsX5_of := goodIn_r _ [9, 10, 32, 33, 34, 35, 36, 37, 38, 39, 40, 41, 42, 43, 44, 45, 46, 47] (by decide +kernel) (by decide +kernel)
set_option maxRecDepth 20000 in
theorem gX5_isDue_X5_of : GoodIn wsX5_isDue (wsV RX5 62 RX5 yX5_of wsX5_of) := goodIn_app (goodIn_of _ (by decide +kernel)) ggX5_isDue_X5_of
set_option maxRecDepth 20000 in
theorem ggX5_isDue_X5_isTrue : GoodIn wsX5_isDue wsX5_isTrue := goodIn_r _ [19, 20, 21, 22, 23, 24, 25, 4, 26, 27, 28, 29, 30, 31, 32, 33, 34, 35, 36, 37, 38, 39, 40, 41, 42, 43, 44, 45, 46, 47] (by decide +kernel) (by decide +kernel)
set_option maxRecDepth 20000 in
theorem gX5_isDue_X5_isTrue : GoodIn wsX5_isDue (wsV RX5 85 RX5 yX5_isTrue wsX5_isTrue) := goodIn_app (goodIn_of _ (by decide +kernel)) ggX5_isDue_X5_isTrue
theorem dX5_isDue_0 : decode cX5_isDue 0 = .ok (.aload_n 0, 1) := by decide +kernel
theorem dX5_isDue_1 : decode cX5_isDue 1 = .ok (.iload_n 1, 1) := by decide +kernel
theorem dX5_isDue_2 : decode cX5_isDue 2 = .ok (.iload_n 1, 1) := by decide +kernel
theorem dX5_isDue_3 : decode cX5_isDue 3 = .ok (.invokevirtual 78, 3) := by decide +kernel
theorem dX5_isDue_6 : decode cX5_isDue 6 = .ok (.ifCond .eq 28, 3) := by decide +kernel
theorem dX5_isDue_9 : decode cX5_isDue 9 = .ok (.aload_n 0, 1) := by decide +kernel
theorem dX5_isDue_10 : decode cX5_isDue 10 = .ok (.iload_n 1, 1) := by decide +kernel
theorem dX5_isDue_11 : decode cX5_isDue 11 = .ok (.iload_n 1, 1) := by decide +kernel
theorem dX5_isDue_12 : decode cX5_isDue 12 = .ok (.invokevirtual 81, 3) := by decide +kernel
theorem dX5_isDue_15 : decode cX5_isDue 15 = .ok (.bipush 20, 2) := by decide +kernel
theorem dX5_isDue_17 : decode cX5_isDue 17 = .ok (.if_icmp .ge 17, 3) := by decide +kernel
theorem dX5_isDue_20 : decode cX5_isDue 20 = .ok (.aload_n 0, 1) := by decide +kernel
theorem dX5_isDue_21 : decode cX5_isDue 21 = .ok (.aload_n 0, 1) := by decide +kernel
theorem dX5_isDue_22 : decode cX5_isDue 22 = .ok (.iload_n 1, 1) := by decide +kernel
theorem dX5_isDue_23 : decode cX5_isDue 23 = .ok (.iload_n 1, 1) := by decide +kernel
theorem dX5_isDue_24 : decode cX5_isDue 24 = .ok (.invokevirtual 62, 3) := by decide +kernel
theorem dX5_isDue_27 : decode cX5_isDue 27 = .ok (.iload_n 1, 1) := by decide +kernel
theorem dX5_isDue_28 : decode cX5_isDue 28 = .ok (.invokevirtual 85, 3) := by decide +kernel
theorem dX5_isDue_31 : decode cX5_isDue 31 = .ok (.ifCond .ne 7, 3) := by decide +kernel
theorem dX5_isDue_34 : decode cX5_isDue 34 = .ok (.iconst 1, 1) := by decide +kernel
theorem dX5_isDue_35 : decode cX5_isDue 35 = .ok (.goto 4, 3) := by decide +kernel
theorem dX5_isDue_38 : decode cX5_isDue 38 = .ok (.iconst 0, 1) := by decide +kernel
theorem dX5_isDue_39 : decode cX5_isDue 39 = .ok (.ireturn, 1) := by decide +kernel
set_option maxRecDepth 20000 in
theorem ggX5_write_X5_sheetNow : GoodIn wsX5_write wsX5_sheetNow := goodIn_r _ [7, 8, 2, 9, 10, 11, 12, 13, 14, 15, 6, 16, 17, 18, 19, 20, 21, 22, 23, 24, 25, 26, 27, 28, 29, 30, 31, 32, 33, 34, 35, 36, 37] (by decide +kernel) (by decide +kernel)
set_option maxRecDepth 20000 in
theorem gX5_write_X5_sheetNow : GoodIn wsX5_write (wsV RX5 89 RX5 yX5_sheetNow wsX5_sheetNow) := goodIn_app (goodIn_of _ (by decide +kernel)) ggX5_write_X5_sheetNow
theorem dX5_write_0 : decode cX5_write 0 = .ok (.aload_n 0, 1) := by decide +kernel
theorem dX5_write_1 : decode cX5_write 1 = .ok (.getfield 17, 3) := by decide +kernel
theorem dX5_write_4 : decode cX5_write 4 = .ok (.bipush 10, 2) := by decide +kernel
theorem dX5_write_6 : decode cX5_write 6 = .ok (.iload_n 1, 1) := by decide +kernel
theorem dX5_write_7 : decode cX5_write 7 = .ok (.imul, 1) := by decide +kernel
theorem dX5_write_8 : decode cX5_write 8 = .ok (.iload_n 1, 1) := by decide +kernel
theorem dX5_write_9 : decode cX5_write 9 = .ok (.iadd, 1) := by decide +kernel
theorem dX5_write_10 : decode cX5_write 10 = .ok (.aload_n 0, 1) := by decide +kernel
theorem dX5_write_11 : decode cX5_write 11 = .ok (.iload_n 1, 1) := by decide +kernel
theorem dX5_write_12 : decode cX5_write 12 = .ok (.invokevirtual 89, 3) := by decide +kernel
theorem dX5_write_15 : decode cX5_write 15 = .ok (.aastore, 1) := by decide +kernel
theorem dX5_write_16 : decode cX5_write 16 = .ok (.aload_n 0, 1) := by decide +kernel
theorem dX5_write_17 : decode cX5_write 17 = .ok (.getfield 13, 3) := by decide +kernel
theorem dX5_write_20 : decode cX5_write 20 = .ok (.iload_n 1, 1) := by decide +kernel
theorem dX5_write_21 : decode cX5_write 21 = .ok (.dup2, 1) := by decide +kernel
theorem dX5_write_22 : decode cX5_write 22 = .ok (.iaload, 1) := by decide +kernel
theorem dX5_write_23 : decode cX5_write 23 = .ok (.iconst 1, 1) := by decide +kernel
theorem dX5_write_24 : decode cX5_write 24 = .ok (.iadd, 1) := by decide +kernel
theorem dX5_write_25 : decode cX5_write 25 = .ok (.iastore, 1) := by decide +kernel
theorem dX5_write_26 : decode cX5_write 26 = .ok (.return_, 1) := by decide +kernel
theorem dX5_takes_0 : decode cX5_takes 0 = .ok (.iload_n 1, 1) := by decide +kernel
theorem dX5_takes_1 : decode cX5_takes 1 = .ok (.iload_n 2, 1) := by decide +kernel
theorem dX5_takes_2 : decode cX5_takes 2 = .ok (.if_icmp .eq 40, 3) := by decide +kernel
theorem dX5_takes_5 : decode cX5_takes 5 = .ok (.aload_n 0, 1) := by decide +kernel
theorem dX5_takes_6 : decode cX5_takes 6 = .ok (.getfield 9, 3) := by decide +kernel
theorem dX5_takes_9 : decode cX5_takes 9 = .ok (.iload_n 1, 1) := by decide +kernel
theorem dX5_takes_10 : decode cX5_takes 10 = .ok (.iaload, 1) := by decide +kernel
theorem dX5_takes_11 : decode cX5_takes 11 = .ok (.ifCond .eq 27, 3) := by decide +kernel
theorem dX5_takes_14 : decode cX5_takes 14 = .ok (.aload_n 0, 1) := by decide +kernel
theorem dX5_takes_15 : decode cX5_takes 15 = .ok (.getfield 9, 3) := by decide +kernel
theorem dX5_takes_18 : decode cX5_takes 18 = .ok (.iload_n 2, 1) := by decide +kernel
theorem dX5_takes_19 : decode cX5_takes 19 = .ok (.iaload, 1) := by decide +kernel
theorem dX5_takes_20 : decode cX5_takes 20 = .ok (.ifCond .eq 18, 3) := by decide +kernel
theorem dX5_takes_23 : decode cX5_takes 23 = .ok (.aload_n 0, 1) := by decide +kernel
theorem dX5_takes_24 : decode cX5_takes 24 = .ok (.getfield 9, 3) := by decide +kernel
theorem dX5_takes_27 : decode cX5_takes 27 = .ok (.iload_n 1, 1) := by decide +kernel
theorem dX5_takes_28 : decode cX5_takes 28 = .ok (.iaload, 1) := by decide +kernel
theorem dX5_takes_29 : decode cX5_takes 29 = .ok (.aload_n 0, 1) := by decide +kernel
theorem dX5_takes_30 : decode cX5_takes 30 = .ok (.getfield 9, 3) := by decide +kernel
theorem dX5_takes_33 : decode cX5_takes 33 = .ok (.iload_n 2, 1) := by decide +kernel
theorem dX5_takes_34 : decode cX5_takes 34 = .ok (.iaload, 1) := by decide +kernel
theorem dX5_takes_35 : decode cX5_takes 35 = .ok (.if_icmp .ne 7, 3) := by decide +kernel
theorem dX5_takes_38 : decode cX5_takes 38 = .ok (.iconst 1, 1) := by decide +kernel
theorem dX5_takes_39 : decode cX5_takes 39 = .ok (.goto 4, 3) := by decide +kernel
theorem dX5_takes_42 : decode cX5_takes 42 = .ok (.iconst 0, 1) := by decide +kernel
theorem dX5_takes_43 : decode cX5_takes 43 = .ok (.ireturn, 1) := by decide +kernel
set_option maxRecDepth 20000 in
theorem ggX5_carry_X5_takes : GoodIn wsX5_carry wsX5_takes := goodIn_r _ [7, 8, 13, 14, 15, 16, 17, 18, 19, 20, 21, 22, 23, 24, 25, 26, 27, 28] (by decide +kernel) (by decide +kernel)
set_option maxRecDepth 20000 in
theorem gX5_carry_X5_takes : GoodIn wsX5_carry (wsV RX5 93 RX5 yX5_takes wsX5_takes) := goodIn_app (goodIn_of _ (by decide +kernel)) ggX5_carry_X5_takes
set_option maxRecDepth 20000 in
theorem ggX5_carry_X5_of : GoodIn wsX5_carry wsX5_of := goodIn_r _ [12, 2, 13, 14, 15, 16, 17, 18, 19, 20, 21, 22, 23, 24, 25, 26, 27, 28] (by decide +kernel) (by decide +kernel)
set_option maxRecDepth 20000 in
theorem gX5_carry_X5_of : GoodIn wsX5_carry (wsV RX5 62 RX5 yX5_of wsX5_of) := goodIn_app (goodIn_of _ (by decide +kernel)) ggX5_carry_X5_of
theorem dX5_carry_0 : decode cX5_carry 0 = .ok (.iconst 0, 1) := by decide +kernel
theorem dX5_carry_1 : decode cX5_carry 1 = .ok (.istore 4, 2) := by decide +kernel
theorem dX5_carry_3 : decode cX5_carry 3 = .ok (.iload 4, 2) := by decide +kernel
theorem dX5_carry_5 : decode cX5_carry 5 = .ok (.aload_n 0, 1) := by decide +kernel
theorem dX5_carry_6 : decode cX5_carry 6 = .ok (.getfield 52, 3) := by decide +kernel
theorem dX5_carry_9 : decode cX5_carry 9 = .ok (.if_icmp .ge 101, 3) := by decide +kernel
theorem dX5_carry_12 : decode cX5_carry 12 = .ok (.aload_n 1, 1) := by decide +kernel
theorem dX5_carry_13 : decode cX5_carry 13 = .ok (.bipush 10, 2) := by decide +kernel
theorem dX5_carry_15 : decode cX5_carry 15 = .ok (.iload_n 2, 1) := by decide +kernel
theorem dX5_carry_16 : decode cX5_carry 16 = .ok (.imul, 1) := by decide +kernel
theorem dX5_carry_17 : decode cX5_carry 17 = .ok (.iload 4, 2) := by decide +kernel
theorem dX5_carry_19 : decode cX5_carry 19 = .ok (.iadd, 1) := by decide +kernel
theorem dX5_carry_20 : decode cX5_carry 20 = .ok (.aaload, 1) := by decide +kernel
theorem dX5_carry_21 : decode cX5_carry 21 = .ok (.astore 5, 2) := by decide +kernel
theorem dX5_carry_23 : decode cX5_carry 23 = .ok (.aload_n 0, 1) := by decide +kernel
theorem dX5_carry_24 : decode cX5_carry 24 = .ok (.iload_n 3, 1) := by decide +kernel
theorem dX5_carry_25 : decode cX5_carry 25 = .ok (.iload 4, 2) := by decide +kernel
theorem dX5_carry_27 : decode cX5_carry 27 = .ok (.invokevirtual 93, 3) := by decide +kernel
theorem dX5_carry_30 : decode cX5_carry 30 = .ok (.ifCond .eq 74, 3) := by decide +kernel
theorem dX5_carry_33 : decode cX5_carry 33 = .ok (.aload 5, 2) := by decide +kernel
theorem dX5_carry_35 : decode cX5_carry 35 = .ok (.arraylength, 1) := by decide +kernel
theorem dX5_carry_36 : decode cX5_carry 36 = .ok (.ifCond .ne 6, 3) := by decide +kernel
theorem dX5_carry_39 : decode cX5_carry 39 = .ok (.goto 65, 3) := by decide +kernel
theorem dX5_carry_42 : decode cX5_carry 42 = .ok (.aload_n 0, 1) := by decide +kernel
theorem dX5_carry_43 : decode cX5_carry 43 = .ok (.iload_n 3, 1) := by decide +kernel
theorem dX5_carry_44 : decode cX5_carry 44 = .ok (.iload 4, 2) := by decide +kernel
theorem dX5_carry_46 : decode cX5_carry 46 = .ok (.invokevirtual 62, 3) := by decide +kernel
theorem dX5_carry_49 : decode cX5_carry 49 = .ok (.astore 6, 2) := by decide +kernel
theorem dX5_carry_51 : decode cX5_carry 51 = .ok (.aload 6, 2) := by decide +kernel
theorem dX5_carry_53 : decode cX5_carry 53 = .ok (.arraylength, 1) := by decide +kernel
theorem dX5_carry_54 : decode cX5_carry 54 = .ok (.ifCond .eq 36, 3) := by decide +kernel
theorem dX5_carry_57 : decode cX5_carry 57 = .ok (.aload 5, 2) := by decide +kernel
theorem dX5_carry_59 : decode cX5_carry 59 = .ok (.iconst 0, 1) := by decide +kernel
theorem dX5_carry_60 : decode cX5_carry 60 = .ok (.iaload, 1) := by decide +kernel
theorem dX5_carry_61 : decode cX5_carry 61 = .ok (.aload 6, 2) := by decide +kernel
theorem dX5_carry_63 : decode cX5_carry 63 = .ok (.iconst 0, 1) := by decide +kernel
theorem dX5_carry_64 : decode cX5_carry 64 = .ok (.iaload, 1) := by decide +kernel
theorem dX5_carry_65 : decode cX5_carry 65 = .ok (.if_icmp .gt 25, 3) := by decide +kernel
theorem dX5_carry_68 : decode cX5_carry 68 = .ok (.aload 5, 2) := by decide +kernel
theorem dX5_carry_70 : decode cX5_carry 70 = .ok (.iconst 0, 1) := by decide +kernel
theorem dX5_carry_71 : decode cX5_carry 71 = .ok (.iaload, 1) := by decide +kernel
theorem dX5_carry_72 : decode cX5_carry 72 = .ok (.aload 6, 2) := by decide +kernel
theorem dX5_carry_74 : decode cX5_carry 74 = .ok (.iconst 0, 1) := by decide +kernel
theorem dX5_carry_75 : decode cX5_carry 75 = .ok (.iaload, 1) := by decide +kernel
theorem dX5_carry_76 : decode cX5_carry 76 = .ok (.if_icmp .ne 28, 3) := by decide +kernel
theorem dX5_carry_79 : decode cX5_carry 79 = .ok (.aload 5, 2) := by decide +kernel
theorem dX5_carry_81 : decode cX5_carry 81 = .ok (.iconst 1, 1) := by decide +kernel
theorem dX5_carry_82 : decode cX5_carry 82 = .ok (.iaload, 1) := by decide +kernel
theorem dX5_carry_83 : decode cX5_carry 83 = .ok (.aload 6, 2) := by decide +kernel
theorem dX5_carry_85 : decode cX5_carry 85 = .ok (.iconst 1, 1) := by decide +kernel
theorem dX5_carry_86 : decode cX5_carry 86 = .ok (.iaload, 1) := by decide +kernel
theorem dX5_carry_87 : decode cX5_carry 87 = .ok (.if_icmp .le 17, 3) := by decide +kernel
theorem dX5_carry_90 : decode cX5_carry 90 = .ok (.aload_n 0, 1) := by decide +kernel
theorem dX5_carry_91 : decode cX5_carry 91 = .ok (.getfield 17, 3) := by decide +kernel
theorem dX5_carry_94 : decode cX5_carry 94 = .ok (.bipush 10, 2) := by decide +kernel
theorem dX5_carry_96 : decode cX5_carry 96 = .ok (.iload_n 3, 1) := by decide +kernel
theorem dX5_carry_97 : decode cX5_carry 97 = .ok (.imul, 1) := by decide +kernel
theorem dX5_carry_98 : decode cX5_carry 98 = .ok (.iload 4, 2) := by decide +kernel
theorem dX5_carry_100 : decode cX5_carry 100 = .ok (.iadd, 1) := by decide +kernel
theorem dX5_carry_101 : decode cX5_carry 101 = .ok (.aload 5, 2) := by decide +kernel
theorem dX5_carry_103 : decode cX5_carry 103 = .ok (.aastore, 1) := by decide +kernel
theorem dX5_carry_104 : decode cX5_carry 104 = .ok (.iinc 4 1, 3) := by decide +kernel
theorem dX5_carry_107 : decode cX5_carry 107 = .ok (.goto (-104), 3) := by decide +kernel
theorem dX5_carry_110 : decode cX5_carry 110 = .ok (.return_, 1) := by decide +kernel
set_option maxRecDepth 20000 in
theorem ggX5_step_X5_isDue : GoodIn wsX5_step wsX5_isDue := goodIn_r _ [18, 19, 20, 21, 17, 22, 23, 24, 25, 26, 3, 27, 28, 29, 30, 12, 31, 32, 33, 34, 8, 9, 35, 36, 37, 38, 39, 10, 11, 40, 41, 42, 62, 63, 64, 65, 66, 67, 68, 69, 70, 71, 72, 73, 74, 75, 76, 77] (by decide +kernel) (by decide +kernel)
set_option maxRecDepth 20000 in
theorem gX5_step_X5_isDue : GoodIn wsX5_step (wsV RX5 96 RX5 yX5_isDue wsX5_isDue) := goodIn_app (goodIn_of _ (by decide +kernel)) ggX5_step_X5_isDue
set_option maxRecDepth 20000 in
theorem ggX5_step_X5_write : GoodIn wsX5_step wsX5_write := goodIn_r _ [46, 3, 47, 48, 49, 50, 17, 51, 52, 12, 8, 9, 35, 36, 37, 38, 39, 10, 11, 40, 41, 42, 62, 63, 64, 65, 66, 67, 68, 69, 70, 71, 72, 73, 74, 75, 76, 77] (by decide +kernel) (by decide +kernel)
set_option maxRecDepth 20000 in
theorem gX5_step_X5_write : GoodIn wsX5_step (wsV RX5 100 RX5 yX5_write wsX5_write) := goodIn_app (goodIn_of _ (by decide +kernel)) ggX5_step_X5_write
set_option maxRecDepth 20000 in
theorem ggX5_step_X5_has : GoodIn wsX5_step wsX5_has := goodIn_r _ [42] (by decide +kernel) (by decide +kernel)
set_option maxRecDepth 20000 in
theorem gX5_step_X5_has : GoodIn wsX5_step (va_wsS RX5 76 yX5_has wsX5_has) := goodIn_app (goodIn_of _ (by decide +kernel)) ggX5_step_X5_has
set_option maxRecDepth 20000 in
theorem ggX5_step_X5_carry : GoodIn wsX5_step wsX5_carry := goodIn_r _ [56, 1, 3, 57, 58, 59, 17, 60, 61, 23, 24, 25, 26, 62, 63, 64, 65, 66, 67, 68, 69, 70, 71, 72, 73, 74, 75, 76, 77] (by decide +kernel) (by decide +kernel)
set_option maxRecDepth 20000 in
theorem gX5_step_X5_carry : GoodIn wsX5_step (wsV RX5 110 RX5 yX5_carry wsX5_carry) := goodIn_app (goodIn_of _ (by decide +kernel)) ggX5_step_X5_carry
theorem dX5_step_0 : decode cX5_step 0 = .ok (.iconst 0, 1) := by decide +kernel
theorem dX5_step_1 : decode cX5_step 1 = .ok (.istore_n 1, 1) := by decide +kernel
theorem dX5_step_2 : decode cX5_step 2 = .ok (.iconst 0, 1) := by decide +kernel
theorem dX5_step_3 : decode cX5_step 3 = .ok (.istore_n 2, 1) := by decide +kernel
theorem dX5_step_4 : decode cX5_step 4 = .ok (.iload_n 2, 1) := by decide +kernel
theorem dX5_step_5 : decode cX5_step 5 = .ok (.aload_n 0, 1) := by decide +kernel
theorem dX5_step_6 : decode cX5_step 6 = .ok (.getfield 52, 3) := by decide +kernel
theorem dX5_step_9 : decode cX5_step 9 = .ok (.if_icmp .ge 28, 3) := by decide +kernel
theorem dX5_step_12 : decode cX5_step 12 = .ok (.aload_n 0, 1) := by decide +kernel
theorem dX5_step_13 : decode cX5_step 13 = .ok (.iload_n 2, 1) := by decide +kernel
theorem dX5_step_14 : decode cX5_step 14 = .ok (.invokevirtual 96, 3) := by decide +kernel
theorem dX5_step_17 : decode cX5_step 17 = .ok (.ifCond .ne 6, 3) := by decide +kernel
theorem dX5_step_20 : decode cX5_step 20 = .ok (.goto 11, 3) := by decide +kernel
theorem dX5_step_23 : decode cX5_step 23 = .ok (.aload_n 0, 1) := by decide +kernel
theorem dX5_step_24 : decode cX5_step 24 = .ok (.iload_n 2, 1) := by decide +kernel
theorem dX5_step_25 : decode cX5_step 25 = .ok (.invokevirtual 100, 3) := by decide +kernel
theorem dX5_step_28 : decode cX5_step 28 = .ok (.iinc 1 1, 3) := by decide +kernel
theorem dX5_step_31 : decode cX5_step 31 = .ok (.iinc 2 1, 3) := by decide +kernel
theorem dX5_step_34 : decode cX5_step 34 = .ok (.goto (-30), 3) := by decide +kernel
theorem dX5_step_37 : decode cX5_step 37 = .ok (.bipush 100, 2) := by decide +kernel
theorem dX5_step_39 : decode cX5_step 39 = .ok (.anewarray 16, 3) := by decide +kernel
theorem dX5_step_42 : decode cX5_step 42 = .ok (.astore_n 2, 1) := by decide +kernel
theorem dX5_step_43 : decode cX5_step 43 = .ok (.aload_n 0, 1) := by decide +kernel
theorem dX5_step_44 : decode cX5_step 44 = .ok (.getfield 17, 3) := by decide +kernel
theorem dX5_step_47 : decode cX5_step 47 = .ok (.iconst 0, 1) := by decide +kernel
theorem dX5_step_48 : decode cX5_step 48 = .ok (.aload_n 2, 1) := by decide +kernel
theorem dX5_step_49 : decode cX5_step 49 = .ok (.iconst 0, 1) := by decide +kernel
theorem dX5_step_50 : decode cX5_step 50 = .ok (.bipush 100, 2) := by decide +kernel
theorem dX5_step_52 : decode cX5_step 52 = .ok (.invokestatic 104, 3) := by decide +kernel
theorem dX5_step_55 : decode cX5_step 55 = .ok (.iconst 0, 1) := by decide +kernel
theorem dX5_step_56 : decode cX5_step 56 = .ok (.istore_n 3, 1) := by decide +kernel
theorem dX5_step_57 : decode cX5_step 57 = .ok (.iload_n 3, 1) := by decide +kernel
theorem dX5_step_58 : decode cX5_step 58 = .ok (.aload_n 0, 1) := by decide +kernel
theorem dX5_step_59 : decode cX5_step 59 = .ok (.getfield 59, 3) := by decide +kernel
theorem dX5_step_62 : decode cX5_step 62 = .ok (.if_icmp .ge 57, 3) := by decide +kernel
theorem dX5_step_65 : decode cX5_step 65 = .ok (.aload_n 0, 1) := by decide +kernel
theorem dX5_step_66 : decode cX5_step 66 = .ok (.getfield 73, 3) := by decide +kernel
theorem dX5_step_69 : decode cX5_step 69 = .ok (.iload_n 3, 1) := by decide +kernel
theorem dX5_step_70 : decode cX5_step 70 = .ok (.invokestatic 76, 3) := by decide +kernel
theorem dX5_step_73 : decode cX5_step 73 = .ok (.ifCond .ne 6, 3) := by decide +kernel
theorem dX5_step_76 : decode cX5_step 76 = .ok (.goto 37, 3) := by decide +kernel
theorem dX5_step_79 : decode cX5_step 79 = .ok (.aload_n 0, 1) := by decide +kernel
theorem dX5_step_80 : decode cX5_step 80 = .ok (.aload_n 2, 1) := by decide +kernel
theorem dX5_step_81 : decode cX5_step 81 = .ok (.aload_n 0, 1) := by decide +kernel
theorem dX5_step_82 : decode cX5_step 82 = .ok (.getfield 21, 3) := by decide +kernel
theorem dX5_step_85 : decode cX5_step 85 = .ok (.iload_n 3, 1) := by decide +kernel
theorem dX5_step_86 : decode cX5_step 86 = .ok (.iaload, 1) := by decide +kernel
theorem dX5_step_87 : decode cX5_step 87 = .ok (.aload_n 0, 1) := by decide +kernel
theorem dX5_step_88 : decode cX5_step 88 = .ok (.getfield 24, 3) := by decide +kernel
theorem dX5_step_91 : decode cX5_step 91 = .ok (.iload_n 3, 1) := by decide +kernel
theorem dX5_step_92 : decode cX5_step 92 = .ok (.iaload, 1) := by decide +kernel
theorem dX5_step_93 : decode cX5_step 93 = .ok (.invokevirtual 110, 3) := by decide +kernel
theorem dX5_step_96 : decode cX5_step 96 = .ok (.aload_n 0, 1) := by decide +kernel
theorem dX5_step_97 : decode cX5_step 97 = .ok (.aload_n 2, 1) := by decide +kernel
theorem dX5_step_98 : decode cX5_step 98 = .ok (.aload_n 0, 1) := by decide +kernel
theorem dX5_step_99 : decode cX5_step 99 = .ok (.getfield 24, 3) := by decide +kernel
theorem dX5_step_102 : decode cX5_step 102 = .ok (.iload_n 3, 1) := by decide +kernel
theorem dX5_step_103 : decode cX5_step 103 = .ok (.iaload, 1) := by decide +kernel
theorem dX5_step_104 : decode cX5_step 104 = .ok (.aload_n 0, 1) := by decide +kernel
theorem dX5_step_105 : decode cX5_step 105 = .ok (.getfield 21, 3) := by decide +kernel
theorem dX5_step_108 : decode cX5_step 108 = .ok (.iload_n 3, 1) := by decide +kernel
theorem dX5_step_109 : decode cX5_step 109 = .ok (.iaload, 1) := by decide +kernel
theorem dX5_step_110 : decode cX5_step 110 = .ok (.invokevirtual 110, 3) := by decide +kernel
theorem dX5_step_113 : decode cX5_step 113 = .ok (.iinc 3 1, 3) := by decide +kernel
theorem dX5_step_116 : decode cX5_step 116 = .ok (.goto (-59), 3) := by decide +kernel
theorem dX5_step_119 : decode cX5_step 119 = .ok (.aload_n 0, 1) := by decide +kernel
theorem dX5_step_120 : decode cX5_step 120 = .ok (.dup, 1) := by decide +kernel
theorem dX5_step_121 : decode cX5_step 121 = .ok (.getfield 66, 3) := by decide +kernel
theorem dX5_step_124 : decode cX5_step 124 = .ok (.iconst 1, 1) := by decide +kernel
theorem dX5_step_125 : decode cX5_step 125 = .ok (.iadd, 1) := by decide +kernel
theorem dX5_step_126 : decode cX5_step 126 = .ok (.putfield 66, 3) := by decide +kernel
theorem dX5_step_129 : decode cX5_step 129 = .ok (.iconst 0, 1) := by decide +kernel
theorem dX5_step_130 : decode cX5_step 130 = .ok (.istore_n 3, 1) := by decide +kernel
theorem dX5_step_131 : decode cX5_step 131 = .ok (.iload_n 3, 1) := by decide +kernel
theorem dX5_step_132 : decode cX5_step 132 = .ok (.bipush 100, 2) := by decide +kernel
theorem dX5_step_134 : decode cX5_step 134 = .ok (.if_icmp .ge 46, 3) := by decide +kernel
theorem dX5_step_137 : decode cX5_step 137 = .ok (.aload_n 0, 1) := by decide +kernel
theorem dX5_step_138 : decode cX5_step 138 = .ok (.getfield 17, 3) := by decide +kernel
theorem dX5_step_141 : decode cX5_step 141 = .ok (.iload_n 3, 1) := by decide +kernel
theorem dX5_step_142 : decode cX5_step 142 = .ok (.aaload, 1) := by decide +kernel
theorem dX5_step_143 : decode cX5_step 143 = .ok (.arraylength, 1) := by decide +kernel
theorem dX5_step_144 : decode cX5_step 144 = .ok (.ifCond .le 30, 3) := by decide +kernel
theorem dX5_step_147 : decode cX5_step 147 = .ok (.aload_n 0, 1) := by decide +kernel
theorem dX5_step_148 : decode cX5_step 148 = .ok (.getfield 66, 3) := by decide +kernel
theorem dX5_step_151 : decode cX5_step 151 = .ok (.aload_n 0, 1) := by decide +kernel
theorem dX5_step_152 : decode cX5_step 152 = .ok (.getfield 17, 3) := by decide +kernel
theorem dX5_step_155 : decode cX5_step 155 = .ok (.iload_n 3, 1) := by decide +kernel
theorem dX5_step_156 : decode cX5_step 156 = .ok (.aaload, 1) := by decide +kernel
theorem dX5_step_157 : decode cX5_step 157 = .ok (.iconst 1, 1) := by decide +kernel
theorem dX5_step_158 : decode cX5_step 158 = .ok (.iaload, 1) := by decide +kernel
theorem dX5_step_159 : decode cX5_step 159 = .ok (.isub, 1) := by decide +kernel
theorem dX5_step_160 : decode cX5_step 160 = .ok (.bipush 30, 2) := by decide +kernel
theorem dX5_step_162 : decode cX5_step 162 = .ok (.if_icmp .le 12, 3) := by decide +kernel
theorem dX5_step_165 : decode cX5_step 165 = .ok (.aload_n 0, 1) := by decide +kernel
theorem dX5_step_166 : decode cX5_step 166 = .ok (.getfield 17, 3) := by decide +kernel
theorem dX5_step_169 : decode cX5_step 169 = .ok (.iload_n 3, 1) := by decide +kernel
theorem dX5_step_170 : decode cX5_step 170 = .ok (.getstatic 45, 3) := by decide +kernel
theorem dX5_step_173 : decode cX5_step 173 = .ok (.aastore, 1) := by decide +kernel
theorem dX5_step_174 : decode cX5_step 174 = .ok (.iinc 3 1, 3) := by decide +kernel
theorem dX5_step_177 : decode cX5_step 177 = .ok (.goto (-46), 3) := by decide +kernel
theorem dX5_step_180 : decode cX5_step 180 = .ok (.iload_n 1, 1) := by decide +kernel
theorem dX5_step_181 : decode cX5_step 181 = .ok (.ireturn, 1) := by decide +kernel
set_option maxRecDepth 20000 in
theorem ggX5_isTold_X5_isThere : GoodIn wsX5_isTold wsX5_isThere := goodIn_r _ [5, 6, 7, 8, 4, 9, 10, 14, 15, 16, 17, 18, 19, 20, 21, 22, 23, 24, 25, 26, 27, 28, 29] (by decide +kernel) (by decide +kernel)
set_option maxRecDepth 20000 in
theorem gX5_isTold_X5_isThere : GoodIn wsX5_isTold (wsV RX5 78 RX5 yX5_isThere wsX5_isThere) := goodIn_app (goodIn_of _ (by decide +kernel)) ggX5_isTold_X5_isThere
set_option maxRecDepth 20000 in
theorem ggX5_isTold_X5_of : GoodIn wsX5_isTold wsX5_of := goodIn_r _ [9, 10, 14, 15, 16, 17, 18, 19, 20, 21, 22, 23, 24, 25, 26, 27, 28, 29] (by decide +kernel) (by decide +kernel)
set_option maxRecDepth 20000 in
theorem gX5_isTold_X5_of : GoodIn wsX5_isTold (wsV RX5 62 RX5 yX5_of wsX5_of) := goodIn_app (goodIn_of _ (by decide +kernel)) ggX5_isTold_X5_of
set_option maxRecDepth 20000 in
theorem ggX5_isTold_X5_has : GoodIn wsX5_isTold wsX5_has := goodIn_r _ [13] (by decide +kernel) (by decide +kernel)
set_option maxRecDepth 20000 in
theorem gX5_isTold_X5_has : GoodIn wsX5_isTold (va_wsS RX5 76 yX5_has wsX5_has) := goodIn_app (goodIn_of _ (by decide +kernel)) ggX5_isTold_X5_has
theorem dX5_isTold_0 : decode cX5_isTold 0 = .ok (.aload_n 0, 1) := by decide +kernel
theorem dX5_isTold_1 : decode cX5_isTold 1 = .ok (.iload_n 1, 1) := by decide +kernel
theorem dX5_isTold_2 : decode cX5_isTold 2 = .ok (.iload_n 3, 1) := by decide +kernel
theorem dX5_isTold_3 : decode cX5_isTold 3 = .ok (.invokevirtual 78, 3) := by decide +kernel
theorem dX5_isTold_6 : decode cX5_isTold 6 = .ok (.ifCond .eq 22, 3) := by decide +kernel
theorem dX5_isTold_9 : decode cX5_isTold 9 = .ok (.aload_n 0, 1) := by decide +kernel
theorem dX5_isTold_10 : decode cX5_isTold 10 = .ok (.iload_n 1, 1) := by decide +kernel
theorem dX5_isTold_11 : decode cX5_isTold 11 = .ok (.iload_n 3, 1) := by decide +kernel
theorem dX5_isTold_12 : decode cX5_isTold 12 = .ok (.invokevirtual 62, 3) := by decide +kernel
theorem dX5_isTold_15 : decode cX5_isTold 15 = .ok (.iconst 2, 1) := by decide +kernel
theorem dX5_isTold_16 : decode cX5_isTold 16 = .ok (.iaload, 1) := by decide +kernel
theorem dX5_isTold_17 : decode cX5_isTold 17 = .ok (.iload_n 2, 1) := by decide +kernel
theorem dX5_isTold_18 : decode cX5_isTold 18 = .ok (.invokestatic 76, 3) := by decide +kernel
theorem dX5_isTold_21 : decode cX5_isTold 21 = .ok (.ifCond .eq 7, 3) := by decide +kernel
theorem dX5_isTold_24 : decode cX5_isTold 24 = .ok (.iconst 1, 1) := by decide +kernel
theorem dX5_isTold_25 : decode cX5_isTold 25 = .ok (.goto 4, 3) := by decide +kernel
theorem dX5_isTold_28 : decode cX5_isTold 28 = .ok (.iconst 0, 1) := by decide +kernel
theorem dX5_isTold_29 : decode cX5_isTold 29 = .ok (.ireturn, 1) := by decide +kernel
set_option maxRecDepth 20000 in
theorem ggX5_isTaken_X5_isTold : GoodIn wsX5_isTaken wsX5_isTold := goodIn_r _ [7, 8, 9, 10, 6, 11, 12, 13, 14, 15, 16, 17, 18, 19, 20, 21, 22, 23, 24, 25, 26, 27, 28, 29, 30, 31, 32, 33, 34, 35] (by decide +kernel) (by decide +kernel)
set_option maxRecDepth 20000 in
theorem gX5_isTaken_X5_isTold : GoodIn wsX5_isTaken (wsV RX5 114 RX5 yX5_isTold wsX5_isTold) := goodIn_app (goodIn_of _ (by decide +kernel)) ggX5_isTaken_X5_isTold
theorem dX5_isTaken_0 : decode cX5_isTaken 0 = .ok (.aload_n 0, 1) := by decide +kernel
theorem dX5_isTaken_1 : decode cX5_isTaken 1 = .ok (.iload_n 1, 1) := by decide +kernel
theorem dX5_isTaken_2 : decode cX5_isTaken 2 = .ok (.iload_n 2, 1) := by decide +kernel
theorem dX5_isTaken_3 : decode cX5_isTaken 3 = .ok (.aload_n 0, 1) := by decide +kernel
theorem dX5_isTaken_4 : decode cX5_isTaken 4 = .ok (.getfield 21, 3) := by decide +kernel
theorem dX5_isTaken_7 : decode cX5_isTaken 7 = .ok (.iload_n 2, 1) := by decide +kernel
theorem dX5_isTaken_8 : decode cX5_isTaken 8 = .ok (.iaload, 1) := by decide +kernel
theorem dX5_isTaken_9 : decode cX5_isTaken 9 = .ok (.invokevirtual 114, 3) := by decide +kernel
theorem dX5_isTaken_12 : decode cX5_isTaken 12 = .ok (.ifCond .eq 22, 3) := by decide +kernel
theorem dX5_isTaken_15 : decode cX5_isTaken 15 = .ok (.aload_n 0, 1) := by decide +kernel
theorem dX5_isTaken_16 : decode cX5_isTaken 16 = .ok (.iload_n 1, 1) := by decide +kernel
theorem dX5_isTaken_17 : decode cX5_isTaken 17 = .ok (.iload_n 2, 1) := by decide +kernel
theorem dX5_isTaken_18 : decode cX5_isTaken 18 = .ok (.aload_n 0, 1) := by decide +kernel
theorem dX5_isTaken_19 : decode cX5_isTaken 19 = .ok (.getfield 24, 3) := by decide +kernel
theorem dX5_isTaken_22 : decode cX5_isTaken 22 = .ok (.iload_n 2, 1) := by decide +kernel
theorem dX5_isTaken_23 : decode cX5_isTaken 23 = .ok (.iaload, 1) := by decide +kernel
theorem dX5_isTaken_24 : decode cX5_isTaken 24 = .ok (.invokevirtual 114, 3) := by decide +kernel
theorem dX5_isTaken_27 : decode cX5_isTaken 27 = .ok (.ifCond .eq 7, 3) := by decide +kernel
theorem dX5_isTaken_30 : decode cX5_isTaken 30 = .ok (.iconst 1, 1) := by decide +kernel
theorem dX5_isTaken_31 : decode cX5_isTaken 31 = .ok (.goto 4, 3) := by decide +kernel
theorem dX5_isTaken_34 : decode cX5_isTaken 34 = .ok (.iconst 0, 1) := by decide +kernel
theorem dX5_isTaken_35 : decode cX5_isTaken 35 = .ok (.ireturn, 1) := by decide +kernel
set_option maxRecDepth 20000 in
theorem ggX5_lengthsFor_X5_isTaken : GoodIn wsX5_lengthsFor wsX5_isTaken := goodIn_r _ [9, 3, 4, 10, 11, 12, 8, 13, 14, 15, 16, 17, 18, 19, 20, 21, 22, 23, 24, 25, 29, 30, 31, 32, 33, 34, 35, 36, 37, 38, 39, 40, 41, 42, 43, 44] (by decide +kernel) (by decide +kernel)
set_option maxRecDepth 20000 in
theorem gX5_lengthsFor_X5_isTaken : GoodIn wsX5_lengthsFor (wsV RX5 117 RX5 yX5_isTaken wsX5_isTaken) := goodIn_app (goodIn_of _ (by decide +kernel)) ggX5_lengthsFor_X5_isTaken
set_option maxRecDepth 20000 in
theorem ggX5_lengthsFor_X5_of : GoodIn wsX5_lengthsFor wsX5_of := goodIn_r _ [21, 22, 29, 30, 31, 32, 33, 34, 35, 36, 37, 38, 39, 40, 41, 42, 43, 44] (by decide +kernel) (by decide +kernel)
set_option maxRecDepth 20000 in
theorem gX5_lengthsFor_X5_of : GoodIn wsX5_lengthsFor (wsV RX5 62 RX5 yX5_of wsX5_of) := goodIn_app (goodIn_of _ (by decide +kernel)) ggX5_lengthsFor_X5_of
set_option maxRecDepth 20000 in
theorem ggX5_lengthsFor_X5_shorten : GoodIn wsX5_lengthsFor wsX5_shorten := goodIn_r _ [28] (by decide +kernel) (by decide +kernel)
set_option maxRecDepth 20000 in
theorem gX5_lengthsFor_X5_shorten : GoodIn wsX5_lengthsFor (va_wsS RX5 120 yX5_shorten wsX5_shorten) := goodIn_app (goodIn_of _ (by decide +kernel)) ggX5_lengthsFor_X5_shorten
theorem dX5_lengthsFor_0 : decode cX5_lengthsFor 0 = .ok (.bipush 100, 2) := by decide +kernel
theorem dX5_lengthsFor_2 : decode cX5_lengthsFor 2 = .ok (.newarray .int, 2) := by decide +kernel
theorem dX5_lengthsFor_4 : decode cX5_lengthsFor 4 = .ok (.astore_n 2, 1) := by decide +kernel
theorem dX5_lengthsFor_5 : decode cX5_lengthsFor 5 = .ok (.iconst 0, 1) := by decide +kernel
theorem dX5_lengthsFor_6 : decode cX5_lengthsFor 6 = .ok (.istore_n 3, 1) := by decide +kernel
theorem dX5_lengthsFor_7 : decode cX5_lengthsFor 7 = .ok (.iload_n 3, 1) := by decide +kernel
theorem dX5_lengthsFor_8 : decode cX5_lengthsFor 8 = .ok (.aload_n 0, 1) := by decide +kernel
theorem dX5_lengthsFor_9 : decode cX5_lengthsFor 9 = .ok (.getfield 59, 3) := by decide +kernel
theorem dX5_lengthsFor_12 : decode cX5_lengthsFor 12 = .ok (.if_icmp .ge 83, 3) := by decide +kernel
theorem dX5_lengthsFor_15 : decode cX5_lengthsFor 15 = .ok (.aload_n 0, 1) := by decide +kernel
theorem dX5_lengthsFor_16 : decode cX5_lengthsFor 16 = .ok (.iload_n 1, 1) := by decide +kernel
theorem dX5_lengthsFor_17 : decode cX5_lengthsFor 17 = .ok (.iload_n 3, 1) := by decide +kernel
theorem dX5_lengthsFor_18 : decode cX5_lengthsFor 18 = .ok (.invokevirtual 117, 3) := by decide +kernel
theorem dX5_lengthsFor_21 : decode cX5_lengthsFor 21 = .ok (.ifCond .ne 6, 3) := by decide +kernel
theorem dX5_lengthsFor_24 : decode cX5_lengthsFor 24 = .ok (.goto 65, 3) := by decide +kernel
theorem dX5_lengthsFor_27 : decode cX5_lengthsFor 27 = .ok (.aload_n 2, 1) := by decide +kernel
theorem dX5_lengthsFor_28 : decode cX5_lengthsFor 28 = .ok (.aload_n 0, 1) := by decide +kernel
theorem dX5_lengthsFor_29 : decode cX5_lengthsFor 29 = .ok (.getfield 21, 3) := by decide +kernel
theorem dX5_lengthsFor_32 : decode cX5_lengthsFor 32 = .ok (.iload_n 3, 1) := by decide +kernel
theorem dX5_lengthsFor_33 : decode cX5_lengthsFor 33 = .ok (.iaload, 1) := by decide +kernel
theorem dX5_lengthsFor_34 : decode cX5_lengthsFor 34 = .ok (.aload_n 0, 1) := by decide +kernel
theorem dX5_lengthsFor_35 : decode cX5_lengthsFor 35 = .ok (.getfield 24, 3) := by decide +kernel
theorem dX5_lengthsFor_38 : decode cX5_lengthsFor 38 = .ok (.iload_n 3, 1) := by decide +kernel
theorem dX5_lengthsFor_39 : decode cX5_lengthsFor 39 = .ok (.iaload, 1) := by decide +kernel
theorem dX5_lengthsFor_40 : decode cX5_lengthsFor 40 = .ok (.aload_n 0, 1) := by decide +kernel
theorem dX5_lengthsFor_41 : decode cX5_lengthsFor 41 = .ok (.iload_n 1, 1) := by decide +kernel
theorem dX5_lengthsFor_42 : decode cX5_lengthsFor 42 = .ok (.aload_n 0, 1) := by decide +kernel
theorem dX5_lengthsFor_43 : decode cX5_lengthsFor 43 = .ok (.getfield 21, 3) := by decide +kernel
theorem dX5_lengthsFor_46 : decode cX5_lengthsFor 46 = .ok (.iload_n 3, 1) := by decide +kernel
theorem dX5_lengthsFor_47 : decode cX5_lengthsFor 47 = .ok (.iaload, 1) := by decide +kernel
theorem dX5_lengthsFor_48 : decode cX5_lengthsFor 48 = .ok (.invokevirtual 62, 3) := by decide +kernel
theorem dX5_lengthsFor_51 : decode cX5_lengthsFor 51 = .ok (.iconst 3, 1) := by decide +kernel
theorem dX5_lengthsFor_52 : decode cX5_lengthsFor 52 = .ok (.iload_n 3, 1) := by decide +kernel
theorem dX5_lengthsFor_53 : decode cX5_lengthsFor 53 = .ok (.iadd, 1) := by decide +kernel
theorem dX5_lengthsFor_54 : decode cX5_lengthsFor 54 = .ok (.iaload, 1) := by decide +kernel
theorem dX5_lengthsFor_55 : decode cX5_lengthsFor 55 = .ok (.invokestatic 120, 3) := by decide +kernel
theorem dX5_lengthsFor_58 : decode cX5_lengthsFor 58 = .ok (.aload_n 2, 1) := by decide +kernel
theorem dX5_lengthsFor_59 : decode cX5_lengthsFor 59 = .ok (.aload_n 0, 1) := by decide +kernel
theorem dX5_lengthsFor_60 : decode cX5_lengthsFor 60 = .ok (.getfield 24, 3) := by decide +kernel
theorem dX5_lengthsFor_63 : decode cX5_lengthsFor 63 = .ok (.iload_n 3, 1) := by decide +kernel
theorem dX5_lengthsFor_64 : decode cX5_lengthsFor 64 = .ok (.iaload, 1) := by decide +kernel
theorem dX5_lengthsFor_65 : decode cX5_lengthsFor 65 = .ok (.aload_n 0, 1) := by decide +kernel
theorem dX5_lengthsFor_66 : decode cX5_lengthsFor 66 = .ok (.getfield 21, 3) := by decide +kernel
theorem dX5_lengthsFor_69 : decode cX5_lengthsFor 69 = .ok (.iload_n 3, 1) := by decide +kernel
theorem dX5_lengthsFor_70 : decode cX5_lengthsFor 70 = .ok (.iaload, 1) := by decide +kernel
theorem dX5_lengthsFor_71 : decode cX5_lengthsFor 71 = .ok (.aload_n 0, 1) := by decide +kernel
theorem dX5_lengthsFor_72 : decode cX5_lengthsFor 72 = .ok (.iload_n 1, 1) := by decide +kernel
theorem dX5_lengthsFor_73 : decode cX5_lengthsFor 73 = .ok (.aload_n 0, 1) := by decide +kernel
theorem dX5_lengthsFor_74 : decode cX5_lengthsFor 74 = .ok (.getfield 24, 3) := by decide +kernel
theorem dX5_lengthsFor_77 : decode cX5_lengthsFor 77 = .ok (.iload_n 3, 1) := by decide +kernel
theorem dX5_lengthsFor_78 : decode cX5_lengthsFor 78 = .ok (.iaload, 1) := by decide +kernel
theorem dX5_lengthsFor_79 : decode cX5_lengthsFor 79 = .ok (.invokevirtual 62, 3) := by decide +kernel
theorem dX5_lengthsFor_82 : decode cX5_lengthsFor 82 = .ok (.iconst 3, 1) := by decide +kernel
theorem dX5_lengthsFor_83 : decode cX5_lengthsFor 83 = .ok (.iload_n 3, 1) := by decide +kernel
theorem dX5_lengthsFor_84 : decode cX5_lengthsFor 84 = .ok (.iadd, 1) := by decide +kernel
theorem dX5_lengthsFor_85 : decode cX5_lengthsFor 85 = .ok (.iaload, 1) := by decide +kernel
theorem dX5_lengthsFor_86 : decode cX5_lengthsFor 86 = .ok (.invokestatic 120, 3) := by decide +kernel
theorem dX5_lengthsFor_89 : decode cX5_lengthsFor 89 = .ok (.iinc 3 1, 3) := by decide +kernel
theorem dX5_lengthsFor_92 : decode cX5_lengthsFor 92 = .ok (.goto (-85), 3) := by decide +kernel
theorem dX5_lengthsFor_95 : decode cX5_lengthsFor 95 = .ok (.aload_n 2, 1) := by decide +kernel
theorem dX5_lengthsFor_96 : decode cX5_lengthsFor 96 = .ok (.areturn, 1) := by decide +kernel
theorem dX5_shorten_0 : decode cX5_shorten 0 = .ok (.bipush 10, 2) := by decide +kernel
theorem dX5_shorten_2 : decode cX5_shorten 2 = .ok (.iload_n 1, 1) := by decide +kernel
theorem dX5_shorten_3 : decode cX5_shorten 3 = .ok (.imul, 1) := by decide +kernel
theorem dX5_shorten_4 : decode cX5_shorten 4 = .ok (.iload_n 2, 1) := by decide +kernel
theorem dX5_shorten_5 : decode cX5_shorten 5 = .ok (.iadd, 1) := by decide +kernel
theorem dX5_shorten_6 : decode cX5_shorten 6 = .ok (.istore 4, 2) := by decide +kernel
theorem dX5_shorten_8 : decode cX5_shorten 8 = .ok (.aload_n 0, 1) := by decide +kernel
theorem dX5_shorten_9 : decode cX5_shorten 9 = .ok (.iload 4, 2) := by decide +kernel
theorem dX5_shorten_11 : decode cX5_shorten 11 = .ok (.iaload, 1) := by decide +kernel
theorem dX5_shorten_12 : decode cX5_shorten 12 = .ok (.ifCond .eq 11, 3) := by decide +kernel
theorem dX5_shorten_15 : decode cX5_shorten 15 = .ok (.iload_n 3, 1) := by decide +kernel
theorem dX5_shorten_16 : decode cX5_shorten 16 = .ok (.aload_n 0, 1) := by decide +kernel
theorem dX5_shorten_17 : decode cX5_shorten 17 = .ok (.iload 4, 2) := by decide +kernel
theorem dX5_shorten_19 : decode cX5_shorten 19 = .ok (.iaload, 1) := by decide +kernel
theorem dX5_shorten_20 : decode cX5_shorten 20 = .ok (.if_icmp .ge 8, 3) := by decide +kernel
theorem dX5_shorten_23 : decode cX5_shorten 23 = .ok (.aload_n 0, 1) := by decide +kernel
theorem dX5_shorten_24 : decode cX5_shorten 24 = .ok (.iload 4, 2) := by decide +kernel
theorem dX5_shorten_26 : decode cX5_shorten 26 = .ok (.iload_n 3, 1) := by decide +kernel
theorem dX5_shorten_27 : decode cX5_shorten 27 = .ok (.iastore, 1) := by decide +kernel
theorem dX5_shorten_28 : decode cX5_shorten 28 = .ok (.return_, 1) := by decide +kernel
theorem dX5_isBetter_0 : decode cX5_isBetter 0 = .ok (.aload_n 0, 1) := by decide +kernel
theorem dX5_isBetter_1 : decode cX5_isBetter 1 = .ok (.getfield 30, 3) := by decide +kernel
theorem dX5_isBetter_4 : decode cX5_isBetter 4 = .ok (.iload_n 1, 1) := by decide +kernel
theorem dX5_isBetter_5 : decode cX5_isBetter 5 = .ok (.iaload, 1) := by decide +kernel
theorem dX5_isBetter_6 : decode cX5_isBetter 6 = .ok (.iconst (-1), 1) := by decide +kernel
theorem dX5_isBetter_7 : decode cX5_isBetter 7 = .ok (.if_icmp .eq 54, 3) := by decide +kernel
theorem dX5_isBetter_10 : decode cX5_isBetter 10 = .ok (.iload_n 2, 1) := by decide +kernel
theorem dX5_isBetter_11 : decode cX5_isBetter 11 = .ok (.aload_n 0, 1) := by decide +kernel
theorem dX5_isBetter_12 : decode cX5_isBetter 12 = .ok (.getfield 30, 3) := by decide +kernel
theorem dX5_isBetter_15 : decode cX5_isBetter 15 = .ok (.iload_n 1, 1) := by decide +kernel
theorem dX5_isBetter_16 : decode cX5_isBetter 16 = .ok (.iaload, 1) := by decide +kernel
theorem dX5_isBetter_17 : decode cX5_isBetter 17 = .ok (.if_icmp .lt 44, 3) := by decide +kernel
theorem dX5_isBetter_20 : decode cX5_isBetter 20 = .ok (.iload_n 2, 1) := by decide +kernel
theorem dX5_isBetter_21 : decode cX5_isBetter 21 = .ok (.aload_n 0, 1) := by decide +kernel
theorem dX5_isBetter_22 : decode cX5_isBetter 22 = .ok (.getfield 30, 3) := by decide +kernel
theorem dX5_isBetter_25 : decode cX5_isBetter 25 = .ok (.iload_n 1, 1) := by decide +kernel
theorem dX5_isBetter_26 : decode cX5_isBetter 26 = .ok (.iaload, 1) := by decide +kernel
theorem dX5_isBetter_27 : decode cX5_isBetter 27 = .ok (.if_icmp .ne 38, 3) := by decide +kernel
theorem dX5_isBetter_30 : decode cX5_isBetter 30 = .ok (.iload_n 3, 1) := by decide +kernel
theorem dX5_isBetter_31 : decode cX5_isBetter 31 = .ok (.aload_n 0, 1) := by decide +kernel
theorem dX5_isBetter_32 : decode cX5_isBetter 32 = .ok (.getfield 33, 3) := by decide +kernel
theorem dX5_isBetter_35 : decode cX5_isBetter 35 = .ok (.iload_n 1, 1) := by decide +kernel
theorem dX5_isBetter_36 : decode cX5_isBetter 36 = .ok (.iaload, 1) := by decide +kernel
theorem dX5_isBetter_37 : decode cX5_isBetter 37 = .ok (.if_icmp .lt 24, 3) := by decide +kernel
theorem dX5_isBetter_40 : decode cX5_isBetter 40 = .ok (.iload_n 3, 1) := by decide +kernel
theorem dX5_isBetter_41 : decode cX5_isBetter 41 = .ok (.aload_n 0, 1) := by decide +kernel
theorem dX5_isBetter_42 : decode cX5_isBetter 42 = .ok (.getfield 33, 3) := by decide +kernel
theorem dX5_isBetter_45 : decode cX5_isBetter 45 = .ok (.iload_n 1, 1) := by decide +kernel
theorem dX5_isBetter_46 : decode cX5_isBetter 46 = .ok (.iaload, 1) := by decide +kernel
theorem dX5_isBetter_47 : decode cX5_isBetter 47 = .ok (.if_icmp .ne 18, 3) := by decide +kernel
theorem dX5_isBetter_50 : decode cX5_isBetter 50 = .ok (.iload 4, 2) := by decide +kernel
theorem dX5_isBetter_52 : decode cX5_isBetter 52 = .ok (.aload_n 0, 1) := by decide +kernel
theorem dX5_isBetter_53 : decode cX5_isBetter 53 = .ok (.getfield 36, 3) := by decide +kernel
theorem dX5_isBetter_56 : decode cX5_isBetter 56 = .ok (.iload_n 1, 1) := by decide +kernel
theorem dX5_isBetter_57 : decode cX5_isBetter 57 = .ok (.iaload, 1) := by decide +kernel
theorem dX5_isBetter_58 : decode cX5_isBetter 58 = .ok (.if_icmp .ge 7, 3) := by decide +kernel
theorem dX5_isBetter_61 : decode cX5_isBetter 61 = .ok (.iconst 1, 1) := by decide +kernel
theorem dX5_isBetter_62 : decode cX5_isBetter 62 = .ok (.goto 4, 3) := by decide +kernel
theorem dX5_isBetter_65 : decode cX5_isBetter 65 = .ok (.iconst 0, 1) := by decide +kernel
theorem dX5_isBetter_66 : decode cX5_isBetter 66 = .ok (.ireturn, 1) := by decide +kernel
set_option maxRecDepth 20000 in
theorem ggX5_reach_X5_isBetter : GoodIn wsX5_reach wsX5_isBetter := goodIn_r _ [9, 1, 2, 3, 10, 11, 12, 13, 14, 15, 16, 17, 18, 19, 20, 21, 22, 23, 24, 25] (by decide +kernel) (by decide +kernel)
set_option maxRecDepth 20000 in
theorem gX5_reach_X5_isBetter : GoodIn wsX5_reach (wsV RX5 124 RX5 yX5_isBetter wsX5_isBetter) := goodIn_app (goodIn_of _ (by decide +kernel)) ggX5_reach_X5_isBetter
theorem dX5_reach_0 : decode cX5_reach 0 = .ok (.aload_n 0, 1) := by decide +kernel
theorem dX5_reach_1 : decode cX5_reach 1 = .ok (.iload_n 1, 1) := by decide +kernel
theorem dX5_reach_2 : decode cX5_reach 2 = .ok (.iload_n 2, 1) := by decide +kernel
theorem dX5_reach_3 : decode cX5_reach 3 = .ok (.iload_n 3, 1) := by decide +kernel
theorem dX5_reach_4 : decode cX5_reach 4 = .ok (.iload 4, 2) := by decide +kernel
theorem dX5_reach_6 : decode cX5_reach 6 = .ok (.invokevirtual 124, 3) := by decide +kernel
theorem dX5_reach_9 : decode cX5_reach 9 = .ok (.ifCond .ne 4, 3) := by decide +kernel
theorem dX5_reach_12 : decode cX5_reach 12 = .ok (.return_, 1) := by decide +kernel
theorem dX5_reach_13 : decode cX5_reach 13 = .ok (.aload_n 0, 1) := by decide +kernel
theorem dX5_reach_14 : decode cX5_reach 14 = .ok (.getfield 30, 3) := by decide +kernel
theorem dX5_reach_17 : decode cX5_reach 17 = .ok (.iload_n 1, 1) := by decide +kernel
theorem dX5_reach_18 : decode cX5_reach 18 = .ok (.iload_n 2, 1) := by decide +kernel
theorem dX5_reach_19 : decode cX5_reach 19 = .ok (.iastore, 1) := by decide +kernel
theorem dX5_reach_20 : decode cX5_reach 20 = .ok (.aload_n 0, 1) := by decide +kernel
theorem dX5_reach_21 : decode cX5_reach 21 = .ok (.getfield 33, 3) := by decide +kernel
theorem dX5_reach_24 : decode cX5_reach 24 = .ok (.iload_n 1, 1) := by decide +kernel
theorem dX5_reach_25 : decode cX5_reach 25 = .ok (.iload_n 3, 1) := by decide +kernel
theorem dX5_reach_26 : decode cX5_reach 26 = .ok (.iastore, 1) := by decide +kernel
theorem dX5_reach_27 : decode cX5_reach 27 = .ok (.aload_n 0, 1) := by decide +kernel
theorem dX5_reach_28 : decode cX5_reach 28 = .ok (.getfield 36, 3) := by decide +kernel
theorem dX5_reach_31 : decode cX5_reach 31 = .ok (.iload_n 1, 1) := by decide +kernel
theorem dX5_reach_32 : decode cX5_reach 32 = .ok (.iload 4, 2) := by decide +kernel
theorem dX5_reach_34 : decode cX5_reach 34 = .ok (.iastore, 1) := by decide +kernel
theorem dX5_reach_35 : decode cX5_reach 35 = .ok (.aload_n 0, 1) := by decide +kernel
theorem dX5_reach_36 : decode cX5_reach 36 = .ok (.getfield 39, 3) := by decide +kernel
theorem dX5_reach_39 : decode cX5_reach 39 = .ok (.iload_n 1, 1) := by decide +kernel
theorem dX5_reach_40 : decode cX5_reach 40 = .ok (.iload 5, 2) := by decide +kernel
theorem dX5_reach_42 : decode cX5_reach 42 = .ok (.iastore, 1) := by decide +kernel
theorem dX5_reach_43 : decode cX5_reach 43 = .ok (.return_, 1) := by decide +kernel
set_option maxRecDepth 20000 in
theorem ggX5_nearest_X5_isBetter : GoodIn wsX5_nearest wsX5_isBetter := goodIn_r _ [9, 2, 3, 4, 10, 11, 12, 13, 14, 15, 16, 17, 18, 19, 20, 21, 22, 23, 24, 25] (by decide +kernel) (by decide +kernel)
set_option maxRecDepth 20000 in
theorem gX5_nearest_X5_isBetter : GoodIn wsX5_nearest (wsV RX5 124 RX5 yX5_isBetter wsX5_isBetter) := goodIn_app (goodIn_of _ (by decide +kernel)) ggX5_nearest_X5_isBetter
theorem dX5_nearest_0 : decode cX5_nearest 0 = .ok (.iconst (-1), 1) := by decide +kernel
theorem dX5_nearest_1 : decode cX5_nearest 1 = .ok (.istore_n 2, 1) := by decide +kernel
theorem dX5_nearest_2 : decode cX5_nearest 2 = .ok (.iconst 0, 1) := by decide +kernel
theorem dX5_nearest_3 : decode cX5_nearest 3 = .ok (.istore_n 3, 1) := by decide +kernel
theorem dX5_nearest_4 : decode cX5_nearest 4 = .ok (.iload_n 3, 1) := by decide +kernel
theorem dX5_nearest_5 : decode cX5_nearest 5 = .ok (.aload_n 0, 1) := by decide +kernel
theorem dX5_nearest_6 : decode cX5_nearest 6 = .ok (.getfield 52, 3) := by decide +kernel
theorem dX5_nearest_9 : decode cX5_nearest 9 = .ok (.if_icmp .ge 58, 3) := by decide +kernel
theorem dX5_nearest_12 : decode cX5_nearest 12 = .ok (.aload_n 1, 1) := by decide +kernel
theorem dX5_nearest_13 : decode cX5_nearest 13 = .ok (.iload_n 3, 1) := by decide +kernel
theorem dX5_nearest_14 : decode cX5_nearest 14 = .ok (.baload, 1) := by decide +kernel
theorem dX5_nearest_15 : decode cX5_nearest 15 = .ok (.ifCond .ne 46, 3) := by decide +kernel
theorem dX5_nearest_18 : decode cX5_nearest 18 = .ok (.aload_n 0, 1) := by decide +kernel
theorem dX5_nearest_19 : decode cX5_nearest 19 = .ok (.getfield 30, 3) := by decide +kernel
theorem dX5_nearest_22 : decode cX5_nearest 22 = .ok (.iload_n 3, 1) := by decide +kernel
theorem dX5_nearest_23 : decode cX5_nearest 23 = .ok (.iaload, 1) := by decide +kernel
theorem dX5_nearest_24 : decode cX5_nearest 24 = .ok (.iconst (-1), 1) := by decide +kernel
theorem dX5_nearest_25 : decode cX5_nearest 25 = .ok (.if_icmp .eq 36, 3) := by decide +kernel
theorem dX5_nearest_28 : decode cX5_nearest 28 = .ok (.iload_n 2, 1) := by decide +kernel
theorem dX5_nearest_29 : decode cX5_nearest 29 = .ok (.iconst (-1), 1) := by decide +kernel
theorem dX5_nearest_30 : decode cX5_nearest 30 = .ok (.if_icmp .eq 29, 3) := by decide +kernel
theorem dX5_nearest_33 : decode cX5_nearest 33 = .ok (.aload_n 0, 1) := by decide +kernel
theorem dX5_nearest_34 : decode cX5_nearest 34 = .ok (.iload_n 3, 1) := by decide +kernel
theorem dX5_nearest_35 : decode cX5_nearest 35 = .ok (.aload_n 0, 1) := by decide +kernel
theorem dX5_nearest_36 : decode cX5_nearest 36 = .ok (.getfield 30, 3) := by decide +kernel
theorem dX5_nearest_39 : decode cX5_nearest 39 = .ok (.iload_n 2, 1) := by decide +kernel
theorem dX5_nearest_40 : decode cX5_nearest 40 = .ok (.iaload, 1) := by decide +kernel
theorem dX5_nearest_41 : decode cX5_nearest 41 = .ok (.aload_n 0, 1) := by decide +kernel
theorem dX5_nearest_42 : decode cX5_nearest 42 = .ok (.getfield 33, 3) := by decide +kernel
theorem dX5_nearest_45 : decode cX5_nearest 45 = .ok (.iload_n 2, 1) := by decide +kernel
theorem dX5_nearest_46 : decode cX5_nearest 46 = .ok (.iaload, 1) := by decide +kernel
theorem dX5_nearest_47 : decode cX5_nearest 47 = .ok (.aload_n 0, 1) := by decide +kernel
theorem dX5_nearest_48 : decode cX5_nearest 48 = .ok (.getfield 36, 3) := by decide +kernel
theorem dX5_nearest_51 : decode cX5_nearest 51 = .ok (.iload_n 2, 1) := by decide +kernel
theorem dX5_nearest_52 : decode cX5_nearest 52 = .ok (.iaload, 1) := by decide +kernel
theorem dX5_nearest_53 : decode cX5_nearest 53 = .ok (.invokevirtual 124, 3) := by decide +kernel
theorem dX5_nearest_56 : decode cX5_nearest 56 = .ok (.ifCond .ne 5, 3) := by decide +kernel
theorem dX5_nearest_59 : decode cX5_nearest 59 = .ok (.iload_n 3, 1) := by decide +kernel
theorem dX5_nearest_60 : decode cX5_nearest 60 = .ok (.istore_n 2, 1) := by decide +kernel
theorem dX5_nearest_61 : decode cX5_nearest 61 = .ok (.iinc 3 1, 3) := by decide +kernel
theorem dX5_nearest_64 : decode cX5_nearest 64 = .ok (.goto (-60), 3) := by decide +kernel
theorem dX5_nearest_67 : decode cX5_nearest 67 = .ok (.iload_n 2, 1) := by decide +kernel
theorem dX5_nearest_68 : decode cX5_nearest 68 = .ok (.ireturn, 1) := by decide +kernel
set_option maxRecDepth 20000 in
theorem ggX5_look_X5_reach : GoodIn wsX5_look wsX5_reach := goodIn_r _ [11, 2, 4, 5, 6, 12, 13, 14, 10, 15, 20, 21, 22, 23, 24, 25, 26, 27, 28, 29, 30, 31, 32, 33, 34, 35] (by decide +kernel) (by decide +kernel)
set_option maxRecDepth 20000 in
theorem gX5_look_X5_reach : GoodIn wsX5_look (wsV RX5 128 RX5 yX5_reach wsX5_reach) := goodIn_app (goodIn_of _ (by decide +kernel)) ggX5_look_X5_reach
set_option maxRecDepth 20000 in
theorem ggX5_look_X5_nearest : GoodIn wsX5_look wsX5_nearest := goodIn_r _ [19, 3, 2, 4, 5, 12, 13, 14, 10, 15, 20, 21, 22, 23, 24, 25, 26, 27, 28, 29, 30, 31, 32, 33, 34, 35] (by decide +kernel) (by decide +kernel)
set_option maxRecDepth 20000 in
theorem gX5_look_X5_nearest : GoodIn wsX5_look (wsV RX5 132 RX5 yX5_nearest wsX5_nearest) := goodIn_app (goodIn_of _ (by decide +kernel)) ggX5_look_X5_nearest
theorem dX5_look_0 : decode cX5_look 0 = .ok (.bipush 10, 2) := by decide +kernel
theorem dX5_look_2 : decode cX5_look 2 = .ok (.newarray .boolean, 2) := by decide +kernel
theorem dX5_look_4 : decode cX5_look 4 = .ok (.astore_n 3, 1) := by decide +kernel
theorem dX5_look_5 : decode cX5_look 5 = .ok (.iconst 0, 1) := by decide +kernel
theorem dX5_look_6 : decode cX5_look 6 = .ok (.istore 4, 2) := by decide +kernel
theorem dX5_look_8 : decode cX5_look 8 = .ok (.iload 4, 2) := by decide +kernel
theorem dX5_look_10 : decode cX5_look 10 = .ok (.bipush 10, 2) := by decide +kernel
theorem dX5_look_12 : decode cX5_look 12 = .ok (.if_icmp .ge 17, 3) := by decide +kernel
theorem dX5_look_15 : decode cX5_look 15 = .ok (.aload_n 0, 1) := by decide +kernel
theorem dX5_look_16 : decode cX5_look 16 = .ok (.getfield 30, 3) := by decide +kernel
theorem dX5_look_19 : decode cX5_look 19 = .ok (.iload 4, 2) := by decide +kernel
theorem dX5_look_21 : decode cX5_look 21 = .ok (.iconst (-1), 1) := by decide +kernel
theorem dX5_look_22 : decode cX5_look 22 = .ok (.iastore, 1) := by decide +kernel
theorem dX5_look_23 : decode cX5_look 23 = .ok (.iinc 4 1, 3) := by decide +kernel
theorem dX5_look_26 : decode cX5_look 26 = .ok (.goto (-18), 3) := by decide +kernel
theorem dX5_look_29 : decode cX5_look 29 = .ok (.aload_n 0, 1) := by decide +kernel
theorem dX5_look_30 : decode cX5_look 30 = .ok (.iload_n 1, 1) := by decide +kernel
theorem dX5_look_31 : decode cX5_look 31 = .ok (.iconst 0, 1) := by decide +kernel
theorem dX5_look_32 : decode cX5_look 32 = .ok (.iconst 0, 1) := by decide +kernel
theorem dX5_look_33 : decode cX5_look 33 = .ok (.iconst 0, 1) := by decide +kernel
theorem dX5_look_34 : decode cX5_look 34 = .ok (.iload_n 1, 1) := by decide +kernel
theorem dX5_look_35 : decode cX5_look 35 = .ok (.invokevirtual 128, 3) := by decide +kernel
theorem dX5_look_38 : decode cX5_look 38 = .ok (.iload_n 1, 1) := by decide +kernel
theorem dX5_look_39 : decode cX5_look 39 = .ok (.istore 4, 2) := by decide +kernel
theorem dX5_look_41 : decode cX5_look 41 = .ok (.iload 4, 2) := by decide +kernel
theorem dX5_look_43 : decode cX5_look 43 = .ok (.iconst (-1), 1) := by decide +kernel
theorem dX5_look_44 : decode cX5_look 44 = .ok (.if_icmp .eq 116, 3) := by decide +kernel
theorem dX5_look_47 : decode cX5_look 47 = .ok (.aload_n 3, 1) := by decide +kernel
theorem dX5_look_48 : decode cX5_look 48 = .ok (.iload 4, 2) := by decide +kernel
theorem dX5_look_50 : decode cX5_look 50 = .ok (.iconst 1, 1) := by decide +kernel
theorem dX5_look_51 : decode cX5_look 51 = .ok (.bastore, 1) := by decide +kernel
theorem dX5_look_52 : decode cX5_look 52 = .ok (.iconst 0, 1) := by decide +kernel
theorem dX5_look_53 : decode cX5_look 53 = .ok (.istore 5, 2) := by decide +kernel
theorem dX5_look_55 : decode cX5_look 55 = .ok (.iload 5, 2) := by decide +kernel
theorem dX5_look_57 : decode cX5_look 57 = .ok (.aload_n 0, 1) := by decide +kernel
theorem dX5_look_58 : decode cX5_look 58 = .ok (.getfield 52, 3) := by decide +kernel
theorem dX5_look_61 : decode cX5_look 61 = .ok (.if_icmp .ge 89, 3) := by decide +kernel
theorem dX5_look_64 : decode cX5_look 64 = .ok (.aload_n 2, 1) := by decide +kernel
theorem dX5_look_65 : decode cX5_look 65 = .ok (.bipush 10, 2) := by decide +kernel
theorem dX5_look_67 : decode cX5_look 67 = .ok (.iload 4, 2) := by decide +kernel
theorem dX5_look_69 : decode cX5_look 69 = .ok (.imul, 1) := by decide +kernel
theorem dX5_look_70 : decode cX5_look 70 = .ok (.iload 5, 2) := by decide +kernel
theorem dX5_look_72 : decode cX5_look 72 = .ok (.iadd, 1) := by decide +kernel
theorem dX5_look_73 : decode cX5_look 73 = .ok (.iaload, 1) := by decide +kernel
theorem dX5_look_74 : decode cX5_look 74 = .ok (.istore 6, 2) := by decide +kernel
theorem dX5_look_76 : decode cX5_look 76 = .ok (.iload 6, 2) := by decide +kernel
theorem dX5_look_78 : decode cX5_look 78 = .ok (.ifCond .le 66, 3) := by decide +kernel
theorem dX5_look_81 : decode cX5_look 81 = .ok (.aload_n 3, 1) := by decide +kernel
theorem dX5_look_82 : decode cX5_look 82 = .ok (.iload 5, 2) := by decide +kernel
theorem dX5_look_84 : decode cX5_look 84 = .ok (.baload, 1) := by decide +kernel
theorem dX5_look_85 : decode cX5_look 85 = .ok (.ifCond .ne 59, 3) := by decide +kernel
theorem dX5_look_88 : decode cX5_look 88 = .ok (.aload_n 0, 1) := by decide +kernel
theorem dX5_look_89 : decode cX5_look 89 = .ok (.iload 5, 2) := by decide +kernel
theorem dX5_look_91 : decode cX5_look 91 = .ok (.aload_n 0, 1) := by decide +kernel
theorem dX5_look_92 : decode cX5_look 92 = .ok (.getfield 30, 3) := by decide +kernel
theorem dX5_look_95 : decode cX5_look 95 = .ok (.iload 4, 2) := by decide +kernel
theorem dX5_look_97 : decode cX5_look 97 = .ok (.iaload, 1) := by decide +kernel
theorem dX5_look_98 : decode cX5_look 98 = .ok (.iload 6, 2) := by decide +kernel
theorem dX5_look_100 : decode cX5_look 100 = .ok (.iadd, 1) := by decide +kernel
theorem dX5_look_101 : decode cX5_look 101 = .ok (.aload_n 0, 1) := by decide +kernel
theorem dX5_look_102 : decode cX5_look 102 = .ok (.getfield 33, 3) := by decide +kernel
theorem dX5_look_105 : decode cX5_look 105 = .ok (.iload 4, 2) := by decide +kernel
theorem dX5_look_107 : decode cX5_look 107 = .ok (.iaload, 1) := by decide +kernel
theorem dX5_look_108 : decode cX5_look 108 = .ok (.iconst 1, 1) := by decide +kernel
theorem dX5_look_109 : decode cX5_look 109 = .ok (.iadd, 1) := by decide +kernel
theorem dX5_look_110 : decode cX5_look 110 = .ok (.bipush 10, 2) := by decide +kernel
theorem dX5_look_112 : decode cX5_look 112 = .ok (.aload_n 0, 1) := by decide +kernel
theorem dX5_look_113 : decode cX5_look 113 = .ok (.getfield 36, 3) := by decide +kernel
theorem dX5_look_116 : decode cX5_look 116 = .ok (.iload 4, 2) := by decide +kernel
theorem dX5_look_118 : decode cX5_look 118 = .ok (.iaload, 1) := by decide +kernel
theorem dX5_look_119 : decode cX5_look 119 = .ok (.imul, 1) := by decide +kernel
theorem dX5_look_120 : decode cX5_look 120 = .ok (.iload 5, 2) := by decide +kernel
theorem dX5_look_122 : decode cX5_look 122 = .ok (.iadd, 1) := by decide +kernel
theorem dX5_look_123 : decode cX5_look 123 = .ok (.iload 4, 2) := by decide +kernel
theorem dX5_look_125 : decode cX5_look 125 = .ok (.iload_n 1, 1) := by decide +kernel
theorem dX5_look_126 : decode cX5_look 126 = .ok (.if_icmp .ne 8, 3) := by decide +kernel
theorem dX5_look_129 : decode cX5_look 129 = .ok (.iload 5, 2) := by decide +kernel
theorem dX5_look_131 : decode cX5_look 131 = .ok (.goto 10, 3) := by decide +kernel
theorem dX5_look_134 : decode cX5_look 134 = .ok (.aload_n 0, 1) := by decide +kernel
theorem dX5_look_135 : decode cX5_look 135 = .ok (.getfield 39, 3) := by decide +kernel
theorem dX5_look_138 : decode cX5_look 138 = .ok (.iload 4, 2) := by decide +kernel
theorem dX5_look_140 : decode cX5_look 140 = .ok (.iaload, 1) := by decide +kernel
theorem dX5_look_141 : decode cX5_look 141 = .ok (.invokevirtual 128, 3) := by decide +kernel
theorem dX5_look_144 : decode cX5_look 144 = .ok (.iinc 5 1, 3) := by decide +kernel
theorem dX5_look_147 : decode cX5_look 147 = .ok (.goto (-92), 3) := by decide +kernel
theorem dX5_look_150 : decode cX5_look 150 = .ok (.aload_n 0, 1) := by decide +kernel
theorem dX5_look_151 : decode cX5_look 151 = .ok (.aload_n 3, 1) := by decide +kernel
theorem dX5_look_152 : decode cX5_look 152 = .ok (.invokevirtual 132, 3) := by decide +kernel
theorem dX5_look_155 : decode cX5_look 155 = .ok (.istore 4, 2) := by decide +kernel
theorem dX5_look_157 : decode cX5_look 157 = .ok (.goto (-116), 3) := by decide +kernel
theorem dX5_look_160 : decode cX5_look 160 = .ok (.return_, 1) := by decide +kernel
set_option maxRecDepth 20000 in
theorem ggX5_lookBy_X5_lengthsFor : GoodIn wsX5_lookBy wsX5_lengthsFor := goodIn_r _ [5, 6, 7, 8, 9, 10, 11, 12, 4, 13, 14, 15, 16, 17, 18, 19, 20, 21, 22, 23, 24, 25, 26, 27, 28, 29, 30, 31, 32, 55, 56, 57, 58, 59, 60, 61, 62, 63, 64, 65, 66, 67, 68, 69, 70] (by decide +kernel) (by decide +kernel)
set_option maxRecDepth 20000 in
theorem gX5_lookBy_X5_lengthsFor : GoodIn wsX5_lookBy (wsV RX5 136 RX5 yX5_lengthsFor wsX5_lengthsFor) := goodIn_app (goodIn_of _ (by decide +kernel)) ggX5_lookBy_X5_lengthsFor
set_option maxRecDepth 20000 in
theorem ggX5_lookBy_X5_look : GoodIn wsX5_lookBy wsX5_look := goodIn_r _ [36, 37, 38, 39, 40, 41, 42, 43, 44, 45, 4, 46, 47, 48, 49, 50, 51, 52, 53, 54, 55, 56, 57, 58, 59, 60, 61, 62, 63, 64, 65, 66, 67, 68, 69, 70] (by decide +kernel) (by decide +kernel)
set_option maxRecDepth 20000 in
theorem gX5_lookBy_X5_look : GoodIn wsX5_lookBy (wsV RX5 139 RX5 yX5_look wsX5_look) := goodIn_app (goodIn_of _ (by decide +kernel)) ggX5_lookBy_X5_look
theorem dX5_lookBy_0 : decode cX5_lookBy 0 = .ok (.aload_n 0, 1) := by decide +kernel
theorem dX5_lookBy_1 : decode cX5_lookBy 1 = .ok (.iload_n 1, 1) := by decide +kernel
theorem dX5_lookBy_2 : decode cX5_lookBy 2 = .ok (.aload_n 0, 1) := by decide +kernel
theorem dX5_lookBy_3 : decode cX5_lookBy 3 = .ok (.iload_n 1, 1) := by decide +kernel
theorem dX5_lookBy_4 : decode cX5_lookBy 4 = .ok (.invokevirtual 136, 3) := by decide +kernel
theorem dX5_lookBy_7 : decode cX5_lookBy 7 = .ok (.invokevirtual 139, 3) := by decide +kernel
theorem dX5_lookBy_10 : decode cX5_lookBy 10 = .ok (.return_, 1) := by decide +kernel
set_option maxRecDepth 20000 in
theorem ggX5_lookAll_X5_lookBy : GoodIn wsX5_lookAll wsX5_lookBy := goodIn_r _ [9, 10, 11, 12, 8, 13, 14, 15, 16, 17, 18, 19, 20, 21, 22, 23, 24, 25, 26, 27, 28, 29, 30, 31, 32, 33, 34, 35, 36, 37, 38, 39, 40, 41, 42, 43, 44, 45, 3, 1, 46, 47, 4, 48, 49, 50, 51, 52, 53, 54, 55, 56, 57, 58, 59, 60, 61, 62, 63, 64, 65, 66, 67, 68, 69, 70, 71, 72, 73, 74, 75] (by decide +kernel) (by decide +kernel)
set_option maxRecDepth 20000 in
theorem gX5_lookAll_X5_lookBy : GoodIn wsX5_lookAll (wsV RX5 143 RX5 yX5_lookBy wsX5_lookBy) := goodIn_app (goodIn_of _ (by decide +kernel)) ggX5_lookAll_X5_lookBy
theorem dX5_lookAll_0 : decode cX5_lookAll 0 = .ok (.iconst 0, 1) := by decide +kernel
theorem dX5_lookAll_1 : decode cX5_lookAll 1 = .ok (.istore_n 1, 1) := by decide +kernel
theorem dX5_lookAll_2 : decode cX5_lookAll 2 = .ok (.iload_n 1, 1) := by decide +kernel
theorem dX5_lookAll_3 : decode cX5_lookAll 3 = .ok (.aload_n 0, 1) := by decide +kernel
theorem dX5_lookAll_4 : decode cX5_lookAll 4 = .ok (.getfield 52, 3) := by decide +kernel
theorem dX5_lookAll_7 : decode cX5_lookAll 7 = .ok (.if_icmp .ge 61, 3) := by decide +kernel
theorem dX5_lookAll_10 : decode cX5_lookAll 10 = .ok (.aload_n 0, 1) := by decide +kernel
theorem dX5_lookAll_11 : decode cX5_lookAll 11 = .ok (.iload_n 1, 1) := by decide +kernel
theorem dX5_lookAll_12 : decode cX5_lookAll 12 = .ok (.invokevirtual 143, 3) := by decide +kernel
theorem dX5_lookAll_15 : decode cX5_lookAll 15 = .ok (.iconst 0, 1) := by decide +kernel
theorem dX5_lookAll_16 : decode cX5_lookAll 16 = .ok (.istore_n 2, 1) := by decide +kernel
theorem dX5_lookAll_17 : decode cX5_lookAll 17 = .ok (.iload_n 2, 1) := by decide +kernel
theorem dX5_lookAll_18 : decode cX5_lookAll 18 = .ok (.aload_n 0, 1) := by decide +kernel
theorem dX5_lookAll_19 : decode cX5_lookAll 19 = .ok (.getfield 52, 3) := by decide +kernel
theorem dX5_lookAll_22 : decode cX5_lookAll 22 = .ok (.if_icmp .ge 40, 3) := by decide +kernel
theorem dX5_lookAll_25 : decode cX5_lookAll 25 = .ok (.aload_n 0, 1) := by decide +kernel
theorem dX5_lookAll_26 : decode cX5_lookAll 26 = .ok (.getfield 42, 3) := by decide +kernel
theorem dX5_lookAll_29 : decode cX5_lookAll 29 = .ok (.bipush 10, 2) := by decide +kernel
theorem dX5_lookAll_31 : decode cX5_lookAll 31 = .ok (.iload_n 1, 1) := by decide +kernel
theorem dX5_lookAll_32 : decode cX5_lookAll 32 = .ok (.imul, 1) := by decide +kernel
theorem dX5_lookAll_33 : decode cX5_lookAll 33 = .ok (.iload_n 2, 1) := by decide +kernel
theorem dX5_lookAll_34 : decode cX5_lookAll 34 = .ok (.iadd, 1) := by decide +kernel
theorem dX5_lookAll_35 : decode cX5_lookAll 35 = .ok (.aload_n 0, 1) := by decide +kernel
theorem dX5_lookAll_36 : decode cX5_lookAll 36 = .ok (.getfield 30, 3) := by decide +kernel
theorem dX5_lookAll_39 : decode cX5_lookAll 39 = .ok (.iload_n 2, 1) := by decide +kernel
theorem dX5_lookAll_40 : decode cX5_lookAll 40 = .ok (.iaload, 1) := by decide +kernel
theorem dX5_lookAll_41 : decode cX5_lookAll 41 = .ok (.iconst (-1), 1) := by decide +kernel
theorem dX5_lookAll_42 : decode cX5_lookAll 42 = .ok (.if_icmp .ne 7, 3) := by decide +kernel
theorem dX5_lookAll_45 : decode cX5_lookAll 45 = .ok (.iconst (-1), 1) := by decide +kernel
theorem dX5_lookAll_46 : decode cX5_lookAll 46 = .ok (.goto 9, 3) := by decide +kernel
theorem dX5_lookAll_49 : decode cX5_lookAll 49 = .ok (.aload_n 0, 1) := by decide +kernel
theorem dX5_lookAll_50 : decode cX5_lookAll 50 = .ok (.getfield 39, 3) := by decide +kernel
theorem dX5_lookAll_53 : decode cX5_lookAll 53 = .ok (.iload_n 2, 1) := by decide +kernel
theorem dX5_lookAll_54 : decode cX5_lookAll 54 = .ok (.iaload, 1) := by decide +kernel
theorem dX5_lookAll_55 : decode cX5_lookAll 55 = .ok (.iastore, 1) := by decide +kernel
theorem dX5_lookAll_56 : decode cX5_lookAll 56 = .ok (.iinc 2 1, 3) := by decide +kernel
theorem dX5_lookAll_59 : decode cX5_lookAll 59 = .ok (.goto (-42), 3) := by decide +kernel
theorem dX5_lookAll_62 : decode cX5_lookAll 62 = .ok (.iinc 1 1, 3) := by decide +kernel
theorem dX5_lookAll_65 : decode cX5_lookAll 65 = .ok (.goto (-63), 3) := by decide +kernel
theorem dX5_lookAll_68 : decode cX5_lookAll 68 = .ok (.return_, 1) := by decide +kernel
set_option maxRecDepth 20000 in
theorem ggX5_isOpenBetween_X5_has : GoodIn wsX5_isOpenBetween wsX5_has := goodIn_r _ [6] (by decide +kernel) (by decide +kernel)
set_option maxRecDepth 20000 in
theorem gX5_isOpenBetween_X5_has : GoodIn wsX5_isOpenBetween (va_wsS RX5 76 yX5_has wsX5_has) := goodIn_app (goodIn_of _ (by decide +kernel)) ggX5_isOpenBetween_X5_has
set_option maxRecDepth 20000 in
theorem ggX5_isOpenBetween_X5_isAt : GoodIn wsX5_isOpenBetween wsX5_isAt := goodIn_r _ [10, 11, 12, 13, 14, 15, 16, 17, 18, 19, 20, 21, 22, 23, 24, 25, 26, 27, 28] (by decide +kernel) (by decide +kernel)
set_option maxRecDepth 20000 in
theorem gX5_isOpenBetween_X5_isAt : GoodIn wsX5_isOpenBetween (wsV RX5 69 RX5 yX5_isAt wsX5_isAt) := goodIn_app (goodIn_of _ (by decide +kernel)) ggX5_isOpenBetween_X5_isAt
theorem dX5_isOpenBetween_0 : decode cX5_isOpenBetween 0 = .ok (.iconst 0, 1) := by decide +kernel
theorem dX5_isOpenBetween_1 : decode cX5_isOpenBetween 1 = .ok (.istore_n 3, 1) := by decide +kernel
theorem dX5_isOpenBetween_2 : decode cX5_isOpenBetween 2 = .ok (.iload_n 3, 1) := by decide +kernel
theorem dX5_isOpenBetween_3 : decode cX5_isOpenBetween 3 = .ok (.aload_n 0, 1) := by decide +kernel
theorem dX5_isOpenBetween_4 : decode cX5_isOpenBetween 4 = .ok (.getfield 59, 3) := by decide +kernel
theorem dX5_isOpenBetween_7 : decode cX5_isOpenBetween 7 = .ok (.if_icmp .ge 40, 3) := by decide +kernel
theorem dX5_isOpenBetween_10 : decode cX5_isOpenBetween 10 = .ok (.aload_n 0, 1) := by decide +kernel
theorem dX5_isOpenBetween_11 : decode cX5_isOpenBetween 11 = .ok (.getfield 73, 3) := by decide +kernel
theorem dX5_isOpenBetween_14 : decode cX5_isOpenBetween 14 = .ok (.iload_n 3, 1) := by decide +kernel
theorem dX5_isOpenBetween_15 : decode cX5_isOpenBetween 15 = .ok (.invokestatic 76, 3) := by decide +kernel
theorem dX5_isOpenBetween_18 : decode cX5_isOpenBetween 18 = .ok (.ifCond .eq 23, 3) := by decide +kernel
theorem dX5_isOpenBetween_21 : decode cX5_isOpenBetween 21 = .ok (.aload_n 0, 1) := by decide +kernel
theorem dX5_isOpenBetween_22 : decode cX5_isOpenBetween 22 = .ok (.iload_n 3, 1) := by decide +kernel
theorem dX5_isOpenBetween_23 : decode cX5_isOpenBetween 23 = .ok (.iload_n 1, 1) := by decide +kernel
theorem dX5_isOpenBetween_24 : decode cX5_isOpenBetween 24 = .ok (.invokevirtual 69, 3) := by decide +kernel
theorem dX5_isOpenBetween_27 : decode cX5_isOpenBetween 27 = .ok (.ifCond .eq 14, 3) := by decide +kernel
theorem dX5_isOpenBetween_30 : decode cX5_isOpenBetween 30 = .ok (.aload_n 0, 1) := by decide +kernel
theorem dX5_isOpenBetween_31 : decode cX5_isOpenBetween 31 = .ok (.iload_n 3, 1) := by decide +kernel
theorem dX5_isOpenBetween_32 : decode cX5_isOpenBetween 32 = .ok (.iload_n 2, 1) := by decide +kernel
theorem dX5_isOpenBetween_33 : decode cX5_isOpenBetween 33 = .ok (.invokevirtual 69, 3) := by decide +kernel
theorem dX5_isOpenBetween_36 : decode cX5_isOpenBetween 36 = .ok (.ifCond .eq 5, 3) := by decide +kernel
theorem dX5_isOpenBetween_39 : decode cX5_isOpenBetween 39 = .ok (.iconst 1, 1) := by decide +kernel
theorem dX5_isOpenBetween_40 : decode cX5_isOpenBetween 40 = .ok (.ireturn, 1) := by decide +kernel
theorem dX5_isOpenBetween_41 : decode cX5_isOpenBetween 41 = .ok (.iinc 3 1, 3) := by decide +kernel
theorem dX5_isOpenBetween_44 : decode cX5_isOpenBetween 44 = .ok (.goto (-42), 3) := by decide +kernel
theorem dX5_isOpenBetween_47 : decode cX5_isOpenBetween 47 = .ok (.iconst 0, 1) := by decide +kernel
theorem dX5_isOpenBetween_48 : decode cX5_isOpenBetween 48 = .ok (.ireturn, 1) := by decide +kernel
set_option maxRecDepth 20000 in
theorem ggX5_letter_X5_isOpenBetween : GoodIn wsX5_letter wsX5_isOpenBetween := goodIn_r _ [6, 7, 8, 9, 10, 5, 11, 12, 13, 14, 15, 16, 17, 18, 19, 20, 21, 22, 23, 24, 25, 26, 27, 28, 29, 30, 31, 32, 33] (by decide +kernel) (by decide +kernel)
set_option maxRecDepth 20000 in
theorem gX5_letter_X5_isOpenBetween : GoodIn wsX5_letter (wsV RX5 146 RX5 yX5_isOpenBetween wsX5_isOpenBetween) := goodIn_app (goodIn_of _ (by decide +kernel)) ggX5_letter_X5_isOpenBetween
theorem dX5_letter_0 : decode cX5_letter 0 = .ok (.iload_n 1, 1) := by decide +kernel
theorem dX5_letter_1 : decode cX5_letter 1 = .ok (.istore_n 3, 1) := by decide +kernel
theorem dX5_letter_2 : decode cX5_letter 2 = .ok (.iconst 0, 1) := by decide +kernel
theorem dX5_letter_3 : decode cX5_letter 3 = .ok (.istore 4, 2) := by decide +kernel
theorem dX5_letter_5 : decode cX5_letter 5 = .ok (.iload_n 3, 1) := by decide +kernel
theorem dX5_letter_6 : decode cX5_letter 6 = .ok (.iload_n 2, 1) := by decide +kernel
theorem dX5_letter_7 : decode cX5_letter 7 = .ok (.if_icmp .eq 50, 3) := by decide +kernel
theorem dX5_letter_10 : decode cX5_letter 10 = .ok (.aload_n 0, 1) := by decide +kernel
theorem dX5_letter_11 : decode cX5_letter 11 = .ok (.getfield 42, 3) := by decide +kernel
theorem dX5_letter_14 : decode cX5_letter 14 = .ok (.bipush 10, 2) := by decide +kernel
theorem dX5_letter_16 : decode cX5_letter 16 = .ok (.iload_n 3, 1) := by decide +kernel
theorem dX5_letter_17 : decode cX5_letter 17 = .ok (.imul, 1) := by decide +kernel
theorem dX5_letter_18 : decode cX5_letter 18 = .ok (.iload_n 2, 1) := by decide +kernel
theorem dX5_letter_19 : decode cX5_letter 19 = .ok (.iadd, 1) := by decide +kernel
theorem dX5_letter_20 : decode cX5_letter 20 = .ok (.iaload, 1) := by decide +kernel
theorem dX5_letter_21 : decode cX5_letter 21 = .ok (.istore 5, 2) := by decide +kernel
theorem dX5_letter_23 : decode cX5_letter 23 = .ok (.iload 5, 2) := by decide +kernel
theorem dX5_letter_25 : decode cX5_letter 25 = .ok (.iconst (-1), 1) := by decide +kernel
theorem dX5_letter_26 : decode cX5_letter 26 = .ok (.if_icmp .eq 20, 3) := by decide +kernel
theorem dX5_letter_29 : decode cX5_letter 29 = .ok (.iload 4, 2) := by decide +kernel
theorem dX5_letter_31 : decode cX5_letter 31 = .ok (.bipush 20, 2) := by decide +kernel
theorem dX5_letter_33 : decode cX5_letter 33 = .ok (.if_icmp .eq 13, 3) := by decide +kernel
theorem dX5_letter_36 : decode cX5_letter 36 = .ok (.aload_n 0, 1) := by decide +kernel
theorem dX5_letter_37 : decode cX5_letter 37 = .ok (.iload_n 3, 1) := by decide +kernel
theorem dX5_letter_38 : decode cX5_letter 38 = .ok (.iload 5, 2) := by decide +kernel
theorem dX5_letter_40 : decode cX5_letter 40 = .ok (.invokevirtual 146, 3) := by decide +kernel
theorem dX5_letter_43 : decode cX5_letter 43 = .ok (.ifCond .ne 5, 3) := by decide +kernel
theorem dX5_letter_46 : decode cX5_letter 46 = .ok (.iconst (-1), 1) := by decide +kernel
theorem dX5_letter_47 : decode cX5_letter 47 = .ok (.ireturn, 1) := by decide +kernel
theorem dX5_letter_48 : decode cX5_letter 48 = .ok (.iload 5, 2) := by decide +kernel
theorem dX5_letter_50 : decode cX5_letter 50 = .ok (.istore_n 3, 1) := by decide +kernel
theorem dX5_letter_51 : decode cX5_letter 51 = .ok (.iinc 4 1, 3) := by decide +kernel
theorem dX5_letter_54 : decode cX5_letter 54 = .ok (.goto (-49), 3) := by decide +kernel
theorem dX5_letter_57 : decode cX5_letter 57 = .ok (.iload 4, 2) := by decide +kernel
theorem dX5_letter_59 : decode cX5_letter 59 = .ok (.ireturn, 1) := by decide +kernel
set_option maxRecDepth 20000 in
theorem ggX5_lengthsNow_X5_has : GoodIn wsX5_lengthsNow wsX5_has := goodIn_r _ [9] (by decide +kernel) (by decide +kernel)
set_option maxRecDepth 20000 in
theorem gX5_lengthsNow_X5_has : GoodIn wsX5_lengthsNow (va_wsS RX5 76 yX5_has wsX5_has) := goodIn_app (goodIn_of _ (by decide +kernel)) ggX5_lengthsNow_X5_has
set_option maxRecDepth 20000 in
theorem ggX5_lengthsNow_X5_shorten : GoodIn wsX5_lengthsNow wsX5_shorten := goodIn_r _ [12] (by decide +kernel) (by decide +kernel)
set_option maxRecDepth 20000 in
theorem gX5_lengthsNow_X5_shorten : GoodIn wsX5_lengthsNow (va_wsS RX5 120 yX5_shorten wsX5_shorten) := goodIn_app (goodIn_of _ (by decide +kernel)) ggX5_lengthsNow_X5_shorten
theorem dX5_lengthsNow_0 : decode cX5_lengthsNow 0 = .ok (.bipush 100, 2) := by decide +kernel
theorem dX5_lengthsNow_2 : decode cX5_lengthsNow 2 = .ok (.newarray .int, 2) := by decide +kernel
theorem dX5_lengthsNow_4 : decode cX5_lengthsNow 4 = .ok (.astore_n 2, 1) := by decide +kernel
theorem dX5_lengthsNow_5 : decode cX5_lengthsNow 5 = .ok (.iconst 0, 1) := by decide +kernel
theorem dX5_lengthsNow_6 : decode cX5_lengthsNow 6 = .ok (.istore_n 3, 1) := by decide +kernel
theorem dX5_lengthsNow_7 : decode cX5_lengthsNow 7 = .ok (.iload_n 3, 1) := by decide +kernel
theorem dX5_lengthsNow_8 : decode cX5_lengthsNow 8 = .ok (.aload_n 0, 1) := by decide +kernel
theorem dX5_lengthsNow_9 : decode cX5_lengthsNow 9 = .ok (.getfield 59, 3) := by decide +kernel
theorem dX5_lengthsNow_12 : decode cX5_lengthsNow 12 = .ok (.if_icmp .ge 64, 3) := by decide +kernel
theorem dX5_lengthsNow_15 : decode cX5_lengthsNow 15 = .ok (.iload_n 1, 1) := by decide +kernel
theorem dX5_lengthsNow_16 : decode cX5_lengthsNow 16 = .ok (.iload_n 3, 1) := by decide +kernel
theorem dX5_lengthsNow_17 : decode cX5_lengthsNow 17 = .ok (.invokestatic 76, 3) := by decide +kernel
theorem dX5_lengthsNow_20 : decode cX5_lengthsNow 20 = .ok (.ifCond .ne 6, 3) := by decide +kernel
theorem dX5_lengthsNow_23 : decode cX5_lengthsNow 23 = .ok (.goto 47, 3) := by decide +kernel
theorem dX5_lengthsNow_26 : decode cX5_lengthsNow 26 = .ok (.aload_n 2, 1) := by decide +kernel
theorem dX5_lengthsNow_27 : decode cX5_lengthsNow 27 = .ok (.aload_n 0, 1) := by decide +kernel
theorem dX5_lengthsNow_28 : decode cX5_lengthsNow 28 = .ok (.getfield 21, 3) := by decide +kernel
theorem dX5_lengthsNow_31 : decode cX5_lengthsNow 31 = .ok (.iload_n 3, 1) := by decide +kernel
theorem dX5_lengthsNow_32 : decode cX5_lengthsNow 32 = .ok (.iaload, 1) := by decide +kernel
theorem dX5_lengthsNow_33 : decode cX5_lengthsNow 33 = .ok (.aload_n 0, 1) := by decide +kernel
theorem dX5_lengthsNow_34 : decode cX5_lengthsNow 34 = .ok (.getfield 24, 3) := by decide +kernel
theorem dX5_lengthsNow_37 : decode cX5_lengthsNow 37 = .ok (.iload_n 3, 1) := by decide +kernel
theorem dX5_lengthsNow_38 : decode cX5_lengthsNow 38 = .ok (.iaload, 1) := by decide +kernel
theorem dX5_lengthsNow_39 : decode cX5_lengthsNow 39 = .ok (.aload_n 0, 1) := by decide +kernel
theorem dX5_lengthsNow_40 : decode cX5_lengthsNow 40 = .ok (.getfield 27, 3) := by decide +kernel
theorem dX5_lengthsNow_43 : decode cX5_lengthsNow 43 = .ok (.iload_n 3, 1) := by decide +kernel
theorem dX5_lengthsNow_44 : decode cX5_lengthsNow 44 = .ok (.iaload, 1) := by decide +kernel
theorem dX5_lengthsNow_45 : decode cX5_lengthsNow 45 = .ok (.invokestatic 120, 3) := by decide +kernel
theorem dX5_lengthsNow_48 : decode cX5_lengthsNow 48 = .ok (.aload_n 2, 1) := by decide +kernel
theorem dX5_lengthsNow_49 : decode cX5_lengthsNow 49 = .ok (.aload_n 0, 1) := by decide +kernel
theorem dX5_lengthsNow_50 : decode cX5_lengthsNow 50 = .ok (.getfield 24, 3) := by decide +kernel
theorem dX5_lengthsNow_53 : decode cX5_lengthsNow 53 = .ok (.iload_n 3, 1) := by decide +kernel
theorem dX5_lengthsNow_54 : decode cX5_lengthsNow 54 = .ok (.iaload, 1) := by decide +kernel
theorem dX5_lengthsNow_55 : decode cX5_lengthsNow 55 = .ok (.aload_n 0, 1) := by decide +kernel
theorem dX5_lengthsNow_56 : decode cX5_lengthsNow 56 = .ok (.getfield 21, 3) := by decide +kernel
theorem dX5_lengthsNow_59 : decode cX5_lengthsNow 59 = .ok (.iload_n 3, 1) := by decide +kernel
theorem dX5_lengthsNow_60 : decode cX5_lengthsNow 60 = .ok (.iaload, 1) := by decide +kernel
theorem dX5_lengthsNow_61 : decode cX5_lengthsNow 61 = .ok (.aload_n 0, 1) := by decide +kernel
theorem dX5_lengthsNow_62 : decode cX5_lengthsNow 62 = .ok (.getfield 27, 3) := by decide +kernel
theorem dX5_lengthsNow_65 : decode cX5_lengthsNow 65 = .ok (.iload_n 3, 1) := by decide +kernel
theorem dX5_lengthsNow_66 : decode cX5_lengthsNow 66 = .ok (.iaload, 1) := by decide +kernel
theorem dX5_lengthsNow_67 : decode cX5_lengthsNow 67 = .ok (.invokestatic 120, 3) := by decide +kernel
theorem dX5_lengthsNow_70 : decode cX5_lengthsNow 70 = .ok (.iinc 3 1, 3) := by decide +kernel
theorem dX5_lengthsNow_73 : decode cX5_lengthsNow 73 = .ok (.goto (-66), 3) := by decide +kernel
theorem dX5_lengthsNow_76 : decode cX5_lengthsNow 76 = .ok (.aload_n 2, 1) := by decide +kernel
theorem dX5_lengthsNow_77 : decode cX5_lengthsNow 77 = .ok (.areturn, 1) := by decide +kernel
set_option maxRecDepth 20000 in
theorem ggX5_pairsOver_X5_lengthsNow : GoodIn wsX5_pairsOver wsX5_lengthsNow := goodIn_r _ [7, 8, 9, 10, 11, 12, 13, 14, 6, 15, 16, 17, 18, 39, 40, 41, 42, 43, 44, 45, 46, 47, 48, 49, 50, 51, 52, 53, 54] (by decide +kernel) (by decide +kernel)
set_option maxRecDepth 20000 in
theorem gX5_pairsOver_X5_lengthsNow : GoodIn wsX5_pairsOver (wsV RX5 149 RX5 yX5_lengthsNow wsX5_lengthsNow) := goodIn_app (goodIn_of _ (by decide +kernel)) ggX5_pairsOver_X5_lengthsNow
set_option maxRecDepth 20000 in
theorem ggX5_pairsOver_X5_look : GoodIn wsX5_pairsOver wsX5_look := goodIn_r _ [22, 23, 2, 1, 24, 25, 26, 27, 28, 29, 6, 30, 31, 32, 33, 34, 35, 36, 37, 38, 39, 40, 41, 42, 43, 44, 45, 46, 47, 48, 49, 50, 51, 52, 53, 54] (by decide +kernel) (by decide +kernel)
set_option maxRecDepth 20000 in
theorem gX5_pairsOver_X5_look : GoodIn wsX5_pairsOver (wsV RX5 139 RX5 yX5_look wsX5_look) := goodIn_app (goodIn_of _ (by decide +kernel)) ggX5_pairsOver_X5_look
theorem dX5_pairsOver_0 : decode cX5_pairsOver 0 = .ok (.aload_n 0, 1) := by decide +kernel
theorem dX5_pairsOver_1 : decode cX5_pairsOver 1 = .ok (.iload_n 1, 1) := by decide +kernel
theorem dX5_pairsOver_2 : decode cX5_pairsOver 2 = .ok (.invokevirtual 149, 3) := by decide +kernel
theorem dX5_pairsOver_5 : decode cX5_pairsOver 5 = .ok (.astore_n 2, 1) := by decide +kernel
theorem dX5_pairsOver_6 : decode cX5_pairsOver 6 = .ok (.iconst 0, 1) := by decide +kernel
theorem dX5_pairsOver_7 : decode cX5_pairsOver 7 = .ok (.istore_n 3, 1) := by decide +kernel
theorem dX5_pairsOver_8 : decode cX5_pairsOver 8 = .ok (.iconst 0, 1) := by decide +kernel
theorem dX5_pairsOver_9 : decode cX5_pairsOver 9 = .ok (.istore 4, 2) := by decide +kernel
theorem dX5_pairsOver_11 : decode cX5_pairsOver 11 = .ok (.iload 4, 2) := by decide +kernel
theorem dX5_pairsOver_13 : decode cX5_pairsOver 13 = .ok (.aload_n 0, 1) := by decide +kernel
theorem dX5_pairsOver_14 : decode cX5_pairsOver 14 = .ok (.getfield 52, 3) := by decide +kernel
theorem dX5_pairsOver_17 : decode cX5_pairsOver 17 = .ok (.if_icmp .ge 60, 3) := by decide +kernel
theorem dX5_pairsOver_20 : decode cX5_pairsOver 20 = .ok (.aload_n 0, 1) := by decide +kernel
theorem dX5_pairsOver_21 : decode cX5_pairsOver 21 = .ok (.iload 4, 2) := by decide +kernel
theorem dX5_pairsOver_23 : decode cX5_pairsOver 23 = .ok (.aload_n 2, 1) := by decide +kernel
theorem dX5_pairsOver_24 : decode cX5_pairsOver 24 = .ok (.invokevirtual 139, 3) := by decide +kernel
theorem dX5_pairsOver_27 : decode cX5_pairsOver 27 = .ok (.iconst 0, 1) := by decide +kernel
theorem dX5_pairsOver_28 : decode cX5_pairsOver 28 = .ok (.istore 5, 2) := by decide +kernel
theorem dX5_pairsOver_30 : decode cX5_pairsOver 30 = .ok (.iload 5, 2) := by decide +kernel
theorem dX5_pairsOver_32 : decode cX5_pairsOver 32 = .ok (.aload_n 0, 1) := by decide +kernel
theorem dX5_pairsOver_33 : decode cX5_pairsOver 33 = .ok (.getfield 52, 3) := by decide +kernel
theorem dX5_pairsOver_36 : decode cX5_pairsOver 36 = .ok (.if_icmp .ge 35, 3) := by decide +kernel
theorem dX5_pairsOver_39 : decode cX5_pairsOver 39 = .ok (.iload_n 3, 1) := by decide +kernel
theorem dX5_pairsOver_40 : decode cX5_pairsOver 40 = .ok (.iload 4, 2) := by decide +kernel
theorem dX5_pairsOver_42 : decode cX5_pairsOver 42 = .ok (.iload 5, 2) := by decide +kernel
theorem dX5_pairsOver_44 : decode cX5_pairsOver 44 = .ok (.if_icmp .eq 18, 3) := by decide +kernel
theorem dX5_pairsOver_47 : decode cX5_pairsOver 47 = .ok (.aload_n 0, 1) := by decide +kernel
theorem dX5_pairsOver_48 : decode cX5_pairsOver 48 = .ok (.getfield 30, 3) := by decide +kernel
theorem dX5_pairsOver_51 : decode cX5_pairsOver 51 = .ok (.iload 5, 2) := by decide +kernel
theorem dX5_pairsOver_53 : decode cX5_pairsOver 53 = .ok (.iaload, 1) := by decide +kernel
theorem dX5_pairsOver_54 : decode cX5_pairsOver 54 = .ok (.iconst (-1), 1) := by decide +kernel
theorem dX5_pairsOver_55 : decode cX5_pairsOver 55 = .ok (.if_icmp .eq 7, 3) := by decide +kernel
theorem dX5_pairsOver_58 : decode cX5_pairsOver 58 = .ok (.iconst 1, 1) := by decide +kernel
theorem dX5_pairsOver_59 : decode cX5_pairsOver 59 = .ok (.goto 4, 3) := by decide +kernel
theorem dX5_pairsOver_62 : decode cX5_pairsOver 62 = .ok (.iconst 0, 1) := by decide +kernel
theorem dX5_pairsOver_63 : decode cX5_pairsOver 63 = .ok (.iadd, 1) := by decide +kernel
theorem dX5_pairsOver_64 : decode cX5_pairsOver 64 = .ok (.istore_n 3, 1) := by decide +kernel
theorem dX5_pairsOver_65 : decode cX5_pairsOver 65 = .ok (.iinc 5 1, 3) := by decide +kernel
theorem dX5_pairsOver_68 : decode cX5_pairsOver 68 = .ok (.goto (-38), 3) := by decide +kernel
theorem dX5_pairsOver_71 : decode cX5_pairsOver 71 = .ok (.iinc 4 1, 3) := by decide +kernel
theorem dX5_pairsOver_74 : decode cX5_pairsOver 74 = .ok (.goto (-63), 3) := by decide +kernel
theorem dX5_pairsOver_77 : decode cX5_pairsOver 77 = .ok (.iload_n 3, 1) := by decide +kernel
theorem dX5_pairsOver_78 : decode cX5_pairsOver 78 = .ok (.ireturn, 1) := by decide +kernel
set_option maxRecDepth 20000 in
theorem ggX5_letters_X5_lookAll : GoodIn wsX5_letters wsX5_lookAll := goodIn_r _ [6, 1, 7, 8, 9, 10, 11, 12, 5, 13, 14, 15, 16, 17, 18, 19, 20, 21, 22, 23, 24, 25, 26, 27, 28, 29, 30, 31, 32, 33, 34, 35, 36, 37, 38, 39, 40, 41, 42, 43, 44, 45, 46, 47, 48, 49, 50, 51, 52, 53, 54, 55, 56, 57, 58, 59, 60, 61, 62, 63, 77, 78, 79, 80, 81, 82, 83, 84, 85, 86, 87, 88, 89, 90, 91, 92] (by decide +kernel) (by decide +kernel)
set_option maxRecDepth 20000 in
theorem gX5_letters_X5_lookAll : GoodIn wsX5_letters (wsV RX5 152 RX5 yX5_lookAll wsX5_lookAll) := goodIn_app (goodIn_of _ (by decide +kernel)) ggX5_letters_X5_lookAll
set_option maxRecDepth 20000 in
theorem ggX5_letters_X5_letter : GoodIn wsX5_letters wsX5_letter := goodIn_r _ [67, 7, 68, 69, 70, 5, 71, 19, 72, 39, 40, 41, 73, 74, 75, 76, 20, 21, 77, 78, 79, 80, 81, 82, 83, 84, 85, 86, 87, 88, 89, 90, 91, 92] (by decide +kernel) (by decide +kernel)
set_option maxRecDepth 20000 in
theorem gX5_letters_X5_letter : GoodIn wsX5_letters (wsV RX5 155 RX5 yX5_letter wsX5_letter) := goodIn_app (goodIn_of _ (by decide +kernel)) ggX5_letters_X5_letter
theorem dX5_letters_0 : decode cX5_letters 0 = .ok (.aload_n 0, 1) := by decide +kernel
theorem dX5_letters_1 : decode cX5_letters 1 = .ok (.invokevirtual 152, 3) := by decide +kernel
theorem dX5_letters_4 : decode cX5_letters 4 = .ok (.iconst 0, 1) := by decide +kernel
theorem dX5_letters_5 : decode cX5_letters 5 = .ok (.istore_n 1, 1) := by decide +kernel
theorem dX5_letters_6 : decode cX5_letters 6 = .ok (.iconst 0, 1) := by decide +kernel
theorem dX5_letters_7 : decode cX5_letters 7 = .ok (.istore_n 2, 1) := by decide +kernel
theorem dX5_letters_8 : decode cX5_letters 8 = .ok (.iload_n 2, 1) := by decide +kernel
theorem dX5_letters_9 : decode cX5_letters 9 = .ok (.aload_n 0, 1) := by decide +kernel
theorem dX5_letters_10 : decode cX5_letters 10 = .ok (.getfield 52, 3) := by decide +kernel
theorem dX5_letters_13 : decode cX5_letters 13 = .ok (.if_icmp .ge 48, 3) := by decide +kernel
theorem dX5_letters_16 : decode cX5_letters 16 = .ok (.iconst 0, 1) := by decide +kernel
theorem dX5_letters_17 : decode cX5_letters 17 = .ok (.istore_n 3, 1) := by decide +kernel
theorem dX5_letters_18 : decode cX5_letters 18 = .ok (.iload_n 3, 1) := by decide +kernel
theorem dX5_letters_19 : decode cX5_letters 19 = .ok (.aload_n 0, 1) := by decide +kernel
theorem dX5_letters_20 : decode cX5_letters 20 = .ok (.getfield 52, 3) := by decide +kernel
theorem dX5_letters_23 : decode cX5_letters 23 = .ok (.if_icmp .ge 32, 3) := by decide +kernel
theorem dX5_letters_26 : decode cX5_letters 26 = .ok (.iload_n 1, 1) := by decide +kernel
theorem dX5_letters_27 : decode cX5_letters 27 = .ok (.iload_n 2, 1) := by decide +kernel
theorem dX5_letters_28 : decode cX5_letters 28 = .ok (.iload_n 3, 1) := by decide +kernel
theorem dX5_letters_29 : decode cX5_letters 29 = .ok (.if_icmp .eq 17, 3) := by decide +kernel
theorem dX5_letters_32 : decode cX5_letters 32 = .ok (.aload_n 0, 1) := by decide +kernel
theorem dX5_letters_33 : decode cX5_letters 33 = .ok (.iload_n 2, 1) := by decide +kernel
theorem dX5_letters_34 : decode cX5_letters 34 = .ok (.iload_n 3, 1) := by decide +kernel
theorem dX5_letters_35 : decode cX5_letters 35 = .ok (.invokevirtual 155, 3) := by decide +kernel
theorem dX5_letters_38 : decode cX5_letters 38 = .ok (.iconst (-1), 1) := by decide +kernel
theorem dX5_letters_39 : decode cX5_letters 39 = .ok (.if_icmp .eq 7, 3) := by decide +kernel
theorem dX5_letters_42 : decode cX5_letters 42 = .ok (.iconst 1, 1) := by decide +kernel
theorem dX5_letters_43 : decode cX5_letters 43 = .ok (.goto 4, 3) := by decide +kernel
theorem dX5_letters_46 : decode cX5_letters 46 = .ok (.iconst 0, 1) := by decide +kernel
theorem dX5_letters_47 : decode cX5_letters 47 = .ok (.iadd, 1) := by decide +kernel
theorem dX5_letters_48 : decode cX5_letters 48 = .ok (.istore_n 1, 1) := by decide +kernel
theorem dX5_letters_49 : decode cX5_letters 49 = .ok (.iinc 3 1, 3) := by decide +kernel
theorem dX5_letters_52 : decode cX5_letters 52 = .ok (.goto (-34), 3) := by decide +kernel
theorem dX5_letters_55 : decode cX5_letters 55 = .ok (.iinc 2 1, 3) := by decide +kernel
theorem dX5_letters_58 : decode cX5_letters 58 = .ok (.goto (-50), 3) := by decide +kernel
theorem dX5_letters_61 : decode cX5_letters 61 = .ok (.iload_n 1, 1) := by decide +kernel
theorem dX5_letters_62 : decode cX5_letters 62 = .ok (.ireturn, 1) := by decide +kernel
set_option maxRecDepth 20000 in
theorem ggX5_hut_X5_isIn : GoodIn wsX5_hut wsX5_isIn := goodIn_r _ [7] (by decide +kernel) (by decide +kernel)
set_option maxRecDepth 20000 in
theorem gX5_hut_X5_isIn : GoodIn wsX5_hut (va_wsS RX5 55 yX5_isIn wsX5_isIn) := goodIn_app (goodIn_of _ (by decide +kernel)) ggX5_hut_X5_isIn
set_option maxRecDepth 20000 in
theorem ggX5_hut_X5_no : GoodIn wsX5_hut wsX5_no := goodIn_r _ [11, 1, 12, 13, 14, 15, 16, 17, 18, 19, 20, 21, 22, 23, 24, 25, 26, 27] (by decide +kernel) (by decide +kernel)
set_option maxRecDepth 20000 in
theorem gX5_hut_X5_no : GoodIn wsX5_hut (wsV RX5 158 RX5 yX5_no wsX5_no) := goodIn_app (goodIn_of _ (by decide +kernel)) ggX5_hut_X5_no
theorem dX5_hut_0 : decode cX5_hut 0 = .ok (.aload_n 0, 1) := by decide +kernel
theorem dX5_hut_1 : decode cX5_hut 1 = .ok (.iconst 0, 1) := by decide +kernel
theorem dX5_hut_2 : decode cX5_hut 2 = .ok (.putfield 48, 3) := by decide +kernel
theorem dX5_hut_5 : decode cX5_hut 5 = .ok (.iload_n 1, 1) := by decide +kernel
theorem dX5_hut_6 : decode cX5_hut 6 = .ok (.iconst 0, 1) := by decide +kernel
theorem dX5_hut_7 : decode cX5_hut 7 = .ok (.iconst 3, 1) := by decide +kernel
theorem dX5_hut_8 : decode cX5_hut 8 = .ok (.invokestatic 55, 3) := by decide +kernel
theorem dX5_hut_11 : decode cX5_hut 11 = .ok (.ifCond .ne 9, 3) := by decide +kernel
theorem dX5_hut_14 : decode cX5_hut 14 = .ok (.aload_n 0, 1) := by decide +kernel
theorem dX5_hut_15 : decode cX5_hut 15 = .ok (.iconst 1, 1) := by decide +kernel
theorem dX5_hut_16 : decode cX5_hut 16 = .ok (.invokevirtual 158, 3) := by decide +kernel
theorem dX5_hut_19 : decode cX5_hut 19 = .ok (.ireturn, 1) := by decide +kernel
theorem dX5_hut_20 : decode cX5_hut 20 = .ok (.aload_n 0, 1) := by decide +kernel
theorem dX5_hut_21 : decode cX5_hut 21 = .ok (.getfield 52, 3) := by decide +kernel
theorem dX5_hut_24 : decode cX5_hut 24 = .ok (.bipush 10, 2) := by decide +kernel
theorem dX5_hut_26 : decode cX5_hut 26 = .ok (.if_icmp .ne 9, 3) := by decide +kernel
theorem dX5_hut_29 : decode cX5_hut 29 = .ok (.aload_n 0, 1) := by decide +kernel
theorem dX5_hut_30 : decode cX5_hut 30 = .ok (.iconst 2, 1) := by decide +kernel
theorem dX5_hut_31 : decode cX5_hut 31 = .ok (.invokevirtual 158, 3) := by decide +kernel
theorem dX5_hut_34 : decode cX5_hut 34 = .ok (.ireturn, 1) := by decide +kernel
theorem dX5_hut_35 : decode cX5_hut 35 = .ok (.aload_n 0, 1) := by decide +kernel
theorem dX5_hut_36 : decode cX5_hut 36 = .ok (.getfield 9, 3) := by decide +kernel
theorem dX5_hut_39 : decode cX5_hut 39 = .ok (.aload_n 0, 1) := by decide +kernel
theorem dX5_hut_40 : decode cX5_hut 40 = .ok (.getfield 52, 3) := by decide +kernel
theorem dX5_hut_43 : decode cX5_hut 43 = .ok (.iload_n 1, 1) := by decide +kernel
theorem dX5_hut_44 : decode cX5_hut 44 = .ok (.iastore, 1) := by decide +kernel
theorem dX5_hut_45 : decode cX5_hut 45 = .ok (.aload_n 0, 1) := by decide +kernel
theorem dX5_hut_46 : decode cX5_hut 46 = .ok (.dup, 1) := by decide +kernel
theorem dX5_hut_47 : decode cX5_hut 47 = .ok (.getfield 52, 3) := by decide +kernel
theorem dX5_hut_50 : decode cX5_hut 50 = .ok (.iconst 1, 1) := by decide +kernel
theorem dX5_hut_51 : decode cX5_hut 51 = .ok (.iadd, 1) := by decide +kernel
theorem dX5_hut_52 : decode cX5_hut 52 = .ok (.putfield 52, 3) := by decide +kernel
theorem dX5_hut_55 : decode cX5_hut 55 = .ok (.aload_n 0, 1) := by decide +kernel
theorem dX5_hut_56 : decode cX5_hut 56 = .ok (.getfield 52, 3) := by decide +kernel
theorem dX5_hut_59 : decode cX5_hut 59 = .ok (.iconst 1, 1) := by decide +kernel
theorem dX5_hut_60 : decode cX5_hut 60 = .ok (.isub, 1) := by decide +kernel
theorem dX5_hut_61 : decode cX5_hut 61 = .ok (.ireturn, 1) := by decide +kernel
set_option maxRecDepth 20000 in
theorem ggX5_pass_X5_isHut : GoodIn wsX5_pass wsX5_isHut := goodIn_r _ [11, 12, 13, 14, 10, 15, 20, 21, 22, 23, 24, 25, 26, 27, 28, 29, 30, 31, 32, 33, 34, 35] (by decide +kernel) (by decide +kernel)
set_option maxRecDepth 20000 in
theorem gX5_pass_X5_isHut : GoodIn wsX5_pass (wsV RX5 162 RX5 yX5_isHut wsX5_isHut) := goodIn_app (goodIn_of _ (by decide +kernel)) ggX5_pass_X5_isHut
set_option maxRecDepth 20000 in
theorem ggX5_pass_X5_no : GoodIn wsX5_pass wsX5_no := goodIn_r _ [19, 1, 20, 21, 22, 23, 24, 25, 26, 27, 28, 29, 30, 31, 32, 33, 34, 35] (by decide +kernel) (by decide +kernel)
set_option maxRecDepth 20000 in
theorem gX5_pass_X5_no : GoodIn wsX5_pass (wsV RX5 158 RX5 yX5_no wsX5_no) := goodIn_app (goodIn_of _ (by decide +kernel)) ggX5_pass_X5_no
set_option maxRecDepth 20000 in
theorem ggX5_pass_X5_isIn : GoodIn wsX5_pass wsX5_isIn := goodIn_r _ [15] (by decide +kernel) (by decide +kernel)
set_option maxRecDepth 20000 in
theorem gX5_pass_X5_isIn : GoodIn wsX5_pass (va_wsS RX5 55 yX5_isIn wsX5_isIn) := goodIn_app (goodIn_of _ (by decide +kernel)) ggX5_pass_X5_isIn
theorem dX5_pass_0 : decode cX5_pass 0 = .ok (.aload_n 0, 1) := by decide +kernel
theorem dX5_pass_1 : decode cX5_pass 1 = .ok (.iconst 0, 1) := by decide +kernel
theorem dX5_pass_2 : decode cX5_pass 2 = .ok (.putfield 48, 3) := by decide +kernel
theorem dX5_pass_5 : decode cX5_pass 5 = .ok (.aload_n 0, 1) := by decide +kernel
theorem dX5_pass_6 : decode cX5_pass 6 = .ok (.iload_n 1, 1) := by decide +kernel
theorem dX5_pass_7 : decode cX5_pass 7 = .ok (.invokevirtual 162, 3) := by decide +kernel
theorem dX5_pass_10 : decode cX5_pass 10 = .ok (.ifCond .eq 11, 3) := by decide +kernel
theorem dX5_pass_13 : decode cX5_pass 13 = .ok (.aload_n 0, 1) := by decide +kernel
theorem dX5_pass_14 : decode cX5_pass 14 = .ok (.iload_n 2, 1) := by decide +kernel
theorem dX5_pass_15 : decode cX5_pass 15 = .ok (.invokevirtual 162, 3) := by decide +kernel
theorem dX5_pass_18 : decode cX5_pass 18 = .ok (.ifCond .ne 9, 3) := by decide +kernel
theorem dX5_pass_21 : decode cX5_pass 21 = .ok (.aload_n 0, 1) := by decide +kernel
theorem dX5_pass_22 : decode cX5_pass 22 = .ok (.iconst 1, 1) := by decide +kernel
theorem dX5_pass_23 : decode cX5_pass 23 = .ok (.invokevirtual 158, 3) := by decide +kernel
theorem dX5_pass_26 : decode cX5_pass 26 = .ok (.ireturn, 1) := by decide +kernel
theorem dX5_pass_27 : decode cX5_pass 27 = .ok (.iload_n 1, 1) := by decide +kernel
theorem dX5_pass_28 : decode cX5_pass 28 = .ok (.iload_n 2, 1) := by decide +kernel
theorem dX5_pass_29 : decode cX5_pass 29 = .ok (.if_icmp .eq 13, 3) := by decide +kernel
theorem dX5_pass_32 : decode cX5_pass 32 = .ok (.iload_n 3, 1) := by decide +kernel
theorem dX5_pass_33 : decode cX5_pass 33 = .ok (.iconst 1, 1) := by decide +kernel
theorem dX5_pass_34 : decode cX5_pass 34 = .ok (.bipush 99, 2) := by decide +kernel
theorem dX5_pass_36 : decode cX5_pass 36 = .ok (.invokestatic 55, 3) := by decide +kernel
theorem dX5_pass_39 : decode cX5_pass 39 = .ok (.ifCond .ne 9, 3) := by decide +kernel
theorem dX5_pass_42 : decode cX5_pass 42 = .ok (.aload_n 0, 1) := by decide +kernel
theorem dX5_pass_43 : decode cX5_pass 43 = .ok (.iconst 2, 1) := by decide +kernel
theorem dX5_pass_44 : decode cX5_pass 44 = .ok (.invokevirtual 158, 3) := by decide +kernel
theorem dX5_pass_47 : decode cX5_pass 47 = .ok (.ireturn, 1) := by decide +kernel
theorem dX5_pass_48 : decode cX5_pass 48 = .ok (.aload_n 0, 1) := by decide +kernel
theorem dX5_pass_49 : decode cX5_pass 49 = .ok (.getfield 59, 3) := by decide +kernel
theorem dX5_pass_52 : decode cX5_pass 52 = .ok (.bipush 20, 2) := by decide +kernel
theorem dX5_pass_54 : decode cX5_pass 54 = .ok (.if_icmp .ne 9, 3) := by decide +kernel
theorem dX5_pass_57 : decode cX5_pass 57 = .ok (.aload_n 0, 1) := by decide +kernel
theorem dX5_pass_58 : decode cX5_pass 58 = .ok (.iconst 3, 1) := by decide +kernel
theorem dX5_pass_59 : decode cX5_pass 59 = .ok (.invokevirtual 158, 3) := by decide +kernel
theorem dX5_pass_62 : decode cX5_pass 62 = .ok (.ireturn, 1) := by decide +kernel
theorem dX5_pass_63 : decode cX5_pass 63 = .ok (.aload_n 0, 1) := by decide +kernel
theorem dX5_pass_64 : decode cX5_pass 64 = .ok (.getfield 21, 3) := by decide +kernel
theorem dX5_pass_67 : decode cX5_pass 67 = .ok (.aload_n 0, 1) := by decide +kernel
theorem dX5_pass_68 : decode cX5_pass 68 = .ok (.getfield 59, 3) := by decide +kernel
theorem dX5_pass_71 : decode cX5_pass 71 = .ok (.iload_n 1, 1) := by decide +kernel
theorem dX5_pass_72 : decode cX5_pass 72 = .ok (.iastore, 1) := by decide +kernel
theorem dX5_pass_73 : decode cX5_pass 73 = .ok (.aload_n 0, 1) := by decide +kernel
theorem dX5_pass_74 : decode cX5_pass 74 = .ok (.getfield 24, 3) := by decide +kernel
theorem dX5_pass_77 : decode cX5_pass 77 = .ok (.aload_n 0, 1) := by decide +kernel
theorem dX5_pass_78 : decode cX5_pass 78 = .ok (.getfield 59, 3) := by decide +kernel
theorem dX5_pass_81 : decode cX5_pass 81 = .ok (.iload_n 2, 1) := by decide +kernel
theorem dX5_pass_82 : decode cX5_pass 82 = .ok (.iastore, 1) := by decide +kernel
theorem dX5_pass_83 : decode cX5_pass 83 = .ok (.aload_n 0, 1) := by decide +kernel
theorem dX5_pass_84 : decode cX5_pass 84 = .ok (.getfield 27, 3) := by decide +kernel
theorem dX5_pass_87 : decode cX5_pass 87 = .ok (.aload_n 0, 1) := by decide +kernel
theorem dX5_pass_88 : decode cX5_pass 88 = .ok (.getfield 59, 3) := by decide +kernel
theorem dX5_pass_91 : decode cX5_pass 91 = .ok (.iload_n 3, 1) := by decide +kernel
theorem dX5_pass_92 : decode cX5_pass 92 = .ok (.iastore, 1) := by decide +kernel
theorem dX5_pass_93 : decode cX5_pass 93 = .ok (.aload_n 0, 1) := by decide +kernel
theorem dX5_pass_94 : decode cX5_pass 94 = .ok (.dup, 1) := by decide +kernel
theorem dX5_pass_95 : decode cX5_pass 95 = .ok (.getfield 73, 3) := by decide +kernel
theorem dX5_pass_98 : decode cX5_pass 98 = .ok (.iconst 1, 1) := by decide +kernel
theorem dX5_pass_99 : decode cX5_pass 99 = .ok (.aload_n 0, 1) := by decide +kernel
theorem dX5_pass_100 : decode cX5_pass 100 = .ok (.getfield 59, 3) := by decide +kernel
theorem dX5_pass_103 : decode cX5_pass 103 = .ok (.ishl, 1) := by decide +kernel
theorem dX5_pass_104 : decode cX5_pass 104 = .ok (.ior, 1) := by decide +kernel
theorem dX5_pass_105 : decode cX5_pass 105 = .ok (.putfield 73, 3) := by decide +kernel
theorem dX5_pass_108 : decode cX5_pass 108 = .ok (.aload_n 0, 1) := by decide +kernel
theorem dX5_pass_109 : decode cX5_pass 109 = .ok (.dup, 1) := by decide +kernel
theorem dX5_pass_110 : decode cX5_pass 110 = .ok (.getfield 59, 3) := by decide +kernel
theorem dX5_pass_113 : decode cX5_pass 113 = .ok (.iconst 1, 1) := by decide +kernel
theorem dX5_pass_114 : decode cX5_pass 114 = .ok (.iadd, 1) := by decide +kernel
theorem dX5_pass_115 : decode cX5_pass 115 = .ok (.putfield 59, 3) := by decide +kernel
theorem dX5_pass_118 : decode cX5_pass 118 = .ok (.aload_n 0, 1) := by decide +kernel
theorem dX5_pass_119 : decode cX5_pass 119 = .ok (.getfield 59, 3) := by decide +kernel
theorem dX5_pass_122 : decode cX5_pass 122 = .ok (.iconst 1, 1) := by decide +kernel
theorem dX5_pass_123 : decode cX5_pass 123 = .ok (.isub, 1) := by decide +kernel
theorem dX5_pass_124 : decode cX5_pass 124 = .ok (.ireturn, 1) := by decide +kernel
set_option maxRecDepth 20000 in
theorem ggX5_setLength_X5_isPass : GoodIn wsX5_setLength wsX5_isPass := goodIn_r _ [7, 8, 9, 10, 6, 11, 16, 17, 18, 19, 20, 21, 22, 23, 24, 25, 26, 27, 28, 29, 30, 31] (by decide +kernel) (by decide +kernel)
set_option maxRecDepth 20000 in
theorem gX5_setLength_X5_isPass : GoodIn wsX5_setLength (wsV RX5 165 RX5 yX5_isPass wsX5_isPass) := goodIn_app (goodIn_of _ (by decide +kernel)) ggX5_setLength_X5_isPass
set_option maxRecDepth 20000 in
theorem ggX5_setLength_X5_no : GoodIn wsX5_setLength wsX5_no := goodIn_r _ [15, 1, 16, 17, 18, 19, 20, 21, 22, 23, 24, 25, 26, 27, 28, 29, 30, 31] (by decide +kernel) (by decide +kernel)
set_option maxRecDepth 20000 in
theorem gX5_setLength_X5_no : GoodIn wsX5_setLength (wsV RX5 158 RX5 yX5_no wsX5_no) := goodIn_app (goodIn_of _ (by decide +kernel)) ggX5_setLength_X5_no
set_option maxRecDepth 20000 in
theorem ggX5_setLength_X5_isIn : GoodIn wsX5_setLength wsX5_isIn := goodIn_r _ [11] (by decide +kernel) (by decide +kernel)
set_option maxRecDepth 20000 in
theorem gX5_setLength_X5_isIn : GoodIn wsX5_setLength (va_wsS RX5 55 yX5_isIn wsX5_isIn) := goodIn_app (goodIn_of _ (by decide +kernel)) ggX5_setLength_X5_isIn
theorem dX5_setLength_0 : decode cX5_setLength 0 = .ok (.aload_n 0, 1) := by decide +kernel
theorem dX5_setLength_1 : decode cX5_setLength 1 = .ok (.iconst 0, 1) := by decide +kernel
theorem dX5_setLength_2 : decode cX5_setLength 2 = .ok (.putfield 48, 3) := by decide +kernel
theorem dX5_setLength_5 : decode cX5_setLength 5 = .ok (.aload_n 0, 1) := by decide +kernel
theorem dX5_setLength_6 : decode cX5_setLength 6 = .ok (.iload_n 1, 1) := by decide +kernel
theorem dX5_setLength_7 : decode cX5_setLength 7 = .ok (.invokevirtual 165, 3) := by decide +kernel
theorem dX5_setLength_10 : decode cX5_setLength 10 = .ok (.ifCond .ne 9, 3) := by decide +kernel
theorem dX5_setLength_13 : decode cX5_setLength 13 = .ok (.aload_n 0, 1) := by decide +kernel
theorem dX5_setLength_14 : decode cX5_setLength 14 = .ok (.iconst 1, 1) := by decide +kernel
theorem dX5_setLength_15 : decode cX5_setLength 15 = .ok (.invokevirtual 158, 3) := by decide +kernel
theorem dX5_setLength_18 : decode cX5_setLength 18 = .ok (.ireturn, 1) := by decide +kernel
theorem dX5_setLength_19 : decode cX5_setLength 19 = .ok (.iload_n 2, 1) := by decide +kernel
theorem dX5_setLength_20 : decode cX5_setLength 20 = .ok (.iconst 1, 1) := by decide +kernel
theorem dX5_setLength_21 : decode cX5_setLength 21 = .ok (.bipush 99, 2) := by decide +kernel
theorem dX5_setLength_23 : decode cX5_setLength 23 = .ok (.invokestatic 55, 3) := by decide +kernel
theorem dX5_setLength_26 : decode cX5_setLength 26 = .ok (.ifCond .ne 9, 3) := by decide +kernel
theorem dX5_setLength_29 : decode cX5_setLength 29 = .ok (.aload_n 0, 1) := by decide +kernel
theorem dX5_setLength_30 : decode cX5_setLength 30 = .ok (.iconst 2, 1) := by decide +kernel
theorem dX5_setLength_31 : decode cX5_setLength 31 = .ok (.invokevirtual 158, 3) := by decide +kernel
theorem dX5_setLength_34 : decode cX5_setLength 34 = .ok (.ireturn, 1) := by decide +kernel
theorem dX5_setLength_35 : decode cX5_setLength 35 = .ok (.aload_n 0, 1) := by decide +kernel
theorem dX5_setLength_36 : decode cX5_setLength 36 = .ok (.getfield 27, 3) := by decide +kernel
theorem dX5_setLength_39 : decode cX5_setLength 39 = .ok (.iload_n 1, 1) := by decide +kernel
theorem dX5_setLength_40 : decode cX5_setLength 40 = .ok (.iaload, 1) := by decide +kernel
theorem dX5_setLength_41 : decode cX5_setLength 41 = .ok (.istore_n 3, 1) := by decide +kernel
theorem dX5_setLength_42 : decode cX5_setLength 42 = .ok (.aload_n 0, 1) := by decide +kernel
theorem dX5_setLength_43 : decode cX5_setLength 43 = .ok (.getfield 27, 3) := by decide +kernel
theorem dX5_setLength_46 : decode cX5_setLength 46 = .ok (.iload_n 1, 1) := by decide +kernel
theorem dX5_setLength_47 : decode cX5_setLength 47 = .ok (.iload_n 2, 1) := by decide +kernel
theorem dX5_setLength_48 : decode cX5_setLength 48 = .ok (.iastore, 1) := by decide +kernel
theorem dX5_setLength_49 : decode cX5_setLength 49 = .ok (.iload_n 3, 1) := by decide +kernel
theorem dX5_setLength_50 : decode cX5_setLength 50 = .ok (.ireturn, 1) := by decide +kernel
set_option maxRecDepth 20000 in
theorem ggX5_setOpen_X5_isPass : GoodIn wsX5_setOpen wsX5_isPass := goodIn_r _ [7, 8, 9, 10, 6, 11, 15, 16, 17, 18, 19, 20, 21, 22, 23, 24, 25, 26, 27, 28, 29, 30] (by decide +kernel) (by decide +kernel)
set_option maxRecDepth 20000 in
theorem gX5_setOpen_X5_isPass : GoodIn wsX5_setOpen (wsV RX5 165 RX5 yX5_isPass wsX5_isPass) := goodIn_app (goodIn_of _ (by decide +kernel)) ggX5_setOpen_X5_isPass
set_option maxRecDepth 20000 in
theorem ggX5_setOpen_X5_has : GoodIn wsX5_setOpen wsX5_has := goodIn_r _ [14] (by decide +kernel) (by decide +kernel)
set_option maxRecDepth 20000 in
theorem gX5_setOpen_X5_has : GoodIn wsX5_setOpen (va_wsS RX5 76 yX5_has wsX5_has) := goodIn_app (goodIn_of _ (by decide +kernel)) ggX5_setOpen_X5_has
theorem dX5_setOpen_0 : decode cX5_setOpen 0 = .ok (.aload_n 0, 1) := by decide +kernel
theorem dX5_setOpen_1 : decode cX5_setOpen 1 = .ok (.aload_n 0, 1) := by decide +kernel
theorem dX5_setOpen_2 : decode cX5_setOpen 2 = .ok (.iload_n 1, 1) := by decide +kernel
theorem dX5_setOpen_3 : decode cX5_setOpen 3 = .ok (.invokevirtual 165, 3) := by decide +kernel
theorem dX5_setOpen_6 : decode cX5_setOpen 6 = .ok (.ifCond .eq 7, 3) := by decide +kernel
theorem dX5_setOpen_9 : decode cX5_setOpen 9 = .ok (.iconst 0, 1) := by decide +kernel
theorem dX5_setOpen_10 : decode cX5_setOpen 10 = .ok (.goto 4, 3) := by decide +kernel
theorem dX5_setOpen_13 : decode cX5_setOpen 13 = .ok (.iconst 1, 1) := by decide +kernel
theorem dX5_setOpen_14 : decode cX5_setOpen 14 = .ok (.putfield 48, 3) := by decide +kernel
theorem dX5_setOpen_17 : decode cX5_setOpen 17 = .ok (.aload_n 0, 1) := by decide +kernel
theorem dX5_setOpen_18 : decode cX5_setOpen 18 = .ok (.getfield 48, 3) := by decide +kernel
theorem dX5_setOpen_21 : decode cX5_setOpen 21 = .ok (.ifCond .eq 5, 3) := by decide +kernel
theorem dX5_setOpen_24 : decode cX5_setOpen 24 = .ok (.iconst 0, 1) := by decide +kernel
theorem dX5_setOpen_25 : decode cX5_setOpen 25 = .ok (.ireturn, 1) := by decide +kernel
theorem dX5_setOpen_26 : decode cX5_setOpen 26 = .ok (.aload_n 0, 1) := by decide +kernel
theorem dX5_setOpen_27 : decode cX5_setOpen 27 = .ok (.getfield 73, 3) := by decide +kernel
theorem dX5_setOpen_30 : decode cX5_setOpen 30 = .ok (.iload_n 1, 1) := by decide +kernel
theorem dX5_setOpen_31 : decode cX5_setOpen 31 = .ok (.invokestatic 76, 3) := by decide +kernel
theorem dX5_setOpen_34 : decode cX5_setOpen 34 = .ok (.istore_n 3, 1) := by decide +kernel
theorem dX5_setOpen_35 : decode cX5_setOpen 35 = .ok (.iload_n 3, 1) := by decide +kernel
theorem dX5_setOpen_36 : decode cX5_setOpen 36 = .ok (.iload_n 2, 1) := by decide +kernel
theorem dX5_setOpen_37 : decode cX5_setOpen 37 = .ok (.if_icmp .eq 15, 3) := by decide +kernel
theorem dX5_setOpen_40 : decode cX5_setOpen 40 = .ok (.aload_n 0, 1) := by decide +kernel
theorem dX5_setOpen_41 : decode cX5_setOpen 41 = .ok (.dup, 1) := by decide +kernel
theorem dX5_setOpen_42 : decode cX5_setOpen 42 = .ok (.getfield 73, 3) := by decide +kernel
theorem dX5_setOpen_45 : decode cX5_setOpen 45 = .ok (.iconst 1, 1) := by decide +kernel
theorem dX5_setOpen_46 : decode cX5_setOpen 46 = .ok (.iload_n 1, 1) := by decide +kernel
theorem dX5_setOpen_47 : decode cX5_setOpen 47 = .ok (.ishl, 1) := by decide +kernel
theorem dX5_setOpen_48 : decode cX5_setOpen 48 = .ok (.ixor, 1) := by decide +kernel
theorem dX5_setOpen_49 : decode cX5_setOpen 49 = .ok (.putfield 73, 3) := by decide +kernel
theorem dX5_setOpen_52 : decode cX5_setOpen 52 = .ok (.iload_n 3, 1) := by decide +kernel
theorem dX5_setOpen_53 : decode cX5_setOpen 53 = .ok (.ireturn, 1) := by decide +kernel
set_option maxRecDepth 20000 in
theorem ggX5_sheetsOf_X5_isThere : GoodIn wsX5_sheetsOf wsX5_isThere := goodIn_r _ [6, 7, 8, 9, 5, 10, 11, 12, 13, 14, 15, 16, 17, 18, 19, 20, 21, 22, 23, 24, 25, 26, 27] (by decide +kernel) (by decide +kernel)
set_option maxRecDepth 20000 in
theorem gX5_sheetsOf_X5_isThere : GoodIn wsX5_sheetsOf (wsV RX5 78 RX5 yX5_isThere wsX5_isThere) := goodIn_app (goodIn_of _ (by decide +kernel)) ggX5_sheetsOf_X5_isThere
theorem dX5_sheetsOf_0 : decode cX5_sheetsOf 0 = .ok (.iconst 0, 1) := by decide +kernel
theorem dX5_sheetsOf_1 : decode cX5_sheetsOf 1 = .ok (.istore_n 2, 1) := by decide +kernel
theorem dX5_sheetsOf_2 : decode cX5_sheetsOf 2 = .ok (.iconst 0, 1) := by decide +kernel
theorem dX5_sheetsOf_3 : decode cX5_sheetsOf 3 = .ok (.istore_n 3, 1) := by decide +kernel
theorem dX5_sheetsOf_4 : decode cX5_sheetsOf 4 = .ok (.iload_n 3, 1) := by decide +kernel
theorem dX5_sheetsOf_5 : decode cX5_sheetsOf 5 = .ok (.aload_n 0, 1) := by decide +kernel
theorem dX5_sheetsOf_6 : decode cX5_sheetsOf 6 = .ok (.getfield 52, 3) := by decide +kernel
theorem dX5_sheetsOf_9 : decode cX5_sheetsOf 9 = .ok (.if_icmp .ge 26, 3) := by decide +kernel
theorem dX5_sheetsOf_12 : decode cX5_sheetsOf 12 = .ok (.iload_n 2, 1) := by decide +kernel
theorem dX5_sheetsOf_13 : decode cX5_sheetsOf 13 = .ok (.aload_n 0, 1) := by decide +kernel
theorem dX5_sheetsOf_14 : decode cX5_sheetsOf 14 = .ok (.iload_n 1, 1) := by decide +kernel
theorem dX5_sheetsOf_15 : decode cX5_sheetsOf 15 = .ok (.iload_n 3, 1) := by decide +kernel
theorem dX5_sheetsOf_16 : decode cX5_sheetsOf 16 = .ok (.invokevirtual 78, 3) := by decide +kernel
theorem dX5_sheetsOf_19 : decode cX5_sheetsOf 19 = .ok (.ifCond .eq 7, 3) := by decide +kernel
theorem dX5_sheetsOf_22 : decode cX5_sheetsOf 22 = .ok (.iconst 1, 1) := by decide +kernel
theorem dX5_sheetsOf_23 : decode cX5_sheetsOf 23 = .ok (.goto 4, 3) := by decide +kernel
theorem dX5_sheetsOf_26 : decode cX5_sheetsOf 26 = .ok (.iconst 0, 1) := by decide +kernel
theorem dX5_sheetsOf_27 : decode cX5_sheetsOf 27 = .ok (.iadd, 1) := by decide +kernel
theorem dX5_sheetsOf_28 : decode cX5_sheetsOf 28 = .ok (.istore_n 2, 1) := by decide +kernel
theorem dX5_sheetsOf_29 : decode cX5_sheetsOf 29 = .ok (.iinc 3 1, 3) := by decide +kernel
theorem dX5_sheetsOf_32 : decode cX5_sheetsOf 32 = .ok (.goto (-28), 3) := by decide +kernel
theorem dX5_sheetsOf_35 : decode cX5_sheetsOf 35 = .ok (.iload_n 2, 1) := by decide +kernel
theorem dX5_sheetsOf_36 : decode cX5_sheetsOf 36 = .ok (.ireturn, 1) := by decide +kernel
set_option maxRecDepth 20000 in
theorem ggX5_burn_X5_isHut : GoodIn wsX5_burn wsX5_isHut := goodIn_r _ [8, 9, 10, 11, 7, 12, 29, 30, 31, 32, 33, 34, 35, 36, 37, 38, 39, 40, 41, 42, 43, 44] (by decide +kernel) (by decide +kernel)
set_option maxRecDepth 20000 in
theorem gX5_burn_X5_isHut : GoodIn wsX5_burn (wsV RX5 162 RX5 yX5_isHut wsX5_isHut) := goodIn_app (goodIn_of _ (by decide +kernel)) ggX5_burn_X5_isHut
set_option maxRecDepth 20000 in
theorem ggX5_burn_X5_no : GoodIn wsX5_burn wsX5_no := goodIn_r _ [16, 1, 29, 30, 31, 32, 33, 34, 35, 36, 37, 38, 39, 40, 41, 42, 43, 44] (by decide +kernel) (by decide +kernel)
set_option maxRecDepth 20000 in
theorem gX5_burn_X5_no : GoodIn wsX5_burn (wsV RX5 158 RX5 yX5_no wsX5_no) := goodIn_app (goodIn_of _ (by decide +kernel)) ggX5_burn_X5_no
set_option maxRecDepth 20000 in
theorem ggX5_burn_X5_sheetsOf : GoodIn wsX5_burn wsX5_sheetsOf := goodIn_r _ [20, 9, 21, 22, 23, 7, 24, 25, 26, 27, 28, 2, 29, 30, 31, 32, 33, 34, 35, 36, 37, 38, 39, 40, 41, 42, 43, 44] (by decide +kernel) (by decide +kernel)
set_option maxRecDepth 20000 in
theorem gX5_burn_X5_sheetsOf : GoodIn wsX5_burn (wsV RX5 168 RX5 yX5_sheetsOf wsX5_sheetsOf) := goodIn_app (goodIn_of _ (by decide +kernel)) ggX5_burn_X5_sheetsOf
theorem dX5_burn_0 : decode cX5_burn 0 = .ok (.aload_n 0, 1) := by decide +kernel
theorem dX5_burn_1 : decode cX5_burn 1 = .ok (.iconst 0, 1) := by decide +kernel
theorem dX5_burn_2 : decode cX5_burn 2 = .ok (.putfield 48, 3) := by decide +kernel
theorem dX5_burn_5 : decode cX5_burn 5 = .ok (.aload_n 0, 1) := by decide +kernel
theorem dX5_burn_6 : decode cX5_burn 6 = .ok (.iload_n 1, 1) := by decide +kernel
theorem dX5_burn_7 : decode cX5_burn 7 = .ok (.invokevirtual 162, 3) := by decide +kernel
theorem dX5_burn_10 : decode cX5_burn 10 = .ok (.ifCond .ne 9, 3) := by decide +kernel
theorem dX5_burn_13 : decode cX5_burn 13 = .ok (.aload_n 0, 1) := by decide +kernel
theorem dX5_burn_14 : decode cX5_burn 14 = .ok (.iconst 1, 1) := by decide +kernel
theorem dX5_burn_15 : decode cX5_burn 15 = .ok (.invokevirtual 158, 3) := by decide +kernel
theorem dX5_burn_18 : decode cX5_burn 18 = .ok (.ireturn, 1) := by decide +kernel
theorem dX5_burn_19 : decode cX5_burn 19 = .ok (.aload_n 0, 1) := by decide +kernel
theorem dX5_burn_20 : decode cX5_burn 20 = .ok (.iload_n 1, 1) := by decide +kernel
theorem dX5_burn_21 : decode cX5_burn 21 = .ok (.invokevirtual 168, 3) := by decide +kernel
theorem dX5_burn_24 : decode cX5_burn 24 = .ok (.istore_n 2, 1) := by decide +kernel
theorem dX5_burn_25 : decode cX5_burn 25 = .ok (.iconst 0, 1) := by decide +kernel
theorem dX5_burn_26 : decode cX5_burn 26 = .ok (.istore_n 3, 1) := by decide +kernel
theorem dX5_burn_27 : decode cX5_burn 27 = .ok (.iload_n 3, 1) := by decide +kernel
theorem dX5_burn_28 : decode cX5_burn 28 = .ok (.bipush 10, 2) := by decide +kernel
theorem dX5_burn_30 : decode cX5_burn 30 = .ok (.if_icmp .ge 23, 3) := by decide +kernel
theorem dX5_burn_33 : decode cX5_burn 33 = .ok (.aload_n 0, 1) := by decide +kernel
theorem dX5_burn_34 : decode cX5_burn 34 = .ok (.getfield 17, 3) := by decide +kernel
theorem dX5_burn_37 : decode cX5_burn 37 = .ok (.bipush 10, 2) := by decide +kernel
theorem dX5_burn_39 : decode cX5_burn 39 = .ok (.iload_n 1, 1) := by decide +kernel
theorem dX5_burn_40 : decode cX5_burn 40 = .ok (.imul, 1) := by decide +kernel
theorem dX5_burn_41 : decode cX5_burn 41 = .ok (.iload_n 3, 1) := by decide +kernel
theorem dX5_burn_42 : decode cX5_burn 42 = .ok (.iadd, 1) := by decide +kernel
theorem dX5_burn_43 : decode cX5_burn 43 = .ok (.getstatic 45, 3) := by decide +kernel
theorem dX5_burn_46 : decode cX5_burn 46 = .ok (.aastore, 1) := by decide +kernel
theorem dX5_burn_47 : decode cX5_burn 47 = .ok (.iinc 3 1, 3) := by decide +kernel
theorem dX5_burn_50 : decode cX5_burn 50 = .ok (.goto (-23), 3) := by decide +kernel
theorem dX5_burn_53 : decode cX5_burn 53 = .ok (.iload_n 2, 1) := by decide +kernel
theorem dX5_burn_54 : decode cX5_burn 54 = .ok (.ireturn, 1) := by decide +kernel
set_option maxRecDepth 20000 in
theorem ggX5_sheetTold_X5_isThere : GoodIn wsX5_sheetTold wsX5_isThere := goodIn_r _ [5, 6, 7, 8, 4, 9, 10, 23, 24, 25, 26, 27, 28, 29, 30, 31, 32, 33, 34, 35, 36, 37, 38] (by decide +kernel) (by decide +kernel)
set_option maxRecDepth 20000 in
theorem gX5_sheetTold_X5_isThere : GoodIn wsX5_sheetTold (wsV RX5 78 RX5 yX5_isThere wsX5_isThere) := goodIn_app (goodIn_of _ (by decide +kernel)) ggX5_sheetTold_X5_isThere
set_option maxRecDepth 20000 in
theorem ggX5_sheetTold_X5_of : GoodIn wsX5_sheetTold wsX5_of := goodIn_r _ [9, 10, 23, 24, 25, 26, 27, 28, 29, 30, 31, 32, 33, 34, 35, 36, 37, 38] (by decide +kernel) (by decide +kernel)
set_option maxRecDepth 20000 in
theorem gX5_sheetTold_X5_of : GoodIn wsX5_sheetTold (wsV RX5 62 RX5 yX5_of wsX5_of) := goodIn_app (goodIn_of _ (by decide +kernel)) ggX5_sheetTold_X5_of
set_option maxRecDepth 20000 in
theorem ggX5_sheetTold_X5_age : GoodIn wsX5_sheetTold wsX5_age := goodIn_r _ [14, 15, 6, 7, 8, 4, 9, 10, 23, 24, 25, 26, 27, 28, 29, 30, 31, 32, 33, 34, 35, 36, 37, 38] (by decide +kernel) (by decide +kernel)
set_option maxRecDepth 20000 in
theorem gX5_sheetTold_X5_age : GoodIn wsX5_sheetTold (wsV RX5 81 RX5 yX5_age wsX5_age) := goodIn_app (goodIn_of _ (by decide +kernel)) ggX5_sheetTold_X5_age
set_option maxRecDepth 20000 in
theorem ggX5_sheetTold_J6_bitCount_0f7a4 : GoodIn wsX5_sheetTold wsJ6_bitCount_0f7a4 := goodIn_r _ [19, 20, 21, 22] (by decide +kernel) (by decide +kernel)
set_option maxRecDepth 20000 in
theorem gX5_sheetTold_J6_bitCount_0f7a4 : GoodIn wsX5_sheetTold (va_wsS RX5 171 yJ6_bitCount_0f7a4 wsJ6_bitCount_0f7a4) := goodIn_app (goodIn_of _ (by decide +kernel)) ggX5_sheetTold_J6_bitCount_0f7a4
theorem dX5_sheetTold_0 : decode cX5_sheetTold 0 = .ok (.aload_n 0, 1) := by decide +kernel
theorem dX5_sheetTold_1 : decode cX5_sheetTold 1 = .ok (.iload_n 1, 1) := by decide +kernel
theorem dX5_sheetTold_2 : decode cX5_sheetTold 2 = .ok (.iload_n 2, 1) := by decide +kernel
theorem dX5_sheetTold_3 : decode cX5_sheetTold 3 = .ok (.invokevirtual 78, 3) := by decide +kernel
theorem dX5_sheetTold_6 : decode cX5_sheetTold 6 = .ok (.ifCond .ne 5, 3) := by decide +kernel
theorem dX5_sheetTold_9 : decode cX5_sheetTold 9 = .ok (.iconst (-1), 1) := by decide +kernel
theorem dX5_sheetTold_10 : decode cX5_sheetTold 10 = .ok (.ireturn, 1) := by decide +kernel
theorem dX5_sheetTold_11 : decode cX5_sheetTold 11 = .ok (.iload_n 3, 1) := by decide +kernel
theorem dX5_sheetTold_12 : decode cX5_sheetTold 12 = .ok (.ifCond .ne 14, 3) := by decide +kernel
theorem dX5_sheetTold_15 : decode cX5_sheetTold 15 = .ok (.aload_n 0, 1) := by decide +kernel
theorem dX5_sheetTold_16 : decode cX5_sheetTold 16 = .ok (.iload_n 1, 1) := by decide +kernel
theorem dX5_sheetTold_17 : decode cX5_sheetTold 17 = .ok (.iload_n 2, 1) := by decide +kernel
theorem dX5_sheetTold_18 : decode cX5_sheetTold 18 = .ok (.invokevirtual 62, 3) := by decide +kernel
theorem dX5_sheetTold_21 : decode cX5_sheetTold 21 = .ok (.iconst 0, 1) := by decide +kernel
theorem dX5_sheetTold_22 : decode cX5_sheetTold 22 = .ok (.iaload, 1) := by decide +kernel
theorem dX5_sheetTold_23 : decode cX5_sheetTold 23 = .ok (.goto 28, 3) := by decide +kernel
theorem dX5_sheetTold_26 : decode cX5_sheetTold 26 = .ok (.iload_n 3, 1) := by decide +kernel
theorem dX5_sheetTold_27 : decode cX5_sheetTold 27 = .ok (.iconst 1, 1) := by decide +kernel
theorem dX5_sheetTold_28 : decode cX5_sheetTold 28 = .ok (.if_icmp .ne 12, 3) := by decide +kernel
theorem dX5_sheetTold_31 : decode cX5_sheetTold 31 = .ok (.aload_n 0, 1) := by decide +kernel
theorem dX5_sheetTold_32 : decode cX5_sheetTold 32 = .ok (.iload_n 1, 1) := by decide +kernel
theorem dX5_sheetTold_33 : decode cX5_sheetTold 33 = .ok (.iload_n 2, 1) := by decide +kernel
theorem dX5_sheetTold_34 : decode cX5_sheetTold 34 = .ok (.invokevirtual 81, 3) := by decide +kernel
theorem dX5_sheetTold_37 : decode cX5_sheetTold 37 = .ok (.goto 14, 3) := by decide +kernel
theorem dX5_sheetTold_40 : decode cX5_sheetTold 40 = .ok (.aload_n 0, 1) := by decide +kernel
theorem dX5_sheetTold_41 : decode cX5_sheetTold 41 = .ok (.iload_n 1, 1) := by decide +kernel
theorem dX5_sheetTold_42 : decode cX5_sheetTold 42 = .ok (.iload_n 2, 1) := by decide +kernel
theorem dX5_sheetTold_43 : decode cX5_sheetTold 43 = .ok (.invokevirtual 62, 3) := by decide +kernel
theorem dX5_sheetTold_46 : decode cX5_sheetTold 46 = .ok (.iconst 2, 1) := by decide +kernel
theorem dX5_sheetTold_47 : decode cX5_sheetTold 47 = .ok (.iaload, 1) := by decide +kernel
theorem dX5_sheetTold_48 : decode cX5_sheetTold 48 = .ok (.invokestatic 171, 3) := by decide +kernel
theorem dX5_sheetTold_51 : decode cX5_sheetTold 51 = .ok (.ireturn, 1) := by decide +kernel
set_option maxRecDepth 20000 in
theorem ggX5_sheet_X5_isHut : GoodIn wsX5_sheet wsX5_isHut := goodIn_r _ [6, 7, 8, 9, 5, 10, 40, 41, 42, 43, 44, 45, 46, 47, 48, 49, 50, 51, 52, 53, 54, 55] (by decide +kernel) (by decide +kernel)
set_option maxRecDepth 20000 in
theorem gX5_sheet_X5_isHut : GoodIn wsX5_sheet (wsV RX5 162 RX5 yX5_isHut wsX5_isHut) := goodIn_app (goodIn_of _ (by decide +kernel)) ggX5_sheet_X5_isHut
set_option maxRecDepth 20000 in
theorem ggX5_sheet_X5_isIn : GoodIn wsX5_sheet wsX5_isIn := goodIn_r _ [10] (by decide +kernel) (by decide +kernel)
set_option maxRecDepth 20000 in
theorem gX5_sheet_X5_isIn : GoodIn wsX5_sheet (va_wsS RX5 55 yX5_isIn wsX5_isIn) := goodIn_app (goodIn_of _ (by decide +kernel)) ggX5_sheet_X5_isIn
set_option maxRecDepth 20000 in
theorem ggX5_sheet_X5_sheetTold : GoodIn wsX5_sheet wsX5_sheetTold := goodIn_r _ [14, 15, 16, 17, 5, 18, 19, 20, 21, 22, 23, 24, 25, 26, 27, 28, 29, 30, 31, 32, 33, 34, 35, 40, 41, 42, 43, 44, 45, 46, 47, 48, 49, 50, 51, 52, 53, 54, 55] (by decide +kernel) (by decide +kernel)
set_option maxRecDepth 20000 in
theorem gX5_sheet_X5_sheetTold : GoodIn wsX5_sheet (wsV RX5 176 RX5 yX5_sheetTold wsX5_sheetTold) := goodIn_app (goodIn_of _ (by decide +kernel)) ggX5_sheet_X5_sheetTold
set_option maxRecDepth 20000 in
theorem ggX5_sheet_X5_no : GoodIn wsX5_sheet wsX5_no := goodIn_r _ [39, 1, 40, 41, 42, 43, 44, 45, 46, 47, 48, 49, 50, 51, 52, 53, 54, 55] (by decide +kernel) (by decide +kernel)
set_option maxRecDepth 20000 in
theorem gX5_sheet_X5_no : GoodIn wsX5_sheet (wsV RX5 158 RX5 yX5_no wsX5_no) := goodIn_app (goodIn_of _ (by decide +kernel)) ggX5_sheet_X5_no
theorem dX5_sheet_0 : decode cX5_sheet 0 = .ok (.aload_n 0, 1) := by decide +kernel
theorem dX5_sheet_1 : decode cX5_sheet 1 = .ok (.iconst 0, 1) := by decide +kernel
theorem dX5_sheet_2 : decode cX5_sheet 2 = .ok (.putfield 48, 3) := by decide +kernel
theorem dX5_sheet_5 : decode cX5_sheet 5 = .ok (.aload_n 0, 1) := by decide +kernel
theorem dX5_sheet_6 : decode cX5_sheet 6 = .ok (.iload_n 1, 1) := by decide +kernel
theorem dX5_sheet_7 : decode cX5_sheet 7 = .ok (.invokevirtual 162, 3) := by decide +kernel
theorem dX5_sheet_10 : decode cX5_sheet 10 = .ok (.ifCond .eq 30, 3) := by decide +kernel
theorem dX5_sheet_13 : decode cX5_sheet 13 = .ok (.aload_n 0, 1) := by decide +kernel
theorem dX5_sheet_14 : decode cX5_sheet 14 = .ok (.iload_n 2, 1) := by decide +kernel
theorem dX5_sheet_15 : decode cX5_sheet 15 = .ok (.invokevirtual 162, 3) := by decide +kernel
theorem dX5_sheet_18 : decode cX5_sheet 18 = .ok (.ifCond .eq 22, 3) := by decide +kernel
theorem dX5_sheet_21 : decode cX5_sheet 21 = .ok (.iload_n 3, 1) := by decide +kernel
theorem dX5_sheet_22 : decode cX5_sheet 22 = .ok (.iconst 0, 1) := by decide +kernel
theorem dX5_sheet_23 : decode cX5_sheet 23 = .ok (.iconst 2, 1) := by decide +kernel
theorem dX5_sheet_24 : decode cX5_sheet 24 = .ok (.invokestatic 55, 3) := by decide +kernel
theorem dX5_sheet_27 : decode cX5_sheet 27 = .ok (.ifCond .eq 13, 3) := by decide +kernel
theorem dX5_sheet_30 : decode cX5_sheet 30 = .ok (.aload_n 0, 1) := by decide +kernel
theorem dX5_sheet_31 : decode cX5_sheet 31 = .ok (.iload_n 1, 1) := by decide +kernel
theorem dX5_sheet_32 : decode cX5_sheet 32 = .ok (.iload_n 2, 1) := by decide +kernel
theorem dX5_sheet_33 : decode cX5_sheet 33 = .ok (.iload_n 3, 1) := by decide +kernel
theorem dX5_sheet_34 : decode cX5_sheet 34 = .ok (.invokevirtual 176, 3) := by decide +kernel
theorem dX5_sheet_37 : decode cX5_sheet 37 = .ok (.goto 8, 3) := by decide +kernel
theorem dX5_sheet_40 : decode cX5_sheet 40 = .ok (.aload_n 0, 1) := by decide +kernel
theorem dX5_sheet_41 : decode cX5_sheet 41 = .ok (.iconst 1, 1) := by decide +kernel
theorem dX5_sheet_42 : decode cX5_sheet 42 = .ok (.invokevirtual 158, 3) := by decide +kernel
theorem dX5_sheet_45 : decode cX5_sheet 45 = .ok (.ireturn, 1) := by decide +kernel
theorem dX5_wayTold_0 : decode cX5_wayTold 0 = .ok (.aload_n 0, 1) := by decide +kernel
theorem dX5_wayTold_1 : decode cX5_wayTold 1 = .ok (.getfield 30, 3) := by decide +kernel
theorem dX5_wayTold_4 : decode cX5_wayTold 4 = .ok (.iload_n 1, 1) := by decide +kernel
theorem dX5_wayTold_5 : decode cX5_wayTold 5 = .ok (.iaload, 1) := by decide +kernel
theorem dX5_wayTold_6 : decode cX5_wayTold 6 = .ok (.iconst (-1), 1) := by decide +kernel
theorem dX5_wayTold_7 : decode cX5_wayTold 7 = .ok (.if_icmp .ne 7, 3) := by decide +kernel
theorem dX5_wayTold_10 : decode cX5_wayTold 10 = .ok (.iconst (-1), 1) := by decide +kernel
theorem dX5_wayTold_11 : decode cX5_wayTold 11 = .ok (.goto 36, 3) := by decide +kernel
theorem dX5_wayTold_14 : decode cX5_wayTold 14 = .ok (.iload_n 2, 1) := by decide +kernel
theorem dX5_wayTold_15 : decode cX5_wayTold 15 = .ok (.ifCond .ne 12, 3) := by decide +kernel
theorem dX5_wayTold_18 : decode cX5_wayTold 18 = .ok (.aload_n 0, 1) := by decide +kernel
theorem dX5_wayTold_19 : decode cX5_wayTold 19 = .ok (.getfield 30, 3) := by decide +kernel
theorem dX5_wayTold_22 : decode cX5_wayTold 22 = .ok (.iload_n 1, 1) := by decide +kernel
theorem dX5_wayTold_23 : decode cX5_wayTold 23 = .ok (.iaload, 1) := by decide +kernel
theorem dX5_wayTold_24 : decode cX5_wayTold 24 = .ok (.goto 23, 3) := by decide +kernel
theorem dX5_wayTold_27 : decode cX5_wayTold 27 = .ok (.iload_n 2, 1) := by decide +kernel
theorem dX5_wayTold_28 : decode cX5_wayTold 28 = .ok (.iconst 1, 1) := by decide +kernel
theorem dX5_wayTold_29 : decode cX5_wayTold 29 = .ok (.if_icmp .ne 12, 3) := by decide +kernel
theorem dX5_wayTold_32 : decode cX5_wayTold 32 = .ok (.aload_n 0, 1) := by decide +kernel
theorem dX5_wayTold_33 : decode cX5_wayTold 33 = .ok (.getfield 33, 3) := by decide +kernel
theorem dX5_wayTold_36 : decode cX5_wayTold 36 = .ok (.iload_n 1, 1) := by decide +kernel
theorem dX5_wayTold_37 : decode cX5_wayTold 37 = .ok (.iaload, 1) := by decide +kernel
theorem dX5_wayTold_38 : decode cX5_wayTold 38 = .ok (.goto 9, 3) := by decide +kernel
theorem dX5_wayTold_41 : decode cX5_wayTold 41 = .ok (.aload_n 0, 1) := by decide +kernel
theorem dX5_wayTold_42 : decode cX5_wayTold 42 = .ok (.getfield 39, 3) := by decide +kernel
theorem dX5_wayTold_45 : decode cX5_wayTold 45 = .ok (.iload_n 1, 1) := by decide +kernel
theorem dX5_wayTold_46 : decode cX5_wayTold 46 = .ok (.iaload, 1) := by decide +kernel
theorem dX5_wayTold_47 : decode cX5_wayTold 47 = .ok (.ireturn, 1) := by decide +kernel
set_option maxRecDepth 20000 in
theorem ggX5_way_X5_isHut : GoodIn wsX5_way wsX5_isHut := goodIn_r _ [6, 7, 8, 9, 5, 10, 75, 76, 77, 78, 79, 80, 81, 82, 83, 84, 85, 86, 87, 88, 89, 90] (by decide +kernel) (by decide +kernel)
set_option maxRecDepth 20000 in
theorem gX5_way_X5_isHut : GoodIn wsX5_way (wsV RX5 162 RX5 yX5_isHut wsX5_isHut) := goodIn_app (goodIn_of _ (by decide +kernel)) ggX5_way_X5_isHut
set_option maxRecDepth 20000 in
theorem ggX5_way_X5_isIn : GoodIn wsX5_way wsX5_isIn := goodIn_r _ [10] (by decide +kernel) (by decide +kernel)
set_option maxRecDepth 20000 in
theorem gX5_way_X5_isIn : GoodIn wsX5_way (va_wsS RX5 55 yX5_isIn wsX5_isIn) := goodIn_app (goodIn_of _ (by decide +kernel)) ggX5_way_X5_isIn
set_option maxRecDepth 20000 in
theorem ggX5_way_X5_no : GoodIn wsX5_way wsX5_no := goodIn_r _ [14, 1, 75, 76, 77, 78, 79, 80, 81, 82, 83, 84, 85, 86, 87, 88, 89, 90] (by decide +kernel) (by decide +kernel)
set_option maxRecDepth 20000 in
theorem gX5_way_X5_no : GoodIn wsX5_way (wsV RX5 158 RX5 yX5_no wsX5_no) := goodIn_app (goodIn_of _ (by decide +kernel)) ggX5_way_X5_no
set_option maxRecDepth 20000 in
theorem ggX5_way_X5_lookBy : GoodIn wsX5_way wsX5_lookBy := goodIn_r _ [18, 19, 20, 21, 5, 22, 23, 24, 25, 26, 27, 28, 29, 30, 31, 32, 33, 34, 35, 36, 37, 38, 39, 40, 41, 42, 43, 44, 45, 46, 47, 48, 49, 50, 51, 52, 53, 54, 55, 7, 56, 57, 58, 59, 60, 61, 62, 63, 64, 65, 66, 67, 68, 69, 70, 75, 76, 77, 78, 79, 80, 81, 82, 83, 84, 85, 86, 87, 88, 89, 90] (by decide +kernel) (by decide +kernel)
set_option maxRecDepth 20000 in
theorem gX5_way_X5_lookBy : GoodIn wsX5_way (wsV RX5 143 RX5 yX5_lookBy wsX5_lookBy) := goodIn_app (goodIn_of _ (by decide +kernel)) ggX5_way_X5_lookBy
set_option maxRecDepth 20000 in
theorem ggX5_way_X5_wayTold : GoodIn wsX5_way wsX5_wayTold := goodIn_r _ [74, 55, 56, 58, 75, 76, 77, 78, 79, 80, 81, 82, 83, 84, 85, 86, 87, 88, 89, 90] (by decide +kernel) (by decide +kernel)
set_option maxRecDepth 20000 in
theorem gX5_way_X5_wayTold : GoodIn wsX5_way (wsV RX5 180 RX5 yX5_wayTold wsX5_wayTold) := goodIn_app (goodIn_of _ (by decide +kernel)) ggX5_way_X5_wayTold
theorem dX5_way_0 : decode cX5_way 0 = .ok (.aload_n 0, 1) := by decide +kernel
theorem dX5_way_1 : decode cX5_way 1 = .ok (.iconst 0, 1) := by decide +kernel
theorem dX5_way_2 : decode cX5_way 2 = .ok (.putfield 48, 3) := by decide +kernel
theorem dX5_way_5 : decode cX5_way 5 = .ok (.aload_n 0, 1) := by decide +kernel
theorem dX5_way_6 : decode cX5_way 6 = .ok (.iload_n 1, 1) := by decide +kernel
theorem dX5_way_7 : decode cX5_way 7 = .ok (.invokevirtual 162, 3) := by decide +kernel
theorem dX5_way_10 : decode cX5_way 10 = .ok (.ifCond .eq 20, 3) := by decide +kernel
theorem dX5_way_13 : decode cX5_way 13 = .ok (.aload_n 0, 1) := by decide +kernel
theorem dX5_way_14 : decode cX5_way 14 = .ok (.iload_n 2, 1) := by decide +kernel
theorem dX5_way_15 : decode cX5_way 15 = .ok (.invokevirtual 162, 3) := by decide +kernel
theorem dX5_way_18 : decode cX5_way 18 = .ok (.ifCond .eq 12, 3) := by decide +kernel
theorem dX5_way_21 : decode cX5_way 21 = .ok (.iload_n 3, 1) := by decide +kernel
theorem dX5_way_22 : decode cX5_way 22 = .ok (.iconst 0, 1) := by decide +kernel
theorem dX5_way_23 : decode cX5_way 23 = .ok (.iconst 2, 1) := by decide +kernel
theorem dX5_way_24 : decode cX5_way 24 = .ok (.invokestatic 55, 3) := by decide +kernel
theorem dX5_way_27 : decode cX5_way 27 = .ok (.ifCond .ne 9, 3) := by decide +kernel
theorem dX5_way_30 : decode cX5_way 30 = .ok (.aload_n 0, 1) := by decide +kernel
theorem dX5_way_31 : decode cX5_way 31 = .ok (.iconst 1, 1) := by decide +kernel
theorem dX5_way_32 : decode cX5_way 32 = .ok (.invokevirtual 158, 3) := by decide +kernel
theorem dX5_way_35 : decode cX5_way 35 = .ok (.ireturn, 1) := by decide +kernel
theorem dX5_way_36 : decode cX5_way 36 = .ok (.aload_n 0, 1) := by decide +kernel
theorem dX5_way_37 : decode cX5_way 37 = .ok (.iload_n 1, 1) := by decide +kernel
theorem dX5_way_38 : decode cX5_way 38 = .ok (.invokevirtual 143, 3) := by decide +kernel
theorem dX5_way_41 : decode cX5_way 41 = .ok (.aload_n 0, 1) := by decide +kernel
theorem dX5_way_42 : decode cX5_way 42 = .ok (.iload_n 2, 1) := by decide +kernel
theorem dX5_way_43 : decode cX5_way 43 = .ok (.iload_n 3, 1) := by decide +kernel
theorem dX5_way_44 : decode cX5_way 44 = .ok (.invokevirtual 180, 3) := by decide +kernel
theorem dX5_way_47 : decode cX5_way 47 = .ok (.ireturn, 1) := by decide +kernel
set_option maxRecDepth 20000 in
theorem ggX5_post_X5_isHut : GoodIn wsX5_post wsX5_isHut := goodIn_r _ [6, 7, 8, 9, 5, 10, 89, 90, 91, 92, 93, 94, 95, 96, 97, 98, 99, 100, 101, 102, 103, 104] (by decide +kernel) (by decide +kernel)
set_option maxRecDepth 20000 in
theorem gX5_post_X5_isHut : GoodIn wsX5_post (wsV RX5 162 RX5 yX5_isHut wsX5_isHut) := goodIn_app (goodIn_of _ (by decide +kernel)) ggX5_post_X5_isHut
set_option maxRecDepth 20000 in
theorem ggX5_post_X5_no : GoodIn wsX5_post wsX5_no := goodIn_r _ [14, 1, 89, 90, 91, 92, 93, 94, 95, 96, 97, 98, 99, 100, 101, 102, 103, 104] (by decide +kernel) (by decide +kernel)
set_option maxRecDepth 20000 in
theorem gX5_post_X5_no : GoodIn wsX5_post (wsV RX5 158 RX5 yX5_no wsX5_no) := goodIn_app (goodIn_of _ (by decide +kernel)) ggX5_post_X5_no
set_option maxRecDepth 20000 in
theorem ggX5_post_X5_lookAll : GoodIn wsX5_post wsX5_lookAll := goodIn_r _ [18, 7, 19, 20, 21, 22, 23, 24, 5, 25, 26, 27, 28, 29, 30, 31, 32, 33, 34, 35, 36, 37, 38, 39, 40, 41, 42, 43, 44, 45, 46, 47, 48, 49, 50, 51, 52, 53, 54, 55, 56, 57, 58, 59, 60, 61, 62, 63, 64, 65, 66, 67, 68, 69, 70, 71, 72, 73, 74, 75, 89, 90, 91, 92, 93, 94, 95, 96, 97, 98, 99, 100, 101, 102, 103, 104] (by decide +kernel) (by decide +kernel)
set_option maxRecDepth 20000 in
theorem gX5_post_X5_lookAll : GoodIn wsX5_post (wsV RX5 152 RX5 yX5_lookAll wsX5_lookAll) := goodIn_app (goodIn_of _ (by decide +kernel)) ggX5_post_X5_lookAll
set_option maxRecDepth 20000 in
theorem ggX5_post_X5_letter : GoodIn wsX5_post wsX5_letter := goodIn_r _ [79, 19, 80, 81, 82, 5, 83, 31, 84, 51, 52, 53, 85, 86, 87, 88, 32, 33, 89, 90, 91, 92, 93, 94, 95, 96, 97, 98, 99, 100, 101, 102, 103, 104] (by decide +kernel) (by decide +kernel)
set_option maxRecDepth 20000 in
theorem gX5_post_X5_letter : GoodIn wsX5_post (wsV RX5 155 RX5 yX5_letter wsX5_letter) := goodIn_app (goodIn_of _ (by decide +kernel)) ggX5_post_X5_letter
theorem dX5_post_0 : decode cX5_post 0 = .ok (.aload_n 0, 1) := by decide +kernel
theorem dX5_post_1 : decode cX5_post 1 = .ok (.iconst 0, 1) := by decide +kernel
theorem dX5_post_2 : decode cX5_post 2 = .ok (.putfield 48, 3) := by decide +kernel
theorem dX5_post_5 : decode cX5_post 5 = .ok (.aload_n 0, 1) := by decide +kernel
theorem dX5_post_6 : decode cX5_post 6 = .ok (.iload_n 1, 1) := by decide +kernel
theorem dX5_post_7 : decode cX5_post 7 = .ok (.invokevirtual 162, 3) := by decide +kernel
theorem dX5_post_10 : decode cX5_post 10 = .ok (.ifCond .eq 11, 3) := by decide +kernel
theorem dX5_post_13 : decode cX5_post 13 = .ok (.aload_n 0, 1) := by decide +kernel
theorem dX5_post_14 : decode cX5_post 14 = .ok (.iload_n 2, 1) := by decide +kernel
theorem dX5_post_15 : decode cX5_post 15 = .ok (.invokevirtual 162, 3) := by decide +kernel
theorem dX5_post_18 : decode cX5_post 18 = .ok (.ifCond .ne 9, 3) := by decide +kernel
theorem dX5_post_21 : decode cX5_post 21 = .ok (.aload_n 0, 1) := by decide +kernel
theorem dX5_post_22 : decode cX5_post 22 = .ok (.iconst 1, 1) := by decide +kernel
theorem dX5_post_23 : decode cX5_post 23 = .ok (.invokevirtual 158, 3) := by decide +kernel
theorem dX5_post_26 : decode cX5_post 26 = .ok (.ireturn, 1) := by decide +kernel
theorem dX5_post_27 : decode cX5_post 27 = .ok (.aload_n 0, 1) := by decide +kernel
theorem dX5_post_28 : decode cX5_post 28 = .ok (.invokevirtual 152, 3) := by decide +kernel
theorem dX5_post_31 : decode cX5_post 31 = .ok (.aload_n 0, 1) := by decide +kernel
theorem dX5_post_32 : decode cX5_post 32 = .ok (.iload_n 1, 1) := by decide +kernel
theorem dX5_post_33 : decode cX5_post 33 = .ok (.iload_n 2, 1) := by decide +kernel
theorem dX5_post_34 : decode cX5_post 34 = .ok (.invokevirtual 155, 3) := by decide +kernel
theorem dX5_post_37 : decode cX5_post 37 = .ok (.ireturn, 1) := by decide +kernel
set_option maxRecDepth 20000 in
theorem ggX5_truth_X5_isHut : GoodIn wsX5_truth wsX5_isHut := goodIn_r _ [8, 9, 10, 11, 7, 12, 52, 53, 54, 55, 56, 57, 58, 59, 60, 61, 62, 63, 64, 65, 66, 67] (by decide +kernel) (by decide +kernel)
set_option maxRecDepth 20000 in
theorem gX5_truth_X5_isHut : GoodIn wsX5_truth (wsV RX5 162 RX5 yX5_isHut wsX5_isHut) := goodIn_app (goodIn_of _ (by decide +kernel)) ggX5_truth_X5_isHut
set_option maxRecDepth 20000 in
theorem ggX5_truth_X5_no : GoodIn wsX5_truth wsX5_no := goodIn_r _ [16, 1, 52, 53, 54, 55, 56, 57, 58, 59, 60, 61, 62, 63, 64, 65, 66, 67] (by decide +kernel) (by decide +kernel)
set_option maxRecDepth 20000 in
theorem gX5_truth_X5_no : GoodIn wsX5_truth (wsV RX5 158 RX5 yX5_no wsX5_no) := goodIn_app (goodIn_of _ (by decide +kernel)) ggX5_truth_X5_no
set_option maxRecDepth 20000 in
theorem ggX5_truth_X5_lengthsNow : GoodIn wsX5_truth wsX5_lengthsNow := goodIn_r _ [20, 21, 22, 23, 24, 25, 26, 27, 7, 28, 29, 30, 31, 52, 53, 54, 55, 56, 57, 58, 59, 60, 61, 62, 63, 64, 65, 66, 67] (by decide +kernel) (by decide +kernel)
set_option maxRecDepth 20000 in
theorem gX5_truth_X5_lengthsNow : GoodIn wsX5_truth (wsV RX5 149 RX5 yX5_lengthsNow wsX5_lengthsNow) := goodIn_app (goodIn_of _ (by decide +kernel)) ggX5_truth_X5_lengthsNow
set_option maxRecDepth 20000 in
theorem ggX5_truth_X5_look : GoodIn wsX5_truth wsX5_look := goodIn_r _ [35, 36, 3, 9, 37, 38, 39, 40, 41, 42, 7, 43, 44, 45, 46, 47, 48, 49, 50, 51, 52, 53, 54, 55, 56, 57, 58, 59, 60, 61, 62, 63, 64, 65, 66, 67] (by decide +kernel) (by decide +kernel)
set_option maxRecDepth 20000 in
theorem gX5_truth_X5_look : GoodIn wsX5_truth (wsV RX5 139 RX5 yX5_look wsX5_look) := goodIn_app (goodIn_of _ (by decide +kernel)) ggX5_truth_X5_look
theorem dX5_truth_0 : decode cX5_truth 0 = .ok (.aload_n 0, 1) := by decide +kernel
theorem dX5_truth_1 : decode cX5_truth 1 = .ok (.iconst 0, 1) := by decide +kernel
theorem dX5_truth_2 : decode cX5_truth 2 = .ok (.putfield 48, 3) := by decide +kernel
theorem dX5_truth_5 : decode cX5_truth 5 = .ok (.aload_n 0, 1) := by decide +kernel
theorem dX5_truth_6 : decode cX5_truth 6 = .ok (.iload_n 1, 1) := by decide +kernel
theorem dX5_truth_7 : decode cX5_truth 7 = .ok (.invokevirtual 162, 3) := by decide +kernel
theorem dX5_truth_10 : decode cX5_truth 10 = .ok (.ifCond .eq 11, 3) := by decide +kernel
theorem dX5_truth_13 : decode cX5_truth 13 = .ok (.aload_n 0, 1) := by decide +kernel
theorem dX5_truth_14 : decode cX5_truth 14 = .ok (.iload_n 2, 1) := by decide +kernel
theorem dX5_truth_15 : decode cX5_truth 15 = .ok (.invokevirtual 162, 3) := by decide +kernel
theorem dX5_truth_18 : decode cX5_truth 18 = .ok (.ifCond .ne 9, 3) := by decide +kernel
theorem dX5_truth_21 : decode cX5_truth 21 = .ok (.aload_n 0, 1) := by decide +kernel
theorem dX5_truth_22 : decode cX5_truth 22 = .ok (.iconst 1, 1) := by decide +kernel
theorem dX5_truth_23 : decode cX5_truth 23 = .ok (.invokevirtual 158, 3) := by decide +kernel
theorem dX5_truth_26 : decode cX5_truth 26 = .ok (.ireturn, 1) := by decide +kernel
theorem dX5_truth_27 : decode cX5_truth 27 = .ok (.aload_n 0, 1) := by decide +kernel
theorem dX5_truth_28 : decode cX5_truth 28 = .ok (.iload_n 1, 1) := by decide +kernel
theorem dX5_truth_29 : decode cX5_truth 29 = .ok (.aload_n 0, 1) := by decide +kernel
theorem dX5_truth_30 : decode cX5_truth 30 = .ok (.aload_n 0, 1) := by decide +kernel
theorem dX5_truth_31 : decode cX5_truth 31 = .ok (.getfield 73, 3) := by decide +kernel
theorem dX5_truth_34 : decode cX5_truth 34 = .ok (.invokevirtual 149, 3) := by decide +kernel
theorem dX5_truth_37 : decode cX5_truth 37 = .ok (.invokevirtual 139, 3) := by decide +kernel
theorem dX5_truth_40 : decode cX5_truth 40 = .ok (.aload_n 0, 1) := by decide +kernel
theorem dX5_truth_41 : decode cX5_truth 41 = .ok (.getfield 30, 3) := by decide +kernel
theorem dX5_truth_44 : decode cX5_truth 44 = .ok (.iload_n 2, 1) := by decide +kernel
theorem dX5_truth_45 : decode cX5_truth 45 = .ok (.iaload, 1) := by decide +kernel
theorem dX5_truth_46 : decode cX5_truth 46 = .ok (.ireturn, 1) := by decide +kernel
set_option maxRecDepth 20000 in
theorem ggX5_takers_X5_isTaken : GoodIn wsX5_takers wsX5_isTaken := goodIn_r _ [6, 7, 8, 9, 10, 11, 5, 12, 13, 14, 15, 16, 17, 18, 19, 20, 21, 22, 23, 24, 25, 26, 27, 28, 29, 30, 31, 32, 33, 34, 35, 36, 37, 38, 39, 40] (by decide +kernel) (by decide +kernel)
set_option maxRecDepth 20000 in
theorem gX5_takers_X5_isTaken : GoodIn wsX5_takers (wsV RX5 117 RX5 yX5_isTaken wsX5_isTaken) := goodIn_app (goodIn_of _ (by decide +kernel)) ggX5_takers_X5_isTaken
theorem dX5_takers_0 : decode cX5_takers 0 = .ok (.iconst 0, 1) := by decide +kernel
theorem dX5_takers_1 : decode cX5_takers 1 = .ok (.istore_n 2, 1) := by decide +kernel
theorem dX5_takers_2 : decode cX5_takers 2 = .ok (.iconst 0, 1) := by decide +kernel
theorem dX5_takers_3 : decode cX5_takers 3 = .ok (.istore_n 3, 1) := by decide +kernel
theorem dX5_takers_4 : decode cX5_takers 4 = .ok (.iload_n 3, 1) := by decide +kernel
theorem dX5_takers_5 : decode cX5_takers 5 = .ok (.aload_n 0, 1) := by decide +kernel
theorem dX5_takers_6 : decode cX5_takers 6 = .ok (.getfield 52, 3) := by decide +kernel
theorem dX5_takers_9 : decode cX5_takers 9 = .ok (.if_icmp .ge 26, 3) := by decide +kernel
theorem dX5_takers_12 : decode cX5_takers 12 = .ok (.iload_n 2, 1) := by decide +kernel
theorem dX5_takers_13 : decode cX5_takers 13 = .ok (.aload_n 0, 1) := by decide +kernel
theorem dX5_takers_14 : decode cX5_takers 14 = .ok (.iload_n 3, 1) := by decide +kernel
theorem dX5_takers_15 : decode cX5_takers 15 = .ok (.iload_n 1, 1) := by decide +kernel
theorem dX5_takers_16 : decode cX5_takers 16 = .ok (.invokevirtual 117, 3) := by decide +kernel
theorem dX5_takers_19 : decode cX5_takers 19 = .ok (.ifCond .eq 7, 3) := by decide +kernel
theorem dX5_takers_22 : decode cX5_takers 22 = .ok (.iconst 1, 1) := by decide +kernel
theorem dX5_takers_23 : decode cX5_takers 23 = .ok (.goto 4, 3) := by decide +kernel
theorem dX5_takers_26 : decode cX5_takers 26 = .ok (.iconst 0, 1) := by decide +kernel
theorem dX5_takers_27 : decode cX5_takers 27 = .ok (.iadd, 1) := by decide +kernel
theorem dX5_takers_28 : decode cX5_takers 28 = .ok (.istore_n 2, 1) := by decide +kernel
theorem dX5_takers_29 : decode cX5_takers 29 = .ok (.iinc 3 1, 3) := by decide +kernel
theorem dX5_takers_32 : decode cX5_takers 32 = .ok (.goto (-28), 3) := by decide +kernel
theorem dX5_takers_35 : decode cX5_takers 35 = .ok (.iload_n 2, 1) := by decide +kernel
theorem dX5_takers_36 : decode cX5_takers 36 = .ok (.ireturn, 1) := by decide +kernel
set_option maxRecDepth 20000 in
theorem ggX5_passTold_X5_has : GoodIn wsX5_passTold wsX5_has := goodIn_r _ [8] (by decide +kernel) (by decide +kernel)
set_option maxRecDepth 20000 in
theorem gX5_passTold_X5_has : GoodIn wsX5_passTold (va_wsS RX5 76 yX5_has wsX5_has) := goodIn_app (goodIn_of _ (by decide +kernel)) ggX5_passTold_X5_has
set_option maxRecDepth 20000 in
theorem ggX5_passTold_X5_takers : GoodIn wsX5_passTold wsX5_takers := goodIn_r _ [12, 13, 14, 15, 16, 7, 17, 1, 2, 18, 19, 20, 21, 22, 23, 24, 25, 26, 27, 28, 29, 30, 5, 6, 8, 31, 32, 33, 34, 35, 36, 37, 38, 39, 40, 41, 42, 43, 44, 45, 46] (by decide +kernel) (by decide +kernel)
set_option maxRecDepth 20000 in
theorem gX5_passTold_X5_takers : GoodIn wsX5_passTold (wsV RX5 183 RX5 yX5_takers wsX5_takers) := goodIn_app (goodIn_of _ (by decide +kernel)) ggX5_passTold_X5_takers
theorem dX5_passTold_0 : decode cX5_passTold 0 = .ok (.iload_n 2, 1) := by decide +kernel
theorem dX5_passTold_1 : decode cX5_passTold 1 = .ok (.tableswitch 69 0 3 #[31, 38, 45, 52], 31) := by decide +kernel
theorem dX5_passTold_32 : decode cX5_passTold 32 = .ok (.aload_n 0, 1) := by decide +kernel
theorem dX5_passTold_33 : decode cX5_passTold 33 = .ok (.getfield 21, 3) := by decide +kernel
theorem dX5_passTold_36 : decode cX5_passTold 36 = .ok (.iload_n 1, 1) := by decide +kernel
theorem dX5_passTold_37 : decode cX5_passTold 37 = .ok (.iaload, 1) := by decide +kernel
theorem dX5_passTold_38 : decode cX5_passTold 38 = .ok (.ireturn, 1) := by decide +kernel
theorem dX5_passTold_39 : decode cX5_passTold 39 = .ok (.aload_n 0, 1) := by decide +kernel
theorem dX5_passTold_40 : decode cX5_passTold 40 = .ok (.getfield 24, 3) := by decide +kernel
theorem dX5_passTold_43 : decode cX5_passTold 43 = .ok (.iload_n 1, 1) := by decide +kernel
theorem dX5_passTold_44 : decode cX5_passTold 44 = .ok (.iaload, 1) := by decide +kernel
theorem dX5_passTold_45 : decode cX5_passTold 45 = .ok (.ireturn, 1) := by decide +kernel
theorem dX5_passTold_46 : decode cX5_passTold 46 = .ok (.aload_n 0, 1) := by decide +kernel
theorem dX5_passTold_47 : decode cX5_passTold 47 = .ok (.getfield 27, 3) := by decide +kernel
theorem dX5_passTold_50 : decode cX5_passTold 50 = .ok (.iload_n 1, 1) := by decide +kernel
theorem dX5_passTold_51 : decode cX5_passTold 51 = .ok (.iaload, 1) := by decide +kernel
theorem dX5_passTold_52 : decode cX5_passTold 52 = .ok (.ireturn, 1) := by decide +kernel
theorem dX5_passTold_53 : decode cX5_passTold 53 = .ok (.aload_n 0, 1) := by decide +kernel
theorem dX5_passTold_54 : decode cX5_passTold 54 = .ok (.getfield 73, 3) := by decide +kernel
theorem dX5_passTold_57 : decode cX5_passTold 57 = .ok (.iload_n 1, 1) := by decide +kernel
theorem dX5_passTold_58 : decode cX5_passTold 58 = .ok (.invokestatic 76, 3) := by decide +kernel
theorem dX5_passTold_61 : decode cX5_passTold 61 = .ok (.ifCond .eq 7, 3) := by decide +kernel
theorem dX5_passTold_64 : decode cX5_passTold 64 = .ok (.iconst 1, 1) := by decide +kernel
theorem dX5_passTold_65 : decode cX5_passTold 65 = .ok (.goto 4, 3) := by decide +kernel
theorem dX5_passTold_68 : decode cX5_passTold 68 = .ok (.iconst 0, 1) := by decide +kernel
theorem dX5_passTold_69 : decode cX5_passTold 69 = .ok (.ireturn, 1) := by decide +kernel
theorem dX5_passTold_70 : decode cX5_passTold 70 = .ok (.aload_n 0, 1) := by decide +kernel
theorem dX5_passTold_71 : decode cX5_passTold 71 = .ok (.iload_n 1, 1) := by decide +kernel
theorem dX5_passTold_72 : decode cX5_passTold 72 = .ok (.invokevirtual 183, 3) := by decide +kernel
theorem dX5_passTold_75 : decode cX5_passTold 75 = .ok (.ireturn, 1) := by decide +kernel
set_option maxRecDepth 20000 in
theorem ggX5_about_X5_isPass : GoodIn wsX5_about wsX5_isPass := goodIn_r _ [6, 7, 8, 9, 5, 10, 48, 49, 50, 51, 52, 53, 54, 55, 56, 57, 58, 59, 60, 61, 62, 63] (by decide +kernel) (by decide +kernel)
set_option maxRecDepth 20000 in
theorem gX5_about_X5_isPass : GoodIn wsX5_about (wsV RX5 165 RX5 yX5_isPass wsX5_isPass) := goodIn_app (goodIn_of _ (by decide +kernel)) ggX5_about_X5_isPass
set_option maxRecDepth 20000 in
theorem ggX5_about_X5_isIn : GoodIn wsX5_about wsX5_isIn := goodIn_r _ [10] (by decide +kernel) (by decide +kernel)
set_option maxRecDepth 20000 in
theorem gX5_about_X5_isIn : GoodIn wsX5_about (va_wsS RX5 55 yX5_isIn wsX5_isIn) := goodIn_app (goodIn_of _ (by decide +kernel)) ggX5_about_X5_isIn
set_option maxRecDepth 20000 in
theorem ggX5_about_X5_passTold : GoodIn wsX5_about wsX5_passTold := goodIn_r _ [14, 15, 16, 17, 18, 19, 20, 5, 21, 22, 23, 24, 25, 26, 27, 28, 29, 30, 31, 32, 33, 34, 35, 36, 37, 38, 39, 40, 41, 42, 43, 48, 49, 50, 51, 52, 53, 54, 55, 56, 57, 58, 59, 60, 61, 62, 63] (by decide +kernel) (by decide +kernel)
set_option maxRecDepth 20000 in
theorem gX5_about_X5_passTold : GoodIn wsX5_about (wsV RX5 186 RX5 yX5_passTold wsX5_passTold) := goodIn_app (goodIn_of _ (by decide +kernel)) ggX5_about_X5_passTold
set_option maxRecDepth 20000 in
theorem ggX5_about_X5_no : GoodIn wsX5_about wsX5_no := goodIn_r _ [47, 1, 48, 49, 50, 51, 52, 53, 54, 55, 56, 57, 58, 59, 60, 61, 62, 63] (by decide +kernel) (by decide +kernel)
set_option maxRecDepth 20000 in
theorem gX5_about_X5_no : GoodIn wsX5_about (wsV RX5 158 RX5 yX5_no wsX5_no) := goodIn_app (goodIn_of _ (by decide +kernel)) ggX5_about_X5_no
theorem dX5_about_0 : decode cX5_about 0 = .ok (.aload_n 0, 1) := by decide +kernel
theorem dX5_about_1 : decode cX5_about 1 = .ok (.iconst 0, 1) := by decide +kernel
theorem dX5_about_2 : decode cX5_about 2 = .ok (.putfield 48, 3) := by decide +kernel
theorem dX5_about_5 : decode cX5_about 5 = .ok (.aload_n 0, 1) := by decide +kernel
theorem dX5_about_6 : decode cX5_about 6 = .ok (.iload_n 1, 1) := by decide +kernel
theorem dX5_about_7 : decode cX5_about 7 = .ok (.invokevirtual 165, 3) := by decide +kernel
theorem dX5_about_10 : decode cX5_about 10 = .ok (.ifCond .eq 21, 3) := by decide +kernel
theorem dX5_about_13 : decode cX5_about 13 = .ok (.iload_n 2, 1) := by decide +kernel
theorem dX5_about_14 : decode cX5_about 14 = .ok (.iconst 0, 1) := by decide +kernel
theorem dX5_about_15 : decode cX5_about 15 = .ok (.iconst 4, 1) := by decide +kernel
theorem dX5_about_16 : decode cX5_about 16 = .ok (.invokestatic 55, 3) := by decide +kernel
theorem dX5_about_19 : decode cX5_about 19 = .ok (.ifCond .eq 12, 3) := by decide +kernel
theorem dX5_about_22 : decode cX5_about 22 = .ok (.aload_n 0, 1) := by decide +kernel
theorem dX5_about_23 : decode cX5_about 23 = .ok (.iload_n 1, 1) := by decide +kernel
theorem dX5_about_24 : decode cX5_about 24 = .ok (.iload_n 2, 1) := by decide +kernel
theorem dX5_about_25 : decode cX5_about 25 = .ok (.invokevirtual 186, 3) := by decide +kernel
theorem dX5_about_28 : decode cX5_about 28 = .ok (.goto 8, 3) := by decide +kernel
theorem dX5_about_31 : decode cX5_about 31 = .ok (.aload_n 0, 1) := by decide +kernel
theorem dX5_about_32 : decode cX5_about 32 = .ok (.iconst 1, 1) := by decide +kernel
theorem dX5_about_33 : decode cX5_about 33 = .ok (.invokevirtual 158, 3) := by decide +kernel
theorem dX5_about_36 : decode cX5_about 36 = .ok (.ireturn, 1) := by decide +kernel
set_option maxRecDepth 20000 in
theorem ggX5_waysOf_X5_lookBy : GoodIn wsX5_waysOf wsX5_lookBy := goodIn_r _ [7, 8, 9, 10, 6, 11, 12, 13, 14, 15, 16, 17, 18, 19, 20, 21, 22, 23, 24, 25, 26, 27, 28, 29, 30, 31, 32, 33, 34, 35, 36, 37, 38, 39, 40, 41, 42, 43, 2, 1, 44, 45, 46, 47, 48, 49, 50, 51, 52, 53, 54, 55, 56, 57, 58, 59, 60, 61, 62, 63, 64, 65, 66, 67, 68, 69, 70, 71, 72, 73, 74] (by decide +kernel) (by decide +kernel)
set_option maxRecDepth 20000 in
theorem gX5_waysOf_X5_lookBy : GoodIn wsX5_waysOf (wsV RX5 143 RX5 yX5_lookBy wsX5_lookBy) := goodIn_app (goodIn_of _ (by decide +kernel)) ggX5_waysOf_X5_lookBy
theorem dX5_waysOf_0 : decode cX5_waysOf 0 = .ok (.aload_n 0, 1) := by decide +kernel
theorem dX5_waysOf_1 : decode cX5_waysOf 1 = .ok (.iload_n 1, 1) := by decide +kernel
theorem dX5_waysOf_2 : decode cX5_waysOf 2 = .ok (.invokevirtual 143, 3) := by decide +kernel
theorem dX5_waysOf_5 : decode cX5_waysOf 5 = .ok (.iconst 0, 1) := by decide +kernel
theorem dX5_waysOf_6 : decode cX5_waysOf 6 = .ok (.istore_n 2, 1) := by decide +kernel
theorem dX5_waysOf_7 : decode cX5_waysOf 7 = .ok (.iconst 0, 1) := by decide +kernel
theorem dX5_waysOf_8 : decode cX5_waysOf 8 = .ok (.istore_n 3, 1) := by decide +kernel
theorem dX5_waysOf_9 : decode cX5_waysOf 9 = .ok (.iload_n 3, 1) := by decide +kernel
theorem dX5_waysOf_10 : decode cX5_waysOf 10 = .ok (.aload_n 0, 1) := by decide +kernel
theorem dX5_waysOf_11 : decode cX5_waysOf 11 = .ok (.getfield 52, 3) := by decide +kernel
theorem dX5_waysOf_14 : decode cX5_waysOf 14 = .ok (.if_icmp .ge 27, 3) := by decide +kernel
theorem dX5_waysOf_17 : decode cX5_waysOf 17 = .ok (.iload_n 2, 1) := by decide +kernel
theorem dX5_waysOf_18 : decode cX5_waysOf 18 = .ok (.aload_n 0, 1) := by decide +kernel
theorem dX5_waysOf_19 : decode cX5_waysOf 19 = .ok (.getfield 30, 3) := by decide +kernel
theorem dX5_waysOf_22 : decode cX5_waysOf 22 = .ok (.iload_n 3, 1) := by decide +kernel
theorem dX5_waysOf_23 : decode cX5_waysOf 23 = .ok (.iaload, 1) := by decide +kernel
theorem dX5_waysOf_24 : decode cX5_waysOf 24 = .ok (.iconst (-1), 1) := by decide +kernel
theorem dX5_waysOf_25 : decode cX5_waysOf 25 = .ok (.if_icmp .eq 7, 3) := by decide +kernel
theorem dX5_waysOf_28 : decode cX5_waysOf 28 = .ok (.iconst 1, 1) := by decide +kernel
theorem dX5_waysOf_29 : decode cX5_waysOf 29 = .ok (.goto 4, 3) := by decide +kernel
theorem dX5_waysOf_32 : decode cX5_waysOf 32 = .ok (.iconst 0, 1) := by decide +kernel
theorem dX5_waysOf_33 : decode cX5_waysOf 33 = .ok (.iadd, 1) := by decide +kernel
theorem dX5_waysOf_34 : decode cX5_waysOf 34 = .ok (.istore_n 2, 1) := by decide +kernel
theorem dX5_waysOf_35 : decode cX5_waysOf 35 = .ok (.iinc 3 1, 3) := by decide +kernel
theorem dX5_waysOf_38 : decode cX5_waysOf 38 = .ok (.goto (-29), 3) := by decide +kernel
theorem dX5_waysOf_41 : decode cX5_waysOf 41 = .ok (.iload_n 2, 1) := by decide +kernel
theorem dX5_waysOf_42 : decode cX5_waysOf 42 = .ok (.ireturn, 1) := by decide +kernel
set_option maxRecDepth 20000 in
theorem ggX5_lettersOf_X5_lookAll : GoodIn wsX5_lettersOf wsX5_lookAll := goodIn_r _ [6, 1, 7, 8, 9, 10, 11, 12, 5, 13, 14, 15, 16, 17, 18, 19, 20, 21, 22, 23, 24, 25, 26, 27, 28, 29, 30, 31, 32, 33, 34, 35, 36, 37, 38, 39, 40, 41, 42, 43, 44, 45, 46, 47, 48, 49, 50, 51, 52, 53, 54, 55, 56, 57, 58, 59, 60, 61, 62, 63, 77, 78, 79, 80, 81, 82, 83, 84, 85, 86, 87, 88, 89, 90, 91, 92] (by decide +kernel) (by decide +kernel)
set_option maxRecDepth 20000 in
theorem gX5_lettersOf_X5_lookAll : GoodIn wsX5_lettersOf (wsV RX5 152 RX5 yX5_lookAll wsX5_lookAll) := goodIn_app (goodIn_of _ (by decide +kernel)) ggX5_lettersOf_X5_lookAll
set_option maxRecDepth 20000 in
theorem ggX5_lettersOf_X5_letter : GoodIn wsX5_lettersOf wsX5_letter := goodIn_r _ [67, 7, 68, 69, 70, 5, 71, 19, 72, 39, 40, 41, 73, 74, 75, 76, 20, 21, 77, 78, 79, 80, 81, 82, 83, 84, 85, 86, 87, 88, 89, 90, 91, 92] (by decide +kernel) (by decide +kernel)
set_option maxRecDepth 20000 in
theorem gX5_lettersOf_X5_letter : GoodIn wsX5_lettersOf (wsV RX5 155 RX5 yX5_letter wsX5_letter) := goodIn_app (goodIn_of _ (by decide +kernel)) ggX5_lettersOf_X5_letter
theorem dX5_lettersOf_0 : decode cX5_lettersOf 0 = .ok (.aload_n 0, 1) := by decide +kernel
theorem dX5_lettersOf_1 : decode cX5_lettersOf 1 = .ok (.invokevirtual 152, 3) := by decide +kernel
theorem dX5_lettersOf_4 : decode cX5_lettersOf 4 = .ok (.iconst 0, 1) := by decide +kernel
theorem dX5_lettersOf_5 : decode cX5_lettersOf 5 = .ok (.istore_n 2, 1) := by decide +kernel
theorem dX5_lettersOf_6 : decode cX5_lettersOf 6 = .ok (.iconst 0, 1) := by decide +kernel
theorem dX5_lettersOf_7 : decode cX5_lettersOf 7 = .ok (.istore_n 3, 1) := by decide +kernel
theorem dX5_lettersOf_8 : decode cX5_lettersOf 8 = .ok (.iload_n 3, 1) := by decide +kernel
theorem dX5_lettersOf_9 : decode cX5_lettersOf 9 = .ok (.aload_n 0, 1) := by decide +kernel
theorem dX5_lettersOf_10 : decode cX5_lettersOf 10 = .ok (.getfield 52, 3) := by decide +kernel
theorem dX5_lettersOf_13 : decode cX5_lettersOf 13 = .ok (.if_icmp .ge 27, 3) := by decide +kernel
theorem dX5_lettersOf_16 : decode cX5_lettersOf 16 = .ok (.iload_n 2, 1) := by decide +kernel
theorem dX5_lettersOf_17 : decode cX5_lettersOf 17 = .ok (.aload_n 0, 1) := by decide +kernel
theorem dX5_lettersOf_18 : decode cX5_lettersOf 18 = .ok (.iload_n 1, 1) := by decide +kernel
theorem dX5_lettersOf_19 : decode cX5_lettersOf 19 = .ok (.iload_n 3, 1) := by decide +kernel
theorem dX5_lettersOf_20 : decode cX5_lettersOf 20 = .ok (.invokevirtual 155, 3) := by decide +kernel
theorem dX5_lettersOf_23 : decode cX5_lettersOf 23 = .ok (.iconst (-1), 1) := by decide +kernel
theorem dX5_lettersOf_24 : decode cX5_lettersOf 24 = .ok (.if_icmp .eq 7, 3) := by decide +kernel
theorem dX5_lettersOf_27 : decode cX5_lettersOf 27 = .ok (.iconst 1, 1) := by decide +kernel
theorem dX5_lettersOf_28 : decode cX5_lettersOf 28 = .ok (.goto 4, 3) := by decide +kernel
theorem dX5_lettersOf_31 : decode cX5_lettersOf 31 = .ok (.iconst 0, 1) := by decide +kernel
theorem dX5_lettersOf_32 : decode cX5_lettersOf 32 = .ok (.iadd, 1) := by decide +kernel
theorem dX5_lettersOf_33 : decode cX5_lettersOf 33 = .ok (.istore_n 2, 1) := by decide +kernel
theorem dX5_lettersOf_34 : decode cX5_lettersOf 34 = .ok (.iinc 3 1, 3) := by decide +kernel
theorem dX5_lettersOf_37 : decode cX5_lettersOf 37 = .ok (.goto (-29), 3) := by decide +kernel
theorem dX5_lettersOf_40 : decode cX5_lettersOf 40 = .ok (.iload_n 2, 1) := by decide +kernel
theorem dX5_lettersOf_41 : decode cX5_lettersOf 41 = .ok (.ireturn, 1) := by decide +kernel
set_option maxRecDepth 20000 in
theorem ggX5_hutTold_X5_sheetsOf : GoodIn wsX5_hutTold wsX5_sheetsOf := goodIn_r _ [7, 8, 9, 10, 11, 6, 12, 13, 14, 15, 16, 17, 91, 92, 93, 94, 95, 96, 97, 98, 99, 100, 101, 102, 103, 104, 105, 106] (by decide +kernel) (by decide +kernel)
set_option maxRecDepth 20000 in
theorem gX5_hutTold_X5_sheetsOf : GoodIn wsX5_hutTold (wsV RX5 168 RX5 yX5_sheetsOf wsX5_sheetsOf) := goodIn_app (goodIn_of _ (by decide +kernel)) ggX5_hutTold_X5_sheetsOf
set_option maxRecDepth 20000 in
theorem ggX5_hutTold_X5_waysOf : GoodIn wsX5_hutTold wsX5_waysOf := goodIn_r _ [21, 8, 22, 23, 24, 25, 6, 26, 27, 28, 29, 30, 31, 32, 33, 34, 35, 36, 37, 38, 39, 40, 41, 42, 9, 10, 11, 12, 13, 14, 15, 16, 17, 43, 44, 45, 46, 47, 48, 49, 50, 51, 52, 53, 54, 55, 56, 57, 58, 59, 60, 61, 62, 63, 64, 65, 66, 67, 68, 91, 92, 93, 94, 95, 96, 97, 98, 99, 100, 101, 102, 103, 104, 105, 106] (by decide +kernel) (by decide +kernel)
set_option maxRecDepth 20000 in
theorem gX5_hutTold_X5_waysOf : GoodIn wsX5_hutTold (wsV RX5 189 RX5 yX5_waysOf wsX5_waysOf) := goodIn_app (goodIn_of _ (by decide +kernel)) ggX5_hutTold_X5_waysOf
set_option maxRecDepth 20000 in
theorem ggX5_hutTold_X5_lettersOf : GoodIn wsX5_hutTold wsX5_lettersOf := goodIn_r _ [72, 8, 73, 74, 75, 6, 76, 77, 22, 56, 23, 24, 25, 26, 27, 28, 29, 30, 31, 32, 33, 34, 35, 36, 37, 38, 39, 40, 41, 42, 9, 10, 11, 12, 13, 14, 15, 16, 17, 43, 44, 45, 46, 47, 48, 49, 50, 51, 52, 53, 54, 55, 57, 58, 59, 60, 61, 62, 63, 64, 65, 66, 67, 68, 78, 79, 80, 81, 82, 83, 84, 85, 86, 87, 88, 89, 90, 91, 92, 93, 94, 95, 96, 97, 98, 99, 100, 101, 102, 103, 104, 105, 106] (by decide +kernel) (by decide +kernel)
set_option maxRecDepth 20000 in
theorem gX5_hutTold_X5_lettersOf : GoodIn wsX5_hutTold (wsV RX5 192 RX5 yX5_lettersOf wsX5_lettersOf) := goodIn_app (goodIn_of _ (by decide +kernel)) ggX5_hutTold_X5_lettersOf
theorem dX5_hutTold_0 : decode cX5_hutTold 0 = .ok (.iload_n 2, 1) := by decide +kernel
theorem dX5_hutTold_1 : decode cX5_hutTold 1 = .ok (.tableswitch 57 0 3 #[31, 38, 44, 51], 31) := by decide +kernel
theorem dX5_hutTold_32 : decode cX5_hutTold 32 = .ok (.aload_n 0, 1) := by decide +kernel
theorem dX5_hutTold_33 : decode cX5_hutTold 33 = .ok (.getfield 9, 3) := by decide +kernel
theorem dX5_hutTold_36 : decode cX5_hutTold 36 = .ok (.iload_n 1, 1) := by decide +kernel
theorem dX5_hutTold_37 : decode cX5_hutTold 37 = .ok (.iaload, 1) := by decide +kernel
theorem dX5_hutTold_38 : decode cX5_hutTold 38 = .ok (.ireturn, 1) := by decide +kernel
theorem dX5_hutTold_39 : decode cX5_hutTold 39 = .ok (.aload_n 0, 1) := by decide +kernel
theorem dX5_hutTold_40 : decode cX5_hutTold 40 = .ok (.iload_n 1, 1) := by decide +kernel
theorem dX5_hutTold_41 : decode cX5_hutTold 41 = .ok (.invokevirtual 168, 3) := by decide +kernel
theorem dX5_hutTold_44 : decode cX5_hutTold 44 = .ok (.ireturn, 1) := by decide +kernel
theorem dX5_hutTold_45 : decode cX5_hutTold 45 = .ok (.aload_n 0, 1) := by decide +kernel
theorem dX5_hutTold_46 : decode cX5_hutTold 46 = .ok (.getfield 13, 3) := by decide +kernel
theorem dX5_hutTold_49 : decode cX5_hutTold 49 = .ok (.iload_n 1, 1) := by decide +kernel
theorem dX5_hutTold_50 : decode cX5_hutTold 50 = .ok (.iaload, 1) := by decide +kernel
theorem dX5_hutTold_51 : decode cX5_hutTold 51 = .ok (.ireturn, 1) := by decide +kernel
theorem dX5_hutTold_52 : decode cX5_hutTold 52 = .ok (.aload_n 0, 1) := by decide +kernel
theorem dX5_hutTold_53 : decode cX5_hutTold 53 = .ok (.iload_n 1, 1) := by decide +kernel
theorem dX5_hutTold_54 : decode cX5_hutTold 54 = .ok (.invokevirtual 189, 3) := by decide +kernel
theorem dX5_hutTold_57 : decode cX5_hutTold 57 = .ok (.ireturn, 1) := by decide +kernel
theorem dX5_hutTold_58 : decode cX5_hutTold 58 = .ok (.aload_n 0, 1) := by decide +kernel
theorem dX5_hutTold_59 : decode cX5_hutTold 59 = .ok (.iload_n 1, 1) := by decide +kernel
theorem dX5_hutTold_60 : decode cX5_hutTold 60 = .ok (.invokevirtual 192, 3) := by decide +kernel
theorem dX5_hutTold_63 : decode cX5_hutTold 63 = .ok (.ireturn, 1) := by decide +kernel
set_option maxRecDepth 20000 in
theorem ggX5_told_X5_isHut : GoodIn wsX5_told wsX5_isHut := goodIn_r _ [6, 7, 8, 9, 5, 10, 107, 108, 109, 110, 111, 112, 113, 114, 115, 116, 117, 118, 119, 120, 121, 122] (by decide +kernel) (by decide +kernel)
set_option maxRecDepth 20000 in
theorem gX5_told_X5_isHut : GoodIn wsX5_told (wsV RX5 162 RX5 yX5_isHut wsX5_isHut) := goodIn_app (goodIn_of _ (by decide +kernel)) ggX5_told_X5_isHut
set_option maxRecDepth 20000 in
theorem ggX5_told_X5_isIn : GoodIn wsX5_told wsX5_isIn := goodIn_r _ [10] (by decide +kernel) (by decide +kernel)
set_option maxRecDepth 20000 in
theorem gX5_told_X5_isIn : GoodIn wsX5_told (va_wsS RX5 55 yX5_isIn wsX5_isIn) := goodIn_app (goodIn_of _ (by decide +kernel)) ggX5_told_X5_isIn
set_option maxRecDepth 20000 in
theorem ggX5_told_X5_hutTold : GoodIn wsX5_told wsX5_hutTold := goodIn_r _ [14, 15, 16, 17, 18, 19, 5, 20, 7, 21, 22, 23, 24, 25, 26, 27, 28, 29, 30, 31, 32, 33, 34, 35, 36, 37, 38, 39, 40, 41, 42, 43, 44, 45, 46, 47, 48, 49, 50, 51, 52, 53, 54, 55, 56, 57, 58, 59, 60, 61, 62, 63, 64, 65, 66, 67, 68, 69, 70, 71, 72, 73, 74, 75, 76, 77, 78, 79, 80, 81, 82, 83, 84, 85, 86, 87, 88, 89, 90, 91, 92, 93, 94, 95, 96, 97, 98, 99, 100, 101, 102, 107, 108, 109, 110, 111, 112, 113, 114, 115, 116, 117, 118, 119, 120, 121, 122] (by decide +kernel) (by decide +kernel)
set_option maxRecDepth 20000 in
theorem gX5_told_X5_hutTold : GoodIn wsX5_told (wsV RX5 195 RX5 yX5_hutTold wsX5_hutTold) := goodIn_app (goodIn_of _ (by decide +kernel)) ggX5_told_X5_hutTold
set_option maxRecDepth 20000 in
theorem ggX5_told_X5_no : GoodIn wsX5_told wsX5_no := goodIn_r _ [106, 1, 107, 108, 109, 110, 111, 112, 113, 114, 115, 116, 117, 118, 119, 120, 121, 122] (by decide +kernel) (by decide +kernel)
set_option maxRecDepth 20000 in
theorem gX5_told_X5_no : GoodIn wsX5_told (wsV RX5 158 RX5 yX5_no wsX5_no) := goodIn_app (goodIn_of _ (by decide +kernel)) ggX5_told_X5_no
theorem dX5_told_0 : decode cX5_told 0 = .ok (.aload_n 0, 1) := by decide +kernel
theorem dX5_told_1 : decode cX5_told 1 = .ok (.iconst 0, 1) := by decide +kernel
theorem dX5_told_2 : decode cX5_told 2 = .ok (.putfield 48, 3) := by decide +kernel
theorem dX5_told_5 : decode cX5_told 5 = .ok (.aload_n 0, 1) := by decide +kernel
theorem dX5_told_6 : decode cX5_told 6 = .ok (.iload_n 1, 1) := by decide +kernel
theorem dX5_told_7 : decode cX5_told 7 = .ok (.invokevirtual 162, 3) := by decide +kernel
theorem dX5_told_10 : decode cX5_told 10 = .ok (.ifCond .eq 21, 3) := by decide +kernel
theorem dX5_told_13 : decode cX5_told 13 = .ok (.iload_n 2, 1) := by decide +kernel
theorem dX5_told_14 : decode cX5_told 14 = .ok (.iconst 0, 1) := by decide +kernel
theorem dX5_told_15 : decode cX5_told 15 = .ok (.iconst 4, 1) := by decide +kernel
theorem dX5_told_16 : decode cX5_told 16 = .ok (.invokestatic 55, 3) := by decide +kernel
theorem dX5_told_19 : decode cX5_told 19 = .ok (.ifCond .eq 12, 3) := by decide +kernel
theorem dX5_told_22 : decode cX5_told 22 = .ok (.aload_n 0, 1) := by decide +kernel
theorem dX5_told_23 : decode cX5_told 23 = .ok (.iload_n 1, 1) := by decide +kernel
theorem dX5_told_24 : decode cX5_told 24 = .ok (.iload_n 2, 1) := by decide +kernel
theorem dX5_told_25 : decode cX5_told 25 = .ok (.invokevirtual 195, 3) := by decide +kernel
theorem dX5_told_28 : decode cX5_told 28 = .ok (.goto 8, 3) := by decide +kernel
theorem dX5_told_31 : decode cX5_told 31 = .ok (.aload_n 0, 1) := by decide +kernel
theorem dX5_told_32 : decode cX5_told 32 = .ok (.iconst 1, 1) := by decide +kernel
theorem dX5_told_33 : decode cX5_told 33 = .ok (.invokevirtual 158, 3) := by decide +kernel
theorem dX5_told_36 : decode cX5_told 36 = .ok (.ireturn, 1) := by decide +kernel
set_option maxRecDepth 20000 in
theorem ggX5_sheets_X5_sheetsOf : GoodIn wsX5_sheets wsX5_sheetsOf := goodIn_r _ [6, 1, 7, 8, 9, 5, 10, 11, 12, 13, 14, 15, 16, 17, 18, 19, 20, 21, 22, 23, 24, 25, 26, 27, 28, 29, 30, 31] (by decide +kernel) (by decide +kernel)
set_option maxRecDepth 20000 in
theorem gX5_sheets_X5_sheetsOf : GoodIn wsX5_sheets (wsV RX5 168 RX5 yX5_sheetsOf wsX5_sheetsOf) := goodIn_app (goodIn_of _ (by decide +kernel)) ggX5_sheets_X5_sheetsOf
theorem dX5_sheets_0 : decode cX5_sheets 0 = .ok (.iconst 0, 1) := by decide +kernel
theorem dX5_sheets_1 : decode cX5_sheets 1 = .ok (.istore_n 1, 1) := by decide +kernel
theorem dX5_sheets_2 : decode cX5_sheets 2 = .ok (.iconst 0, 1) := by decide +kernel
theorem dX5_sheets_3 : decode cX5_sheets 3 = .ok (.istore_n 2, 1) := by decide +kernel
theorem dX5_sheets_4 : decode cX5_sheets 4 = .ok (.iload_n 2, 1) := by decide +kernel
theorem dX5_sheets_5 : decode cX5_sheets 5 = .ok (.aload_n 0, 1) := by decide +kernel
theorem dX5_sheets_6 : decode cX5_sheets 6 = .ok (.getfield 52, 3) := by decide +kernel
theorem dX5_sheets_9 : decode cX5_sheets 9 = .ok (.if_icmp .ge 17, 3) := by decide +kernel
theorem dX5_sheets_12 : decode cX5_sheets 12 = .ok (.iload_n 1, 1) := by decide +kernel
theorem dX5_sheets_13 : decode cX5_sheets 13 = .ok (.aload_n 0, 1) := by decide +kernel
theorem dX5_sheets_14 : decode cX5_sheets 14 = .ok (.iload_n 2, 1) := by decide +kernel
theorem dX5_sheets_15 : decode cX5_sheets 15 = .ok (.invokevirtual 168, 3) := by decide +kernel
theorem dX5_sheets_18 : decode cX5_sheets 18 = .ok (.iadd, 1) := by decide +kernel
theorem dX5_sheets_19 : decode cX5_sheets 19 = .ok (.istore_n 1, 1) := by decide +kernel
theorem dX5_sheets_20 : decode cX5_sheets 20 = .ok (.iinc 2 1, 3) := by decide +kernel
theorem dX5_sheets_23 : decode cX5_sheets 23 = .ok (.goto (-19), 3) := by decide +kernel
theorem dX5_sheets_26 : decode cX5_sheets 26 = .ok (.iload_n 1, 1) := by decide +kernel
theorem dX5_sheets_27 : decode cX5_sheets 27 = .ok (.ireturn, 1) := by decide +kernel
set_option maxRecDepth 20000 in
theorem ggX5_counted_J6_bitCount_0f7a4 : GoodIn wsX5_counted wsJ6_bitCount_0f7a4 := goodIn_r _ [8, 9, 10, 11] (by decide +kernel) (by decide +kernel)
set_option maxRecDepth 20000 in
theorem gX5_counted_J6_bitCount_0f7a4 : GoodIn wsX5_counted (va_wsS RX5 171 yJ6_bitCount_0f7a4 wsJ6_bitCount_0f7a4) := goodIn_app (goodIn_of _ (by decide +kernel)) ggX5_counted_J6_bitCount_0f7a4
set_option maxRecDepth 20000 in
theorem ggX5_counted_X5_sheets : GoodIn wsX5_counted wsX5_sheets := goodIn_r _ [16, 2, 17, 18, 19, 15, 20, 21, 22, 23, 24, 25, 26, 27, 28, 29, 106, 107, 108, 109, 110, 111, 112, 113, 114, 115, 116, 117, 118, 119, 120, 121] (by decide +kernel) (by decide +kernel)
set_option maxRecDepth 20000 in
theorem gX5_counted_X5_sheets : GoodIn wsX5_counted (wsV RX5 198 RX5 yX5_sheets wsX5_sheets) := goodIn_app (goodIn_of _ (by decide +kernel)) ggX5_counted_X5_sheets
set_option maxRecDepth 20000 in
theorem ggX5_counted_X5_letters : GoodIn wsX5_counted wsX5_letters := goodIn_r _ [33, 2, 34, 35, 36, 15, 37, 38, 39, 40, 41, 42, 43, 44, 45, 46, 47, 48, 49, 3, 50, 51, 52, 53, 54, 55, 56, 57, 58, 59, 21, 22, 23, 24, 25, 26, 27, 28, 29, 60, 61, 62, 63, 64, 65, 66, 67, 68, 69, 70, 71, 72, 73, 74, 75, 76, 77, 78, 79, 80, 81, 82, 83, 84, 85, 86, 87, 88, 89, 90, 91, 92, 4, 93, 94, 95, 96, 106, 107, 108, 109, 110, 111, 112, 113, 114, 115, 116, 117, 118, 119, 120, 121] (by decide +kernel) (by decide +kernel)
set_option maxRecDepth 20000 in
theorem gX5_counted_X5_letters : GoodIn wsX5_counted (wsV RX5 202 RX5 yX5_letters wsX5_letters) := goodIn_app (goodIn_of _ (by decide +kernel)) ggX5_counted_X5_letters
set_option maxRecDepth 20000 in
theorem ggX5_counted_X5_pairsOver : GoodIn wsX5_counted wsX5_pairsOver := goodIn_r _ [100, 2, 39, 101, 102, 103, 15, 104, 49, 3, 50, 51, 105, 60, 61, 62, 63, 64, 65, 66, 67, 68, 69, 70, 71, 72, 40, 73, 74, 75, 76, 77, 78, 79, 80, 81, 82, 83, 84, 106, 107, 108, 109, 110, 111, 112, 113, 114, 115, 116, 117, 118, 119, 120, 121] (by decide +kernel) (by decide +kernel)
set_option maxRecDepth 20000 in
theorem gX5_counted_X5_pairsOver : GoodIn wsX5_counted (wsV RX5 205 RX5 yX5_pairsOver wsX5_pairsOver) := goodIn_app (goodIn_of _ (by decide +kernel)) ggX5_counted_X5_pairsOver
theorem dX5_counted_0 : decode cX5_counted 0 = .ok (.iload_n 1, 1) := by decide +kernel
theorem dX5_counted_1 : decode cX5_counted 1 = .ok (.tableswitch 72 0 5 #[39, 44, 49, 54, 62, 67], 39) := by decide +kernel
theorem dX5_counted_40 : decode cX5_counted 40 = .ok (.aload_n 0, 1) := by decide +kernel
theorem dX5_counted_41 : decode cX5_counted 41 = .ok (.getfield 66, 3) := by decide +kernel
theorem dX5_counted_44 : decode cX5_counted 44 = .ok (.ireturn, 1) := by decide +kernel
theorem dX5_counted_45 : decode cX5_counted 45 = .ok (.aload_n 0, 1) := by decide +kernel
theorem dX5_counted_46 : decode cX5_counted 46 = .ok (.getfield 52, 3) := by decide +kernel
theorem dX5_counted_49 : decode cX5_counted 49 = .ok (.ireturn, 1) := by decide +kernel
theorem dX5_counted_50 : decode cX5_counted 50 = .ok (.aload_n 0, 1) := by decide +kernel
theorem dX5_counted_51 : decode cX5_counted 51 = .ok (.getfield 59, 3) := by decide +kernel
theorem dX5_counted_54 : decode cX5_counted 54 = .ok (.ireturn, 1) := by decide +kernel
theorem dX5_counted_55 : decode cX5_counted 55 = .ok (.aload_n 0, 1) := by decide +kernel
theorem dX5_counted_56 : decode cX5_counted 56 = .ok (.getfield 73, 3) := by decide +kernel
theorem dX5_counted_59 : decode cX5_counted 59 = .ok (.invokestatic 171, 3) := by decide +kernel
theorem dX5_counted_62 : decode cX5_counted 62 = .ok (.ireturn, 1) := by decide +kernel
theorem dX5_counted_63 : decode cX5_counted 63 = .ok (.aload_n 0, 1) := by decide +kernel
theorem dX5_counted_64 : decode cX5_counted 64 = .ok (.invokevirtual 198, 3) := by decide +kernel
theorem dX5_counted_67 : decode cX5_counted 67 = .ok (.ireturn, 1) := by decide +kernel
theorem dX5_counted_68 : decode cX5_counted 68 = .ok (.aload_n 0, 1) := by decide +kernel
theorem dX5_counted_69 : decode cX5_counted 69 = .ok (.invokevirtual 202, 3) := by decide +kernel
theorem dX5_counted_72 : decode cX5_counted 72 = .ok (.ireturn, 1) := by decide +kernel
theorem dX5_counted_73 : decode cX5_counted 73 = .ok (.aload_n 0, 1) := by decide +kernel
theorem dX5_counted_74 : decode cX5_counted 74 = .ok (.aload_n 0, 1) := by decide +kernel
theorem dX5_counted_75 : decode cX5_counted 75 = .ok (.getfield 73, 3) := by decide +kernel
theorem dX5_counted_78 : decode cX5_counted 78 = .ok (.invokevirtual 205, 3) := by decide +kernel
theorem dX5_counted_81 : decode cX5_counted 81 = .ok (.ireturn, 1) := by decide +kernel
set_option maxRecDepth 20000 in
theorem ggX5_count_X5_isIn : GoodIn wsX5_count wsX5_isIn := goodIn_r _ [5] (by decide +kernel) (by decide +kernel)
set_option maxRecDepth 20000 in
theorem gX5_count_X5_isIn : GoodIn wsX5_count (va_wsS RX5 55 yX5_isIn wsX5_isIn) := goodIn_app (goodIn_of _ (by decide +kernel)) ggX5_count_X5_isIn
set_option maxRecDepth 20000 in
theorem ggX5_count_X5_counted : GoodIn wsX5_count wsX5_counted := goodIn_r _ [9, 10, 11, 12, 13, 14, 15, 16, 17, 18, 19, 20, 21, 22, 23, 4, 24, 25, 26, 27, 28, 29, 30, 31, 32, 33, 34, 35, 36, 37, 38, 39, 40, 41, 42, 43, 44, 45, 46, 47, 48, 49, 50, 51, 52, 53, 54, 55, 56, 57, 58, 59, 60, 61, 62, 63, 64, 65, 66, 67, 68, 69, 70, 71, 72, 73, 74, 75, 76, 77, 78, 79, 80, 81, 82, 83, 84, 85, 86, 87, 88, 89, 90, 91, 92, 93, 94, 95, 96, 97, 98, 99, 100, 101, 102, 103, 104, 105, 106, 107, 108, 109, 110, 111, 112, 113, 118, 119, 120, 121, 122, 123, 124, 125, 126, 127, 128, 129, 130, 131, 132, 133] (by decide +kernel) (by decide +kernel)
set_option maxRecDepth 20000 in
theorem gX5_count_X5_counted : GoodIn wsX5_count (wsV RX5 208 RX5 yX5_counted wsX5_counted) := goodIn_app (goodIn_of _ (by decide +kernel)) ggX5_count_X5_counted
set_option maxRecDepth 20000 in
theorem ggX5_count_X5_no : GoodIn wsX5_count wsX5_no := goodIn_r _ [117, 1, 118, 119, 120, 121, 122, 123, 124, 125, 126, 127, 128, 129, 130, 131, 132, 133] (by decide +kernel) (by decide +kernel)
set_option maxRecDepth 20000 in
theorem gX5_count_X5_no : GoodIn wsX5_count (wsV RX5 158 RX5 yX5_no wsX5_no) := goodIn_app (goodIn_of _ (by decide +kernel)) ggX5_count_X5_no
theorem dX5_count_0 : decode cX5_count 0 = .ok (.aload_n 0, 1) := by decide +kernel
theorem dX5_count_1 : decode cX5_count 1 = .ok (.iconst 0, 1) := by decide +kernel
theorem dX5_count_2 : decode cX5_count 2 = .ok (.putfield 48, 3) := by decide +kernel
theorem dX5_count_5 : decode cX5_count 5 = .ok (.iload_n 1, 1) := by decide +kernel
theorem dX5_count_6 : decode cX5_count 6 = .ok (.iconst 0, 1) := by decide +kernel
theorem dX5_count_7 : decode cX5_count 7 = .ok (.bipush 6, 2) := by decide +kernel
theorem dX5_count_9 : decode cX5_count 9 = .ok (.invokestatic 55, 3) := by decide +kernel
theorem dX5_count_12 : decode cX5_count 12 = .ok (.ifCond .eq 11, 3) := by decide +kernel
theorem dX5_count_15 : decode cX5_count 15 = .ok (.aload_n 0, 1) := by decide +kernel
theorem dX5_count_16 : decode cX5_count 16 = .ok (.iload_n 1, 1) := by decide +kernel
theorem dX5_count_17 : decode cX5_count 17 = .ok (.invokevirtual 208, 3) := by decide +kernel
theorem dX5_count_20 : decode cX5_count 20 = .ok (.goto 8, 3) := by decide +kernel
theorem dX5_count_23 : decode cX5_count 23 = .ok (.aload_n 0, 1) := by decide +kernel
theorem dX5_count_24 : decode cX5_count 24 = .ok (.iconst 1, 1) := by decide +kernel
theorem dX5_count_25 : decode cX5_count 25 = .ok (.invokevirtual 158, 3) := by decide +kernel
theorem dX5_count_28 : decode cX5_count 28 = .ok (.ireturn, 1) := by decide +kernel
set_option maxRecDepth 20000 in
theorem ggX5_stepAll_X5_step : GoodIn wsX5_stepAll wsX5_step := goodIn_r _ [5, 6, 7, 8, 9, 10, 11, 12, 13, 14, 15, 16, 17, 18, 19, 20, 21, 4, 22, 23, 24, 25, 26, 27, 28, 29, 30, 31, 32, 33, 34, 35, 36, 37, 38, 39, 40, 41, 42, 43, 44, 45, 46, 47, 48, 49, 50, 51, 52, 53, 54, 55, 56, 57, 58, 59, 60, 61, 62, 63, 64, 65, 66, 67, 68, 69, 70, 71, 72, 73, 74, 75, 76, 77, 78, 79, 80, 81] (by decide +kernel) (by decide +kernel)
set_option maxRecDepth 20000 in
theorem gX5_stepAll_X5_step : GoodIn wsX5_stepAll (wsV RX5 211 RX5 yX5_step wsX5_step) := goodIn_app (goodIn_of _ (by decide +kernel)) ggX5_stepAll_X5_step
theorem dX5_stepAll_0 : decode cX5_stepAll 0 = .ok (.iconst 0, 1) := by decide +kernel
theorem dX5_stepAll_1 : decode cX5_stepAll 1 = .ok (.istore_n 2, 1) := by decide +kernel
theorem dX5_stepAll_2 : decode cX5_stepAll 2 = .ok (.iconst 0, 1) := by decide +kernel
theorem dX5_stepAll_3 : decode cX5_stepAll 3 = .ok (.istore_n 3, 1) := by decide +kernel
theorem dX5_stepAll_4 : decode cX5_stepAll 4 = .ok (.iload_n 3, 1) := by decide +kernel
theorem dX5_stepAll_5 : decode cX5_stepAll 5 = .ok (.iload_n 1, 1) := by decide +kernel
theorem dX5_stepAll_6 : decode cX5_stepAll 6 = .ok (.if_icmp .ge 16, 3) := by decide +kernel
theorem dX5_stepAll_9 : decode cX5_stepAll 9 = .ok (.iload_n 2, 1) := by decide +kernel
theorem dX5_stepAll_10 : decode cX5_stepAll 10 = .ok (.aload_n 0, 1) := by decide +kernel
theorem dX5_stepAll_11 : decode cX5_stepAll 11 = .ok (.invokevirtual 211, 3) := by decide +kernel
theorem dX5_stepAll_14 : decode cX5_stepAll 14 = .ok (.iadd, 1) := by decide +kernel
theorem dX5_stepAll_15 : decode cX5_stepAll 15 = .ok (.istore_n 2, 1) := by decide +kernel
theorem dX5_stepAll_16 : decode cX5_stepAll 16 = .ok (.iinc 3 1, 3) := by decide +kernel
theorem dX5_stepAll_19 : decode cX5_stepAll 19 = .ok (.goto (-15), 3) := by decide +kernel
theorem dX5_stepAll_22 : decode cX5_stepAll 22 = .ok (.iload_n 2, 1) := by decide +kernel
theorem dX5_stepAll_23 : decode cX5_stepAll 23 = .ok (.ireturn, 1) := by decide +kernel
set_option maxRecDepth 20000 in
theorem ggX5_go_X5_isIn : GoodIn wsX5_go wsX5_isIn := goodIn_r _ [5] (by decide +kernel) (by decide +kernel)
set_option maxRecDepth 20000 in
theorem gX5_go_X5_isIn : GoodIn wsX5_go (va_wsS RX5 55 yX5_isIn wsX5_isIn) := goodIn_app (goodIn_of _ (by decide +kernel)) ggX5_go_X5_isIn
set_option maxRecDepth 20000 in
theorem ggX5_go_X5_stepAll : GoodIn wsX5_go wsX5_stepAll := goodIn_r _ [9, 10, 11, 12, 4, 13, 14, 15, 16, 17, 18, 19, 20, 21, 22, 23, 24, 25, 26, 27, 28, 29, 30, 31, 32, 33, 34, 35, 36, 37, 38, 39, 40, 41, 42, 43, 44, 45, 46, 47, 48, 49, 50, 51, 52, 53, 54, 55, 56, 57, 58, 59, 60, 61, 62, 63, 64, 65, 66, 67, 68, 69, 70, 71, 72, 73, 78, 79, 80, 81, 82, 83, 84, 85, 86, 87, 88, 89, 90, 91, 92, 93] (by decide +kernel) (by decide +kernel)
set_option maxRecDepth 20000 in
theorem gX5_go_X5_stepAll : GoodIn wsX5_go (wsV RX5 214 RX5 yX5_stepAll wsX5_stepAll) := goodIn_app (goodIn_of _ (by decide +kernel)) ggX5_go_X5_stepAll
set_option maxRecDepth 20000 in
theorem ggX5_go_X5_no : GoodIn wsX5_go wsX5_no := goodIn_r _ [77, 1, 78, 79, 80, 81, 82, 83, 84, 85, 86, 87, 88, 89, 90, 91, 92, 93] (by decide +kernel) (by decide +kernel)
set_option maxRecDepth 20000 in
theorem gX5_go_X5_no : GoodIn wsX5_go (wsV RX5 158 RX5 yX5_no wsX5_no) := goodIn_app (goodIn_of _ (by decide +kernel)) ggX5_go_X5_no
theorem dX5_go_0 : decode cX5_go 0 = .ok (.aload_n 0, 1) := by decide +kernel
theorem dX5_go_1 : decode cX5_go 1 = .ok (.iconst 0, 1) := by decide +kernel
theorem dX5_go_2 : decode cX5_go 2 = .ok (.putfield 48, 3) := by decide +kernel
theorem dX5_go_5 : decode cX5_go 5 = .ok (.iload_n 1, 1) := by decide +kernel
theorem dX5_go_6 : decode cX5_go 6 = .ok (.iconst 1, 1) := by decide +kernel
theorem dX5_go_7 : decode cX5_go 7 = .ok (.bipush 60, 2) := by decide +kernel
theorem dX5_go_9 : decode cX5_go 9 = .ok (.invokestatic 55, 3) := by decide +kernel
theorem dX5_go_12 : decode cX5_go 12 = .ok (.ifCond .eq 11, 3) := by decide +kernel
theorem dX5_go_15 : decode cX5_go 15 = .ok (.aload_n 0, 1) := by decide +kernel
theorem dX5_go_16 : decode cX5_go 16 = .ok (.iload_n 1, 1) := by decide +kernel
theorem dX5_go_17 : decode cX5_go 17 = .ok (.invokevirtual 214, 3) := by decide +kernel
theorem dX5_go_20 : decode cX5_go 20 = .ok (.goto 8, 3) := by decide +kernel
theorem dX5_go_23 : decode cX5_go 23 = .ok (.aload_n 0, 1) := by decide +kernel
theorem dX5_go_24 : decode cX5_go 24 = .ok (.iconst 1, 1) := by decide +kernel
theorem dX5_go_25 : decode cX5_go 25 = .ok (.invokevirtual 158, 3) := by decide +kernel
theorem dX5_go_28 : decode cX5_go 28 = .ok (.ireturn, 1) := by decide +kernel
theorem dX5_keepBy_0 : decode cX5_keepBy 0 = .ok (.aload_n 0, 1) := by decide +kernel
theorem dX5_keepBy_1 : decode cX5_keepBy 1 = .ok (.aload_n 1, 1) := by decide +kernel
theorem dX5_keepBy_2 : decode cX5_keepBy 2 = .ok (.putfield 17, 3) := by decide +kernel
theorem dX5_keepBy_5 : decode cX5_keepBy 5 = .ok (.aload_n 0, 1) := by decide +kernel
theorem dX5_keepBy_6 : decode cX5_keepBy 6 = .ok (.aload_n 2, 1) := by decide +kernel
theorem dX5_keepBy_7 : decode cX5_keepBy 7 = .ok (.putfield 13, 3) := by decide +kernel
theorem dX5_keepBy_10 : decode cX5_keepBy 10 = .ok (.aload_n 0, 1) := by decide +kernel
theorem dX5_keepBy_11 : decode cX5_keepBy 11 = .ok (.iload_n 3, 1) := by decide +kernel
theorem dX5_keepBy_12 : decode cX5_keepBy 12 = .ok (.putfield 66, 3) := by decide +kernel
theorem dX5_keepBy_15 : decode cX5_keepBy 15 = .ok (.return_, 1) := by decide +kernel
set_option maxRecDepth 20000 in
theorem ggX5_part_X5_keepBy : GoodIn wsX5_part wsX5_keepBy := goodIn_r _ [14, 2, 8, 9, 15, 16, 17, 18, 19, 20, 21, 22, 23, 24, 25, 26, 27, 28, 29, 30] (by decide +kernel) (by decide +kernel)
set_option maxRecDepth 20000 in
theorem gX5_part_X5_keepBy : GoodIn wsX5_part (wsV RX5 217 RX5 yX5_keepBy wsX5_keepBy) := goodIn_app (goodIn_of _ (by decide +kernel)) ggX5_part_X5_keepBy
theorem dX5_part_0 : decode cX5_part 0 = .ok (.bipush 100, 2) := by decide +kernel
theorem dX5_part_2 : decode cX5_part 2 = .ok (.anewarray 16, 3) := by decide +kernel
theorem dX5_part_5 : decode cX5_part 5 = .ok (.astore_n 1, 1) := by decide +kernel
theorem dX5_part_6 : decode cX5_part 6 = .ok (.aload_n 0, 1) := by decide +kernel
theorem dX5_part_7 : decode cX5_part 7 = .ok (.getfield 17, 3) := by decide +kernel
theorem dX5_part_10 : decode cX5_part 10 = .ok (.iconst 0, 1) := by decide +kernel
theorem dX5_part_11 : decode cX5_part 11 = .ok (.aload_n 1, 1) := by decide +kernel
theorem dX5_part_12 : decode cX5_part 12 = .ok (.iconst 0, 1) := by decide +kernel
theorem dX5_part_13 : decode cX5_part 13 = .ok (.bipush 100, 2) := by decide +kernel
theorem dX5_part_15 : decode cX5_part 15 = .ok (.invokestatic 104, 3) := by decide +kernel
theorem dX5_part_18 : decode cX5_part 18 = .ok (.bipush 10, 2) := by decide +kernel
theorem dX5_part_20 : decode cX5_part 20 = .ok (.newarray .int, 2) := by decide +kernel
theorem dX5_part_22 : decode cX5_part 22 = .ok (.astore_n 2, 1) := by decide +kernel
theorem dX5_part_23 : decode cX5_part 23 = .ok (.aload_n 0, 1) := by decide +kernel
theorem dX5_part_24 : decode cX5_part 24 = .ok (.getfield 13, 3) := by decide +kernel
theorem dX5_part_27 : decode cX5_part 27 = .ok (.iconst 0, 1) := by decide +kernel
theorem dX5_part_28 : decode cX5_part 28 = .ok (.aload_n 2, 1) := by decide +kernel
theorem dX5_part_29 : decode cX5_part 29 = .ok (.iconst 0, 1) := by decide +kernel
theorem dX5_part_30 : decode cX5_part 30 = .ok (.bipush 10, 2) := by decide +kernel
theorem dX5_part_32 : decode cX5_part 32 = .ok (.invokestatic 104, 3) := by decide +kernel
theorem dX5_part_35 : decode cX5_part 35 = .ok (.aload_n 0, 1) := by decide +kernel
theorem dX5_part_36 : decode cX5_part 36 = .ok (.aload_n 1, 1) := by decide +kernel
theorem dX5_part_37 : decode cX5_part 37 = .ok (.aload_n 2, 1) := by decide +kernel
theorem dX5_part_38 : decode cX5_part 38 = .ok (.aload_n 0, 1) := by decide +kernel
theorem dX5_part_39 : decode cX5_part 39 = .ok (.getfield 66, 3) := by decide +kernel
theorem dX5_part_42 : decode cX5_part 42 = .ok (.invokevirtual 217, 3) := by decide +kernel
theorem dX5_part_45 : decode cX5_part 45 = .ok (.return_, 1) := by decide +kernel
set_option maxRecDepth 20000 in
theorem ggX5_foreseen_X5_part : GoodIn wsX5_foreseen wsX5_part := goodIn_r _ [8, 9, 1, 10, 11, 12, 13, 14, 2, 3, 15, 16, 17, 7, 18, 162, 163, 164, 165, 166, 167, 168, 169, 170, 171, 172, 173, 174, 175, 176, 177] (by decide +kernel) (by decide +kernel)
set_option maxRecDepth 20000 in
theorem gX5_foreseen_X5_part : GoodIn wsX5_foreseen (wsV RX5 221 RX5 yX5_part wsX5_part) := goodIn_app (goodIn_of _ (by decide +kernel)) ggX5_foreseen_X5_part
set_option maxRecDepth 20000 in
theorem ggX5_foreseen_X5_stepAll : GoodIn wsX5_foreseen wsX5_stepAll := goodIn_r _ [22, 23, 24, 25, 7, 26, 27, 9, 1, 10, 11, 12, 13, 28, 29, 30, 31, 3, 32, 33, 34, 35, 36, 37, 38, 39, 40, 41, 42, 43, 44, 45, 46, 47, 48, 49, 50, 51, 52, 53, 54, 55, 56, 57, 58, 59, 60, 61, 62, 63, 64, 2, 65, 66, 67, 68, 14, 69, 70, 71, 72, 73, 74, 75, 76, 77, 162, 163, 164, 165, 166, 167, 168, 169, 170, 171, 172, 173, 174, 175, 176, 177] (by decide +kernel) (by decide +kernel)
set_option maxRecDepth 20000 in
theorem gX5_foreseen_X5_stepAll : GoodIn wsX5_foreseen (wsV RX5 214 RX5 yX5_stepAll wsX5_stepAll) := goodIn_app (goodIn_of _ (by decide +kernel)) ggX5_foreseen_X5_stepAll
set_option maxRecDepth 20000 in
theorem ggX5_foreseen_X5_counted : GoodIn wsX5_foreseen wsX5_counted := goodIn_r _ [81, 3, 27, 28, 29, 82, 83, 84, 85, 86, 87, 88, 89, 90, 91, 7, 92, 93, 94, 95, 96, 37, 38, 39, 40, 41, 42, 43, 44, 1, 97, 98, 99, 100, 101, 102, 103, 104, 105, 106, 107, 108, 109, 110, 111, 112, 113, 114, 115, 14, 30, 31, 116, 117, 118, 119, 120, 121, 122, 123, 58, 59, 60, 124, 125, 126, 127, 128, 129, 130, 131, 132, 133, 134, 135, 136, 137, 138, 139, 140, 141, 142, 143, 144, 145, 146, 147, 148, 149, 150, 151, 152, 153, 54, 55, 56, 57, 154, 155, 156, 157, 158, 159, 160, 161, 53, 162, 163, 164, 165, 166, 167, 168, 169, 170, 171, 172, 173, 174, 175, 176, 177] (by decide +kernel) (by decide +kernel)
set_option maxRecDepth 20000 in
theorem gX5_foreseen_X5_counted : GoodIn wsX5_foreseen (wsV RX5 208 RX5 yX5_counted wsX5_counted) := goodIn_app (goodIn_of _ (by decide +kernel)) ggX5_foreseen_X5_counted
set_option maxRecDepth 20000 in
theorem ggX5_foreseen_X5_keepBy : GoodIn wsX5_foreseen wsX5_keepBy := goodIn_r _ [18, 1, 2, 3, 162, 163, 164, 165, 166, 167, 168, 169, 170, 171, 172, 173, 174, 175, 176, 177] (by decide +kernel) (by decide +kernel)
set_option maxRecDepth 20000 in
theorem gX5_foreseen_X5_keepBy : GoodIn wsX5_foreseen (wsV RX5 217 RX5 yX5_keepBy wsX5_keepBy) := goodIn_app (goodIn_of _ (by decide +kernel)) ggX5_foreseen_X5_keepBy
theorem dX5_foreseen_0 : decode cX5_foreseen 0 = .ok (.aload_n 0, 1) := by decide +kernel
theorem dX5_foreseen_1 : decode cX5_foreseen 1 = .ok (.getfield 17, 3) := by decide +kernel
theorem dX5_foreseen_4 : decode cX5_foreseen 4 = .ok (.astore_n 3, 1) := by decide +kernel
theorem dX5_foreseen_5 : decode cX5_foreseen 5 = .ok (.aload_n 0, 1) := by decide +kernel
theorem dX5_foreseen_6 : decode cX5_foreseen 6 = .ok (.getfield 13, 3) := by decide +kernel
theorem dX5_foreseen_9 : decode cX5_foreseen 9 = .ok (.astore 4, 2) := by decide +kernel
theorem dX5_foreseen_11 : decode cX5_foreseen 11 = .ok (.aload_n 0, 1) := by decide +kernel
theorem dX5_foreseen_12 : decode cX5_foreseen 12 = .ok (.getfield 66, 3) := by decide +kernel
theorem dX5_foreseen_15 : decode cX5_foreseen 15 = .ok (.istore 5, 2) := by decide +kernel
theorem dX5_foreseen_17 : decode cX5_foreseen 17 = .ok (.aload_n 0, 1) := by decide +kernel
theorem dX5_foreseen_18 : decode cX5_foreseen 18 = .ok (.invokevirtual 221, 3) := by decide +kernel
theorem dX5_foreseen_21 : decode cX5_foreseen 21 = .ok (.aload_n 0, 1) := by decide +kernel
theorem dX5_foreseen_22 : decode cX5_foreseen 22 = .ok (.iload_n 1, 1) := by decide +kernel
theorem dX5_foreseen_23 : decode cX5_foreseen 23 = .ok (.invokevirtual 214, 3) := by decide +kernel
theorem dX5_foreseen_26 : decode cX5_foreseen 26 = .ok (.pop, 1) := by decide +kernel
theorem dX5_foreseen_27 : decode cX5_foreseen 27 = .ok (.aload_n 0, 1) := by decide +kernel
theorem dX5_foreseen_28 : decode cX5_foreseen 28 = .ok (.iload_n 2, 1) := by decide +kernel
theorem dX5_foreseen_29 : decode cX5_foreseen 29 = .ok (.invokevirtual 208, 3) := by decide +kernel
theorem dX5_foreseen_32 : decode cX5_foreseen 32 = .ok (.istore 6, 2) := by decide +kernel
theorem dX5_foreseen_34 : decode cX5_foreseen 34 = .ok (.aload_n 0, 1) := by decide +kernel
theorem dX5_foreseen_35 : decode cX5_foreseen 35 = .ok (.aload_n 3, 1) := by decide +kernel
theorem dX5_foreseen_36 : decode cX5_foreseen 36 = .ok (.aload 4, 2) := by decide +kernel
theorem dX5_foreseen_38 : decode cX5_foreseen 38 = .ok (.iload 5, 2) := by decide +kernel
theorem dX5_foreseen_40 : decode cX5_foreseen 40 = .ok (.invokevirtual 217, 3) := by decide +kernel
theorem dX5_foreseen_43 : decode cX5_foreseen 43 = .ok (.iload 6, 2) := by decide +kernel
theorem dX5_foreseen_45 : decode cX5_foreseen 45 = .ok (.ireturn, 1) := by decide +kernel
set_option maxRecDepth 20000 in
theorem ggX5_foresee_X5_isIn : GoodIn wsX5_foresee wsX5_isIn := goodIn_r _ [5] (by decide +kernel) (by decide +kernel)
set_option maxRecDepth 20000 in
theorem gX5_foresee_X5_isIn : GoodIn wsX5_foresee (va_wsS RX5 55 yX5_isIn wsX5_isIn) := goodIn_app (goodIn_of _ (by decide +kernel)) ggX5_foresee_X5_isIn
set_option maxRecDepth 20000 in
theorem ggX5_foresee_X5_no : GoodIn wsX5_foresee wsX5_no := goodIn_r _ [9, 1, 174, 175, 176, 177, 178, 179, 180, 181, 182, 183, 184, 185, 186, 187, 188, 189] (by decide +kernel) (by decide +kernel)
set_option maxRecDepth 20000 in
theorem gX5_foresee_X5_no : GoodIn wsX5_foresee (wsV RX5 158 RX5 yX5_no wsX5_no) := goodIn_app (goodIn_of _ (by decide +kernel)) ggX5_foresee_X5_no
set_option maxRecDepth 20000 in
theorem ggX5_foresee_X5_foreseen : GoodIn wsX5_foresee wsX5_foreseen := goodIn_r _ [13, 14, 15, 16, 17, 18, 19, 4, 20, 21, 22, 23, 24, 25, 26, 27, 28, 29, 30, 31, 32, 33, 34, 35, 36, 37, 38, 39, 40, 41, 42, 43, 44, 45, 46, 47, 48, 49, 50, 51, 52, 53, 54, 55, 56, 57, 58, 59, 60, 61, 62, 63, 64, 65, 66, 67, 68, 69, 70, 71, 72, 73, 74, 75, 76, 77, 78, 79, 80, 81, 82, 83, 84, 85, 86, 87, 88, 89, 90, 91, 92, 93, 94, 95, 96, 97, 98, 99, 100, 101, 102, 103, 104, 105, 106, 107, 108, 109, 110, 111, 112, 113, 114, 115, 116, 117, 118, 119, 120, 121, 122, 123, 124, 125, 126, 127, 128, 129, 130, 131, 132, 133, 134, 135, 136, 137, 138, 139, 140, 141, 142, 143, 144, 145, 146, 147, 148, 149, 150, 151, 152, 153, 154, 155, 156, 157, 158, 159, 160, 161, 162, 163, 164, 165, 166, 167, 168, 169, 170, 171, 172, 173, 174, 175, 176, 177, 178, 179, 180, 181, 182, 183, 184, 185, 186, 187, 188, 189] (by decide +kernel) (by decide +kernel)
set_option maxRecDepth 20000 in
theorem gX5_foresee_X5_foreseen : GoodIn wsX5_foresee (wsV RX5 224 RX5 yX5_foreseen wsX5_foreseen) := goodIn_app (goodIn_of _ (by decide +kernel)) ggX5_foresee_X5_foreseen
theorem dX5_foresee_0 : decode cX5_foresee 0 = .ok (.aload_n 0, 1) := by decide +kernel
theorem dX5_foresee_1 : decode cX5_foresee 1 = .ok (.iconst 0, 1) := by decide +kernel
theorem dX5_foresee_2 : decode cX5_foresee 2 = .ok (.putfield 48, 3) := by decide +kernel
theorem dX5_foresee_5 : decode cX5_foresee 5 = .ok (.iload_n 1, 1) := by decide +kernel
theorem dX5_foresee_6 : decode cX5_foresee 6 = .ok (.iconst 1, 1) := by decide +kernel
theorem dX5_foresee_7 : decode cX5_foresee 7 = .ok (.bipush 60, 2) := by decide +kernel
theorem dX5_foresee_9 : decode cX5_foresee 9 = .ok (.invokestatic 55, 3) := by decide +kernel
theorem dX5_foresee_12 : decode cX5_foresee 12 = .ok (.ifCond .ne 9, 3) := by decide +kernel
theorem dX5_foresee_15 : decode cX5_foresee 15 = .ok (.aload_n 0, 1) := by decide +kernel
theorem dX5_foresee_16 : decode cX5_foresee 16 = .ok (.iconst 1, 1) := by decide +kernel
theorem dX5_foresee_17 : decode cX5_foresee 17 = .ok (.invokevirtual 158, 3) := by decide +kernel
theorem dX5_foresee_20 : decode cX5_foresee 20 = .ok (.ireturn, 1) := by decide +kernel
theorem dX5_foresee_21 : decode cX5_foresee 21 = .ok (.iload_n 2, 1) := by decide +kernel
theorem dX5_foresee_22 : decode cX5_foresee 22 = .ok (.iconst 4, 1) := by decide +kernel
theorem dX5_foresee_23 : decode cX5_foresee 23 = .ok (.iconst 5, 1) := by decide +kernel
theorem dX5_foresee_24 : decode cX5_foresee 24 = .ok (.invokestatic 55, 3) := by decide +kernel
theorem dX5_foresee_27 : decode cX5_foresee 27 = .ok (.ifCond .eq 12, 3) := by decide +kernel
theorem dX5_foresee_30 : decode cX5_foresee 30 = .ok (.aload_n 0, 1) := by decide +kernel
theorem dX5_foresee_31 : decode cX5_foresee 31 = .ok (.iload_n 1, 1) := by decide +kernel
theorem dX5_foresee_32 : decode cX5_foresee 32 = .ok (.iload_n 2, 1) := by decide +kernel
theorem dX5_foresee_33 : decode cX5_foresee 33 = .ok (.invokevirtual 224, 3) := by decide +kernel
theorem dX5_foresee_36 : decode cX5_foresee 36 = .ok (.goto 8, 3) := by decide +kernel
theorem dX5_foresee_39 : decode cX5_foresee 39 = .ok (.aload_n 0, 1) := by decide +kernel
theorem dX5_foresee_40 : decode cX5_foresee 40 = .ok (.iconst 2, 1) := by decide +kernel
theorem dX5_foresee_41 : decode cX5_foresee 41 = .ok (.invokevirtual 158, 3) := by decide +kernel
theorem dX5_foresee_44 : decode cX5_foresee 44 = .ok (.ireturn, 1) := by decide +kernel
set_option maxRecDepth 20000 in
theorem ggX5_isSettled_X5_letters : GoodIn wsX5_isSettled wsX5_letters := goodIn_r _ [5, 6, 7, 8, 9, 4, 10, 11, 12, 13, 14, 15, 16, 17, 18, 19, 20, 21, 22, 23, 24, 25, 26, 27, 28, 29, 30, 31, 32, 33, 34, 35, 36, 37, 38, 39, 40, 41, 42, 43, 44, 45, 46, 47, 48, 49, 50, 51, 52, 53, 54, 55, 56, 57, 58, 59, 60, 61, 62, 63, 64, 65, 66, 67, 68, 69, 70, 71, 72, 73, 74, 75, 76, 77, 78, 79, 80, 81, 82, 83, 84, 85, 86, 87, 88, 89, 90, 91, 92, 93, 94, 95, 96] (by decide +kernel) (by decide +kernel)
set_option maxRecDepth 20000 in
theorem gX5_isSettled_X5_letters : GoodIn wsX5_isSettled (wsV RX5 202 RX5 yX5_letters wsX5_letters) := goodIn_app (goodIn_of _ (by decide +kernel)) ggX5_isSettled_X5_letters
theorem dX5_isSettled_0 : decode cX5_isSettled 0 = .ok (.aload_n 0, 1) := by decide +kernel
theorem dX5_isSettled_1 : decode cX5_isSettled 1 = .ok (.invokevirtual 202, 3) := by decide +kernel
theorem dX5_isSettled_4 : decode cX5_isSettled 4 = .ok (.iload_n 1, 1) := by decide +kernel
theorem dX5_isSettled_5 : decode cX5_isSettled 5 = .ok (.if_icmp .ne 7, 3) := by decide +kernel
theorem dX5_isSettled_8 : decode cX5_isSettled 8 = .ok (.iconst 1, 1) := by decide +kernel
theorem dX5_isSettled_9 : decode cX5_isSettled 9 = .ok (.goto 4, 3) := by decide +kernel
theorem dX5_isSettled_12 : decode cX5_isSettled 12 = .ok (.iconst 0, 1) := by decide +kernel
theorem dX5_isSettled_13 : decode cX5_isSettled 13 = .ok (.ireturn, 1) := by decide +kernel
set_option maxRecDepth 20000 in
theorem ggX5_settledBehind_X5_pairsOver : GoodIn wsX5_settledBehind wsX5_pairsOver := goodIn_r _ [6, 7, 8, 9, 10, 11, 5, 12, 13, 14, 15, 16, 17, 18, 19, 20, 21, 22, 23, 24, 25, 26, 27, 28, 29, 30, 31, 32, 33, 34, 35, 36, 37, 38, 39, 40, 41, 42, 43, 135, 136, 137, 138, 139, 140, 141, 142, 143, 144, 145, 146, 147, 148, 149, 150] (by decide +kernel) (by decide +kernel)
set_option maxRecDepth 20000 in
theorem gX5_settledBehind_X5_pairsOver : GoodIn wsX5_settledBehind (wsV RX5 205 RX5 yX5_pairsOver wsX5_pairsOver) := goodIn_app (goodIn_of _ (by decide +kernel)) ggX5_settledBehind_X5_pairsOver
set_option maxRecDepth 20000 in
theorem ggX5_settledBehind_X5_isSettled : GoodIn wsX5_settledBehind wsX5_isSettled := goodIn_r _ [47, 48, 49, 50, 5, 51, 7, 52, 53, 54, 55, 56, 8, 31, 57, 58, 59, 60, 61, 62, 63, 64, 13, 14, 15, 16, 65, 66, 67, 68, 69, 70, 71, 72, 73, 74, 75, 76, 77, 78, 79, 80, 81, 18, 19, 20, 21, 22, 23, 24, 25, 26, 27, 28, 29, 30, 32, 33, 34, 35, 36, 37, 38, 39, 40, 41, 42, 43, 82, 83, 84, 85, 86, 87, 88, 89, 1, 90, 91, 92, 93, 135, 136, 137, 138, 139, 140, 141, 142, 143, 144, 145, 146, 147, 148, 149, 150] (by decide +kernel) (by decide +kernel)
set_option maxRecDepth 20000 in
theorem gX5_settledBehind_X5_isSettled : GoodIn wsX5_settledBehind (wsV RX5 227 RX5 yX5_isSettled wsX5_isSettled) := goodIn_app (goodIn_of _ (by decide +kernel)) ggX5_settledBehind_X5_isSettled
set_option maxRecDepth 20000 in
theorem ggX5_settledBehind_X5_step : GoodIn wsX5_settledBehind wsX5_step := goodIn_r _ [97, 7, 98, 81, 99, 100, 101, 102, 14, 1, 15, 16, 103, 104, 105, 106, 107, 5, 108, 73, 74, 75, 76, 77, 78, 79, 80, 109, 110, 111, 112, 113, 114, 115, 116, 17, 90, 91, 92, 93, 18, 19, 20, 117, 118, 119, 120, 121, 122, 123, 124, 125, 13, 126, 127, 128, 129, 130, 131, 132, 133, 134, 135, 136, 137, 138, 139, 140, 141, 142, 143, 144, 145, 146, 147, 148, 149, 150] (by decide +kernel) (by decide +kernel)
set_option maxRecDepth 20000 in
theorem gX5_settledBehind_X5_step : GoodIn wsX5_settledBehind (wsV RX5 211 RX5 yX5_step wsX5_step) := goodIn_app (goodIn_of _ (by decide +kernel)) ggX5_settledBehind_X5_step
theorem dX5_settledBehind_0 : decode cX5_settledBehind 0 = .ok (.aload_n 0, 1) := by decide +kernel
theorem dX5_settledBehind_1 : decode cX5_settledBehind 1 = .ok (.aload_n 0, 1) := by decide +kernel
theorem dX5_settledBehind_2 : decode cX5_settledBehind 2 = .ok (.getfield 73, 3) := by decide +kernel
theorem dX5_settledBehind_5 : decode cX5_settledBehind 5 = .ok (.invokevirtual 205, 3) := by decide +kernel
theorem dX5_settledBehind_8 : decode cX5_settledBehind 8 = .ok (.istore_n 1, 1) := by decide +kernel
theorem dX5_settledBehind_9 : decode cX5_settledBehind 9 = .ok (.iconst 0, 1) := by decide +kernel
theorem dX5_settledBehind_10 : decode cX5_settledBehind 10 = .ok (.istore_n 2, 1) := by decide +kernel
theorem dX5_settledBehind_11 : decode cX5_settledBehind 11 = .ok (.iload_n 2, 1) := by decide +kernel
theorem dX5_settledBehind_12 : decode cX5_settledBehind 12 = .ok (.bipush 40, 2) := by decide +kernel
theorem dX5_settledBehind_14 : decode cX5_settledBehind 14 = .ok (.if_icmp .gt 24, 3) := by decide +kernel
theorem dX5_settledBehind_17 : decode cX5_settledBehind 17 = .ok (.aload_n 0, 1) := by decide +kernel
theorem dX5_settledBehind_18 : decode cX5_settledBehind 18 = .ok (.iload_n 1, 1) := by decide +kernel
theorem dX5_settledBehind_19 : decode cX5_settledBehind 19 = .ok (.invokevirtual 227, 3) := by decide +kernel
theorem dX5_settledBehind_22 : decode cX5_settledBehind 22 = .ok (.ifCond .eq 5, 3) := by decide +kernel
theorem dX5_settledBehind_25 : decode cX5_settledBehind 25 = .ok (.iload_n 2, 1) := by decide +kernel
theorem dX5_settledBehind_26 : decode cX5_settledBehind 26 = .ok (.ireturn, 1) := by decide +kernel
theorem dX5_settledBehind_27 : decode cX5_settledBehind 27 = .ok (.aload_n 0, 1) := by decide +kernel
theorem dX5_settledBehind_28 : decode cX5_settledBehind 28 = .ok (.invokevirtual 211, 3) := by decide +kernel
theorem dX5_settledBehind_31 : decode cX5_settledBehind 31 = .ok (.pop, 1) := by decide +kernel
theorem dX5_settledBehind_32 : decode cX5_settledBehind 32 = .ok (.iinc 2 1, 3) := by decide +kernel
theorem dX5_settledBehind_35 : decode cX5_settledBehind 35 = .ok (.goto (-24), 3) := by decide +kernel
theorem dX5_settledBehind_38 : decode cX5_settledBehind 38 = .ok (.iconst (-1), 1) := by decide +kernel
theorem dX5_settledBehind_39 : decode cX5_settledBehind 39 = .ok (.ireturn, 1) := by decide +kernel
set_option maxRecDepth 20000 in
theorem ggX5_settles_X5_part : GoodIn wsX5_settles wsX5_part := goodIn_r _ [9, 10, 2, 11, 12, 13, 14, 15, 3, 4, 16, 17, 18, 8, 19, 148, 149, 150, 151, 152, 153, 154, 155, 156, 157, 158, 159, 160, 161, 162, 163] (by decide +kernel) (by decide +kernel)
set_option maxRecDepth 20000 in
theorem gX5_settles_X5_part : GoodIn wsX5_settles (wsV RX5 221 RX5 yX5_part wsX5_part) := goodIn_app (goodIn_of _ (by decide +kernel)) ggX5_settles_X5_part
set_option maxRecDepth 20000 in
theorem ggX5_settles_X5_settledBehind : GoodIn wsX5_settles wsX5_settledBehind := goodIn_r _ [23, 24, 25, 26, 27, 8, 28, 29, 30, 31, 32, 33, 34, 15, 35, 36, 37, 38, 39, 40, 41, 42, 43, 44, 45, 46, 47, 48, 49, 50, 51, 52, 53, 54, 55, 56, 57, 58, 59, 60, 61, 62, 63, 64, 65, 66, 67, 68, 69, 70, 71, 72, 73, 74, 75, 76, 77, 78, 79, 80, 81, 82, 83, 84, 85, 86, 87, 88, 89, 90, 91, 92, 93, 94, 95, 96, 97, 98, 99, 100, 101, 2, 102, 103, 104, 105, 106, 107, 108, 109, 110, 111, 112, 113, 114, 115, 116, 117, 10, 11, 12, 13, 14, 4, 118, 119, 120, 121, 122, 123, 124, 125, 126, 127, 128, 129, 130, 131, 132, 133, 134, 3, 135, 136, 137, 138, 139, 140, 141, 142, 143, 144, 145, 146, 147, 148, 149, 150, 151, 152, 153, 154, 155, 156, 157, 158, 159, 160, 161, 162, 163] (by decide +kernel) (by decide +kernel)
set_option maxRecDepth 20000 in
theorem gX5_settles_X5_settledBehind : GoodIn wsX5_settles (wsV RX5 230 RX5 yX5_settledBehind wsX5_settledBehind) := goodIn_app (goodIn_of _ (by decide +kernel)) ggX5_settles_X5_settledBehind
set_option maxRecDepth 20000 in
theorem ggX5_settles_X5_keepBy : GoodIn wsX5_settles wsX5_keepBy := goodIn_r _ [19, 2, 3, 4, 148, 149, 150, 151, 152, 153, 154, 155, 156, 157, 158, 159, 160, 161, 162, 163] (by decide +kernel) (by decide +kernel)
set_option maxRecDepth 20000 in
theorem gX5_settles_X5_keepBy : GoodIn wsX5_settles (wsV RX5 217 RX5 yX5_keepBy wsX5_keepBy) := goodIn_app (goodIn_of _ (by decide +kernel)) ggX5_settles_X5_keepBy
theorem dX5_settles_0 : decode cX5_settles 0 = .ok (.aload_n 0, 1) := by decide +kernel
theorem dX5_settles_1 : decode cX5_settles 1 = .ok (.iconst 0, 1) := by decide +kernel
theorem dX5_settles_2 : decode cX5_settles 2 = .ok (.putfield 48, 3) := by decide +kernel
theorem dX5_settles_5 : decode cX5_settles 5 = .ok (.aload_n 0, 1) := by decide +kernel
theorem dX5_settles_6 : decode cX5_settles 6 = .ok (.getfield 17, 3) := by decide +kernel
theorem dX5_settles_9 : decode cX5_settles 9 = .ok (.astore_n 1, 1) := by decide +kernel
theorem dX5_settles_10 : decode cX5_settles 10 = .ok (.aload_n 0, 1) := by decide +kernel
theorem dX5_settles_11 : decode cX5_settles 11 = .ok (.getfield 13, 3) := by decide +kernel
theorem dX5_settles_14 : decode cX5_settles 14 = .ok (.astore_n 2, 1) := by decide +kernel
theorem dX5_settles_15 : decode cX5_settles 15 = .ok (.aload_n 0, 1) := by decide +kernel
theorem dX5_settles_16 : decode cX5_settles 16 = .ok (.getfield 66, 3) := by decide +kernel
theorem dX5_settles_19 : decode cX5_settles 19 = .ok (.istore_n 3, 1) := by decide +kernel
theorem dX5_settles_20 : decode cX5_settles 20 = .ok (.aload_n 0, 1) := by decide +kernel
theorem dX5_settles_21 : decode cX5_settles 21 = .ok (.invokevirtual 221, 3) := by decide +kernel
theorem dX5_settles_24 : decode cX5_settles 24 = .ok (.aload_n 0, 1) := by decide +kernel
theorem dX5_settles_25 : decode cX5_settles 25 = .ok (.invokevirtual 230, 3) := by decide +kernel
theorem dX5_settles_28 : decode cX5_settles 28 = .ok (.istore 4, 2) := by decide +kernel
theorem dX5_settles_30 : decode cX5_settles 30 = .ok (.aload_n 0, 1) := by decide +kernel
theorem dX5_settles_31 : decode cX5_settles 31 = .ok (.aload_n 1, 1) := by decide +kernel
theorem dX5_settles_32 : decode cX5_settles 32 = .ok (.aload_n 2, 1) := by decide +kernel
theorem dX5_settles_33 : decode cX5_settles 33 = .ok (.iload_n 3, 1) := by decide +kernel
theorem dX5_settles_34 : decode cX5_settles 34 = .ok (.invokevirtual 217, 3) := by decide +kernel
theorem dX5_settles_37 : decode cX5_settles 37 = .ok (.iload 4, 2) := by decide +kernel
theorem dX5_settles_39 : decode cX5_settles 39 = .ok (.ireturn, 1) := by decide +kernel
set_option maxRecDepth 20000 in
theorem ggX5_advise_X5_has : GoodIn wsX5_advise wsX5_has := goodIn_r _ [7] (by decide +kernel) (by decide +kernel)
set_option maxRecDepth 20000 in
theorem gX5_advise_X5_has : GoodIn wsX5_advise (va_wsS RX5 76 yX5_has wsX5_has) := goodIn_app (goodIn_of _ (by decide +kernel)) ggX5_advise_X5_has
set_option maxRecDepth 20000 in
theorem ggX5_advise_X5_pairsOver : GoodIn wsX5_advise wsX5_pairsOver := goodIn_r _ [11, 12, 13, 14, 15, 16, 6, 17, 18, 2, 19, 20, 21, 4, 5, 7, 22, 23, 24, 25, 26, 27, 28, 29, 30, 31, 32, 33, 34, 35, 36, 37, 38, 39, 40, 41, 42, 43, 44, 45, 46, 47, 48, 49, 50, 51, 52, 53, 54, 55, 56, 57, 58, 59, 60] (by decide +kernel) (by decide +kernel)
set_option maxRecDepth 20000 in
theorem gX5_advise_X5_pairsOver : GoodIn wsX5_advise (wsV RX5 205 RX5 yX5_pairsOver wsX5_pairsOver) := goodIn_app (goodIn_of _ (by decide +kernel)) ggX5_advise_X5_pairsOver
theorem dX5_advise_0 : decode cX5_advise 0 = .ok (.aload_n 0, 1) := by decide +kernel
theorem dX5_advise_1 : decode cX5_advise 1 = .ok (.iconst 0, 1) := by decide +kernel
theorem dX5_advise_2 : decode cX5_advise 2 = .ok (.putfield 48, 3) := by decide +kernel
theorem dX5_advise_5 : decode cX5_advise 5 = .ok (.iconst (-1), 1) := by decide +kernel
theorem dX5_advise_6 : decode cX5_advise 6 = .ok (.istore_n 1, 1) := by decide +kernel
theorem dX5_advise_7 : decode cX5_advise 7 = .ok (.iconst 0, 1) := by decide +kernel
theorem dX5_advise_8 : decode cX5_advise 8 = .ok (.istore_n 2, 1) := by decide +kernel
theorem dX5_advise_9 : decode cX5_advise 9 = .ok (.iconst 0, 1) := by decide +kernel
theorem dX5_advise_10 : decode cX5_advise 10 = .ok (.istore_n 3, 1) := by decide +kernel
theorem dX5_advise_11 : decode cX5_advise 11 = .ok (.iload_n 3, 1) := by decide +kernel
theorem dX5_advise_12 : decode cX5_advise 12 = .ok (.aload_n 0, 1) := by decide +kernel
theorem dX5_advise_13 : decode cX5_advise 13 = .ok (.getfield 59, 3) := by decide +kernel
theorem dX5_advise_16 : decode cX5_advise 16 = .ok (.if_icmp .ge 58, 3) := by decide +kernel
theorem dX5_advise_19 : decode cX5_advise 19 = .ok (.aload_n 0, 1) := by decide +kernel
theorem dX5_advise_20 : decode cX5_advise 20 = .ok (.getfield 73, 3) := by decide +kernel
theorem dX5_advise_23 : decode cX5_advise 23 = .ok (.iload_n 3, 1) := by decide +kernel
theorem dX5_advise_24 : decode cX5_advise 24 = .ok (.invokestatic 76, 3) := by decide +kernel
theorem dX5_advise_27 : decode cX5_advise 27 = .ok (.ifCond .ne 6, 3) := by decide +kernel
theorem dX5_advise_30 : decode cX5_advise 30 = .ok (.goto 38, 3) := by decide +kernel
theorem dX5_advise_33 : decode cX5_advise 33 = .ok (.aload_n 0, 1) := by decide +kernel
theorem dX5_advise_34 : decode cX5_advise 34 = .ok (.aload_n 0, 1) := by decide +kernel
theorem dX5_advise_35 : decode cX5_advise 35 = .ok (.getfield 73, 3) := by decide +kernel
theorem dX5_advise_38 : decode cX5_advise 38 = .ok (.iconst 1, 1) := by decide +kernel
theorem dX5_advise_39 : decode cX5_advise 39 = .ok (.iload_n 3, 1) := by decide +kernel
theorem dX5_advise_40 : decode cX5_advise 40 = .ok (.ishl, 1) := by decide +kernel
theorem dX5_advise_41 : decode cX5_advise 41 = .ok (.iconst (-1), 1) := by decide +kernel
theorem dX5_advise_42 : decode cX5_advise 42 = .ok (.ixor, 1) := by decide +kernel
theorem dX5_advise_43 : decode cX5_advise 43 = .ok (.iand, 1) := by decide +kernel
theorem dX5_advise_44 : decode cX5_advise 44 = .ok (.invokevirtual 205, 3) := by decide +kernel
theorem dX5_advise_47 : decode cX5_advise 47 = .ok (.istore 4, 2) := by decide +kernel
theorem dX5_advise_49 : decode cX5_advise 49 = .ok (.iload_n 1, 1) := by decide +kernel
theorem dX5_advise_50 : decode cX5_advise 50 = .ok (.iconst (-1), 1) := by decide +kernel
theorem dX5_advise_51 : decode cX5_advise 51 = .ok (.if_icmp .eq 12, 3) := by decide +kernel
theorem dX5_advise_54 : decode cX5_advise 54 = .ok (.iload 4, 2) := by decide +kernel
theorem dX5_advise_56 : decode cX5_advise 56 = .ok (.iload_n 2, 1) := by decide +kernel
theorem dX5_advise_57 : decode cX5_advise 57 = .ok (.if_icmp .lt 6, 3) := by decide +kernel
theorem dX5_advise_60 : decode cX5_advise 60 = .ok (.goto 8, 3) := by decide +kernel
theorem dX5_advise_63 : decode cX5_advise 63 = .ok (.iload_n 3, 1) := by decide +kernel
theorem dX5_advise_64 : decode cX5_advise 64 = .ok (.istore_n 1, 1) := by decide +kernel
theorem dX5_advise_65 : decode cX5_advise 65 = .ok (.iload 4, 2) := by decide +kernel
theorem dX5_advise_67 : decode cX5_advise 67 = .ok (.istore_n 2, 1) := by decide +kernel
theorem dX5_advise_68 : decode cX5_advise 68 = .ok (.iinc 3 1, 3) := by decide +kernel
theorem dX5_advise_71 : decode cX5_advise 71 = .ok (.goto (-60), 3) := by decide +kernel
theorem dX5_advise_74 : decode cX5_advise 74 = .ok (.iload_n 1, 1) := by decide +kernel
theorem dX5_advise_75 : decode cX5_advise 75 = .ok (.ireturn, 1) := by decide +kernel
set_option maxRecDepth 20000 in
theorem ggX5_mean_X5_sheets : GoodIn wsX5_mean wsX5_sheets := goodIn_r _ [7, 2, 8, 9, 10, 6, 11, 12, 13, 14, 15, 16, 17, 18, 19, 20, 26, 27, 28, 29, 30, 31, 32, 33, 34, 35, 36, 37, 38, 39, 40, 41] (by decide +kernel) (by decide +kernel)
set_option maxRecDepth 20000 in
theorem gX5_mean_X5_sheets : GoodIn wsX5_mean (wsV RX5 198 RX5 yX5_sheets wsX5_sheets) := goodIn_app (goodIn_of _ (by decide +kernel)) ggX5_mean_X5_sheets
set_option maxRecDepth 20000 in
theorem ggX5_mean_X5_isThere : GoodIn wsX5_mean wsX5_isThere := goodIn_r _ [15, 16, 17, 18, 6, 19, 20, 26, 27, 28, 29, 30, 31, 32, 33, 34, 35, 36, 37, 38, 39, 40, 41] (by decide +kernel) (by decide +kernel)
set_option maxRecDepth 20000 in
theorem gX5_mean_X5_isThere : GoodIn wsX5_mean (wsV RX5 78 RX5 yX5_isThere wsX5_isThere) := goodIn_app (goodIn_of _ (by decide +kernel)) ggX5_mean_X5_isThere
set_option maxRecDepth 20000 in
theorem ggX5_mean_X5_age : GoodIn wsX5_mean wsX5_age := goodIn_r _ [24, 25, 16, 17, 18, 6, 19, 20, 26, 27, 28, 29, 30, 31, 32, 33, 34, 35, 36, 37, 38, 39, 40, 41] (by decide +kernel) (by decide +kernel)
set_option maxRecDepth 20000 in
theorem gX5_mean_X5_age : GoodIn wsX5_mean (wsV RX5 81 RX5 yX5_age wsX5_age) := goodIn_app (goodIn_of _ (by decide +kernel)) ggX5_mean_X5_age
theorem dX5_mean_0 : decode cX5_mean 0 = .ok (.aload_n 0, 1) := by decide +kernel
theorem dX5_mean_1 : decode cX5_mean 1 = .ok (.iconst 0, 1) := by decide +kernel
theorem dX5_mean_2 : decode cX5_mean 2 = .ok (.putfield 48, 3) := by decide +kernel
theorem dX5_mean_5 : decode cX5_mean 5 = .ok (.aload_n 0, 1) := by decide +kernel
theorem dX5_mean_6 : decode cX5_mean 6 = .ok (.invokevirtual 198, 3) := by decide +kernel
theorem dX5_mean_9 : decode cX5_mean 9 = .ok (.istore_n 1, 1) := by decide +kernel
theorem dX5_mean_10 : decode cX5_mean 10 = .ok (.iconst 0, 1) := by decide +kernel
theorem dX5_mean_11 : decode cX5_mean 11 = .ok (.istore_n 2, 1) := by decide +kernel
theorem dX5_mean_12 : decode cX5_mean 12 = .ok (.iconst 0, 1) := by decide +kernel
theorem dX5_mean_13 : decode cX5_mean 13 = .ok (.istore_n 3, 1) := by decide +kernel
theorem dX5_mean_14 : decode cX5_mean 14 = .ok (.iload_n 3, 1) := by decide +kernel
theorem dX5_mean_15 : decode cX5_mean 15 = .ok (.aload_n 0, 1) := by decide +kernel
theorem dX5_mean_16 : decode cX5_mean 16 = .ok (.getfield 52, 3) := by decide +kernel
theorem dX5_mean_19 : decode cX5_mean 19 = .ok (.if_icmp .ge 51, 3) := by decide +kernel
theorem dX5_mean_22 : decode cX5_mean 22 = .ok (.iconst 0, 1) := by decide +kernel
theorem dX5_mean_23 : decode cX5_mean 23 = .ok (.istore 4, 2) := by decide +kernel
theorem dX5_mean_25 : decode cX5_mean 25 = .ok (.iload 4, 2) := by decide +kernel
theorem dX5_mean_27 : decode cX5_mean 27 = .ok (.aload_n 0, 1) := by decide +kernel
theorem dX5_mean_28 : decode cX5_mean 28 = .ok (.getfield 52, 3) := by decide +kernel
theorem dX5_mean_31 : decode cX5_mean 31 = .ok (.if_icmp .ge 33, 3) := by decide +kernel
theorem dX5_mean_34 : decode cX5_mean 34 = .ok (.iload_n 2, 1) := by decide +kernel
theorem dX5_mean_35 : decode cX5_mean 35 = .ok (.aload_n 0, 1) := by decide +kernel
theorem dX5_mean_36 : decode cX5_mean 36 = .ok (.iload_n 3, 1) := by decide +kernel
theorem dX5_mean_37 : decode cX5_mean 37 = .ok (.iload 4, 2) := by decide +kernel
theorem dX5_mean_39 : decode cX5_mean 39 = .ok (.invokevirtual 78, 3) := by decide +kernel
theorem dX5_mean_42 : decode cX5_mean 42 = .ok (.ifCond .eq 13, 3) := by decide +kernel
theorem dX5_mean_45 : decode cX5_mean 45 = .ok (.aload_n 0, 1) := by decide +kernel
theorem dX5_mean_46 : decode cX5_mean 46 = .ok (.iload_n 3, 1) := by decide +kernel
theorem dX5_mean_47 : decode cX5_mean 47 = .ok (.iload 4, 2) := by decide +kernel
theorem dX5_mean_49 : decode cX5_mean 49 = .ok (.invokevirtual 81, 3) := by decide +kernel
theorem dX5_mean_52 : decode cX5_mean 52 = .ok (.goto 4, 3) := by decide +kernel
theorem dX5_mean_55 : decode cX5_mean 55 = .ok (.iconst 0, 1) := by decide +kernel
theorem dX5_mean_56 : decode cX5_mean 56 = .ok (.iadd, 1) := by decide +kernel
theorem dX5_mean_57 : decode cX5_mean 57 = .ok (.istore_n 2, 1) := by decide +kernel
theorem dX5_mean_58 : decode cX5_mean 58 = .ok (.iinc 4 1, 3) := by decide +kernel
theorem dX5_mean_61 : decode cX5_mean 61 = .ok (.goto (-36), 3) := by decide +kernel
theorem dX5_mean_64 : decode cX5_mean 64 = .ok (.iinc 3 1, 3) := by decide +kernel
theorem dX5_mean_67 : decode cX5_mean 67 = .ok (.goto (-53), 3) := by decide +kernel
theorem dX5_mean_70 : decode cX5_mean 70 = .ok (.iload_n 1, 1) := by decide +kernel
theorem dX5_mean_71 : decode cX5_mean 71 = .ok (.ifCond .ne 7, 3) := by decide +kernel
theorem dX5_mean_74 : decode cX5_mean 74 = .ok (.dconst 0, 1) := by decide +kernel
theorem dX5_mean_75 : decode cX5_mean 75 = .ok (.goto 8, 3) := by decide +kernel
theorem dX5_mean_78 : decode cX5_mean 78 = .ok (.iload_n 2, 1) := by decide +kernel
theorem dX5_mean_79 : decode cX5_mean 79 = .ok (.i2d, 1) := by decide +kernel
theorem dX5_mean_80 : decode cX5_mean 80 = .ok (.iload_n 1, 1) := by decide +kernel
theorem dX5_mean_81 : decode cX5_mean 81 = .ok (.i2d, 1) := by decide +kernel
theorem dX5_mean_82 : decode cX5_mean 82 = .ok (.ddiv, 1) := by decide +kernel
theorem dX5_mean_83 : decode cX5_mean 83 = .ok (.dreturn, 1) := by decide +kernel
set_option maxRecDepth 20000 in
theorem ggX5_digest_X5_counted : GoodIn wsX5_digest wsX5_counted := goodIn_r _ [10, 11, 4, 5, 12, 13, 14, 15, 16, 17, 18, 19, 20, 21, 22, 9, 23, 24, 25, 26, 27, 28, 29, 30, 31, 32, 33, 34, 35, 36, 37, 38, 39, 40, 41, 42, 43, 44, 45, 46, 47, 48, 49, 50, 51, 52, 53, 54, 55, 56, 57, 58, 59, 60, 61, 62, 63, 64, 65, 66, 67, 68, 69, 70, 71, 72, 73, 74, 75, 76, 77, 78, 79, 80, 81, 82, 83, 84, 85, 86, 87, 88, 89, 90, 91, 92, 93, 94, 95, 96, 97, 98, 99, 100, 101, 102, 103, 104, 105, 106, 107, 108, 109, 110, 111, 112, 147, 148, 149, 150, 151, 152, 153, 154, 155, 156, 157, 158, 159, 160, 161, 162] (by decide +kernel) (by decide +kernel)
set_option maxRecDepth 20000 in
theorem gX5_digest_X5_counted : GoodIn wsX5_digest (wsV RX5 208 RX5 yX5_counted wsX5_counted) := goodIn_app (goodIn_of _ (by decide +kernel)) ggX5_digest_X5_counted
set_option maxRecDepth 20000 in
theorem ggX5_digest_X5_hutTold : GoodIn wsX5_digest wsX5_hutTold := goodIn_r _ [116, 117, 118, 24, 25, 26, 9, 27, 4, 28, 29, 30, 31, 32, 33, 34, 35, 36, 119, 120, 121, 122, 46, 48, 49, 50, 51, 52, 53, 54, 55, 56, 5, 57, 58, 59, 60, 61, 62, 63, 64, 65, 66, 67, 68, 69, 70, 71, 72, 73, 74, 75, 76, 77, 78, 79, 47, 80, 81, 82, 83, 84, 85, 86, 87, 88, 89, 90, 91, 123, 124, 125, 126, 41, 42, 43, 44, 45, 92, 93, 94, 95, 96, 97, 98, 99, 12, 100, 101, 102, 103, 147, 148, 149, 150, 151, 152, 153, 154, 155, 156, 157, 158, 159, 160, 161, 162] (by decide +kernel) (by decide +kernel)
set_option maxRecDepth 20000 in
theorem gX5_digest_X5_hutTold : GoodIn wsX5_digest (wsV RX5 195 RX5 yX5_hutTold wsX5_hutTold) := goodIn_app (goodIn_of _ (by decide +kernel)) ggX5_digest_X5_hutTold
set_option maxRecDepth 20000 in
theorem ggX5_digest_X5_passTold : GoodIn wsX5_digest wsX5_passTold := goodIn_r _ [130, 57, 58, 112, 12, 67, 68, 9, 69, 131, 132, 133, 134, 4, 59, 60, 61, 62, 63, 64, 65, 66, 28, 29, 30, 31, 32, 33, 34, 35, 36, 147, 148, 149, 150, 151, 152, 153, 154, 155, 156, 157, 158, 159, 160, 161, 162] (by decide +kernel) (by decide +kernel)
set_option maxRecDepth 20000 in
theorem gX5_digest_X5_passTold : GoodIn wsX5_digest (wsV RX5 186 RX5 yX5_passTold wsX5_passTold) := goodIn_app (goodIn_of _ (by decide +kernel)) ggX5_digest_X5_passTold
set_option maxRecDepth 20000 in
theorem ggX5_digest_X5_lookBy : GoodIn wsX5_digest wsX5_lookBy := goodIn_r _ [51, 52, 53, 54, 9, 55, 56, 5, 57, 58, 59, 60, 61, 62, 63, 64, 65, 66, 28, 29, 30, 31, 32, 33, 34, 35, 36, 67, 68, 69, 70, 71, 72, 73, 74, 75, 76, 77, 46, 4, 78, 79, 47, 80, 81, 82, 83, 84, 85, 86, 87, 88, 89, 90, 91, 147, 148, 149, 150, 151, 152, 153, 154, 155, 156, 157, 158, 159, 160, 161, 162] (by decide +kernel) (by decide +kernel)
set_option maxRecDepth 20000 in
theorem gX5_digest_X5_lookBy : GoodIn wsX5_digest (wsV RX5 143 RX5 yX5_lookBy wsX5_lookBy) := goodIn_app (goodIn_of _ (by decide +kernel)) ggX5_digest_X5_lookBy
set_option maxRecDepth 20000 in
theorem ggX5_digest_X5_sheetTold : GoodIn wsX5_digest wsX5_sheetTold := goodIn_r _ [138, 28, 29, 30, 9, 31, 32, 33, 34, 35, 36, 139, 140, 141, 142, 11, 13, 14, 15, 16, 17, 18, 19, 147, 148, 149, 150, 151, 152, 153, 154, 155, 156, 157, 158, 159, 160, 161, 162] (by decide +kernel) (by decide +kernel)
set_option maxRecDepth 20000 in
theorem gX5_digest_X5_sheetTold : GoodIn wsX5_digest (wsV RX5 176 RX5 yX5_sheetTold wsX5_sheetTold) := goodIn_app (goodIn_of _ (by decide +kernel)) ggX5_digest_X5_sheetTold
set_option maxRecDepth 20000 in
theorem ggX5_digest_X5_wayTold : GoodIn wsX5_digest wsX5_wayTold := goodIn_r _ [146, 46, 78, 47, 147, 148, 149, 150, 151, 152, 153, 154, 155, 156, 157, 158, 159, 160, 161, 162] (by decide +kernel) (by decide +kernel)
set_option maxRecDepth 20000 in
theorem gX5_digest_X5_wayTold : GoodIn wsX5_digest (wsV RX5 180 RX5 yX5_wayTold wsX5_wayTold) := goodIn_app (goodIn_of _ (by decide +kernel)) ggX5_digest_X5_wayTold
theorem dX5_digest_0 : decode cX5_digest 0 = .ok (.aload_n 0, 1) := by decide +kernel
theorem dX5_digest_1 : decode cX5_digest 1 = .ok (.iconst 0, 1) := by decide +kernel
theorem dX5_digest_2 : decode cX5_digest 2 = .ok (.putfield 48, 3) := by decide +kernel
theorem dX5_digest_5 : decode cX5_digest 5 = .ok (.ldc2_w 233, 3) := by decide +kernel
theorem dX5_digest_8 : decode cX5_digest 8 = .ok (.lstore_n 1, 1) := by decide +kernel
theorem dX5_digest_9 : decode cX5_digest 9 = .ok (.iconst 0, 1) := by decide +kernel
theorem dX5_digest_10 : decode cX5_digest 10 = .ok (.istore_n 3, 1) := by decide +kernel
theorem dX5_digest_11 : decode cX5_digest 11 = .ok (.iload_n 3, 1) := by decide +kernel
theorem dX5_digest_12 : decode cX5_digest 12 = .ok (.bipush 6, 2) := by decide +kernel
theorem dX5_digest_14 : decode cX5_digest 14 = .ok (.if_icmp .gt 22, 3) := by decide +kernel
theorem dX5_digest_17 : decode cX5_digest 17 = .ok (.lload_n 1, 1) := by decide +kernel
theorem dX5_digest_18 : decode cX5_digest 18 = .ok (.ldc2_w 235, 3) := by decide +kernel
theorem dX5_digest_21 : decode cX5_digest 21 = .ok (.lmul, 1) := by decide +kernel
theorem dX5_digest_22 : decode cX5_digest 22 = .ok (.aload_n 0, 1) := by decide +kernel
theorem dX5_digest_23 : decode cX5_digest 23 = .ok (.iload_n 3, 1) := by decide +kernel
theorem dX5_digest_24 : decode cX5_digest 24 = .ok (.invokevirtual 208, 3) := by decide +kernel
theorem dX5_digest_27 : decode cX5_digest 27 = .ok (.i2l, 1) := by decide +kernel
theorem dX5_digest_28 : decode cX5_digest 28 = .ok (.ladd, 1) := by decide +kernel
theorem dX5_digest_29 : decode cX5_digest 29 = .ok (.lstore_n 1, 1) := by decide +kernel
theorem dX5_digest_30 : decode cX5_digest 30 = .ok (.iinc 3 1, 3) := by decide +kernel
theorem dX5_digest_33 : decode cX5_digest 33 = .ok (.goto (-22), 3) := by decide +kernel
theorem dX5_digest_36 : decode cX5_digest 36 = .ok (.iconst 0, 1) := by decide +kernel
theorem dX5_digest_37 : decode cX5_digest 37 = .ok (.istore_n 3, 1) := by decide +kernel
theorem dX5_digest_38 : decode cX5_digest 38 = .ok (.iload_n 3, 1) := by decide +kernel
theorem dX5_digest_39 : decode cX5_digest 39 = .ok (.aload_n 0, 1) := by decide +kernel
theorem dX5_digest_40 : decode cX5_digest 40 = .ok (.getfield 52, 3) := by decide +kernel
theorem dX5_digest_43 : decode cX5_digest 43 = .ok (.if_icmp .ge 39, 3) := by decide +kernel
theorem dX5_digest_46 : decode cX5_digest 46 = .ok (.iconst 0, 1) := by decide +kernel
theorem dX5_digest_47 : decode cX5_digest 47 = .ok (.istore 4, 2) := by decide +kernel
theorem dX5_digest_49 : decode cX5_digest 49 = .ok (.iload 4, 2) := by decide +kernel
theorem dX5_digest_51 : decode cX5_digest 51 = .ok (.iconst 4, 1) := by decide +kernel
theorem dX5_digest_52 : decode cX5_digest 52 = .ok (.if_icmp .gt 24, 3) := by decide +kernel
theorem dX5_digest_55 : decode cX5_digest 55 = .ok (.lload_n 1, 1) := by decide +kernel
theorem dX5_digest_56 : decode cX5_digest 56 = .ok (.ldc2_w 235, 3) := by decide +kernel
theorem dX5_digest_59 : decode cX5_digest 59 = .ok (.lmul, 1) := by decide +kernel
theorem dX5_digest_60 : decode cX5_digest 60 = .ok (.aload_n 0, 1) := by decide +kernel
theorem dX5_digest_61 : decode cX5_digest 61 = .ok (.iload_n 3, 1) := by decide +kernel
theorem dX5_digest_62 : decode cX5_digest 62 = .ok (.iload 4, 2) := by decide +kernel
theorem dX5_digest_64 : decode cX5_digest 64 = .ok (.invokevirtual 195, 3) := by decide +kernel
theorem dX5_digest_67 : decode cX5_digest 67 = .ok (.i2l, 1) := by decide +kernel
theorem dX5_digest_68 : decode cX5_digest 68 = .ok (.ladd, 1) := by decide +kernel
theorem dX5_digest_69 : decode cX5_digest 69 = .ok (.lstore_n 1, 1) := by decide +kernel
theorem dX5_digest_70 : decode cX5_digest 70 = .ok (.iinc 4 1, 3) := by decide +kernel
theorem dX5_digest_73 : decode cX5_digest 73 = .ok (.goto (-24), 3) := by decide +kernel
theorem dX5_digest_76 : decode cX5_digest 76 = .ok (.iinc 3 1, 3) := by decide +kernel
theorem dX5_digest_79 : decode cX5_digest 79 = .ok (.goto (-41), 3) := by decide +kernel
theorem dX5_digest_82 : decode cX5_digest 82 = .ok (.iconst 0, 1) := by decide +kernel
theorem dX5_digest_83 : decode cX5_digest 83 = .ok (.istore_n 3, 1) := by decide +kernel
theorem dX5_digest_84 : decode cX5_digest 84 = .ok (.iload_n 3, 1) := by decide +kernel
theorem dX5_digest_85 : decode cX5_digest 85 = .ok (.aload_n 0, 1) := by decide +kernel
theorem dX5_digest_86 : decode cX5_digest 86 = .ok (.getfield 59, 3) := by decide +kernel
theorem dX5_digest_89 : decode cX5_digest 89 = .ok (.if_icmp .ge 39, 3) := by decide +kernel
theorem dX5_digest_92 : decode cX5_digest 92 = .ok (.iconst 0, 1) := by decide +kernel
theorem dX5_digest_93 : decode cX5_digest 93 = .ok (.istore 4, 2) := by decide +kernel
theorem dX5_digest_95 : decode cX5_digest 95 = .ok (.iload 4, 2) := by decide +kernel
theorem dX5_digest_97 : decode cX5_digest 97 = .ok (.iconst 4, 1) := by decide +kernel
theorem dX5_digest_98 : decode cX5_digest 98 = .ok (.if_icmp .gt 24, 3) := by decide +kernel
theorem dX5_digest_101 : decode cX5_digest 101 = .ok (.lload_n 1, 1) := by decide +kernel
theorem dX5_digest_102 : decode cX5_digest 102 = .ok (.ldc2_w 235, 3) := by decide +kernel
theorem dX5_digest_105 : decode cX5_digest 105 = .ok (.lmul, 1) := by decide +kernel
theorem dX5_digest_106 : decode cX5_digest 106 = .ok (.aload_n 0, 1) := by decide +kernel
theorem dX5_digest_107 : decode cX5_digest 107 = .ok (.iload_n 3, 1) := by decide +kernel
theorem dX5_digest_108 : decode cX5_digest 108 = .ok (.iload 4, 2) := by decide +kernel
theorem dX5_digest_110 : decode cX5_digest 110 = .ok (.invokevirtual 186, 3) := by decide +kernel
theorem dX5_digest_113 : decode cX5_digest 113 = .ok (.i2l, 1) := by decide +kernel
theorem dX5_digest_114 : decode cX5_digest 114 = .ok (.ladd, 1) := by decide +kernel
theorem dX5_digest_115 : decode cX5_digest 115 = .ok (.lstore_n 1, 1) := by decide +kernel
theorem dX5_digest_116 : decode cX5_digest 116 = .ok (.iinc 4 1, 3) := by decide +kernel
theorem dX5_digest_119 : decode cX5_digest 119 = .ok (.goto (-24), 3) := by decide +kernel
theorem dX5_digest_122 : decode cX5_digest 122 = .ok (.iinc 3 1, 3) := by decide +kernel
theorem dX5_digest_125 : decode cX5_digest 125 = .ok (.goto (-41), 3) := by decide +kernel
theorem dX5_digest_128 : decode cX5_digest 128 = .ok (.iconst 0, 1) := by decide +kernel
theorem dX5_digest_129 : decode cX5_digest 129 = .ok (.istore_n 3, 1) := by decide +kernel
theorem dX5_digest_130 : decode cX5_digest 130 = .ok (.iload_n 3, 1) := by decide +kernel
theorem dX5_digest_131 : decode cX5_digest 131 = .ok (.aload_n 0, 1) := by decide +kernel
theorem dX5_digest_132 : decode cX5_digest 132 = .ok (.getfield 52, 3) := by decide +kernel
theorem dX5_digest_135 : decode cX5_digest 135 = .ok (.if_icmp .ge 95, 3) := by decide +kernel
theorem dX5_digest_138 : decode cX5_digest 138 = .ok (.aload_n 0, 1) := by decide +kernel
theorem dX5_digest_139 : decode cX5_digest 139 = .ok (.iload_n 3, 1) := by decide +kernel
theorem dX5_digest_140 : decode cX5_digest 140 = .ok (.invokevirtual 143, 3) := by decide +kernel
theorem dX5_digest_143 : decode cX5_digest 143 = .ok (.iconst 0, 1) := by decide +kernel
theorem dX5_digest_144 : decode cX5_digest 144 = .ok (.istore 4, 2) := by decide +kernel
theorem dX5_digest_146 : decode cX5_digest 146 = .ok (.iload 4, 2) := by decide +kernel
theorem dX5_digest_148 : decode cX5_digest 148 = .ok (.aload_n 0, 1) := by decide +kernel
theorem dX5_digest_149 : decode cX5_digest 149 = .ok (.getfield 52, 3) := by decide +kernel
theorem dX5_digest_152 : decode cX5_digest 152 = .ok (.if_icmp .ge 72, 3) := by decide +kernel
theorem dX5_digest_155 : decode cX5_digest 155 = .ok (.iconst 0, 1) := by decide +kernel
theorem dX5_digest_156 : decode cX5_digest 156 = .ok (.istore 5, 2) := by decide +kernel
theorem dX5_digest_158 : decode cX5_digest 158 = .ok (.iload 5, 2) := by decide +kernel
theorem dX5_digest_160 : decode cX5_digest 160 = .ok (.iconst 2, 1) := by decide +kernel
theorem dX5_digest_161 : decode cX5_digest 161 = .ok (.if_icmp .gt 26, 3) := by decide +kernel
theorem dX5_digest_164 : decode cX5_digest 164 = .ok (.lload_n 1, 1) := by decide +kernel
theorem dX5_digest_165 : decode cX5_digest 165 = .ok (.ldc2_w 235, 3) := by decide +kernel
theorem dX5_digest_168 : decode cX5_digest 168 = .ok (.lmul, 1) := by decide +kernel
theorem dX5_digest_169 : decode cX5_digest 169 = .ok (.aload_n 0, 1) := by decide +kernel
theorem dX5_digest_170 : decode cX5_digest 170 = .ok (.iload_n 3, 1) := by decide +kernel
theorem dX5_digest_171 : decode cX5_digest 171 = .ok (.iload 4, 2) := by decide +kernel
theorem dX5_digest_173 : decode cX5_digest 173 = .ok (.iload 5, 2) := by decide +kernel
theorem dX5_digest_175 : decode cX5_digest 175 = .ok (.invokevirtual 176, 3) := by decide +kernel
theorem dX5_digest_178 : decode cX5_digest 178 = .ok (.i2l, 1) := by decide +kernel
theorem dX5_digest_179 : decode cX5_digest 179 = .ok (.ladd, 1) := by decide +kernel
theorem dX5_digest_180 : decode cX5_digest 180 = .ok (.lstore_n 1, 1) := by decide +kernel
theorem dX5_digest_181 : decode cX5_digest 181 = .ok (.iinc 5 1, 3) := by decide +kernel
theorem dX5_digest_184 : decode cX5_digest 184 = .ok (.goto (-26), 3) := by decide +kernel
theorem dX5_digest_187 : decode cX5_digest 187 = .ok (.iconst 0, 1) := by decide +kernel
theorem dX5_digest_188 : decode cX5_digest 188 = .ok (.istore 5, 2) := by decide +kernel
theorem dX5_digest_190 : decode cX5_digest 190 = .ok (.iload 5, 2) := by decide +kernel
theorem dX5_digest_192 : decode cX5_digest 192 = .ok (.iconst 2, 1) := by decide +kernel
theorem dX5_digest_193 : decode cX5_digest 193 = .ok (.if_icmp .gt 25, 3) := by decide +kernel
theorem dX5_digest_196 : decode cX5_digest 196 = .ok (.lload_n 1, 1) := by decide +kernel
theorem dX5_digest_197 : decode cX5_digest 197 = .ok (.ldc2_w 235, 3) := by decide +kernel
theorem dX5_digest_200 : decode cX5_digest 200 = .ok (.lmul, 1) := by decide +kernel
theorem dX5_digest_201 : decode cX5_digest 201 = .ok (.aload_n 0, 1) := by decide +kernel
theorem dX5_digest_202 : decode cX5_digest 202 = .ok (.iload 4, 2) := by decide +kernel
theorem dX5_digest_204 : decode cX5_digest 204 = .ok (.iload 5, 2) := by decide +kernel
theorem dX5_digest_206 : decode cX5_digest 206 = .ok (.invokevirtual 180, 3) := by decide +kernel
theorem dX5_digest_209 : decode cX5_digest 209 = .ok (.i2l, 1) := by decide +kernel
theorem dX5_digest_210 : decode cX5_digest 210 = .ok (.ladd, 1) := by decide +kernel
theorem dX5_digest_211 : decode cX5_digest 211 = .ok (.lstore_n 1, 1) := by decide +kernel
theorem dX5_digest_212 : decode cX5_digest 212 = .ok (.iinc 5 1, 3) := by decide +kernel
theorem dX5_digest_215 : decode cX5_digest 215 = .ok (.goto (-25), 3) := by decide +kernel
theorem dX5_digest_218 : decode cX5_digest 218 = .ok (.iinc 4 1, 3) := by decide +kernel
theorem dX5_digest_221 : decode cX5_digest 221 = .ok (.goto (-75), 3) := by decide +kernel
theorem dX5_digest_224 : decode cX5_digest 224 = .ok (.iinc 3 1, 3) := by decide +kernel
theorem dX5_digest_227 : decode cX5_digest 227 = .ok (.goto (-97), 3) := by decide +kernel
theorem dX5_digest_230 : decode cX5_digest 230 = .ok (.lload_n 1, 1) := by decide +kernel
theorem dX5_digest_231 : decode cX5_digest 231 = .ok (.lreturn, 1) := by decide +kernel
theorem dJ6_bitCount_0f7a4_0 : decode cJ6_bitCount_0f7a4 0 = .ok (.iload_n 0, 1) := by decide +kernel
theorem dJ6_bitCount_0f7a4_1 : decode cJ6_bitCount_0f7a4 1 = .ok (.iload_n 0, 1) := by decide +kernel
theorem dJ6_bitCount_0f7a4_2 : decode cJ6_bitCount_0f7a4 2 = .ok (.iconst 1, 1) := by decide +kernel
theorem dJ6_bitCount_0f7a4_3 : decode cJ6_bitCount_0f7a4 3 = .ok (.iushr, 1) := by decide +kernel
theorem dJ6_bitCount_0f7a4_4 : decode cJ6_bitCount_0f7a4 4 = .ok (.ldc_w 265, 3) := by decide +kernel
theorem dJ6_bitCount_0f7a4_7 : decode cJ6_bitCount_0f7a4 7 = .ok (.iand, 1) := by decide +kernel
theorem dJ6_bitCount_0f7a4_8 : decode cJ6_bitCount_0f7a4 8 = .ok (.isub, 1) := by decide +kernel
theorem dJ6_bitCount_0f7a4_9 : decode cJ6_bitCount_0f7a4 9 = .ok (.istore_n 0, 1) := by decide +kernel
theorem dJ6_bitCount_0f7a4_10 : decode cJ6_bitCount_0f7a4 10 = .ok (.iload_n 0, 1) := by decide +kernel
theorem dJ6_bitCount_0f7a4_11 : decode cJ6_bitCount_0f7a4 11 = .ok (.ldc_w 266, 3) := by decide +kernel
theorem dJ6_bitCount_0f7a4_14 : decode cJ6_bitCount_0f7a4 14 = .ok (.iand, 1) := by decide +kernel
theorem dJ6_bitCount_0f7a4_15 : decode cJ6_bitCount_0f7a4 15 = .ok (.iload_n 0, 1) := by decide +kernel
theorem dJ6_bitCount_0f7a4_16 : decode cJ6_bitCount_0f7a4 16 = .ok (.iconst 2, 1) := by decide +kernel
theorem dJ6_bitCount_0f7a4_17 : decode cJ6_bitCount_0f7a4 17 = .ok (.iushr, 1) := by decide +kernel
theorem dJ6_bitCount_0f7a4_18 : decode cJ6_bitCount_0f7a4 18 = .ok (.ldc_w 266, 3) := by decide +kernel
theorem dJ6_bitCount_0f7a4_21 : decode cJ6_bitCount_0f7a4 21 = .ok (.iand, 1) := by decide +kernel
theorem dJ6_bitCount_0f7a4_22 : decode cJ6_bitCount_0f7a4 22 = .ok (.iadd, 1) := by decide +kernel
theorem dJ6_bitCount_0f7a4_23 : decode cJ6_bitCount_0f7a4 23 = .ok (.istore_n 0, 1) := by decide +kernel
theorem dJ6_bitCount_0f7a4_24 : decode cJ6_bitCount_0f7a4 24 = .ok (.iload_n 0, 1) := by decide +kernel
theorem dJ6_bitCount_0f7a4_25 : decode cJ6_bitCount_0f7a4 25 = .ok (.iload_n 0, 1) := by decide +kernel
theorem dJ6_bitCount_0f7a4_26 : decode cJ6_bitCount_0f7a4 26 = .ok (.iconst 4, 1) := by decide +kernel
theorem dJ6_bitCount_0f7a4_27 : decode cJ6_bitCount_0f7a4 27 = .ok (.iushr, 1) := by decide +kernel
theorem dJ6_bitCount_0f7a4_28 : decode cJ6_bitCount_0f7a4 28 = .ok (.iadd, 1) := by decide +kernel
theorem dJ6_bitCount_0f7a4_29 : decode cJ6_bitCount_0f7a4 29 = .ok (.ldc_w 267, 3) := by decide +kernel
theorem dJ6_bitCount_0f7a4_32 : decode cJ6_bitCount_0f7a4 32 = .ok (.iand, 1) := by decide +kernel
theorem dJ6_bitCount_0f7a4_33 : decode cJ6_bitCount_0f7a4 33 = .ok (.istore_n 0, 1) := by decide +kernel
theorem dJ6_bitCount_0f7a4_34 : decode cJ6_bitCount_0f7a4 34 = .ok (.iload_n 0, 1) := by decide +kernel
theorem dJ6_bitCount_0f7a4_35 : decode cJ6_bitCount_0f7a4 35 = .ok (.iload_n 0, 1) := by decide +kernel
theorem dJ6_bitCount_0f7a4_36 : decode cJ6_bitCount_0f7a4 36 = .ok (.bipush 8, 2) := by decide +kernel
theorem dJ6_bitCount_0f7a4_38 : decode cJ6_bitCount_0f7a4 38 = .ok (.iushr, 1) := by decide +kernel
theorem dJ6_bitCount_0f7a4_39 : decode cJ6_bitCount_0f7a4 39 = .ok (.iadd, 1) := by decide +kernel
theorem dJ6_bitCount_0f7a4_40 : decode cJ6_bitCount_0f7a4 40 = .ok (.istore_n 0, 1) := by decide +kernel
theorem dJ6_bitCount_0f7a4_41 : decode cJ6_bitCount_0f7a4 41 = .ok (.iload_n 0, 1) := by decide +kernel
theorem dJ6_bitCount_0f7a4_42 : decode cJ6_bitCount_0f7a4 42 = .ok (.iload_n 0, 1) := by decide +kernel
theorem dJ6_bitCount_0f7a4_43 : decode cJ6_bitCount_0f7a4 43 = .ok (.bipush 16, 2) := by decide +kernel
theorem dJ6_bitCount_0f7a4_45 : decode cJ6_bitCount_0f7a4 45 = .ok (.iushr, 1) := by decide +kernel
theorem dJ6_bitCount_0f7a4_46 : decode cJ6_bitCount_0f7a4 46 = .ok (.iadd, 1) := by decide +kernel
theorem dJ6_bitCount_0f7a4_47 : decode cJ6_bitCount_0f7a4 47 = .ok (.istore_n 0, 1) := by decide +kernel
theorem dJ6_bitCount_0f7a4_48 : decode cJ6_bitCount_0f7a4 48 = .ok (.iload_n 0, 1) := by decide +kernel
theorem dJ6_bitCount_0f7a4_49 : decode cJ6_bitCount_0f7a4 49 = .ok (.bipush 63, 2) := by decide +kernel
theorem dJ6_bitCount_0f7a4_51 : decode cJ6_bitCount_0f7a4 51 = .ok (.iand, 1) := by decide +kernel
theorem dJ6_bitCount_0f7a4_52 : decode cJ6_bitCount_0f7a4 52 = .ok (.ireturn, 1) := by decide +kernel
set_option maxRecDepth 20000 in
theorem ggL_hut_X4_hut : GoodIn wsL_hut wsX4_hut := goodIn_ca (goodIn_ca (goodIn_r _ [7, 8, 9, 10, 11, 12, 13, 14, 15, 16, 17, 18, 19, 20, 21, 22, 23, 24, 25, 26, 27, 28, 29, 30, 31, 32, 33, 34, 35] (by decide +kernel) (by decide +kernel)) (goodIn_sub (fun _ h => List.mem_cons_of_mem _ (List.mem_append_left _ (List.mem_append_right _ h))) (by decide +kernel))) (goodIn_sub (fun _ h => List.mem_cons_of_mem _ (List.mem_append_right _ h)) (by decide +kernel))
set_option maxRecDepth 20000 in
theorem gL_hut_X4_hut : GoodIn wsL_hut (wsV RL 7 RX4 yX4_hut wsX4_hut) := goodIn_app (goodIn_of _ (by decide +kernel)) ggL_hut_X4_hut
theorem dL_hut_0 : decode cL_hut 0 = .ok (.aload_n 2, 1) := by decide +kernel
theorem dL_hut_1 : decode cL_hut 1 = .ok (.iconst 0, 1) := by decide +kernel
theorem dL_hut_2 : decode cL_hut 2 = .ok (.aload_n 0, 1) := by decide +kernel
theorem dL_hut_3 : decode cL_hut 3 = .ok (.iload_n 1, 1) := by decide +kernel
theorem dL_hut_4 : decode cL_hut 4 = .ok (.invokevirtual 7, 3) := by decide +kernel
theorem dL_hut_7 : decode cL_hut 7 = .ok (.i2l, 1) := by decide +kernel
theorem dL_hut_8 : decode cL_hut 8 = .ok (.lastore, 1) := by decide +kernel
theorem dL_hut_9 : decode cL_hut 9 = .ok (.goto 9, 3) := by decide +kernel
theorem dL_hut_12 : decode cL_hut 12 = .ok (.astore_n 3, 1) := by decide +kernel
theorem dL_hut_13 : decode cL_hut 13 = .ok (.iconst 1, 1) := by decide +kernel
theorem dL_hut_14 : decode cL_hut 14 = .ok (.ireturn, 1) := by decide +kernel
theorem dL_hut_15 : decode cL_hut 15 = .ok (.astore_n 3, 1) := by decide +kernel
theorem dL_hut_16 : decode cL_hut 16 = .ok (.iconst 2, 1) := by decide +kernel
theorem dL_hut_17 : decode cL_hut 17 = .ok (.ireturn, 1) := by decide +kernel
theorem dL_hut_18 : decode cL_hut 18 = .ok (.iconst 0, 1) := by decide +kernel
theorem dL_hut_19 : decode cL_hut 19 = .ok (.ireturn, 1) := by decide +kernel
set_option maxRecDepth 20000 in
theorem ggL_pass_X4_pass : GoodIn wsL_pass wsX4_pass := goodIn_ca (goodIn_ca (goodIn_ca (goodIn_r _ [8, 9, 10, 11, 12, 13, 14, 15, 16, 7, 17, 18, 19, 20, 21, 22, 23, 24, 25, 26, 27, 28, 29, 30, 31, 32, 33, 34, 35, 36, 37, 38, 39, 40, 41, 42, 43, 44, 45, 46, 47, 48, 49, 50, 51, 52, 53, 54] (by decide +kernel) (by decide +kernel)) (goodIn_sub (fun _ h => List.mem_cons_of_mem _ (List.mem_append_left _ (List.mem_append_left _ (List.mem_append_right _ h)))) (by decide +kernel))) (goodIn_sub (fun _ h => List.mem_cons_of_mem _ (List.mem_append_left _ (List.mem_append_right _ h))) (by decide +kernel))) (goodIn_sub (fun _ h => List.mem_cons_of_mem _ (List.mem_append_right _ h)) (by decide +kernel))
set_option maxRecDepth 20000 in
theorem gL_pass_X4_pass : GoodIn wsL_pass (wsV RL 17 RX4 yX4_pass wsX4_pass) := goodIn_app (goodIn_of _ (by decide +kernel)) ggL_pass_X4_pass
theorem dL_pass_0 : decode cL_pass 0 = .ok (.aload 4, 2) := by decide +kernel
theorem dL_pass_2 : decode cL_pass 2 = .ok (.iconst 0, 1) := by decide +kernel
theorem dL_pass_3 : decode cL_pass 3 = .ok (.aload_n 0, 1) := by decide +kernel
theorem dL_pass_4 : decode cL_pass 4 = .ok (.iload_n 1, 1) := by decide +kernel
theorem dL_pass_5 : decode cL_pass 5 = .ok (.iload_n 2, 1) := by decide +kernel
theorem dL_pass_6 : decode cL_pass 6 = .ok (.iload_n 3, 1) := by decide +kernel
theorem dL_pass_7 : decode cL_pass 7 = .ok (.invokevirtual 17, 3) := by decide +kernel
theorem dL_pass_10 : decode cL_pass 10 = .ok (.i2l, 1) := by decide +kernel
theorem dL_pass_11 : decode cL_pass 11 = .ok (.lastore, 1) := by decide +kernel
theorem dL_pass_12 : decode cL_pass 12 = .ok (.goto 15, 3) := by decide +kernel
theorem dL_pass_15 : decode cL_pass 15 = .ok (.astore 5, 2) := by decide +kernel
theorem dL_pass_17 : decode cL_pass 17 = .ok (.iconst 1, 1) := by decide +kernel
theorem dL_pass_18 : decode cL_pass 18 = .ok (.ireturn, 1) := by decide +kernel
theorem dL_pass_19 : decode cL_pass 19 = .ok (.astore 5, 2) := by decide +kernel
theorem dL_pass_21 : decode cL_pass 21 = .ok (.iconst 2, 1) := by decide +kernel
theorem dL_pass_22 : decode cL_pass 22 = .ok (.ireturn, 1) := by decide +kernel
theorem dL_pass_23 : decode cL_pass 23 = .ok (.astore 5, 2) := by decide +kernel
theorem dL_pass_25 : decode cL_pass 25 = .ok (.iconst 3, 1) := by decide +kernel
theorem dL_pass_26 : decode cL_pass 26 = .ok (.ireturn, 1) := by decide +kernel
theorem dL_pass_27 : decode cL_pass 27 = .ok (.iconst 0, 1) := by decide +kernel
theorem dL_pass_28 : decode cL_pass 28 = .ok (.ireturn, 1) := by decide +kernel
set_option maxRecDepth 20000 in
theorem ggL_setLength_X4_setLength : GoodIn wsL_setLength wsX4_setLength := goodIn_ca (goodIn_ca (goodIn_r _ [7, 8, 9, 10, 11, 6, 12, 13, 14, 15, 16, 17, 18, 19, 20, 21, 22, 23, 24, 25, 26, 27, 28, 29, 30, 31, 32, 33, 34, 35, 36, 37, 38, 39, 40, 41, 42, 43] (by decide +kernel) (by decide +kernel)) (goodIn_sub (fun _ h => List.mem_cons_of_mem _ (List.mem_append_left _ (List.mem_append_right _ h))) (by decide +kernel))) (goodIn_sub (fun _ h => List.mem_cons_of_mem _ (List.mem_append_right _ h)) (by decide +kernel))
set_option maxRecDepth 20000 in
theorem gL_setLength_X4_setLength : GoodIn wsL_setLength (wsV RL 23 RX4 yX4_setLength wsX4_setLength) := goodIn_app (goodIn_of _ (by decide +kernel)) ggL_setLength_X4_setLength
theorem dL_setLength_0 : decode cL_setLength 0 = .ok (.aload_n 3, 1) := by decide +kernel
theorem dL_setLength_1 : decode cL_setLength 1 = .ok (.iconst 0, 1) := by decide +kernel
theorem dL_setLength_2 : decode cL_setLength 2 = .ok (.aload_n 0, 1) := by decide +kernel
theorem dL_setLength_3 : decode cL_setLength 3 = .ok (.iload_n 1, 1) := by decide +kernel
theorem dL_setLength_4 : decode cL_setLength 4 = .ok (.iload_n 2, 1) := by decide +kernel
theorem dL_setLength_5 : decode cL_setLength 5 = .ok (.invokevirtual 23, 3) := by decide +kernel
theorem dL_setLength_8 : decode cL_setLength 8 = .ok (.i2l, 1) := by decide +kernel
theorem dL_setLength_9 : decode cL_setLength 9 = .ok (.lastore, 1) := by decide +kernel
theorem dL_setLength_10 : decode cL_setLength 10 = .ok (.goto 11, 3) := by decide +kernel
theorem dL_setLength_13 : decode cL_setLength 13 = .ok (.astore 4, 2) := by decide +kernel
theorem dL_setLength_15 : decode cL_setLength 15 = .ok (.iconst 1, 1) := by decide +kernel
theorem dL_setLength_16 : decode cL_setLength 16 = .ok (.ireturn, 1) := by decide +kernel
theorem dL_setLength_17 : decode cL_setLength 17 = .ok (.astore 4, 2) := by decide +kernel
theorem dL_setLength_19 : decode cL_setLength 19 = .ok (.iconst 2, 1) := by decide +kernel
theorem dL_setLength_20 : decode cL_setLength 20 = .ok (.ireturn, 1) := by decide +kernel
theorem dL_setLength_21 : decode cL_setLength 21 = .ok (.iconst 0, 1) := by decide +kernel
theorem dL_setLength_22 : decode cL_setLength 22 = .ok (.ireturn, 1) := by decide +kernel
set_option maxRecDepth 20000 in
theorem ggL_setOpen_X4_setOpen : GoodIn wsL_setOpen wsX4_setOpen := goodIn_ca (goodIn_r _ [6, 7, 8, 9, 10, 5, 11, 12, 13, 14, 15, 16, 17, 18, 19, 20, 21, 22, 23, 24, 25, 26, 27, 28, 29, 30, 31, 32, 33, 34, 35, 36] (by decide +kernel) (by decide +kernel)) (goodIn_sub (fun _ h => List.mem_cons_of_mem _ (List.mem_append_right _ h)) (by decide +kernel))
set_option maxRecDepth 20000 in
theorem gL_setOpen_X4_setOpen : GoodIn wsL_setOpen (wsV RL 27 RX4 yX4_setOpen wsX4_setOpen) := goodIn_app (goodIn_of _ (by decide +kernel)) ggL_setOpen_X4_setOpen
theorem dL_setOpen_0 : decode cL_setOpen 0 = .ok (.aload_n 3, 1) := by decide +kernel
theorem dL_setOpen_1 : decode cL_setOpen 1 = .ok (.iconst 0, 1) := by decide +kernel
theorem dL_setOpen_2 : decode cL_setOpen 2 = .ok (.aload_n 0, 1) := by decide +kernel
theorem dL_setOpen_3 : decode cL_setOpen 3 = .ok (.iload_n 1, 1) := by decide +kernel
theorem dL_setOpen_4 : decode cL_setOpen 4 = .ok (.iload_n 2, 1) := by decide +kernel
theorem dL_setOpen_5 : decode cL_setOpen 5 = .ok (.invokevirtual 27, 3) := by decide +kernel
theorem dL_setOpen_8 : decode cL_setOpen 8 = .ok (.ifCond .eq 7, 3) := by decide +kernel
theorem dL_setOpen_11 : decode cL_setOpen 11 = .ok (.lconst 1, 1) := by decide +kernel
theorem dL_setOpen_12 : decode cL_setOpen 12 = .ok (.goto 4, 3) := by decide +kernel
theorem dL_setOpen_15 : decode cL_setOpen 15 = .ok (.lconst 0, 1) := by decide +kernel
theorem dL_setOpen_16 : decode cL_setOpen 16 = .ok (.lastore, 1) := by decide +kernel
theorem dL_setOpen_17 : decode cL_setOpen 17 = .ok (.goto 7, 3) := by decide +kernel
theorem dL_setOpen_20 : decode cL_setOpen 20 = .ok (.astore 4, 2) := by decide +kernel
theorem dL_setOpen_22 : decode cL_setOpen 22 = .ok (.iconst 1, 1) := by decide +kernel
theorem dL_setOpen_23 : decode cL_setOpen 23 = .ok (.ireturn, 1) := by decide +kernel
theorem dL_setOpen_24 : decode cL_setOpen 24 = .ok (.iconst 0, 1) := by decide +kernel
theorem dL_setOpen_25 : decode cL_setOpen 25 = .ok (.ireturn, 1) := by decide +kernel
set_option maxRecDepth 20000 in
theorem ggL_burn_X4_burn : GoodIn wsL_burn wsX4_burn := goodIn_ca (goodIn_r _ [6, 7, 8, 9, 10, 5, 11, 12, 13, 14, 15, 16, 17, 18, 19, 20, 21, 22, 23, 24, 25, 26, 27, 28, 29, 30, 31, 32, 33, 34, 35, 36, 37, 38, 39, 40, 41, 42, 43, 44, 45, 46, 47, 48, 49, 50, 51, 52, 53, 54, 55, 56, 57, 58] (by decide +kernel) (by decide +kernel)) (goodIn_sub (fun _ h => List.mem_cons_of_mem _ (List.mem_append_right _ h)) (by decide +kernel))
set_option maxRecDepth 20000 in
theorem gL_burn_X4_burn : GoodIn wsL_burn (wsV RL 31 RX4 yX4_burn wsX4_burn) := goodIn_app (goodIn_of _ (by decide +kernel)) ggL_burn_X4_burn
theorem dL_burn_0 : decode cL_burn 0 = .ok (.aload_n 2, 1) := by decide +kernel
theorem dL_burn_1 : decode cL_burn 1 = .ok (.iconst 0, 1) := by decide +kernel
theorem dL_burn_2 : decode cL_burn 2 = .ok (.aload_n 0, 1) := by decide +kernel
theorem dL_burn_3 : decode cL_burn 3 = .ok (.iload_n 1, 1) := by decide +kernel
theorem dL_burn_4 : decode cL_burn 4 = .ok (.invokevirtual 31, 3) := by decide +kernel
theorem dL_burn_7 : decode cL_burn 7 = .ok (.i2l, 1) := by decide +kernel
theorem dL_burn_8 : decode cL_burn 8 = .ok (.lastore, 1) := by decide +kernel
theorem dL_burn_9 : decode cL_burn 9 = .ok (.goto 6, 3) := by decide +kernel
theorem dL_burn_12 : decode cL_burn 12 = .ok (.astore_n 3, 1) := by decide +kernel
theorem dL_burn_13 : decode cL_burn 13 = .ok (.iconst 1, 1) := by decide +kernel
theorem dL_burn_14 : decode cL_burn 14 = .ok (.ireturn, 1) := by decide +kernel
theorem dL_burn_15 : decode cL_burn 15 = .ok (.iconst 0, 1) := by decide +kernel
theorem dL_burn_16 : decode cL_burn 16 = .ok (.ireturn, 1) := by decide +kernel
set_option maxRecDepth 20000 in
theorem ggL_sheet_X4_sheet : GoodIn wsL_sheet wsX4_sheet := goodIn_ca (goodIn_r _ [6, 7, 8, 9, 10, 5, 11, 12, 13, 14, 15, 16, 17, 18, 19, 20, 21, 22, 23, 24, 25, 26, 27, 28, 29, 30, 31, 32, 33, 34, 35, 36, 37, 38, 39, 40, 41, 42, 43, 44, 45, 46, 47, 48, 49, 50, 51, 52, 53, 54, 55, 56, 57, 58, 59, 60, 61, 62, 63, 64, 65, 66, 67, 68, 69, 70, 71, 72, 73, 74, 75, 76, 77, 78, 79, 80, 81] (by decide +kernel) (by decide +kernel)) (goodIn_sub (fun _ h => List.mem_cons_of_mem _ (List.mem_append_right _ h)) (by decide +kernel))
set_option maxRecDepth 20000 in
theorem gL_sheet_X4_sheet : GoodIn wsL_sheet (wsV RL 34 RX4 yX4_sheet wsX4_sheet) := goodIn_app (goodIn_of _ (by decide +kernel)) ggL_sheet_X4_sheet
theorem dL_sheet_0 : decode cL_sheet 0 = .ok (.aload 4, 2) := by decide +kernel
theorem dL_sheet_2 : decode cL_sheet 2 = .ok (.iconst 0, 1) := by decide +kernel
theorem dL_sheet_3 : decode cL_sheet 3 = .ok (.aload_n 0, 1) := by decide +kernel
theorem dL_sheet_4 : decode cL_sheet 4 = .ok (.iload_n 1, 1) := by decide +kernel
theorem dL_sheet_5 : decode cL_sheet 5 = .ok (.iload_n 2, 1) := by decide +kernel
theorem dL_sheet_6 : decode cL_sheet 6 = .ok (.iload_n 3, 1) := by decide +kernel
theorem dL_sheet_7 : decode cL_sheet 7 = .ok (.invokevirtual 34, 3) := by decide +kernel
theorem dL_sheet_10 : decode cL_sheet 10 = .ok (.i2l, 1) := by decide +kernel
theorem dL_sheet_11 : decode cL_sheet 11 = .ok (.lastore, 1) := by decide +kernel
theorem dL_sheet_12 : decode cL_sheet 12 = .ok (.goto 7, 3) := by decide +kernel
theorem dL_sheet_15 : decode cL_sheet 15 = .ok (.astore 5, 2) := by decide +kernel
theorem dL_sheet_17 : decode cL_sheet 17 = .ok (.iconst 1, 1) := by decide +kernel
theorem dL_sheet_18 : decode cL_sheet 18 = .ok (.ireturn, 1) := by decide +kernel
theorem dL_sheet_19 : decode cL_sheet 19 = .ok (.iconst 0, 1) := by decide +kernel
theorem dL_sheet_20 : decode cL_sheet 20 = .ok (.ireturn, 1) := by decide +kernel
set_option maxRecDepth 20000 in
theorem ggL_way_X4_way : GoodIn wsL_way wsX4_way := goodIn_ca (goodIn_r _ [6, 7, 8, 9, 10, 11, 5, 12, 13, 14, 15, 16, 17, 18, 19, 20, 21, 22, 23, 24, 25, 26, 27, 28, 29, 30, 31, 32, 33, 34, 35, 36, 37, 38, 39, 40, 41, 42, 43, 44, 45, 46, 47, 48, 49, 50, 51, 52, 53, 54, 55, 56, 57, 58, 59, 60, 61, 62, 63, 64, 65, 66, 67, 68, 69, 70, 71, 72, 73, 74, 75, 76, 77, 78, 79, 80, 81, 82, 83, 84, 85, 86, 87, 88, 89, 90, 91, 92, 93, 94, 95, 96, 97, 98, 99, 100, 101, 102, 103, 104, 105, 106, 107, 108, 109, 110, 111, 112] (by decide +kernel) (by decide +kernel)) (goodIn_sub (fun _ h => List.mem_cons_of_mem _ (List.mem_append_right _ h)) (by decide +kernel))
set_option maxRecDepth 20000 in
theorem gL_way_X4_way : GoodIn wsL_way (wsV RL 37 RX4 yX4_way wsX4_way) := goodIn_app (goodIn_of _ (by decide +kernel)) ggL_way_X4_way
theorem dL_way_0 : decode cL_way 0 = .ok (.aload 4, 2) := by decide +kernel
theorem dL_way_2 : decode cL_way 2 = .ok (.iconst 0, 1) := by decide +kernel
theorem dL_way_3 : decode cL_way 3 = .ok (.aload_n 0, 1) := by decide +kernel
theorem dL_way_4 : decode cL_way 4 = .ok (.iload_n 1, 1) := by decide +kernel
theorem dL_way_5 : decode cL_way 5 = .ok (.iload_n 2, 1) := by decide +kernel
theorem dL_way_6 : decode cL_way 6 = .ok (.iload_n 3, 1) := by decide +kernel
theorem dL_way_7 : decode cL_way 7 = .ok (.invokevirtual 37, 3) := by decide +kernel
theorem dL_way_10 : decode cL_way 10 = .ok (.i2l, 1) := by decide +kernel
theorem dL_way_11 : decode cL_way 11 = .ok (.lastore, 1) := by decide +kernel
theorem dL_way_12 : decode cL_way 12 = .ok (.goto 7, 3) := by decide +kernel
theorem dL_way_15 : decode cL_way 15 = .ok (.astore 5, 2) := by decide +kernel
theorem dL_way_17 : decode cL_way 17 = .ok (.iconst 1, 1) := by decide +kernel
theorem dL_way_18 : decode cL_way 18 = .ok (.ireturn, 1) := by decide +kernel
theorem dL_way_19 : decode cL_way 19 = .ok (.iconst 0, 1) := by decide +kernel
theorem dL_way_20 : decode cL_way 20 = .ok (.ireturn, 1) := by decide +kernel
set_option maxRecDepth 20000 in
theorem ggL_post_X4_post : GoodIn wsL_post wsX4_post := goodIn_ca (goodIn_r _ [6, 7, 8, 9, 10, 5, 11, 12, 13, 14, 15, 16, 17, 18, 19, 20, 21, 22, 23, 24, 25, 26, 27, 28, 29, 30, 31, 32, 33, 34, 35, 36, 37, 38, 39, 40, 41, 42, 43, 44, 45, 46, 47, 48, 49, 50, 51, 52, 53, 54, 55, 56, 57, 58, 59, 60, 61, 62, 63, 64, 65, 66, 67, 68, 69, 70, 71, 72, 73, 74, 75, 76, 77, 78, 79, 80, 81, 82, 83, 84, 85, 86, 87, 88, 89, 90, 91, 92, 93, 94, 95, 96, 97, 98, 99, 100, 101, 102, 103, 104, 105, 106, 107, 108, 109, 110, 111, 112, 113, 114, 115, 116, 117] (by decide +kernel) (by decide +kernel)) (goodIn_sub (fun _ h => List.mem_cons_of_mem _ (List.mem_append_right _ h)) (by decide +kernel))
set_option maxRecDepth 20000 in
theorem gL_post_X4_post : GoodIn wsL_post (wsV RL 40 RX4 yX4_post wsX4_post) := goodIn_app (goodIn_of _ (by decide +kernel)) ggL_post_X4_post
theorem dL_post_0 : decode cL_post 0 = .ok (.aload_n 3, 1) := by decide +kernel
theorem dL_post_1 : decode cL_post 1 = .ok (.iconst 0, 1) := by decide +kernel
theorem dL_post_2 : decode cL_post 2 = .ok (.aload_n 0, 1) := by decide +kernel
theorem dL_post_3 : decode cL_post 3 = .ok (.iload_n 1, 1) := by decide +kernel
theorem dL_post_4 : decode cL_post 4 = .ok (.iload_n 2, 1) := by decide +kernel
theorem dL_post_5 : decode cL_post 5 = .ok (.invokevirtual 40, 3) := by decide +kernel
theorem dL_post_8 : decode cL_post 8 = .ok (.i2l, 1) := by decide +kernel
theorem dL_post_9 : decode cL_post 9 = .ok (.lastore, 1) := by decide +kernel
theorem dL_post_10 : decode cL_post 10 = .ok (.goto 7, 3) := by decide +kernel
theorem dL_post_13 : decode cL_post 13 = .ok (.astore 4, 2) := by decide +kernel
theorem dL_post_15 : decode cL_post 15 = .ok (.iconst 1, 1) := by decide +kernel
theorem dL_post_16 : decode cL_post 16 = .ok (.ireturn, 1) := by decide +kernel
theorem dL_post_17 : decode cL_post 17 = .ok (.iconst 0, 1) := by decide +kernel
theorem dL_post_18 : decode cL_post 18 = .ok (.ireturn, 1) := by decide +kernel
set_option maxRecDepth 20000 in
theorem ggL_truth_X4_truth : GoodIn wsL_truth wsX4_truth := goodIn_ca (goodIn_r _ [6, 7, 8, 9, 10, 11, 12, 13, 5, 14, 15, 16, 17, 18, 19, 20, 21, 22, 23, 24, 25, 26, 27, 28, 29, 30, 31, 32, 33, 34, 35, 36, 37, 38, 39, 40, 41, 42, 43, 44, 45, 46, 47, 48, 49, 50, 51, 52, 53, 54, 55, 56, 57, 58, 59, 60, 61, 62, 63, 64, 65] (by decide +kernel) (by decide +kernel)) (goodIn_sub (fun _ h => List.mem_cons_of_mem _ (List.mem_append_right _ h)) (by decide +kernel))
set_option maxRecDepth 20000 in
theorem gL_truth_X4_truth : GoodIn wsL_truth (wsV RL 43 RX4 yX4_truth wsX4_truth) := goodIn_app (goodIn_of _ (by decide +kernel)) ggL_truth_X4_truth
theorem dL_truth_0 : decode cL_truth 0 = .ok (.aload_n 3, 1) := by decide +kernel
theorem dL_truth_1 : decode cL_truth 1 = .ok (.iconst 0, 1) := by decide +kernel
theorem dL_truth_2 : decode cL_truth 2 = .ok (.aload_n 0, 1) := by decide +kernel
theorem dL_truth_3 : decode cL_truth 3 = .ok (.iload_n 1, 1) := by decide +kernel
theorem dL_truth_4 : decode cL_truth 4 = .ok (.iload_n 2, 1) := by decide +kernel
theorem dL_truth_5 : decode cL_truth 5 = .ok (.invokevirtual 43, 3) := by decide +kernel
theorem dL_truth_8 : decode cL_truth 8 = .ok (.i2l, 1) := by decide +kernel
theorem dL_truth_9 : decode cL_truth 9 = .ok (.lastore, 1) := by decide +kernel
theorem dL_truth_10 : decode cL_truth 10 = .ok (.goto 7, 3) := by decide +kernel
theorem dL_truth_13 : decode cL_truth 13 = .ok (.astore 4, 2) := by decide +kernel
theorem dL_truth_15 : decode cL_truth 15 = .ok (.iconst 1, 1) := by decide +kernel
theorem dL_truth_16 : decode cL_truth 16 = .ok (.ireturn, 1) := by decide +kernel
theorem dL_truth_17 : decode cL_truth 17 = .ok (.iconst 0, 1) := by decide +kernel
theorem dL_truth_18 : decode cL_truth 18 = .ok (.ireturn, 1) := by decide +kernel
set_option maxRecDepth 20000 in
theorem ggL_about_X4_about : GoodIn wsL_about wsX4_about := goodIn_ca (goodIn_r _ [6, 7, 8, 9, 10, 11, 12, 13, 5, 14, 15, 16, 17, 18, 19, 20, 21, 22, 23, 24, 25, 26, 27, 28, 29, 30, 31, 32, 33, 34, 35, 36, 37, 38, 39, 40, 41, 42, 43, 44, 45, 46, 47, 48, 49, 50, 51, 52, 53, 54, 55, 56, 57, 58, 59, 60, 61, 62, 63, 64, 65, 66, 67, 68, 69, 70, 71, 72, 73, 74, 75, 76, 77, 78, 79, 80, 81, 82, 83, 84, 85, 86, 87, 88, 89, 90] (by decide +kernel) (by decide +kernel)) (goodIn_sub (fun _ h => List.mem_cons_of_mem _ (List.mem_append_right _ h)) (by decide +kernel))
set_option maxRecDepth 20000 in
theorem gL_about_X4_about : GoodIn wsL_about (wsV RL 46 RX4 yX4_about wsX4_about) := goodIn_app (goodIn_of _ (by decide +kernel)) ggL_about_X4_about
theorem dL_about_0 : decode cL_about 0 = .ok (.aload_n 3, 1) := by decide +kernel
theorem dL_about_1 : decode cL_about 1 = .ok (.iconst 0, 1) := by decide +kernel
theorem dL_about_2 : decode cL_about 2 = .ok (.aload_n 0, 1) := by decide +kernel
theorem dL_about_3 : decode cL_about 3 = .ok (.iload_n 1, 1) := by decide +kernel
theorem dL_about_4 : decode cL_about 4 = .ok (.iload_n 2, 1) := by decide +kernel
theorem dL_about_5 : decode cL_about 5 = .ok (.invokevirtual 46, 3) := by decide +kernel
theorem dL_about_8 : decode cL_about 8 = .ok (.i2l, 1) := by decide +kernel
theorem dL_about_9 : decode cL_about 9 = .ok (.lastore, 1) := by decide +kernel
theorem dL_about_10 : decode cL_about 10 = .ok (.goto 7, 3) := by decide +kernel
theorem dL_about_13 : decode cL_about 13 = .ok (.astore 4, 2) := by decide +kernel
theorem dL_about_15 : decode cL_about 15 = .ok (.iconst 1, 1) := by decide +kernel
theorem dL_about_16 : decode cL_about 16 = .ok (.ireturn, 1) := by decide +kernel
theorem dL_about_17 : decode cL_about 17 = .ok (.iconst 0, 1) := by decide +kernel
theorem dL_about_18 : decode cL_about 18 = .ok (.ireturn, 1) := by decide +kernel
set_option maxRecDepth 20000 in
theorem ggL_told_X4_told : GoodIn wsL_told wsX4_told := goodIn_ca (goodIn_r _ [6, 7, 8, 9, 10, 11, 12, 13, 5, 14, 15, 16, 17, 18, 19, 20, 21, 22, 23, 24, 25, 26, 27, 28, 29, 30, 31, 32, 33, 34, 35, 36, 37, 38, 39, 40, 41, 42, 43, 44, 45, 46, 47, 48, 49, 50, 51, 52, 53, 54, 55, 56, 57, 58, 59, 60, 61, 62, 63, 64, 65, 66, 67, 68, 69, 70, 71, 72, 73, 74, 75, 76, 77, 78, 79, 80, 81, 82, 83, 84, 85, 86, 87, 88, 89, 90, 91, 92, 93, 94, 95, 96, 97, 98, 99, 100, 101, 102, 103, 104, 105, 106, 107, 108, 109, 110, 111, 112, 113, 114, 115, 116, 117, 118, 119, 120, 121, 122, 123, 124, 125, 126, 127, 128, 129, 130, 131, 132, 133, 134, 135, 136, 137, 138, 139, 140] (by decide +kernel) (by decide +kernel)) (goodIn_sub (fun _ h => List.mem_cons_of_mem _ (List.mem_append_right _ h)) (by decide +kernel))
set_option maxRecDepth 20000 in
theorem gL_told_X4_told : GoodIn wsL_told (wsV RL 49 RX4 yX4_told wsX4_told) := goodIn_app (goodIn_of _ (by decide +kernel)) ggL_told_X4_told
theorem dL_told_0 : decode cL_told 0 = .ok (.aload_n 3, 1) := by decide +kernel
theorem dL_told_1 : decode cL_told 1 = .ok (.iconst 0, 1) := by decide +kernel
theorem dL_told_2 : decode cL_told 2 = .ok (.aload_n 0, 1) := by decide +kernel
theorem dL_told_3 : decode cL_told 3 = .ok (.iload_n 1, 1) := by decide +kernel
theorem dL_told_4 : decode cL_told 4 = .ok (.iload_n 2, 1) := by decide +kernel
theorem dL_told_5 : decode cL_told 5 = .ok (.invokevirtual 49, 3) := by decide +kernel
theorem dL_told_8 : decode cL_told 8 = .ok (.i2l, 1) := by decide +kernel
theorem dL_told_9 : decode cL_told 9 = .ok (.lastore, 1) := by decide +kernel
theorem dL_told_10 : decode cL_told 10 = .ok (.goto 7, 3) := by decide +kernel
theorem dL_told_13 : decode cL_told 13 = .ok (.astore 4, 2) := by decide +kernel
theorem dL_told_15 : decode cL_told 15 = .ok (.iconst 1, 1) := by decide +kernel
theorem dL_told_16 : decode cL_told 16 = .ok (.ireturn, 1) := by decide +kernel
theorem dL_told_17 : decode cL_told 17 = .ok (.iconst 0, 1) := by decide +kernel
theorem dL_told_18 : decode cL_told 18 = .ok (.ireturn, 1) := by decide +kernel
set_option maxRecDepth 20000 in
theorem ggL_count_X4_count : GoodIn wsL_count wsX4_count := goodIn_ca (goodIn_r _ [6, 7, 8, 9, 10, 11, 12, 13, 14, 15, 16, 17, 18, 19, 20, 21, 22, 23, 24, 25, 26, 27, 28, 29, 30, 31, 32, 33, 34, 35, 36, 37, 38, 39, 40, 41, 42, 43, 44, 45, 46, 47, 48, 49, 50, 51, 52, 53, 54, 55, 56, 57, 58, 59, 60, 61, 62, 63, 64, 65, 66, 67, 68, 69, 70, 71, 72, 73, 74, 75, 76, 77, 78, 79, 80, 81, 82, 83, 84, 85, 86, 87, 88, 89, 90, 91, 92, 93, 94, 95, 96, 97, 98, 99, 100, 101, 102, 103, 104, 105, 106, 107, 108, 109, 110, 111, 112, 113, 114, 115, 116, 117, 118, 119, 120, 121, 122, 123, 124, 125, 126, 127, 128, 129, 130, 131, 132, 133, 134, 135, 136, 137, 138, 139, 140, 141, 142, 143, 144, 145, 146, 147, 148, 149, 150, 151] (by decide +kernel) (by decide +kernel)) (goodIn_sub (fun _ h => List.mem_cons_of_mem _ (List.mem_append_right _ h)) (by decide +kernel))
set_option maxRecDepth 20000 in
theorem gL_count_X4_count : GoodIn wsL_count (wsV RL 52 RX4 yX4_count wsX4_count) := goodIn_app (goodIn_of _ (by decide +kernel)) ggL_count_X4_count
theorem dL_count_0 : decode cL_count 0 = .ok (.aload_n 2, 1) := by decide +kernel
theorem dL_count_1 : decode cL_count 1 = .ok (.iconst 0, 1) := by decide +kernel
theorem dL_count_2 : decode cL_count 2 = .ok (.aload_n 0, 1) := by decide +kernel
theorem dL_count_3 : decode cL_count 3 = .ok (.iload_n 1, 1) := by decide +kernel
theorem dL_count_4 : decode cL_count 4 = .ok (.invokevirtual 52, 3) := by decide +kernel
theorem dL_count_7 : decode cL_count 7 = .ok (.i2l, 1) := by decide +kernel
theorem dL_count_8 : decode cL_count 8 = .ok (.lastore, 1) := by decide +kernel
theorem dL_count_9 : decode cL_count 9 = .ok (.goto 6, 3) := by decide +kernel
theorem dL_count_12 : decode cL_count 12 = .ok (.astore_n 3, 1) := by decide +kernel
theorem dL_count_13 : decode cL_count 13 = .ok (.iconst 1, 1) := by decide +kernel
theorem dL_count_14 : decode cL_count 14 = .ok (.ireturn, 1) := by decide +kernel
theorem dL_count_15 : decode cL_count 15 = .ok (.iconst 0, 1) := by decide +kernel
theorem dL_count_16 : decode cL_count 16 = .ok (.ireturn, 1) := by decide +kernel
set_option maxRecDepth 20000 in
theorem ggL_go_X4_go : GoodIn wsL_go wsX4_go := goodIn_ca (goodIn_r _ [6, 7, 8, 9, 10, 5, 11, 12, 13, 14, 15, 16, 17, 18, 19, 20, 21, 22, 23, 24, 25, 26, 27, 28, 29, 30, 31, 32, 33, 34, 35, 36, 37, 38, 39, 40, 41, 42, 43, 44, 45, 46, 47, 48, 49, 50, 51, 52, 53, 54, 55, 56, 57, 58, 59, 60, 61, 62, 63, 64, 65, 66, 67, 68, 69, 70, 71, 72, 73, 74, 75, 76, 77, 78, 79, 80, 81, 82, 83, 84, 85, 86, 87, 88, 89, 90, 91, 92, 93, 94, 95, 96, 97, 98, 99, 100, 101, 102, 103, 104, 105, 106, 107, 108, 109, 110, 111, 112, 113, 114, 115, 116, 117, 118, 119, 120, 121, 122, 123, 124, 125, 126, 127, 128, 129, 130, 131, 132, 133, 134, 135, 136, 137, 138, 139, 140] (by decide +kernel) (by decide +kernel)) (goodIn_sub (fun _ h => List.mem_cons_of_mem _ (List.mem_append_right _ h)) (by decide +kernel))
set_option maxRecDepth 20000 in
theorem gL_go_X4_go : GoodIn wsL_go (wsV RL 55 RX4 yX4_go wsX4_go) := goodIn_app (goodIn_of _ (by decide +kernel)) ggL_go_X4_go
theorem dL_go_0 : decode cL_go 0 = .ok (.aload_n 2, 1) := by decide +kernel
theorem dL_go_1 : decode cL_go 1 = .ok (.iconst 0, 1) := by decide +kernel
theorem dL_go_2 : decode cL_go 2 = .ok (.aload_n 0, 1) := by decide +kernel
theorem dL_go_3 : decode cL_go 3 = .ok (.iload_n 1, 1) := by decide +kernel
theorem dL_go_4 : decode cL_go 4 = .ok (.invokevirtual 55, 3) := by decide +kernel
theorem dL_go_7 : decode cL_go 7 = .ok (.i2l, 1) := by decide +kernel
theorem dL_go_8 : decode cL_go 8 = .ok (.lastore, 1) := by decide +kernel
theorem dL_go_9 : decode cL_go 9 = .ok (.goto 6, 3) := by decide +kernel
theorem dL_go_12 : decode cL_go 12 = .ok (.astore_n 3, 1) := by decide +kernel
theorem dL_go_13 : decode cL_go 13 = .ok (.iconst 1, 1) := by decide +kernel
theorem dL_go_14 : decode cL_go 14 = .ok (.ireturn, 1) := by decide +kernel
theorem dL_go_15 : decode cL_go 15 = .ok (.iconst 0, 1) := by decide +kernel
theorem dL_go_16 : decode cL_go 16 = .ok (.ireturn, 1) := by decide +kernel
set_option maxRecDepth 20000 in
theorem ggL_foresee_X4_foresee : GoodIn wsL_foresee wsX4_foresee := goodIn_ca (goodIn_ca (goodIn_r _ [7, 8, 9, 10, 11, 12, 13, 14, 6, 15, 16, 17, 18, 19, 20, 21, 22, 23, 24, 25, 26, 27, 28, 29, 30, 31, 32, 33, 34, 35, 36, 37, 38, 39, 40, 41, 42, 43, 44, 45, 46, 47, 48, 49, 50, 51, 52, 53, 54, 55, 56, 57, 58, 59, 60, 61, 62, 63, 64, 65, 66, 67, 68, 69, 70, 71, 72, 73, 74, 75, 76, 77, 78, 79, 80, 81, 82, 83, 84, 85, 86, 87, 88, 89, 90, 91, 92, 93, 94, 95, 96, 97, 98, 99, 100, 101, 102, 103, 104, 105, 106, 107, 108, 109, 110, 111, 112, 113, 114, 115, 116, 117, 118, 119, 120, 121, 122, 123, 124, 125, 126, 127, 128, 129, 130, 131, 132, 133, 134, 135, 136, 137, 138, 139, 140, 141, 142, 143, 144, 145, 146, 147, 148, 149, 150, 151, 152, 153, 154, 155, 156, 157, 158, 159, 160, 161, 162, 163, 164, 165, 166, 167, 168, 169, 170, 171, 172, 173, 174, 175, 176, 177, 178, 179, 180, 181, 182, 183, 184, 185, 186, 187, 188, 189, 190, 191, 192, 193, 194, 195, 196, 197, 198, 199, 200, 201, 202, 203, 204, 205, 206, 207, 208, 209] (by decide +kernel) (by decide +kernel)) (goodIn_sub (fun _ h => List.mem_cons_of_mem _ (List.mem_append_left _ (List.mem_append_right _ h))) (by decide +kernel))) (goodIn_sub (fun _ h => List.mem_cons_of_mem _ (List.mem_append_right _ h)) (by decide +kernel))
set_option maxRecDepth 20000 in
theorem gL_foresee_X4_foresee : GoodIn wsL_foresee (wsV RL 58 RX4 yX4_foresee wsX4_foresee) := goodIn_app (goodIn_of _ (by decide +kernel)) ggL_foresee_X4_foresee
theorem dL_foresee_0 : decode cL_foresee 0 = .ok (.aload_n 3, 1) := by decide +kernel
theorem dL_foresee_1 : decode cL_foresee 1 = .ok (.iconst 0, 1) := by decide +kernel
theorem dL_foresee_2 : decode cL_foresee 2 = .ok (.aload_n 0, 1) := by decide +kernel
theorem dL_foresee_3 : decode cL_foresee 3 = .ok (.iload_n 1, 1) := by decide +kernel
theorem dL_foresee_4 : decode cL_foresee 4 = .ok (.iload_n 2, 1) := by decide +kernel
theorem dL_foresee_5 : decode cL_foresee 5 = .ok (.invokevirtual 58, 3) := by decide +kernel
theorem dL_foresee_8 : decode cL_foresee 8 = .ok (.i2l, 1) := by decide +kernel
theorem dL_foresee_9 : decode cL_foresee 9 = .ok (.lastore, 1) := by decide +kernel
theorem dL_foresee_10 : decode cL_foresee 10 = .ok (.goto 11, 3) := by decide +kernel
theorem dL_foresee_13 : decode cL_foresee 13 = .ok (.astore 4, 2) := by decide +kernel
theorem dL_foresee_15 : decode cL_foresee 15 = .ok (.iconst 1, 1) := by decide +kernel
theorem dL_foresee_16 : decode cL_foresee 16 = .ok (.ireturn, 1) := by decide +kernel
theorem dL_foresee_17 : decode cL_foresee 17 = .ok (.astore 4, 2) := by decide +kernel
theorem dL_foresee_19 : decode cL_foresee 19 = .ok (.iconst 2, 1) := by decide +kernel
theorem dL_foresee_20 : decode cL_foresee 20 = .ok (.ireturn, 1) := by decide +kernel
theorem dL_foresee_21 : decode cL_foresee 21 = .ok (.iconst 0, 1) := by decide +kernel
theorem dL_foresee_22 : decode cL_foresee 22 = .ok (.ireturn, 1) := by decide +kernel
set_option maxRecDepth 20000 in
theorem ggL_law_X4_init : GoodIn wsL_law wsX4_init := goodIn_r _ [9, 10, 11, 12, 13, 14, 15, 16, 17, 18, 19, 20, 21, 22, 23, 24, 25, 26, 27, 28, 29, 30, 31, 32, 33, 34, 35, 36, 37, 38, 39, 40, 41, 42, 43, 44, 45, 46, 47, 48, 49, 50, 51, 52, 53, 54, 55, 56, 768, 769, 770, 771, 772, 773, 774, 747, 748, 749, 750, 751, 775, 776, 777, 778, 779, 780, 781, 782, 783, 784, 785, 786] (by decide +kernel) (by decide +kernel)
set_option maxRecDepth 20000 in
theorem gL_law_X4_init : GoodIn wsL_law (wsX4_init) := ggL_law_X4_init
set_option maxRecDepth 20000 in
theorem ggL_law_X5_init : GoodIn wsL_law wsX5_init := goodIn_r _ [59, 60, 11, 12, 26, 61, 62, 63, 64, 65, 66, 67, 68, 69, 70, 71, 72, 73, 752, 753, 754, 755, 756, 757, 758, 759, 760, 761, 762, 763, 764, 765, 766, 767] (by decide +kernel) (by decide +kernel)
set_option maxRecDepth 20000 in
theorem gL_law_X5_init : GoodIn wsL_law (wsX5_init) := ggL_law_X5_init
set_option maxRecDepth 20000 in
theorem ggL_law_L_hut : GoodIn wsL_law wsL_hut := goodIn_ca (goodIn_ca (goodIn_r _ [77, 78, 79, 80, 81, 82, 2, 83, 84, 85, 86, 87, 16, 88, 89, 90, 15, 91, 92, 93, 94, 95, 96, 31, 747, 748, 749, 750, 751, 768, 769, 770, 771, 772, 773, 774] (by decide +kernel) (by decide +kernel)) (goodIn_sub (fun _ h => List.mem_append_left _ (List.mem_append_left _ (List.mem_append_right _ h))) (by decide +kernel))) (goodIn_sub (fun _ h => List.mem_append_left _ (List.mem_append_right _ h)) (by decide +kernel))
set_option maxRecDepth 20000 in
theorem gL_law_L_hut : GoodIn wsL_law (va_wsS RL 65 yL_hut wsL_hut) := goodIn_app (goodIn_of _ (by decide +kernel)) ggL_law_L_hut
set_option maxRecDepth 20000 in
theorem ggL_law_X5_hut : GoodIn wsL_law wsX5_hut := goodIn_r _ [100, 101, 102, 61, 103, 104, 5, 105, 106, 107, 108, 109, 752, 753, 754, 755, 756, 757, 758, 759, 760, 761, 762, 763, 764, 765, 766, 767] (by decide +kernel) (by decide +kernel)
set_option maxRecDepth 20000 in
theorem gL_law_X5_hut : GoodIn wsL_law (wsV RL 70 RX5 yX5_hut wsX5_hut) := goodIn_app (goodIn_of _ (by decide +kernel)) ggL_law_X5_hut
set_option maxRecDepth 20000 in
theorem ggL_law_X5_thrown : GoodIn wsL_law wsX5_thrown := goodIn_r _ [113, 101, 752, 753, 754, 755, 756, 757, 758, 759, 760, 761, 762, 763, 764, 765, 766, 767] (by decide +kernel) (by decide +kernel)
set_option maxRecDepth 20000 in
theorem gL_law_X5_thrown : GoodIn wsL_law (wsV RL 71 RX5 yX5_thrown wsX5_thrown) := goodIn_app (goodIn_of _ (by decide +kernel)) ggL_law_X5_thrown
set_option maxRecDepth 20000 in
theorem ggL_law_L_pass : GoodIn wsL_law wsL_pass := goodIn_ca (goodIn_ca (goodIn_ca (goodIn_r _ [116, 117, 78, 79, 118, 119, 120, 2, 121, 84, 85, 86, 87, 16, 122, 123, 124, 125, 126, 127, 88, 89, 90, 15, 91, 92, 128, 129, 130, 131, 132, 133, 134, 135, 136, 137, 138, 139, 140, 32, 33, 34, 36, 747, 748, 749, 750, 751, 768, 769, 770, 771, 772, 773, 774] (by decide +kernel) (by decide +kernel)) (goodIn_sub (fun _ h => List.mem_append_left _ (List.mem_append_left _ (List.mem_append_right _ h))) (by decide +kernel))) (goodIn_sub (fun _ h => List.mem_append_left _ (List.mem_append_right _ h)) (by decide +kernel))) (goodIn_sub (fun _ h => List.mem_append_right _ h) (by decide +kernel))
set_option maxRecDepth 20000 in
theorem gL_law_L_pass : GoodIn wsL_law (va_wsS RL 75 yL_pass wsL_pass) := goodIn_app (goodIn_of _ (by decide +kernel)) ggL_law_L_pass
set_option maxRecDepth 20000 in
theorem ggL_law_X5_pass : GoodIn wsL_law wsX5_pass := goodIn_r _ [144, 101, 145, 65, 66, 67, 146, 147, 148, 149, 5, 150, 102, 103, 104, 105, 106, 107, 108, 109, 752, 753, 754, 755, 756, 757, 758, 759, 760, 761, 762, 763, 764, 765, 766, 767] (by decide +kernel) (by decide +kernel)
set_option maxRecDepth 20000 in
theorem gL_law_X5_pass : GoodIn wsL_law (wsV RL 78 RX5 yX5_pass wsX5_pass) := goodIn_app (goodIn_of _ (by decide +kernel)) ggL_law_X5_pass
set_option maxRecDepth 20000 in
theorem ggL_law_L_setLength : GoodIn wsL_law wsL_setLength := goodIn_ca (goodIn_ca (goodIn_r _ [153, 117, 78, 154, 155, 156, 2, 157, 16, 158, 159, 160, 161, 126, 127, 132, 133, 134, 15, 135, 136, 128, 129, 130, 131, 84, 85, 162, 163, 164, 165, 34, 747, 748, 749, 750, 751, 768, 769, 770, 771, 772, 773, 774] (by decide +kernel) (by decide +kernel)) (goodIn_sub (fun _ h => List.mem_append_right _ h) (by decide +kernel))) (goodIn_sub (fun _ h => List.mem_append_left _ (List.mem_append_left _ (List.mem_append_right _ h))) (by decide +kernel))
set_option maxRecDepth 20000 in
theorem gL_law_L_setLength : GoodIn wsL_law (va_wsS RL 79 yL_setLength wsL_setLength) := goodIn_app (goodIn_of _ (by decide +kernel)) ggL_law_L_setLength
set_option maxRecDepth 20000 in
theorem ggL_law_X5_setLength : GoodIn wsL_law wsX5_setLength := goodIn_r _ [169, 101, 67, 170, 171, 172, 5, 173, 145, 103, 104, 105, 106, 107, 108, 109, 752, 753, 754, 755, 756, 757, 758, 759, 760, 761, 762, 763, 764, 765, 766, 767] (by decide +kernel) (by decide +kernel)
set_option maxRecDepth 20000 in
theorem gL_law_X5_setLength : GoodIn wsL_law (wsV RL 82 RX5 yX5_setLength wsX5_setLength) := goodIn_app (goodIn_of _ (by decide +kernel)) ggL_law_X5_setLength
set_option maxRecDepth 20000 in
theorem ggL_law_L_setOpen : GoodIn wsL_law wsL_setOpen := goodIn_ca (goodIn_r _ [176, 117, 177, 178, 179, 2, 180, 16, 158, 159, 160, 161, 126, 127, 132, 133, 134, 15, 135, 136, 181, 182, 183, 184, 36, 747, 748, 749, 750, 751, 768, 769, 770, 771, 772, 773, 774] (by decide +kernel) (by decide +kernel)) (goodIn_sub (fun _ h => List.mem_append_right _ h) (by decide +kernel))
set_option maxRecDepth 20000 in
theorem gL_law_L_setOpen : GoodIn wsL_law (va_wsS RL 83 yL_setOpen wsL_setOpen) := goodIn_app (goodIn_of _ (by decide +kernel)) ggL_law_L_setOpen
set_option maxRecDepth 20000 in
theorem ggL_law_X5_setOpen : GoodIn wsL_law wsX5_setOpen := goodIn_r _ [188, 101, 146, 170, 171, 172, 5, 173, 145, 103, 104, 105, 189, 190, 191, 752, 753, 754, 755, 756, 757, 758, 759, 760, 761, 762, 763, 764, 765, 766, 767] (by decide +kernel) (by decide +kernel)
set_option maxRecDepth 20000 in
theorem gL_law_X5_setOpen : GoodIn wsL_law (wsV RL 86 RX5 yX5_setOpen wsX5_setOpen) := goodIn_app (goodIn_of _ (by decide +kernel)) ggL_law_X5_setOpen
set_option maxRecDepth 20000 in
theorem ggL_law_L_burn : GoodIn wsL_law wsL_burn := goodIn_ca (goodIn_r _ [194, 117, 195, 196, 197, 2, 198, 20, 122, 123, 124, 125, 126, 127, 16, 88, 89, 90, 15, 91, 92, 199, 200, 201, 19, 202, 48, 203, 204, 205, 206, 207, 208, 209, 210, 211, 212, 213, 46, 747, 748, 749, 750, 751, 768, 769, 770, 771, 772, 773, 774, 775, 776, 777, 778, 779, 780, 781, 782] (by decide +kernel) (by decide +kernel)) (goodIn_sub (fun _ h => List.mem_append_right _ h) (by decide +kernel))
set_option maxRecDepth 20000 in
theorem gL_law_L_burn : GoodIn wsL_law (va_wsS RL 87 yL_burn wsL_burn) := goodIn_app (goodIn_of _ (by decide +kernel)) ggL_law_L_burn
set_option maxRecDepth 20000 in
theorem ggL_law_X5_burn : GoodIn wsL_law wsX5_burn := goodIn_r _ [217, 101, 64, 73, 147, 148, 149, 5, 150, 102, 103, 104, 105, 106, 107, 108, 109, 218, 219, 220, 221, 222, 223, 224, 225, 226, 227, 228, 229, 752, 753, 754, 755, 756, 757, 758, 759, 760, 761, 762, 763, 764, 765, 766, 767] (by decide +kernel) (by decide +kernel)
set_option maxRecDepth 20000 in
theorem gL_law_X5_burn : GoodIn wsL_law (wsV RL 89 RX5 yX5_burn wsX5_burn) := goodIn_app (goodIn_of _ (by decide +kernel)) ggL_law_X5_burn
set_option maxRecDepth 20000 in
theorem ggL_law_L_sheet : GoodIn wsL_law wsL_sheet := goodIn_ca (goodIn_r _ [232, 117, 233, 234, 235, 2, 236, 20, 122, 123, 124, 125, 126, 127, 16, 88, 89, 90, 15, 91, 92, 237, 238, 239, 240, 241, 242, 243, 19, 244, 48, 207, 208, 209, 245, 246, 247, 248, 249, 250, 251, 252, 253, 254, 255, 256, 257, 258, 259, 260, 261, 262, 263, 264, 265, 266, 267, 268, 269, 747, 748, 749, 750, 751, 768, 769, 770, 771, 772, 773, 774, 775, 776, 777, 778, 779, 780, 781, 782, 787, 788, 789] (by decide +kernel) (by decide +kernel)) (goodIn_sub (fun _ h => List.mem_append_right _ h) (by decide +kernel))
set_option maxRecDepth 20000 in
theorem gL_law_L_sheet : GoodIn wsL_law (va_wsS RL 90 yL_sheet wsL_sheet) := goodIn_app (goodIn_of _ (by decide +kernel)) ggL_law_L_sheet
set_option maxRecDepth 20000 in
theorem ggL_law_X5_sheet : GoodIn wsL_law wsX5_sheet := goodIn_r _ [273, 101, 147, 148, 149, 5, 150, 102, 103, 104, 105, 274, 275, 276, 277, 222, 223, 224, 225, 226, 227, 228, 229, 64, 278, 279, 280, 281, 282, 283, 284, 285, 286, 287, 288, 289, 106, 107, 108, 109, 752, 753, 754, 755, 756, 757, 758, 759, 760, 761, 762, 763, 764, 765, 766, 767] (by decide +kernel) (by decide +kernel)
set_option maxRecDepth 20000 in
theorem gL_law_X5_sheet : GoodIn wsL_law (wsV RL 92 RX5 yX5_sheet wsX5_sheet) := goodIn_app (goodIn_of _ (by decide +kernel)) ggL_law_X5_sheet
set_option maxRecDepth 20000 in
theorem ggL_law_L_way : GoodIn wsL_law wsL_way := goodIn_ca (goodIn_r _ [292, 117, 293, 294, 295, 2, 296, 20, 297, 122, 123, 124, 125, 126, 127, 16, 88, 89, 90, 15, 91, 92, 237, 238, 239, 240, 298, 299, 300, 19, 301, 46, 45, 302, 303, 304, 305, 42, 50, 48, 306, 307, 308, 24, 309, 310, 311, 133, 134, 135, 136, 312, 313, 314, 315, 32, 316, 317, 318, 319, 33, 207, 208, 209, 320, 267, 268, 248, 269, 265, 321, 322, 323, 324, 325, 326, 327, 328, 54, 55, 56, 329, 330, 331, 332, 333, 747, 748, 749, 750, 751, 768, 769, 770, 771, 772, 773, 774, 775, 776, 777, 778, 779, 780, 781, 782, 783, 784, 785, 786, 787, 788, 789] (by decide +kernel) (by decide +kernel)) (goodIn_sub (fun _ h => List.mem_append_right _ h) (by decide +kernel))
set_option maxRecDepth 20000 in
theorem gL_law_L_way : GoodIn wsL_law (va_wsS RL 93 yL_way wsL_way) := goodIn_app (goodIn_of _ (by decide +kernel)) ggL_law_L_way
set_option maxRecDepth 20000 in
theorem ggL_law_X5_way : GoodIn wsL_law wsX5_way := goodIn_r _ [337, 101, 147, 148, 149, 5, 150, 102, 103, 104, 105, 106, 107, 108, 109, 338, 339, 340, 341, 342, 343, 344, 345, 26, 145, 65, 66, 346, 347, 348, 349, 350, 351, 352, 353, 222, 223, 224, 225, 226, 227, 228, 229, 64, 189, 190, 191, 354, 355, 356, 357, 358, 359, 360, 35, 68, 69, 70, 71, 361, 362, 363, 364, 365, 366, 367, 368, 369, 370, 371, 372, 373, 374, 375, 376, 752, 753, 754, 755, 756, 757, 758, 759, 760, 761, 762, 763, 764, 765, 766, 767] (by decide +kernel) (by decide +kernel)
set_option maxRecDepth 20000 in
theorem gL_law_X5_way : GoodIn wsL_law (wsV RL 95 RX5 yX5_way wsX5_way) := goodIn_app (goodIn_of _ (by decide +kernel)) ggL_law_X5_way
set_option maxRecDepth 20000 in
theorem ggL_law_L_post : GoodIn wsL_law wsL_post := goodIn_ca (goodIn_r _ [379, 117, 380, 381, 382, 2, 383, 20, 122, 123, 124, 125, 126, 127, 16, 88, 89, 90, 15, 91, 92, 384, 385, 386, 19, 387, 388, 50, 389, 299, 300, 301, 46, 45, 302, 303, 304, 305, 42, 48, 306, 307, 308, 24, 309, 310, 311, 133, 134, 135, 136, 312, 313, 314, 315, 32, 316, 317, 318, 319, 33, 207, 208, 209, 320, 267, 268, 248, 269, 265, 321, 322, 323, 324, 325, 326, 327, 328, 54, 55, 56, 329, 330, 331, 332, 333, 390, 391, 392, 393, 36, 747, 748, 749, 750, 751, 768, 769, 770, 771, 772, 773, 774, 775, 776, 777, 778, 779, 780, 781, 782, 783, 784, 785, 786, 787, 788, 789] (by decide +kernel) (by decide +kernel)) (goodIn_sub (fun _ h => List.mem_append_right _ h) (by decide +kernel))
set_option maxRecDepth 20000 in
theorem gL_law_L_post : GoodIn wsL_law (va_wsS RL 96 yL_post wsL_post) := goodIn_app (goodIn_of _ (by decide +kernel)) ggL_law_L_post
set_option maxRecDepth 20000 in
theorem ggL_law_X5_post : GoodIn wsL_law wsX5_post := goodIn_r _ [397, 101, 147, 148, 149, 5, 150, 102, 103, 104, 105, 106, 107, 108, 109, 398, 399, 400, 401, 72, 68, 71, 338, 339, 340, 341, 342, 343, 344, 345, 26, 145, 65, 66, 346, 347, 348, 349, 350, 351, 352, 353, 222, 223, 224, 225, 226, 227, 228, 229, 64, 189, 190, 191, 354, 355, 356, 357, 358, 359, 360, 35, 69, 70, 361, 362, 363, 364, 365, 366, 367, 368, 369, 370, 371, 372, 402, 403, 404, 405, 406, 407, 408, 409, 146, 410, 411, 412, 413, 752, 753, 754, 755, 756, 757, 758, 759, 760, 761, 762, 763, 764, 765, 766, 767] (by decide +kernel) (by decide +kernel)
set_option maxRecDepth 20000 in
theorem gL_law_X5_post : GoodIn wsL_law (wsV RL 98 RX5 yX5_post wsX5_post) := goodIn_app (goodIn_of _ (by decide +kernel)) ggL_law_X5_post
set_option maxRecDepth 20000 in
theorem ggL_law_L_truth : GoodIn wsL_law wsL_truth := goodIn_ca (goodIn_r _ [416, 117, 417, 418, 419, 2, 420, 16, 25, 27, 297, 122, 123, 124, 125, 126, 127, 88, 89, 90, 15, 91, 92, 421, 422, 423, 424, 136, 36, 32, 33, 34, 425, 307, 308, 24, 309, 310, 426, 326, 327, 328, 54, 55, 56, 427, 330, 331, 332, 333, 747, 748, 749, 750, 751, 768, 769, 770, 771, 772, 773, 774, 783, 784, 785, 786] (by decide +kernel) (by decide +kernel)) (goodIn_sub (fun _ h => List.mem_append_right _ h) (by decide +kernel))
set_option maxRecDepth 20000 in
theorem gL_law_L_truth : GoodIn wsL_law (va_wsS RL 99 yL_truth wsL_truth) := goodIn_app (goodIn_of _ (by decide +kernel)) ggL_law_L_truth
set_option maxRecDepth 20000 in
theorem ggL_law_X5_truth : GoodIn wsL_law wsX5_truth := goodIn_r _ [431, 101, 146, 68, 147, 148, 149, 5, 150, 102, 103, 104, 105, 106, 107, 108, 109, 432, 433, 434, 435, 26, 145, 65, 66, 67, 189, 190, 191, 354, 355, 356, 357, 358, 359, 360, 35, 69, 70, 71, 361, 362, 363, 364, 365, 366, 367, 368, 369, 370, 371, 372, 752, 753, 754, 755, 756, 757, 758, 759, 760, 761, 762, 763, 764, 765, 766, 767] (by decide +kernel) (by decide +kernel)
set_option maxRecDepth 20000 in
theorem gL_law_X5_truth : GoodIn wsL_law (wsV RL 101 RX5 yX5_truth wsX5_truth) := goodIn_app (goodIn_of _ (by decide +kernel)) ggL_law_X5_truth
set_option maxRecDepth 20000 in
theorem ggL_law_L_about : GoodIn wsL_law wsL_about := goodIn_ca (goodIn_r _ [438, 117, 439, 440, 441, 2, 442, 126, 127, 16, 20, 158, 159, 160, 161, 132, 133, 134, 15, 135, 136, 443, 313, 314, 315, 32, 444, 317, 318, 319, 33, 445, 446, 447, 448, 34, 449, 450, 451, 452, 36, 453, 454, 455, 19, 456, 50, 457, 89, 90, 91, 92, 458, 459, 460, 461, 48, 312, 207, 208, 209, 316, 320, 267, 268, 248, 269, 265, 747, 748, 749, 750, 751, 768, 769, 770, 771, 772, 773, 774, 775, 776, 777, 778, 779, 780, 781, 782, 787, 788, 789] (by decide +kernel) (by decide +kernel)) (goodIn_sub (fun _ h => List.mem_append_right _ h) (by decide +kernel))
set_option maxRecDepth 20000 in
theorem gL_law_L_about : GoodIn wsL_law (va_wsS RL 102 yL_about wsL_about) := goodIn_app (goodIn_of _ (by decide +kernel)) ggL_law_L_about
set_option maxRecDepth 20000 in
theorem ggL_law_X5_about : GoodIn wsL_law wsX5_about := goodIn_r _ [465, 101, 170, 171, 172, 5, 173, 145, 103, 104, 105, 466, 467, 468, 469, 65, 66, 67, 146, 189, 190, 191, 470, 471, 472, 473, 102, 346, 347, 348, 349, 350, 351, 352, 353, 222, 223, 224, 225, 226, 227, 228, 229, 64, 106, 107, 108, 109, 752, 753, 754, 755, 756, 757, 758, 759, 760, 761, 762, 763, 764, 765, 766, 767] (by decide +kernel) (by decide +kernel)
set_option maxRecDepth 20000 in
theorem gL_law_X5_about : GoodIn wsL_law (wsV RL 104 RX5 yX5_about wsX5_about) := goodIn_app (goodIn_of _ (by decide +kernel)) ggL_law_X5_about
set_option maxRecDepth 20000 in
theorem ggL_law_L_told : GoodIn wsL_law wsL_told := goodIn_ca (goodIn_r _ [476, 117, 477, 478, 479, 2, 480, 126, 127, 16, 20, 122, 123, 124, 125, 88, 89, 90, 15, 91, 92, 481, 482, 483, 484, 31, 485, 204, 205, 19, 206, 48, 207, 208, 209, 486, 487, 488, 489, 43, 490, 491, 492, 493, 50, 388, 457, 389, 299, 300, 301, 46, 45, 302, 303, 304, 305, 42, 306, 307, 308, 24, 309, 310, 311, 133, 134, 135, 136, 312, 313, 314, 315, 32, 316, 317, 318, 319, 33, 320, 267, 268, 248, 269, 265, 321, 322, 323, 324, 325, 326, 327, 328, 54, 55, 56, 329, 330, 331, 332, 333, 494, 495, 496, 497, 498, 385, 386, 387, 390, 391, 392, 393, 36, 747, 748, 749, 750, 751, 768, 769, 770, 771, 772, 773, 774, 775, 776, 777, 778, 779, 780, 781, 782, 783, 784, 785, 786, 787, 788, 789] (by decide +kernel) (by decide +kernel)) (goodIn_sub (fun _ h => List.mem_append_right _ h) (by decide +kernel))
set_option maxRecDepth 20000 in
theorem gL_law_L_told : GoodIn wsL_law (va_wsS RL 105 yL_told wsL_told) := goodIn_app (goodIn_of _ (by decide +kernel)) ggL_law_L_told
set_option maxRecDepth 20000 in
theorem ggL_law_X5_told : GoodIn wsL_law wsX5_told := goodIn_r _ [502, 101, 147, 148, 149, 5, 150, 102, 103, 104, 105, 503, 504, 505, 506, 61, 62, 218, 219, 220, 221, 222, 223, 224, 225, 226, 227, 228, 229, 64, 507, 508, 509, 510, 68, 338, 339, 340, 341, 342, 343, 344, 345, 26, 145, 65, 66, 346, 347, 348, 349, 350, 351, 352, 353, 189, 190, 191, 354, 355, 356, 357, 358, 359, 360, 35, 69, 70, 71, 361, 362, 363, 364, 365, 366, 367, 368, 369, 370, 371, 372, 511, 512, 513, 514, 398, 399, 400, 401, 72, 402, 403, 404, 405, 406, 407, 408, 409, 146, 410, 411, 412, 413, 106, 107, 108, 109, 752, 753, 754, 755, 756, 757, 758, 759, 760, 761, 762, 763, 764, 765, 766, 767] (by decide +kernel) (by decide +kernel)
set_option maxRecDepth 20000 in
theorem gL_law_X5_told : GoodIn wsL_law (wsV RL 107 RX5 yX5_told wsX5_told) := goodIn_app (goodIn_of _ (by decide +kernel)) ggL_law_X5_told
set_option maxRecDepth 20000 in
theorem ggL_law_L_count : GoodIn wsL_law wsL_count := goodIn_ca (goodIn_r _ [517, 117, 518, 519, 520, 2, 521, 126, 127, 20, 16, 251, 252, 253, 19, 254, 255, 88, 89, 90, 15, 91, 92, 132, 133, 134, 135, 136, 522, 523, 524, 525, 36, 526, 527, 528, 529, 50, 457, 203, 204, 205, 206, 48, 207, 208, 209, 530, 531, 532, 533, 498, 385, 386, 387, 388, 389, 299, 300, 301, 46, 45, 302, 303, 304, 305, 42, 306, 307, 308, 24, 309, 310, 311, 312, 313, 314, 315, 32, 316, 317, 318, 319, 33, 320, 267, 268, 248, 269, 265, 321, 322, 323, 324, 325, 326, 327, 328, 54, 55, 56, 329, 330, 331, 332, 333, 390, 391, 392, 393, 534, 535, 536, 537, 538, 539, 540, 541, 542, 284, 285, 286, 287, 288, 289, 747, 748, 749, 750, 751, 775, 776, 777, 778, 779, 780, 781, 782, 768, 769, 770, 771, 772, 773, 774, 783, 784, 785, 786, 787, 788, 789] (by decide +kernel) (by decide +kernel)) (goodIn_sub (fun _ h => List.mem_append_right _ h) (by decide +kernel))
set_option maxRecDepth 20000 in
theorem gL_law_L_count : GoodIn wsL_law (va_wsS RL 108 yL_count wsL_count) := goodIn_app (goodIn_of _ (by decide +kernel)) ggL_law_L_count
set_option maxRecDepth 20000 in
theorem ggL_law_X5_count : GoodIn wsL_law wsX5_count := goodIn_r _ [546, 101, 103, 104, 5, 105, 547, 548, 549, 550, 282, 102, 145, 146, 283, 284, 285, 286, 287, 288, 289, 551, 552, 553, 554, 218, 219, 220, 221, 222, 223, 224, 225, 226, 227, 228, 229, 64, 555, 556, 557, 558, 398, 399, 400, 401, 72, 68, 71, 338, 339, 340, 341, 342, 343, 344, 345, 26, 65, 66, 346, 347, 348, 349, 350, 351, 352, 353, 189, 190, 191, 354, 355, 356, 357, 358, 359, 360, 35, 69, 70, 361, 362, 363, 364, 365, 366, 367, 368, 369, 370, 371, 372, 402, 403, 404, 405, 406, 407, 408, 409, 410, 411, 412, 413, 559, 560, 561, 562, 432, 433, 434, 435, 67, 106, 107, 108, 109, 752, 753, 754, 755, 756, 757, 758, 759, 760, 761, 762, 763, 764, 765, 766, 767] (by decide +kernel) (by decide +kernel)
set_option maxRecDepth 20000 in
theorem gL_law_X5_count : GoodIn wsL_law (wsV RL 110 RX5 yX5_count wsX5_count) := goodIn_app (goodIn_of _ (by decide +kernel)) ggL_law_X5_count
set_option maxRecDepth 20000 in
theorem ggL_law_L_go : GoodIn wsL_law wsL_go := goodIn_ca (goodIn_r _ [565, 78, 566, 567, 568, 2, 569, 20, 570, 571, 572, 573, 84, 85, 574, 575, 576, 19, 577, 255, 578, 579, 580, 581, 50, 43, 48, 47, 582, 248, 457, 89, 90, 15, 91, 92, 583, 584, 585, 586, 207, 208, 209, 587, 257, 258, 259, 260, 588, 589, 590, 591, 265, 592, 133, 134, 135, 136, 593, 594, 595, 596, 32, 33, 36, 34, 597, 598, 599, 600, 11, 12, 26, 250, 601, 602, 603, 604, 49, 311, 605, 450, 451, 452, 312, 313, 314, 315, 316, 317, 318, 319, 606, 607, 608, 609, 610, 611, 612, 613, 31, 614, 615, 616, 617, 618, 246, 247, 249, 619, 620, 621, 622, 210, 211, 212, 213, 46, 747, 748, 749, 750, 751, 775, 776, 777, 778, 779, 780, 781, 782, 787, 788, 789, 768, 769, 770, 771, 772, 773, 774] (by decide +kernel) (by decide +kernel)) (goodIn_sub (fun _ h => List.mem_append_left _ (List.mem_append_left _ (List.mem_append_right _ h))) (by decide +kernel))
set_option maxRecDepth 20000 in
theorem gL_law_L_go : GoodIn wsL_law (va_wsS RL 111 yL_go wsL_go) := goodIn_app (goodIn_of _ (by decide +kernel)) ggL_law_L_go
set_option maxRecDepth 20000 in
theorem ggL_law_X5_go : GoodIn wsL_law wsX5_go := goodIn_r _ [626, 101, 103, 104, 5, 105, 627, 628, 629, 630, 631, 632, 633, 634, 102, 63, 64, 635, 636, 637, 638, 145, 146, 65, 66, 282, 73, 639, 640, 641, 642, 222, 223, 224, 225, 226, 227, 228, 229, 278, 279, 280, 281, 643, 644, 645, 646, 67, 410, 411, 412, 413, 189, 190, 191, 647, 648, 649, 650, 62, 651, 652, 653, 654, 26, 655, 656, 657, 658, 659, 660, 661, 662, 61, 106, 107, 108, 109, 752, 753, 754, 755, 756, 757, 758, 759, 760, 761, 762, 763, 764, 765, 766, 767] (by decide +kernel) (by decide +kernel)
set_option maxRecDepth 20000 in
theorem gL_law_X5_go : GoodIn wsL_law (wsV RL 113 RX5 yX5_go wsX5_go) := goodIn_app (goodIn_of _ (by decide +kernel)) ggL_law_X5_go
set_option maxRecDepth 20000 in
theorem ggL_law_L_foresee : GoodIn wsL_law wsL_foresee := goodIn_ca (goodIn_ca (goodIn_r _ [665, 78, 117, 666, 667, 668, 2, 669, 126, 127, 21, 20, 570, 571, 572, 573, 84, 85, 670, 671, 672, 19, 673, 255, 43, 48, 210, 211, 212, 213, 46, 574, 575, 576, 577, 578, 579, 580, 581, 50, 47, 582, 248, 457, 89, 90, 15, 91, 92, 583, 584, 585, 586, 207, 208, 209, 587, 257, 258, 259, 260, 588, 589, 590, 591, 265, 592, 133, 134, 135, 136, 593, 594, 595, 596, 32, 33, 36, 34, 597, 598, 599, 600, 11, 12, 26, 250, 601, 602, 603, 604, 49, 311, 605, 450, 451, 452, 312, 313, 314, 315, 316, 317, 318, 319, 606, 607, 608, 609, 610, 611, 612, 613, 31, 614, 615, 616, 617, 618, 246, 247, 249, 619, 620, 621, 622, 526, 527, 528, 529, 203, 204, 205, 206, 530, 531, 532, 533, 498, 385, 386, 387, 388, 389, 299, 300, 301, 45, 302, 303, 304, 305, 42, 306, 307, 308, 24, 309, 310, 320, 267, 268, 269, 321, 322, 323, 324, 325, 326, 327, 328, 54, 55, 56, 329, 330, 331, 332, 333, 390, 391, 392, 393, 747, 748, 749, 750, 751, 775, 776, 777, 778, 779, 780, 781, 782, 787, 788, 789, 768, 769, 770, 771, 772, 773, 774, 783, 784, 785, 786] (by decide +kernel) (by decide +kernel)) (goodIn_sub (fun _ h => List.mem_append_right _ h) (by decide +kernel))) (goodIn_sub (fun _ h => List.mem_append_left _ (List.mem_append_left _ (List.mem_append_right _ h))) (by decide +kernel))
set_option maxRecDepth 20000 in
theorem gL_law_L_foresee : GoodIn wsL_law (va_wsS RL 114 yL_foresee wsL_foresee) := goodIn_app (goodIn_of _ (by decide +kernel)) ggL_law_L_foresee
set_option maxRecDepth 20000 in
theorem ggL_law_X5_foresee : GoodIn wsL_law wsX5_foresee := goodIn_r _ [677, 101, 103, 104, 5, 105, 106, 107, 108, 109, 678, 679, 680, 681, 64, 62, 282, 682, 683, 684, 685, 63, 635, 636, 637, 638, 26, 686, 687, 688, 689, 627, 628, 629, 630, 631, 632, 633, 634, 102, 145, 146, 65, 66, 73, 639, 640, 641, 642, 222, 223, 224, 225, 226, 227, 228, 229, 278, 279, 280, 281, 643, 644, 645, 646, 67, 410, 411, 412, 413, 189, 190, 191, 647, 648, 649, 650, 651, 652, 653, 654, 655, 656, 657, 658, 659, 660, 661, 662, 61, 547, 548, 549, 550, 283, 284, 285, 286, 287, 288, 289, 551, 552, 553, 554, 218, 219, 220, 221, 555, 556, 557, 558, 398, 399, 400, 401, 72, 68, 71, 338, 339, 340, 341, 342, 343, 344, 345, 346, 347, 348, 349, 350, 351, 352, 353, 354, 355, 356, 357, 358, 359, 360, 35, 69, 70, 361, 362, 363, 364, 365, 366, 367, 368, 369, 370, 371, 372, 402, 403, 404, 405, 406, 407, 408, 409, 559, 560, 561, 562, 432, 433, 434, 435, 752, 753, 754, 755, 756, 757, 758, 759, 760, 761, 762, 763, 764, 765, 766, 767] (by decide +kernel) (by decide +kernel)
set_option maxRecDepth 20000 in
theorem gL_law_X5_foresee : GoodIn wsL_law (wsV RL 116 RX5 yX5_foresee wsX5_foresee) := goodIn_app (goodIn_of _ (by decide +kernel)) ggL_law_X5_foresee
set_option maxRecDepth 20000 in
theorem ggL_law_X4_settles : GoodIn wsL_law wsX4_settles := goodIn_r _ [693, 16, 20, 21, 534, 535, 536, 15, 537, 92, 538, 539, 540, 541, 136, 32, 33, 36, 542, 284, 285, 286, 287, 288, 289, 530, 531, 532, 19, 533, 50, 457, 89, 90, 91, 498, 385, 386, 387, 388, 389, 299, 300, 301, 46, 45, 302, 303, 304, 305, 42, 48, 306, 307, 308, 24, 309, 310, 311, 133, 134, 135, 312, 313, 314, 315, 316, 317, 318, 319, 207, 208, 209, 320, 267, 268, 248, 269, 265, 321, 322, 323, 324, 325, 326, 327, 328, 54, 55, 56, 329, 330, 331, 332, 333, 390, 391, 392, 393, 670, 671, 672, 673, 255, 43, 210, 211, 212, 213, 574, 575, 576, 577, 578, 579, 580, 581, 47, 582, 583, 584, 585, 586, 587, 257, 258, 259, 260, 588, 589, 590, 591, 592, 593, 594, 595, 596, 34, 597, 598, 599, 600, 11, 12, 26, 250, 601, 602, 603, 604, 49, 605, 450, 451, 452, 606, 607, 608, 609, 610, 611, 612, 613, 31, 614, 615, 616, 617, 618, 246, 247, 249, 619, 620, 621, 622, 747, 748, 749, 750, 751, 768, 769, 770, 771, 772, 773, 774, 775, 776, 777, 778, 779, 780, 781, 782, 783, 784, 785, 786, 787, 788, 789] (by decide +kernel) (by decide +kernel)
set_option maxRecDepth 20000 in
theorem gL_law_X4_settles : GoodIn wsL_law (wsV RL 117 RX4 yX4_settles wsX4_settles) := goodIn_app (goodIn_of _ (by decide +kernel)) ggL_law_X4_settles
set_option maxRecDepth 20000 in
theorem ggL_law_X5_settles : GoodIn wsL_law wsX5_settles := goodIn_r _ [697, 101, 64, 62, 282, 682, 683, 684, 5, 685, 63, 635, 636, 637, 638, 26, 686, 687, 688, 689, 698, 699, 700, 701, 146, 559, 560, 561, 562, 102, 68, 432, 433, 434, 435, 145, 65, 66, 67, 189, 190, 191, 354, 355, 356, 357, 358, 359, 360, 35, 69, 70, 71, 361, 362, 363, 364, 365, 366, 367, 368, 369, 370, 371, 372, 702, 703, 704, 705, 555, 556, 557, 558, 398, 399, 400, 401, 72, 338, 339, 340, 341, 342, 343, 344, 345, 346, 347, 348, 349, 350, 351, 352, 353, 222, 223, 224, 225, 226, 227, 228, 229, 402, 403, 404, 405, 406, 407, 408, 409, 410, 411, 412, 413, 631, 632, 633, 634, 73, 639, 640, 641, 642, 278, 279, 280, 281, 643, 644, 645, 646, 647, 648, 649, 650, 651, 652, 653, 654, 655, 656, 657, 658, 659, 660, 661, 662, 61, 752, 753, 754, 755, 756, 757, 758, 759, 760, 761, 762, 763, 764, 765, 766, 767] (by decide +kernel) (by decide +kernel)
set_option maxRecDepth 20000 in
theorem gL_law_X5_settles : GoodIn wsL_law (wsV RL 120 RX5 yX5_settles wsX5_settles) := goodIn_app (goodIn_of _ (by decide +kernel)) ggL_law_X5_settles
set_option maxRecDepth 20000 in
theorem ggL_law_X4_advise : GoodIn wsL_law wsX4_advise := goodIn_r _ [709, 16, 132, 133, 134, 15, 135, 136, 449, 450, 451, 452, 36, 534, 535, 536, 537, 92, 538, 539, 540, 541, 32, 33, 542, 284, 285, 286, 287, 288, 289, 747, 748, 749, 750, 751, 768, 769, 770, 771, 772, 773, 774] (by decide +kernel) (by decide +kernel)
set_option maxRecDepth 20000 in
theorem gL_law_X4_advise : GoodIn wsL_law (wsV RL 121 RX4 yX4_advise wsX4_advise) := goodIn_app (goodIn_of _ (by decide +kernel)) ggL_law_X4_advise
set_option maxRecDepth 20000 in
theorem ggL_law_X5_advise : GoodIn wsL_law wsX5_advise := goodIn_r _ [713, 101, 145, 146, 189, 190, 5, 191, 559, 560, 561, 562, 102, 68, 432, 433, 434, 435, 26, 65, 66, 67, 354, 355, 356, 357, 358, 359, 360, 35, 69, 70, 71, 361, 362, 363, 364, 365, 366, 367, 368, 369, 370, 371, 372, 752, 753, 754, 755, 756, 757, 758, 759, 760, 761, 762, 763, 764, 765, 766, 767] (by decide +kernel) (by decide +kernel)
set_option maxRecDepth 20000 in
theorem gL_law_X5_advise : GoodIn wsL_law (wsV RL 124 RX5 yX5_advise wsX5_advise) := goodIn_app (goodIn_of _ (by decide +kernel)) ggL_law_X5_advise
set_option maxRecDepth 20000 in
theorem ggL_law_X4_mean : GoodIn wsL_law wsX4_mean := goodIn_r _ [717, 20, 526, 527, 528, 19, 529, 50, 457, 89, 90, 15, 91, 92, 203, 204, 205, 206, 48, 207, 208, 209, 718, 719, 720, 721, 255, 587, 257, 258, 248, 259, 260, 747, 748, 749, 750, 751, 775, 776, 777, 778, 779, 780, 781, 782, 768, 769, 770, 771, 772, 773, 774, 787, 788, 789] (by decide +kernel) (by decide +kernel)
set_option maxRecDepth 20000 in
theorem gL_law_X4_mean : GoodIn wsL_law (wsV RL 125 RX4 yX4_mean wsX4_mean) := goodIn_app (goodIn_of _ (by decide +kernel)) ggL_law_X4_mean
set_option maxRecDepth 20000 in
theorem ggL_law_X5_mean : GoodIn wsL_law wsX5_mean := goodIn_r _ [725, 101, 102, 551, 552, 553, 5, 554, 218, 219, 220, 221, 222, 223, 224, 225, 226, 227, 228, 229, 64, 278, 279, 280, 281, 282, 752, 753, 754, 755, 756, 757, 758, 759, 760, 761, 762, 763, 764, 765, 766, 767] (by decide +kernel) (by decide +kernel)
set_option maxRecDepth 20000 in
theorem gL_law_X5_mean : GoodIn wsL_law (wsV RL 129 RX5 yX5_mean wsX5_mean) := goodIn_app (goodIn_of _ (by decide +kernel)) ggL_law_X5_mean
set_option maxRecDepth 20000 in
theorem ggL_law_X4_digest : GoodIn wsL_law wsX4_digest := goodIn_ca (goodIn_r _ [729, 730, 731, 16, 732, 519, 520, 2, 521, 126, 127, 20, 251, 252, 253, 19, 254, 255, 88, 89, 90, 15, 91, 92, 132, 133, 134, 135, 136, 522, 523, 524, 525, 36, 526, 527, 528, 529, 50, 457, 203, 204, 205, 206, 48, 207, 208, 209, 530, 531, 532, 533, 498, 385, 386, 387, 388, 389, 299, 300, 301, 46, 45, 302, 303, 304, 305, 42, 306, 307, 308, 24, 309, 310, 311, 312, 313, 314, 315, 32, 316, 317, 318, 319, 33, 320, 267, 268, 248, 269, 265, 321, 322, 323, 324, 325, 326, 327, 328, 54, 55, 56, 329, 330, 331, 332, 333, 390, 391, 392, 393, 534, 535, 536, 537, 538, 539, 540, 541, 542, 284, 285, 286, 287, 288, 289, 733, 478, 479, 480, 122, 123, 124, 125, 481, 482, 483, 484, 31, 485, 486, 487, 488, 489, 43, 490, 491, 492, 493, 494, 495, 496, 497, 734, 440, 441, 442, 158, 159, 160, 161, 443, 444, 445, 446, 447, 448, 34, 449, 450, 451, 452, 453, 454, 455, 456, 458, 459, 460, 461, 735, 736, 737, 738, 739, 234, 235, 236, 237, 238, 239, 240, 241, 242, 243, 244, 245, 246, 247, 249, 250, 256, 257, 258, 259, 260, 261, 262, 263, 264, 266, 740, 294, 295, 296, 297, 298, 747, 748, 749, 750, 751, 775, 776, 777, 778, 779, 780, 781, 782, 768, 769, 770, 771, 772, 773, 774, 783, 784, 785, 786, 787, 788, 789] (by decide +kernel) (by decide +kernel)) (goodIn_sub (fun _ h => List.mem_append_right _ h) (by decide +kernel))
set_option maxRecDepth 20000 in
theorem gL_law_X4_digest : GoodIn wsL_law (wsV RL 130 RX4 yX4_digest wsX4_digest) := goodIn_app (goodIn_of _ (by decide +kernel)) ggL_law_X4_digest
set_option maxRecDepth 20000 in
theorem ggL_law_X5_digest : GoodIn wsL_law wsX5_digest := goodIn_r _ [744, 101, 745, 746, 102, 145, 547, 548, 549, 5, 550, 282, 146, 283, 284, 285, 286, 287, 288, 289, 551, 552, 553, 554, 218, 219, 220, 221, 222, 223, 224, 225, 226, 227, 228, 229, 64, 555, 556, 557, 558, 398, 399, 400, 401, 72, 68, 71, 338, 339, 340, 341, 342, 343, 344, 345, 26, 65, 66, 346, 347, 348, 349, 350, 351, 352, 353, 189, 190, 191, 354, 355, 356, 357, 358, 359, 360, 35, 69, 70, 361, 362, 363, 364, 365, 366, 367, 368, 369, 370, 371, 372, 402, 403, 404, 405, 406, 407, 408, 409, 410, 411, 412, 413, 559, 560, 561, 562, 432, 433, 434, 435, 67, 503, 504, 505, 506, 61, 62, 507, 508, 509, 510, 511, 512, 513, 514, 466, 467, 468, 469, 470, 471, 472, 473, 274, 275, 276, 277, 278, 279, 280, 281, 373, 374, 375, 376, 752, 753, 754, 755, 756, 757, 758, 759, 760, 761, 762, 763, 764, 765, 766, 767] (by decide +kernel) (by decide +kernel)
set_option maxRecDepth 20000 in
theorem gL_law_X5_digest : GoodIn wsL_law (wsV RL 134 RX5 yX5_digest wsX5_digest) := goodIn_app (goodIn_of _ (by decide +kernel)) ggL_law_X5_digest
theorem dL_law_0 : decode cL_law 0 = .ok (.new 8, 3) := by decide +kernel
theorem dL_law_3 : decode cL_law 3 = .ok (.dup, 1) := by decide +kernel
theorem dL_law_4 : decode cL_law 4 = .ok (.invokespecial 61, 3) := by decide +kernel
theorem dL_law_7 : decode cL_law 7 = .ok (.astore_n 1, 1) := by decide +kernel
theorem dL_law_8 : decode cL_law 8 = .ok (.new 62, 3) := by decide +kernel
theorem dL_law_11 : decode cL_law 11 = .ok (.dup, 1) := by decide +kernel
theorem dL_law_12 : decode cL_law 12 = .ok (.invokespecial 64, 3) := by decide +kernel
theorem dL_law_15 : decode cL_law 15 = .ok (.astore_n 2, 1) := by decide +kernel
theorem dL_law_16 : decode cL_law 16 = .ok (.iconst 1, 1) := by decide +kernel
theorem dL_law_17 : decode cL_law 17 = .ok (.newarray .long, 2) := by decide +kernel
theorem dL_law_19 : decode cL_law 19 = .ok (.astore_n 3, 1) := by decide +kernel
theorem dL_law_20 : decode cL_law 20 = .ok (.iconst 0, 1) := by decide +kernel
theorem dL_law_21 : decode cL_law 21 = .ok (.istore 4, 2) := by decide +kernel
theorem dL_law_23 : decode cL_law 23 = .ok (.iload 4, 2) := by decide +kernel
theorem dL_law_25 : decode cL_law 25 = .ok (.aload_n 0, 1) := by decide +kernel
theorem dL_law_26 : decode cL_law 26 = .ok (.arraylength, 1) := by decide +kernel
theorem dL_law_27 : decode cL_law 27 = .ok (.iconst 4, 1) := by decide +kernel
theorem dL_law_28 : decode cL_law 28 = .ok (.isub, 1) := by decide +kernel
theorem dL_law_29 : decode cL_law 29 = .ok (.if_icmp .gt 1145, 3) := by decide +kernel
theorem dL_law_32 : decode cL_law 32 = .ok (.aload_n 0, 1) := by decide +kernel
theorem dL_law_33 : decode cL_law 33 = .ok (.iload 4, 2) := by decide +kernel
theorem dL_law_35 : decode cL_law 35 = .ok (.iaload, 1) := by decide +kernel
theorem dL_law_36 : decode cL_law 36 = .ok (.bipush 31, 2) := by decide +kernel
theorem dL_law_38 : decode cL_law 38 = .ok (.iand, 1) := by decide +kernel
theorem dL_law_39 : decode cL_law 39 = .ok (.tableswitch 1129 0 17 #[85, 141, 221, 289, 380, 436, 516, 596, 664, 732, 800, 868, 924, 980, 1048, 1061, 1074, 1115], 85) := by decide +kernel
theorem dL_law_124 : decode cL_law 124 = .ok (.aload_n 1, 1) := by decide +kernel
theorem dL_law_125 : decode cL_law 125 = .ok (.aload_n 0, 1) := by decide +kernel
theorem dL_law_126 : decode cL_law 126 = .ok (.iload 4, 2) := by decide +kernel
theorem dL_law_128 : decode cL_law 128 = .ok (.iconst 1, 1) := by decide +kernel
theorem dL_law_129 : decode cL_law 129 = .ok (.iadd, 1) := by decide +kernel
theorem dL_law_130 : decode cL_law 130 = .ok (.iaload, 1) := by decide +kernel
theorem dL_law_131 : decode cL_law 131 = .ok (.aload_n 3, 1) := by decide +kernel
theorem dL_law_132 : decode cL_law 132 = .ok (.invokestatic 65, 3) := by decide +kernel
theorem dL_law_135 : decode cL_law 135 = .ok (.istore 5, 2) := by decide +kernel
theorem dL_law_137 : decode cL_law 137 = .ok (.aload_n 2, 1) := by decide +kernel
theorem dL_law_138 : decode cL_law 138 = .ok (.aload_n 0, 1) := by decide +kernel
theorem dL_law_139 : decode cL_law 139 = .ok (.iload 4, 2) := by decide +kernel
theorem dL_law_141 : decode cL_law 141 = .ok (.iconst 1, 1) := by decide +kernel
theorem dL_law_142 : decode cL_law 142 = .ok (.iadd, 1) := by decide +kernel
theorem dL_law_143 : decode cL_law 143 = .ok (.iaload, 1) := by decide +kernel
theorem dL_law_144 : decode cL_law 144 = .ok (.invokevirtual 70, 3) := by decide +kernel
theorem dL_law_147 : decode cL_law 147 = .ok (.istore 6, 2) := by decide +kernel
theorem dL_law_149 : decode cL_law 149 = .ok (.aload_n 2, 1) := by decide +kernel
theorem dL_law_150 : decode cL_law 150 = .ok (.invokevirtual 71, 3) := by decide +kernel
theorem dL_law_153 : decode cL_law 153 = .ok (.iload 5, 2) := by decide +kernel
theorem dL_law_155 : decode cL_law 155 = .ok (.if_icmp .eq 5, 3) := by decide +kernel
theorem dL_law_158 : decode cL_law 158 = .ok (.iconst 0, 1) := by decide +kernel
theorem dL_law_159 : decode cL_law 159 = .ok (.ireturn, 1) := by decide +kernel
theorem dL_law_160 : decode cL_law 160 = .ok (.iload 5, 2) := by decide +kernel
theorem dL_law_162 : decode cL_law 162 = .ok (.ifCond .ne 15, 3) := by decide +kernel
theorem dL_law_165 : decode cL_law 165 = .ok (.aload_n 3, 1) := by decide +kernel
theorem dL_law_166 : decode cL_law 166 = .ok (.iconst 0, 1) := by decide +kernel
theorem dL_law_167 : decode cL_law 167 = .ok (.laload, 1) := by decide +kernel
theorem dL_law_168 : decode cL_law 168 = .ok (.iload 6, 2) := by decide +kernel
theorem dL_law_170 : decode cL_law 170 = .ok (.i2l, 1) := by decide +kernel
theorem dL_law_171 : decode cL_law 171 = .ok (.lcmp, 1) := by decide +kernel
theorem dL_law_172 : decode cL_law 172 = .ok (.ifCond .eq 5, 3) := by decide +kernel
theorem dL_law_175 : decode cL_law 175 = .ok (.iconst 0, 1) := by decide +kernel
theorem dL_law_176 : decode cL_law 176 = .ok (.ireturn, 1) := by decide +kernel
theorem dL_law_177 : decode cL_law 177 = .ok (.goto 991, 3) := by decide +kernel
theorem dL_law_180 : decode cL_law 180 = .ok (.aload_n 1, 1) := by decide +kernel
theorem dL_law_181 : decode cL_law 181 = .ok (.aload_n 0, 1) := by decide +kernel
theorem dL_law_182 : decode cL_law 182 = .ok (.iload 4, 2) := by decide +kernel
theorem dL_law_184 : decode cL_law 184 = .ok (.iconst 1, 1) := by decide +kernel
theorem dL_law_185 : decode cL_law 185 = .ok (.iadd, 1) := by decide +kernel
theorem dL_law_186 : decode cL_law 186 = .ok (.iaload, 1) := by decide +kernel
theorem dL_law_187 : decode cL_law 187 = .ok (.aload_n 0, 1) := by decide +kernel
theorem dL_law_188 : decode cL_law 188 = .ok (.iload 4, 2) := by decide +kernel
theorem dL_law_190 : decode cL_law 190 = .ok (.iconst 2, 1) := by decide +kernel
theorem dL_law_191 : decode cL_law 191 = .ok (.iadd, 1) := by decide +kernel
theorem dL_law_192 : decode cL_law 192 = .ok (.iaload, 1) := by decide +kernel
theorem dL_law_193 : decode cL_law 193 = .ok (.aload_n 0, 1) := by decide +kernel
theorem dL_law_194 : decode cL_law 194 = .ok (.iload 4, 2) := by decide +kernel
theorem dL_law_196 : decode cL_law 196 = .ok (.iconst 3, 1) := by decide +kernel
theorem dL_law_197 : decode cL_law 197 = .ok (.iadd, 1) := by decide +kernel
theorem dL_law_198 : decode cL_law 198 = .ok (.iaload, 1) := by decide +kernel
theorem dL_law_199 : decode cL_law 199 = .ok (.aload_n 3, 1) := by decide +kernel
theorem dL_law_200 : decode cL_law 200 = .ok (.invokestatic 75, 3) := by decide +kernel
theorem dL_law_203 : decode cL_law 203 = .ok (.istore 5, 2) := by decide +kernel
theorem dL_law_205 : decode cL_law 205 = .ok (.aload_n 2, 1) := by decide +kernel
theorem dL_law_206 : decode cL_law 206 = .ok (.aload_n 0, 1) := by decide +kernel
theorem dL_law_207 : decode cL_law 207 = .ok (.iload 4, 2) := by decide +kernel
theorem dL_law_209 : decode cL_law 209 = .ok (.iconst 1, 1) := by decide +kernel
theorem dL_law_210 : decode cL_law 210 = .ok (.iadd, 1) := by decide +kernel
theorem dL_law_211 : decode cL_law 211 = .ok (.iaload, 1) := by decide +kernel
theorem dL_law_212 : decode cL_law 212 = .ok (.aload_n 0, 1) := by decide +kernel
theorem dL_law_213 : decode cL_law 213 = .ok (.iload 4, 2) := by decide +kernel
theorem dL_law_215 : decode cL_law 215 = .ok (.iconst 2, 1) := by decide +kernel
theorem dL_law_216 : decode cL_law 216 = .ok (.iadd, 1) := by decide +kernel
theorem dL_law_217 : decode cL_law 217 = .ok (.iaload, 1) := by decide +kernel
theorem dL_law_218 : decode cL_law 218 = .ok (.aload_n 0, 1) := by decide +kernel
theorem dL_law_219 : decode cL_law 219 = .ok (.iload 4, 2) := by decide +kernel
theorem dL_law_221 : decode cL_law 221 = .ok (.iconst 3, 1) := by decide +kernel
theorem dL_law_222 : decode cL_law 222 = .ok (.iadd, 1) := by decide +kernel
theorem dL_law_223 : decode cL_law 223 = .ok (.iaload, 1) := by decide +kernel
theorem dL_law_224 : decode cL_law 224 = .ok (.invokevirtual 78, 3) := by decide +kernel
theorem dL_law_227 : decode cL_law 227 = .ok (.istore 6, 2) := by decide +kernel
theorem dL_law_229 : decode cL_law 229 = .ok (.aload_n 2, 1) := by decide +kernel
theorem dL_law_230 : decode cL_law 230 = .ok (.invokevirtual 71, 3) := by decide +kernel
theorem dL_law_233 : decode cL_law 233 = .ok (.iload 5, 2) := by decide +kernel
theorem dL_law_235 : decode cL_law 235 = .ok (.if_icmp .eq 5, 3) := by decide +kernel
theorem dL_law_238 : decode cL_law 238 = .ok (.iconst 0, 1) := by decide +kernel
theorem dL_law_239 : decode cL_law 239 = .ok (.ireturn, 1) := by decide +kernel
theorem dL_law_240 : decode cL_law 240 = .ok (.iload 5, 2) := by decide +kernel
theorem dL_law_242 : decode cL_law 242 = .ok (.ifCond .ne 15, 3) := by decide +kernel
theorem dL_law_245 : decode cL_law 245 = .ok (.aload_n 3, 1) := by decide +kernel
theorem dL_law_246 : decode cL_law 246 = .ok (.iconst 0, 1) := by decide +kernel
theorem dL_law_247 : decode cL_law 247 = .ok (.laload, 1) := by decide +kernel
theorem dL_law_248 : decode cL_law 248 = .ok (.iload 6, 2) := by decide +kernel
theorem dL_law_250 : decode cL_law 250 = .ok (.i2l, 1) := by decide +kernel
theorem dL_law_251 : decode cL_law 251 = .ok (.lcmp, 1) := by decide +kernel
theorem dL_law_252 : decode cL_law 252 = .ok (.ifCond .eq 5, 3) := by decide +kernel
theorem dL_law_255 : decode cL_law 255 = .ok (.iconst 0, 1) := by decide +kernel
theorem dL_law_256 : decode cL_law 256 = .ok (.ireturn, 1) := by decide +kernel
theorem dL_law_257 : decode cL_law 257 = .ok (.goto 911, 3) := by decide +kernel
theorem dL_law_260 : decode cL_law 260 = .ok (.aload_n 1, 1) := by decide +kernel
theorem dL_law_261 : decode cL_law 261 = .ok (.aload_n 0, 1) := by decide +kernel
theorem dL_law_262 : decode cL_law 262 = .ok (.iload 4, 2) := by decide +kernel
theorem dL_law_264 : decode cL_law 264 = .ok (.iconst 1, 1) := by decide +kernel
theorem dL_law_265 : decode cL_law 265 = .ok (.iadd, 1) := by decide +kernel
theorem dL_law_266 : decode cL_law 266 = .ok (.iaload, 1) := by decide +kernel
theorem dL_law_267 : decode cL_law 267 = .ok (.aload_n 0, 1) := by decide +kernel
theorem dL_law_268 : decode cL_law 268 = .ok (.iload 4, 2) := by decide +kernel
theorem dL_law_270 : decode cL_law 270 = .ok (.iconst 2, 1) := by decide +kernel
theorem dL_law_271 : decode cL_law 271 = .ok (.iadd, 1) := by decide +kernel
theorem dL_law_272 : decode cL_law 272 = .ok (.iaload, 1) := by decide +kernel
theorem dL_law_273 : decode cL_law 273 = .ok (.aload_n 3, 1) := by decide +kernel
theorem dL_law_274 : decode cL_law 274 = .ok (.invokestatic 79, 3) := by decide +kernel
theorem dL_law_277 : decode cL_law 277 = .ok (.istore 5, 2) := by decide +kernel
theorem dL_law_279 : decode cL_law 279 = .ok (.aload_n 2, 1) := by decide +kernel
theorem dL_law_280 : decode cL_law 280 = .ok (.aload_n 0, 1) := by decide +kernel
theorem dL_law_281 : decode cL_law 281 = .ok (.iload 4, 2) := by decide +kernel
theorem dL_law_283 : decode cL_law 283 = .ok (.iconst 1, 1) := by decide +kernel
theorem dL_law_284 : decode cL_law 284 = .ok (.iadd, 1) := by decide +kernel
theorem dL_law_285 : decode cL_law 285 = .ok (.iaload, 1) := by decide +kernel
theorem dL_law_286 : decode cL_law 286 = .ok (.aload_n 0, 1) := by decide +kernel
theorem dL_law_287 : decode cL_law 287 = .ok (.iload 4, 2) := by decide +kernel
theorem dL_law_289 : decode cL_law 289 = .ok (.iconst 2, 1) := by decide +kernel
theorem dL_law_290 : decode cL_law 290 = .ok (.iadd, 1) := by decide +kernel
theorem dL_law_291 : decode cL_law 291 = .ok (.iaload, 1) := by decide +kernel
theorem dL_law_292 : decode cL_law 292 = .ok (.invokevirtual 82, 3) := by decide +kernel
theorem dL_law_295 : decode cL_law 295 = .ok (.istore 6, 2) := by decide +kernel
theorem dL_law_297 : decode cL_law 297 = .ok (.aload_n 2, 1) := by decide +kernel
theorem dL_law_298 : decode cL_law 298 = .ok (.invokevirtual 71, 3) := by decide +kernel
theorem dL_law_301 : decode cL_law 301 = .ok (.iload 5, 2) := by decide +kernel
theorem dL_law_303 : decode cL_law 303 = .ok (.if_icmp .eq 5, 3) := by decide +kernel
theorem dL_law_306 : decode cL_law 306 = .ok (.iconst 0, 1) := by decide +kernel
theorem dL_law_307 : decode cL_law 307 = .ok (.ireturn, 1) := by decide +kernel
theorem dL_law_308 : decode cL_law 308 = .ok (.iload 5, 2) := by decide +kernel
theorem dL_law_310 : decode cL_law 310 = .ok (.ifCond .ne 15, 3) := by decide +kernel
theorem dL_law_313 : decode cL_law 313 = .ok (.aload_n 3, 1) := by decide +kernel
theorem dL_law_314 : decode cL_law 314 = .ok (.iconst 0, 1) := by decide +kernel
theorem dL_law_315 : decode cL_law 315 = .ok (.laload, 1) := by decide +kernel
theorem dL_law_316 : decode cL_law 316 = .ok (.iload 6, 2) := by decide +kernel
theorem dL_law_318 : decode cL_law 318 = .ok (.i2l, 1) := by decide +kernel
theorem dL_law_319 : decode cL_law 319 = .ok (.lcmp, 1) := by decide +kernel
theorem dL_law_320 : decode cL_law 320 = .ok (.ifCond .eq 5, 3) := by decide +kernel
theorem dL_law_323 : decode cL_law 323 = .ok (.iconst 0, 1) := by decide +kernel
theorem dL_law_324 : decode cL_law 324 = .ok (.ireturn, 1) := by decide +kernel
theorem dL_law_325 : decode cL_law 325 = .ok (.goto 843, 3) := by decide +kernel
theorem dL_law_328 : decode cL_law 328 = .ok (.aload_n 1, 1) := by decide +kernel
theorem dL_law_329 : decode cL_law 329 = .ok (.aload_n 0, 1) := by decide +kernel
theorem dL_law_330 : decode cL_law 330 = .ok (.iload 4, 2) := by decide +kernel
theorem dL_law_332 : decode cL_law 332 = .ok (.iconst 1, 1) := by decide +kernel
theorem dL_law_333 : decode cL_law 333 = .ok (.iadd, 1) := by decide +kernel
theorem dL_law_334 : decode cL_law 334 = .ok (.iaload, 1) := by decide +kernel
theorem dL_law_335 : decode cL_law 335 = .ok (.aload_n 0, 1) := by decide +kernel
theorem dL_law_336 : decode cL_law 336 = .ok (.iload 4, 2) := by decide +kernel
theorem dL_law_338 : decode cL_law 338 = .ok (.iconst 2, 1) := by decide +kernel
theorem dL_law_339 : decode cL_law 339 = .ok (.iadd, 1) := by decide +kernel
theorem dL_law_340 : decode cL_law 340 = .ok (.iaload, 1) := by decide +kernel
theorem dL_law_341 : decode cL_law 341 = .ok (.ifCond .eq 7, 3) := by decide +kernel
theorem dL_law_344 : decode cL_law 344 = .ok (.iconst 1, 1) := by decide +kernel
theorem dL_law_345 : decode cL_law 345 = .ok (.goto 4, 3) := by decide +kernel
theorem dL_law_348 : decode cL_law 348 = .ok (.iconst 0, 1) := by decide +kernel
theorem dL_law_349 : decode cL_law 349 = .ok (.aload_n 3, 1) := by decide +kernel
theorem dL_law_350 : decode cL_law 350 = .ok (.invokestatic 83, 3) := by decide +kernel
theorem dL_law_353 : decode cL_law 353 = .ok (.istore 5, 2) := by decide +kernel
theorem dL_law_355 : decode cL_law 355 = .ok (.aload_n 2, 1) := by decide +kernel
theorem dL_law_356 : decode cL_law 356 = .ok (.aload_n 0, 1) := by decide +kernel
theorem dL_law_357 : decode cL_law 357 = .ok (.iload 4, 2) := by decide +kernel
theorem dL_law_359 : decode cL_law 359 = .ok (.iconst 1, 1) := by decide +kernel
theorem dL_law_360 : decode cL_law 360 = .ok (.iadd, 1) := by decide +kernel
theorem dL_law_361 : decode cL_law 361 = .ok (.iaload, 1) := by decide +kernel
theorem dL_law_362 : decode cL_law 362 = .ok (.aload_n 0, 1) := by decide +kernel
theorem dL_law_363 : decode cL_law 363 = .ok (.iload 4, 2) := by decide +kernel
theorem dL_law_365 : decode cL_law 365 = .ok (.iconst 2, 1) := by decide +kernel
theorem dL_law_366 : decode cL_law 366 = .ok (.iadd, 1) := by decide +kernel
theorem dL_law_367 : decode cL_law 367 = .ok (.iaload, 1) := by decide +kernel
theorem dL_law_368 : decode cL_law 368 = .ok (.ifCond .eq 7, 3) := by decide +kernel
theorem dL_law_371 : decode cL_law 371 = .ok (.iconst 1, 1) := by decide +kernel
theorem dL_law_372 : decode cL_law 372 = .ok (.goto 4, 3) := by decide +kernel
theorem dL_law_375 : decode cL_law 375 = .ok (.iconst 0, 1) := by decide +kernel
theorem dL_law_376 : decode cL_law 376 = .ok (.invokevirtual 86, 3) := by decide +kernel
theorem dL_law_379 : decode cL_law 379 = .ok (.istore 6, 2) := by decide +kernel
theorem dL_law_381 : decode cL_law 381 = .ok (.aload_n 2, 1) := by decide +kernel
theorem dL_law_382 : decode cL_law 382 = .ok (.invokevirtual 71, 3) := by decide +kernel
theorem dL_law_385 : decode cL_law 385 = .ok (.iload 5, 2) := by decide +kernel
theorem dL_law_387 : decode cL_law 387 = .ok (.if_icmp .eq 5, 3) := by decide +kernel
theorem dL_law_390 : decode cL_law 390 = .ok (.iconst 0, 1) := by decide +kernel
theorem dL_law_391 : decode cL_law 391 = .ok (.ireturn, 1) := by decide +kernel
theorem dL_law_392 : decode cL_law 392 = .ok (.iload 5, 2) := by decide +kernel
theorem dL_law_394 : decode cL_law 394 = .ok (.ifCond .ne 22, 3) := by decide +kernel
theorem dL_law_397 : decode cL_law 397 = .ok (.aload_n 3, 1) := by decide +kernel
theorem dL_law_398 : decode cL_law 398 = .ok (.iconst 0, 1) := by decide +kernel
theorem dL_law_399 : decode cL_law 399 = .ok (.laload, 1) := by decide +kernel
theorem dL_law_400 : decode cL_law 400 = .ok (.iload 6, 2) := by decide +kernel
theorem dL_law_402 : decode cL_law 402 = .ok (.ifCond .eq 7, 3) := by decide +kernel
theorem dL_law_405 : decode cL_law 405 = .ok (.lconst 1, 1) := by decide +kernel
theorem dL_law_406 : decode cL_law 406 = .ok (.goto 4, 3) := by decide +kernel
theorem dL_law_409 : decode cL_law 409 = .ok (.lconst 0, 1) := by decide +kernel
theorem dL_law_410 : decode cL_law 410 = .ok (.lcmp, 1) := by decide +kernel
theorem dL_law_411 : decode cL_law 411 = .ok (.ifCond .eq 5, 3) := by decide +kernel
theorem dL_law_414 : decode cL_law 414 = .ok (.iconst 0, 1) := by decide +kernel
theorem dL_law_415 : decode cL_law 415 = .ok (.ireturn, 1) := by decide +kernel
theorem dL_law_416 : decode cL_law 416 = .ok (.goto 752, 3) := by decide +kernel
theorem dL_law_419 : decode cL_law 419 = .ok (.aload_n 1, 1) := by decide +kernel
theorem dL_law_420 : decode cL_law 420 = .ok (.aload_n 0, 1) := by decide +kernel
theorem dL_law_421 : decode cL_law 421 = .ok (.iload 4, 2) := by decide +kernel
theorem dL_law_423 : decode cL_law 423 = .ok (.iconst 1, 1) := by decide +kernel
theorem dL_law_424 : decode cL_law 424 = .ok (.iadd, 1) := by decide +kernel
theorem dL_law_425 : decode cL_law 425 = .ok (.iaload, 1) := by decide +kernel
theorem dL_law_426 : decode cL_law 426 = .ok (.aload_n 3, 1) := by decide +kernel
theorem dL_law_427 : decode cL_law 427 = .ok (.invokestatic 87, 3) := by decide +kernel
theorem dL_law_430 : decode cL_law 430 = .ok (.istore 5, 2) := by decide +kernel
theorem dL_law_432 : decode cL_law 432 = .ok (.aload_n 2, 1) := by decide +kernel
theorem dL_law_433 : decode cL_law 433 = .ok (.aload_n 0, 1) := by decide +kernel
theorem dL_law_434 : decode cL_law 434 = .ok (.iload 4, 2) := by decide +kernel
theorem dL_law_436 : decode cL_law 436 = .ok (.iconst 1, 1) := by decide +kernel
theorem dL_law_437 : decode cL_law 437 = .ok (.iadd, 1) := by decide +kernel
theorem dL_law_438 : decode cL_law 438 = .ok (.iaload, 1) := by decide +kernel
theorem dL_law_439 : decode cL_law 439 = .ok (.invokevirtual 89, 3) := by decide +kernel
theorem dL_law_442 : decode cL_law 442 = .ok (.istore 6, 2) := by decide +kernel
theorem dL_law_444 : decode cL_law 444 = .ok (.aload_n 2, 1) := by decide +kernel
theorem dL_law_445 : decode cL_law 445 = .ok (.invokevirtual 71, 3) := by decide +kernel
theorem dL_law_448 : decode cL_law 448 = .ok (.iload 5, 2) := by decide +kernel
theorem dL_law_450 : decode cL_law 450 = .ok (.if_icmp .eq 5, 3) := by decide +kernel
theorem dL_law_453 : decode cL_law 453 = .ok (.iconst 0, 1) := by decide +kernel
theorem dL_law_454 : decode cL_law 454 = .ok (.ireturn, 1) := by decide +kernel
theorem dL_law_455 : decode cL_law 455 = .ok (.iload 5, 2) := by decide +kernel
theorem dL_law_457 : decode cL_law 457 = .ok (.ifCond .ne 15, 3) := by decide +kernel
theorem dL_law_460 : decode cL_law 460 = .ok (.aload_n 3, 1) := by decide +kernel
theorem dL_law_461 : decode cL_law 461 = .ok (.iconst 0, 1) := by decide +kernel
theorem dL_law_462 : decode cL_law 462 = .ok (.laload, 1) := by decide +kernel
theorem dL_law_463 : decode cL_law 463 = .ok (.iload 6, 2) := by decide +kernel
theorem dL_law_465 : decode cL_law 465 = .ok (.i2l, 1) := by decide +kernel
theorem dL_law_466 : decode cL_law 466 = .ok (.lcmp, 1) := by decide +kernel
theorem dL_law_467 : decode cL_law 467 = .ok (.ifCond .eq 5, 3) := by decide +kernel
theorem dL_law_470 : decode cL_law 470 = .ok (.iconst 0, 1) := by decide +kernel
theorem dL_law_471 : decode cL_law 471 = .ok (.ireturn, 1) := by decide +kernel
theorem dL_law_472 : decode cL_law 472 = .ok (.goto 696, 3) := by decide +kernel
theorem dL_law_475 : decode cL_law 475 = .ok (.aload_n 1, 1) := by decide +kernel
theorem dL_law_476 : decode cL_law 476 = .ok (.aload_n 0, 1) := by decide +kernel
theorem dL_law_477 : decode cL_law 477 = .ok (.iload 4, 2) := by decide +kernel
theorem dL_law_479 : decode cL_law 479 = .ok (.iconst 1, 1) := by decide +kernel
theorem dL_law_480 : decode cL_law 480 = .ok (.iadd, 1) := by decide +kernel
theorem dL_law_481 : decode cL_law 481 = .ok (.iaload, 1) := by decide +kernel
theorem dL_law_482 : decode cL_law 482 = .ok (.aload_n 0, 1) := by decide +kernel
theorem dL_law_483 : decode cL_law 483 = .ok (.iload 4, 2) := by decide +kernel
theorem dL_law_485 : decode cL_law 485 = .ok (.iconst 2, 1) := by decide +kernel
theorem dL_law_486 : decode cL_law 486 = .ok (.iadd, 1) := by decide +kernel
theorem dL_law_487 : decode cL_law 487 = .ok (.iaload, 1) := by decide +kernel
theorem dL_law_488 : decode cL_law 488 = .ok (.aload_n 0, 1) := by decide +kernel
theorem dL_law_489 : decode cL_law 489 = .ok (.iload 4, 2) := by decide +kernel
theorem dL_law_491 : decode cL_law 491 = .ok (.iconst 3, 1) := by decide +kernel
theorem dL_law_492 : decode cL_law 492 = .ok (.iadd, 1) := by decide +kernel
theorem dL_law_493 : decode cL_law 493 = .ok (.iaload, 1) := by decide +kernel
theorem dL_law_494 : decode cL_law 494 = .ok (.aload_n 3, 1) := by decide +kernel
theorem dL_law_495 : decode cL_law 495 = .ok (.invokestatic 90, 3) := by decide +kernel
theorem dL_law_498 : decode cL_law 498 = .ok (.istore 5, 2) := by decide +kernel
theorem dL_law_500 : decode cL_law 500 = .ok (.aload_n 2, 1) := by decide +kernel
theorem dL_law_501 : decode cL_law 501 = .ok (.aload_n 0, 1) := by decide +kernel
theorem dL_law_502 : decode cL_law 502 = .ok (.iload 4, 2) := by decide +kernel
theorem dL_law_504 : decode cL_law 504 = .ok (.iconst 1, 1) := by decide +kernel
theorem dL_law_505 : decode cL_law 505 = .ok (.iadd, 1) := by decide +kernel
theorem dL_law_506 : decode cL_law 506 = .ok (.iaload, 1) := by decide +kernel
theorem dL_law_507 : decode cL_law 507 = .ok (.aload_n 0, 1) := by decide +kernel
theorem dL_law_508 : decode cL_law 508 = .ok (.iload 4, 2) := by decide +kernel
theorem dL_law_510 : decode cL_law 510 = .ok (.iconst 2, 1) := by decide +kernel
theorem dL_law_511 : decode cL_law 511 = .ok (.iadd, 1) := by decide +kernel
theorem dL_law_512 : decode cL_law 512 = .ok (.iaload, 1) := by decide +kernel
theorem dL_law_513 : decode cL_law 513 = .ok (.aload_n 0, 1) := by decide +kernel
theorem dL_law_514 : decode cL_law 514 = .ok (.iload 4, 2) := by decide +kernel
theorem dL_law_516 : decode cL_law 516 = .ok (.iconst 3, 1) := by decide +kernel
theorem dL_law_517 : decode cL_law 517 = .ok (.iadd, 1) := by decide +kernel
theorem dL_law_518 : decode cL_law 518 = .ok (.iaload, 1) := by decide +kernel
theorem dL_law_519 : decode cL_law 519 = .ok (.invokevirtual 92, 3) := by decide +kernel
theorem dL_law_522 : decode cL_law 522 = .ok (.istore 6, 2) := by decide +kernel
theorem dL_law_524 : decode cL_law 524 = .ok (.aload_n 2, 1) := by decide +kernel
theorem dL_law_525 : decode cL_law 525 = .ok (.invokevirtual 71, 3) := by decide +kernel
theorem dL_law_528 : decode cL_law 528 = .ok (.iload 5, 2) := by decide +kernel
theorem dL_law_530 : decode cL_law 530 = .ok (.if_icmp .eq 5, 3) := by decide +kernel
theorem dL_law_533 : decode cL_law 533 = .ok (.iconst 0, 1) := by decide +kernel
theorem dL_law_534 : decode cL_law 534 = .ok (.ireturn, 1) := by decide +kernel
theorem dL_law_535 : decode cL_law 535 = .ok (.iload 5, 2) := by decide +kernel
theorem dL_law_537 : decode cL_law 537 = .ok (.ifCond .ne 15, 3) := by decide +kernel
theorem dL_law_540 : decode cL_law 540 = .ok (.aload_n 3, 1) := by decide +kernel
theorem dL_law_541 : decode cL_law 541 = .ok (.iconst 0, 1) := by decide +kernel
theorem dL_law_542 : decode cL_law 542 = .ok (.laload, 1) := by decide +kernel
theorem dL_law_543 : decode cL_law 543 = .ok (.iload 6, 2) := by decide +kernel
theorem dL_law_545 : decode cL_law 545 = .ok (.i2l, 1) := by decide +kernel
theorem dL_law_546 : decode cL_law 546 = .ok (.lcmp, 1) := by decide +kernel
theorem dL_law_547 : decode cL_law 547 = .ok (.ifCond .eq 5, 3) := by decide +kernel
theorem dL_law_550 : decode cL_law 550 = .ok (.iconst 0, 1) := by decide +kernel
theorem dL_law_551 : decode cL_law 551 = .ok (.ireturn, 1) := by decide +kernel
theorem dL_law_552 : decode cL_law 552 = .ok (.goto 616, 3) := by decide +kernel
theorem dL_law_555 : decode cL_law 555 = .ok (.aload_n 1, 1) := by decide +kernel
theorem dL_law_556 : decode cL_law 556 = .ok (.aload_n 0, 1) := by decide +kernel
theorem dL_law_557 : decode cL_law 557 = .ok (.iload 4, 2) := by decide +kernel
theorem dL_law_559 : decode cL_law 559 = .ok (.iconst 1, 1) := by decide +kernel
theorem dL_law_560 : decode cL_law 560 = .ok (.iadd, 1) := by decide +kernel
theorem dL_law_561 : decode cL_law 561 = .ok (.iaload, 1) := by decide +kernel
theorem dL_law_562 : decode cL_law 562 = .ok (.aload_n 0, 1) := by decide +kernel
theorem dL_law_563 : decode cL_law 563 = .ok (.iload 4, 2) := by decide +kernel
theorem dL_law_565 : decode cL_law 565 = .ok (.iconst 2, 1) := by decide +kernel
theorem dL_law_566 : decode cL_law 566 = .ok (.iadd, 1) := by decide +kernel
theorem dL_law_567 : decode cL_law 567 = .ok (.iaload, 1) := by decide +kernel
theorem dL_law_568 : decode cL_law 568 = .ok (.aload_n 0, 1) := by decide +kernel
theorem dL_law_569 : decode cL_law 569 = .ok (.iload 4, 2) := by decide +kernel
theorem dL_law_571 : decode cL_law 571 = .ok (.iconst 3, 1) := by decide +kernel
theorem dL_law_572 : decode cL_law 572 = .ok (.iadd, 1) := by decide +kernel
theorem dL_law_573 : decode cL_law 573 = .ok (.iaload, 1) := by decide +kernel
theorem dL_law_574 : decode cL_law 574 = .ok (.aload_n 3, 1) := by decide +kernel
theorem dL_law_575 : decode cL_law 575 = .ok (.invokestatic 93, 3) := by decide +kernel
theorem dL_law_578 : decode cL_law 578 = .ok (.istore 5, 2) := by decide +kernel
theorem dL_law_580 : decode cL_law 580 = .ok (.aload_n 2, 1) := by decide +kernel
theorem dL_law_581 : decode cL_law 581 = .ok (.aload_n 0, 1) := by decide +kernel
theorem dL_law_582 : decode cL_law 582 = .ok (.iload 4, 2) := by decide +kernel
theorem dL_law_584 : decode cL_law 584 = .ok (.iconst 1, 1) := by decide +kernel
theorem dL_law_585 : decode cL_law 585 = .ok (.iadd, 1) := by decide +kernel
theorem dL_law_586 : decode cL_law 586 = .ok (.iaload, 1) := by decide +kernel
theorem dL_law_587 : decode cL_law 587 = .ok (.aload_n 0, 1) := by decide +kernel
theorem dL_law_588 : decode cL_law 588 = .ok (.iload 4, 2) := by decide +kernel
theorem dL_law_590 : decode cL_law 590 = .ok (.iconst 2, 1) := by decide +kernel
theorem dL_law_591 : decode cL_law 591 = .ok (.iadd, 1) := by decide +kernel
theorem dL_law_592 : decode cL_law 592 = .ok (.iaload, 1) := by decide +kernel
theorem dL_law_593 : decode cL_law 593 = .ok (.aload_n 0, 1) := by decide +kernel
theorem dL_law_594 : decode cL_law 594 = .ok (.iload 4, 2) := by decide +kernel
theorem dL_law_596 : decode cL_law 596 = .ok (.iconst 3, 1) := by decide +kernel
theorem dL_law_597 : decode cL_law 597 = .ok (.iadd, 1) := by decide +kernel
theorem dL_law_598 : decode cL_law 598 = .ok (.iaload, 1) := by decide +kernel
theorem dL_law_599 : decode cL_law 599 = .ok (.invokevirtual 95, 3) := by decide +kernel
theorem dL_law_602 : decode cL_law 602 = .ok (.istore 6, 2) := by decide +kernel
theorem dL_law_604 : decode cL_law 604 = .ok (.aload_n 2, 1) := by decide +kernel
theorem dL_law_605 : decode cL_law 605 = .ok (.invokevirtual 71, 3) := by decide +kernel
theorem dL_law_608 : decode cL_law 608 = .ok (.iload 5, 2) := by decide +kernel
theorem dL_law_610 : decode cL_law 610 = .ok (.if_icmp .eq 5, 3) := by decide +kernel
theorem dL_law_613 : decode cL_law 613 = .ok (.iconst 0, 1) := by decide +kernel
theorem dL_law_614 : decode cL_law 614 = .ok (.ireturn, 1) := by decide +kernel
theorem dL_law_615 : decode cL_law 615 = .ok (.iload 5, 2) := by decide +kernel
theorem dL_law_617 : decode cL_law 617 = .ok (.ifCond .ne 15, 3) := by decide +kernel
theorem dL_law_620 : decode cL_law 620 = .ok (.aload_n 3, 1) := by decide +kernel
theorem dL_law_621 : decode cL_law 621 = .ok (.iconst 0, 1) := by decide +kernel
theorem dL_law_622 : decode cL_law 622 = .ok (.laload, 1) := by decide +kernel
theorem dL_law_623 : decode cL_law 623 = .ok (.iload 6, 2) := by decide +kernel
theorem dL_law_625 : decode cL_law 625 = .ok (.i2l, 1) := by decide +kernel
theorem dL_law_626 : decode cL_law 626 = .ok (.lcmp, 1) := by decide +kernel
theorem dL_law_627 : decode cL_law 627 = .ok (.ifCond .eq 5, 3) := by decide +kernel
theorem dL_law_630 : decode cL_law 630 = .ok (.iconst 0, 1) := by decide +kernel
theorem dL_law_631 : decode cL_law 631 = .ok (.ireturn, 1) := by decide +kernel
theorem dL_law_632 : decode cL_law 632 = .ok (.goto 536, 3) := by decide +kernel
theorem dL_law_635 : decode cL_law 635 = .ok (.aload_n 1, 1) := by decide +kernel
theorem dL_law_636 : decode cL_law 636 = .ok (.aload_n 0, 1) := by decide +kernel
theorem dL_law_637 : decode cL_law 637 = .ok (.iload 4, 2) := by decide +kernel
theorem dL_law_639 : decode cL_law 639 = .ok (.iconst 1, 1) := by decide +kernel
theorem dL_law_640 : decode cL_law 640 = .ok (.iadd, 1) := by decide +kernel
theorem dL_law_641 : decode cL_law 641 = .ok (.iaload, 1) := by decide +kernel
theorem dL_law_642 : decode cL_law 642 = .ok (.aload_n 0, 1) := by decide +kernel
theorem dL_law_643 : decode cL_law 643 = .ok (.iload 4, 2) := by decide +kernel
theorem dL_law_645 : decode cL_law 645 = .ok (.iconst 2, 1) := by decide +kernel
theorem dL_law_646 : decode cL_law 646 = .ok (.iadd, 1) := by decide +kernel
theorem dL_law_647 : decode cL_law 647 = .ok (.iaload, 1) := by decide +kernel
theorem dL_law_648 : decode cL_law 648 = .ok (.aload_n 3, 1) := by decide +kernel
theorem dL_law_649 : decode cL_law 649 = .ok (.invokestatic 96, 3) := by decide +kernel
theorem dL_law_652 : decode cL_law 652 = .ok (.istore 5, 2) := by decide +kernel
theorem dL_law_654 : decode cL_law 654 = .ok (.aload_n 2, 1) := by decide +kernel
theorem dL_law_655 : decode cL_law 655 = .ok (.aload_n 0, 1) := by decide +kernel
theorem dL_law_656 : decode cL_law 656 = .ok (.iload 4, 2) := by decide +kernel
theorem dL_law_658 : decode cL_law 658 = .ok (.iconst 1, 1) := by decide +kernel
theorem dL_law_659 : decode cL_law 659 = .ok (.iadd, 1) := by decide +kernel
theorem dL_law_660 : decode cL_law 660 = .ok (.iaload, 1) := by decide +kernel
theorem dL_law_661 : decode cL_law 661 = .ok (.aload_n 0, 1) := by decide +kernel
theorem dL_law_662 : decode cL_law 662 = .ok (.iload 4, 2) := by decide +kernel
theorem dL_law_664 : decode cL_law 664 = .ok (.iconst 2, 1) := by decide +kernel
theorem dL_law_665 : decode cL_law 665 = .ok (.iadd, 1) := by decide +kernel
theorem dL_law_666 : decode cL_law 666 = .ok (.iaload, 1) := by decide +kernel
theorem dL_law_667 : decode cL_law 667 = .ok (.invokevirtual 98, 3) := by decide +kernel
theorem dL_law_670 : decode cL_law 670 = .ok (.istore 6, 2) := by decide +kernel
theorem dL_law_672 : decode cL_law 672 = .ok (.aload_n 2, 1) := by decide +kernel
theorem dL_law_673 : decode cL_law 673 = .ok (.invokevirtual 71, 3) := by decide +kernel
theorem dL_law_676 : decode cL_law 676 = .ok (.iload 5, 2) := by decide +kernel
theorem dL_law_678 : decode cL_law 678 = .ok (.if_icmp .eq 5, 3) := by decide +kernel
theorem dL_law_681 : decode cL_law 681 = .ok (.iconst 0, 1) := by decide +kernel
theorem dL_law_682 : decode cL_law 682 = .ok (.ireturn, 1) := by decide +kernel
theorem dL_law_683 : decode cL_law 683 = .ok (.iload 5, 2) := by decide +kernel
theorem dL_law_685 : decode cL_law 685 = .ok (.ifCond .ne 15, 3) := by decide +kernel
theorem dL_law_688 : decode cL_law 688 = .ok (.aload_n 3, 1) := by decide +kernel
theorem dL_law_689 : decode cL_law 689 = .ok (.iconst 0, 1) := by decide +kernel
theorem dL_law_690 : decode cL_law 690 = .ok (.laload, 1) := by decide +kernel
theorem dL_law_691 : decode cL_law 691 = .ok (.iload 6, 2) := by decide +kernel
theorem dL_law_693 : decode cL_law 693 = .ok (.i2l, 1) := by decide +kernel
theorem dL_law_694 : decode cL_law 694 = .ok (.lcmp, 1) := by decide +kernel
theorem dL_law_695 : decode cL_law 695 = .ok (.ifCond .eq 5, 3) := by decide +kernel
theorem dL_law_698 : decode cL_law 698 = .ok (.iconst 0, 1) := by decide +kernel
theorem dL_law_699 : decode cL_law 699 = .ok (.ireturn, 1) := by decide +kernel
theorem dL_law_700 : decode cL_law 700 = .ok (.goto 468, 3) := by decide +kernel
theorem dL_law_703 : decode cL_law 703 = .ok (.aload_n 1, 1) := by decide +kernel
theorem dL_law_704 : decode cL_law 704 = .ok (.aload_n 0, 1) := by decide +kernel
theorem dL_law_705 : decode cL_law 705 = .ok (.iload 4, 2) := by decide +kernel
theorem dL_law_707 : decode cL_law 707 = .ok (.iconst 1, 1) := by decide +kernel
theorem dL_law_708 : decode cL_law 708 = .ok (.iadd, 1) := by decide +kernel
theorem dL_law_709 : decode cL_law 709 = .ok (.iaload, 1) := by decide +kernel
theorem dL_law_710 : decode cL_law 710 = .ok (.aload_n 0, 1) := by decide +kernel
theorem dL_law_711 : decode cL_law 711 = .ok (.iload 4, 2) := by decide +kernel
theorem dL_law_713 : decode cL_law 713 = .ok (.iconst 2, 1) := by decide +kernel
theorem dL_law_714 : decode cL_law 714 = .ok (.iadd, 1) := by decide +kernel
theorem dL_law_715 : decode cL_law 715 = .ok (.iaload, 1) := by decide +kernel
theorem dL_law_716 : decode cL_law 716 = .ok (.aload_n 3, 1) := by decide +kernel
theorem dL_law_717 : decode cL_law 717 = .ok (.invokestatic 99, 3) := by decide +kernel
theorem dL_law_720 : decode cL_law 720 = .ok (.istore 5, 2) := by decide +kernel
theorem dL_law_722 : decode cL_law 722 = .ok (.aload_n 2, 1) := by decide +kernel
theorem dL_law_723 : decode cL_law 723 = .ok (.aload_n 0, 1) := by decide +kernel
theorem dL_law_724 : decode cL_law 724 = .ok (.iload 4, 2) := by decide +kernel
theorem dL_law_726 : decode cL_law 726 = .ok (.iconst 1, 1) := by decide +kernel
theorem dL_law_727 : decode cL_law 727 = .ok (.iadd, 1) := by decide +kernel
theorem dL_law_728 : decode cL_law 728 = .ok (.iaload, 1) := by decide +kernel
theorem dL_law_729 : decode cL_law 729 = .ok (.aload_n 0, 1) := by decide +kernel
theorem dL_law_730 : decode cL_law 730 = .ok (.iload 4, 2) := by decide +kernel
theorem dL_law_732 : decode cL_law 732 = .ok (.iconst 2, 1) := by decide +kernel
theorem dL_law_733 : decode cL_law 733 = .ok (.iadd, 1) := by decide +kernel
theorem dL_law_734 : decode cL_law 734 = .ok (.iaload, 1) := by decide +kernel
theorem dL_law_735 : decode cL_law 735 = .ok (.invokevirtual 101, 3) := by decide +kernel
theorem dL_law_738 : decode cL_law 738 = .ok (.istore 6, 2) := by decide +kernel
theorem dL_law_740 : decode cL_law 740 = .ok (.aload_n 2, 1) := by decide +kernel
theorem dL_law_741 : decode cL_law 741 = .ok (.invokevirtual 71, 3) := by decide +kernel
theorem dL_law_744 : decode cL_law 744 = .ok (.iload 5, 2) := by decide +kernel
theorem dL_law_746 : decode cL_law 746 = .ok (.if_icmp .eq 5, 3) := by decide +kernel
theorem dL_law_749 : decode cL_law 749 = .ok (.iconst 0, 1) := by decide +kernel
theorem dL_law_750 : decode cL_law 750 = .ok (.ireturn, 1) := by decide +kernel
theorem dL_law_751 : decode cL_law 751 = .ok (.iload 5, 2) := by decide +kernel
theorem dL_law_753 : decode cL_law 753 = .ok (.ifCond .ne 15, 3) := by decide +kernel
theorem dL_law_756 : decode cL_law 756 = .ok (.aload_n 3, 1) := by decide +kernel
theorem dL_law_757 : decode cL_law 757 = .ok (.iconst 0, 1) := by decide +kernel
theorem dL_law_758 : decode cL_law 758 = .ok (.laload, 1) := by decide +kernel
theorem dL_law_759 : decode cL_law 759 = .ok (.iload 6, 2) := by decide +kernel
theorem dL_law_761 : decode cL_law 761 = .ok (.i2l, 1) := by decide +kernel
theorem dL_law_762 : decode cL_law 762 = .ok (.lcmp, 1) := by decide +kernel
theorem dL_law_763 : decode cL_law 763 = .ok (.ifCond .eq 5, 3) := by decide +kernel
theorem dL_law_766 : decode cL_law 766 = .ok (.iconst 0, 1) := by decide +kernel
theorem dL_law_767 : decode cL_law 767 = .ok (.ireturn, 1) := by decide +kernel
theorem dL_law_768 : decode cL_law 768 = .ok (.goto 400, 3) := by decide +kernel
theorem dL_law_771 : decode cL_law 771 = .ok (.aload_n 1, 1) := by decide +kernel
theorem dL_law_772 : decode cL_law 772 = .ok (.aload_n 0, 1) := by decide +kernel
theorem dL_law_773 : decode cL_law 773 = .ok (.iload 4, 2) := by decide +kernel
theorem dL_law_775 : decode cL_law 775 = .ok (.iconst 1, 1) := by decide +kernel
theorem dL_law_776 : decode cL_law 776 = .ok (.iadd, 1) := by decide +kernel
theorem dL_law_777 : decode cL_law 777 = .ok (.iaload, 1) := by decide +kernel
theorem dL_law_778 : decode cL_law 778 = .ok (.aload_n 0, 1) := by decide +kernel
theorem dL_law_779 : decode cL_law 779 = .ok (.iload 4, 2) := by decide +kernel
theorem dL_law_781 : decode cL_law 781 = .ok (.iconst 2, 1) := by decide +kernel
theorem dL_law_782 : decode cL_law 782 = .ok (.iadd, 1) := by decide +kernel
theorem dL_law_783 : decode cL_law 783 = .ok (.iaload, 1) := by decide +kernel
theorem dL_law_784 : decode cL_law 784 = .ok (.aload_n 3, 1) := by decide +kernel
theorem dL_law_785 : decode cL_law 785 = .ok (.invokestatic 102, 3) := by decide +kernel
theorem dL_law_788 : decode cL_law 788 = .ok (.istore 5, 2) := by decide +kernel
theorem dL_law_790 : decode cL_law 790 = .ok (.aload_n 2, 1) := by decide +kernel
theorem dL_law_791 : decode cL_law 791 = .ok (.aload_n 0, 1) := by decide +kernel
theorem dL_law_792 : decode cL_law 792 = .ok (.iload 4, 2) := by decide +kernel
theorem dL_law_794 : decode cL_law 794 = .ok (.iconst 1, 1) := by decide +kernel
theorem dL_law_795 : decode cL_law 795 = .ok (.iadd, 1) := by decide +kernel
theorem dL_law_796 : decode cL_law 796 = .ok (.iaload, 1) := by decide +kernel
theorem dL_law_797 : decode cL_law 797 = .ok (.aload_n 0, 1) := by decide +kernel
theorem dL_law_798 : decode cL_law 798 = .ok (.iload 4, 2) := by decide +kernel
theorem dL_law_800 : decode cL_law 800 = .ok (.iconst 2, 1) := by decide +kernel
theorem dL_law_801 : decode cL_law 801 = .ok (.iadd, 1) := by decide +kernel
theorem dL_law_802 : decode cL_law 802 = .ok (.iaload, 1) := by decide +kernel
theorem dL_law_803 : decode cL_law 803 = .ok (.invokevirtual 104, 3) := by decide +kernel
theorem dL_law_806 : decode cL_law 806 = .ok (.istore 6, 2) := by decide +kernel
theorem dL_law_808 : decode cL_law 808 = .ok (.aload_n 2, 1) := by decide +kernel
theorem dL_law_809 : decode cL_law 809 = .ok (.invokevirtual 71, 3) := by decide +kernel
theorem dL_law_812 : decode cL_law 812 = .ok (.iload 5, 2) := by decide +kernel
theorem dL_law_814 : decode cL_law 814 = .ok (.if_icmp .eq 5, 3) := by decide +kernel
theorem dL_law_817 : decode cL_law 817 = .ok (.iconst 0, 1) := by decide +kernel
theorem dL_law_818 : decode cL_law 818 = .ok (.ireturn, 1) := by decide +kernel
theorem dL_law_819 : decode cL_law 819 = .ok (.iload 5, 2) := by decide +kernel
theorem dL_law_821 : decode cL_law 821 = .ok (.ifCond .ne 15, 3) := by decide +kernel
theorem dL_law_824 : decode cL_law 824 = .ok (.aload_n 3, 1) := by decide +kernel
theorem dL_law_825 : decode cL_law 825 = .ok (.iconst 0, 1) := by decide +kernel
theorem dL_law_826 : decode cL_law 826 = .ok (.laload, 1) := by decide +kernel
theorem dL_law_827 : decode cL_law 827 = .ok (.iload 6, 2) := by decide +kernel
theorem dL_law_829 : decode cL_law 829 = .ok (.i2l, 1) := by decide +kernel
theorem dL_law_830 : decode cL_law 830 = .ok (.lcmp, 1) := by decide +kernel
theorem dL_law_831 : decode cL_law 831 = .ok (.ifCond .eq 5, 3) := by decide +kernel
theorem dL_law_834 : decode cL_law 834 = .ok (.iconst 0, 1) := by decide +kernel
theorem dL_law_835 : decode cL_law 835 = .ok (.ireturn, 1) := by decide +kernel
theorem dL_law_836 : decode cL_law 836 = .ok (.goto 332, 3) := by decide +kernel
theorem dL_law_839 : decode cL_law 839 = .ok (.aload_n 1, 1) := by decide +kernel
theorem dL_law_840 : decode cL_law 840 = .ok (.aload_n 0, 1) := by decide +kernel
theorem dL_law_841 : decode cL_law 841 = .ok (.iload 4, 2) := by decide +kernel
theorem dL_law_843 : decode cL_law 843 = .ok (.iconst 1, 1) := by decide +kernel
theorem dL_law_844 : decode cL_law 844 = .ok (.iadd, 1) := by decide +kernel
theorem dL_law_845 : decode cL_law 845 = .ok (.iaload, 1) := by decide +kernel
theorem dL_law_846 : decode cL_law 846 = .ok (.aload_n 0, 1) := by decide +kernel
theorem dL_law_847 : decode cL_law 847 = .ok (.iload 4, 2) := by decide +kernel
theorem dL_law_849 : decode cL_law 849 = .ok (.iconst 2, 1) := by decide +kernel
theorem dL_law_850 : decode cL_law 850 = .ok (.iadd, 1) := by decide +kernel
theorem dL_law_851 : decode cL_law 851 = .ok (.iaload, 1) := by decide +kernel
theorem dL_law_852 : decode cL_law 852 = .ok (.aload_n 3, 1) := by decide +kernel
theorem dL_law_853 : decode cL_law 853 = .ok (.invokestatic 105, 3) := by decide +kernel
theorem dL_law_856 : decode cL_law 856 = .ok (.istore 5, 2) := by decide +kernel
theorem dL_law_858 : decode cL_law 858 = .ok (.aload_n 2, 1) := by decide +kernel
theorem dL_law_859 : decode cL_law 859 = .ok (.aload_n 0, 1) := by decide +kernel
theorem dL_law_860 : decode cL_law 860 = .ok (.iload 4, 2) := by decide +kernel
theorem dL_law_862 : decode cL_law 862 = .ok (.iconst 1, 1) := by decide +kernel
theorem dL_law_863 : decode cL_law 863 = .ok (.iadd, 1) := by decide +kernel
theorem dL_law_864 : decode cL_law 864 = .ok (.iaload, 1) := by decide +kernel
theorem dL_law_865 : decode cL_law 865 = .ok (.aload_n 0, 1) := by decide +kernel
theorem dL_law_866 : decode cL_law 866 = .ok (.iload 4, 2) := by decide +kernel
theorem dL_law_868 : decode cL_law 868 = .ok (.iconst 2, 1) := by decide +kernel
theorem dL_law_869 : decode cL_law 869 = .ok (.iadd, 1) := by decide +kernel
theorem dL_law_870 : decode cL_law 870 = .ok (.iaload, 1) := by decide +kernel
theorem dL_law_871 : decode cL_law 871 = .ok (.invokevirtual 107, 3) := by decide +kernel
theorem dL_law_874 : decode cL_law 874 = .ok (.istore 6, 2) := by decide +kernel
theorem dL_law_876 : decode cL_law 876 = .ok (.aload_n 2, 1) := by decide +kernel
theorem dL_law_877 : decode cL_law 877 = .ok (.invokevirtual 71, 3) := by decide +kernel
theorem dL_law_880 : decode cL_law 880 = .ok (.iload 5, 2) := by decide +kernel
theorem dL_law_882 : decode cL_law 882 = .ok (.if_icmp .eq 5, 3) := by decide +kernel
theorem dL_law_885 : decode cL_law 885 = .ok (.iconst 0, 1) := by decide +kernel
theorem dL_law_886 : decode cL_law 886 = .ok (.ireturn, 1) := by decide +kernel
theorem dL_law_887 : decode cL_law 887 = .ok (.iload 5, 2) := by decide +kernel
theorem dL_law_889 : decode cL_law 889 = .ok (.ifCond .ne 15, 3) := by decide +kernel
theorem dL_law_892 : decode cL_law 892 = .ok (.aload_n 3, 1) := by decide +kernel
theorem dL_law_893 : decode cL_law 893 = .ok (.iconst 0, 1) := by decide +kernel
theorem dL_law_894 : decode cL_law 894 = .ok (.laload, 1) := by decide +kernel
theorem dL_law_895 : decode cL_law 895 = .ok (.iload 6, 2) := by decide +kernel
theorem dL_law_897 : decode cL_law 897 = .ok (.i2l, 1) := by decide +kernel
theorem dL_law_898 : decode cL_law 898 = .ok (.lcmp, 1) := by decide +kernel
theorem dL_law_899 : decode cL_law 899 = .ok (.ifCond .eq 5, 3) := by decide +kernel
theorem dL_law_902 : decode cL_law 902 = .ok (.iconst 0, 1) := by decide +kernel
theorem dL_law_903 : decode cL_law 903 = .ok (.ireturn, 1) := by decide +kernel
theorem dL_law_904 : decode cL_law 904 = .ok (.goto 264, 3) := by decide +kernel
theorem dL_law_907 : decode cL_law 907 = .ok (.aload_n 1, 1) := by decide +kernel
theorem dL_law_908 : decode cL_law 908 = .ok (.aload_n 0, 1) := by decide +kernel
theorem dL_law_909 : decode cL_law 909 = .ok (.iload 4, 2) := by decide +kernel
theorem dL_law_911 : decode cL_law 911 = .ok (.iconst 1, 1) := by decide +kernel
theorem dL_law_912 : decode cL_law 912 = .ok (.iadd, 1) := by decide +kernel
theorem dL_law_913 : decode cL_law 913 = .ok (.iaload, 1) := by decide +kernel
theorem dL_law_914 : decode cL_law 914 = .ok (.aload_n 3, 1) := by decide +kernel
theorem dL_law_915 : decode cL_law 915 = .ok (.invokestatic 108, 3) := by decide +kernel
theorem dL_law_918 : decode cL_law 918 = .ok (.istore 5, 2) := by decide +kernel
theorem dL_law_920 : decode cL_law 920 = .ok (.aload_n 2, 1) := by decide +kernel
theorem dL_law_921 : decode cL_law 921 = .ok (.aload_n 0, 1) := by decide +kernel
theorem dL_law_922 : decode cL_law 922 = .ok (.iload 4, 2) := by decide +kernel
theorem dL_law_924 : decode cL_law 924 = .ok (.iconst 1, 1) := by decide +kernel
theorem dL_law_925 : decode cL_law 925 = .ok (.iadd, 1) := by decide +kernel
theorem dL_law_926 : decode cL_law 926 = .ok (.iaload, 1) := by decide +kernel
theorem dL_law_927 : decode cL_law 927 = .ok (.invokevirtual 110, 3) := by decide +kernel
theorem dL_law_930 : decode cL_law 930 = .ok (.istore 6, 2) := by decide +kernel
theorem dL_law_932 : decode cL_law 932 = .ok (.aload_n 2, 1) := by decide +kernel
theorem dL_law_933 : decode cL_law 933 = .ok (.invokevirtual 71, 3) := by decide +kernel
theorem dL_law_936 : decode cL_law 936 = .ok (.iload 5, 2) := by decide +kernel
theorem dL_law_938 : decode cL_law 938 = .ok (.if_icmp .eq 5, 3) := by decide +kernel
theorem dL_law_941 : decode cL_law 941 = .ok (.iconst 0, 1) := by decide +kernel
theorem dL_law_942 : decode cL_law 942 = .ok (.ireturn, 1) := by decide +kernel
theorem dL_law_943 : decode cL_law 943 = .ok (.iload 5, 2) := by decide +kernel
theorem dL_law_945 : decode cL_law 945 = .ok (.ifCond .ne 15, 3) := by decide +kernel
theorem dL_law_948 : decode cL_law 948 = .ok (.aload_n 3, 1) := by decide +kernel
theorem dL_law_949 : decode cL_law 949 = .ok (.iconst 0, 1) := by decide +kernel
theorem dL_law_950 : decode cL_law 950 = .ok (.laload, 1) := by decide +kernel
theorem dL_law_951 : decode cL_law 951 = .ok (.iload 6, 2) := by decide +kernel
theorem dL_law_953 : decode cL_law 953 = .ok (.i2l, 1) := by decide +kernel
theorem dL_law_954 : decode cL_law 954 = .ok (.lcmp, 1) := by decide +kernel
theorem dL_law_955 : decode cL_law 955 = .ok (.ifCond .eq 5, 3) := by decide +kernel
theorem dL_law_958 : decode cL_law 958 = .ok (.iconst 0, 1) := by decide +kernel
theorem dL_law_959 : decode cL_law 959 = .ok (.ireturn, 1) := by decide +kernel
theorem dL_law_960 : decode cL_law 960 = .ok (.goto 208, 3) := by decide +kernel
theorem dL_law_963 : decode cL_law 963 = .ok (.aload_n 1, 1) := by decide +kernel
theorem dL_law_964 : decode cL_law 964 = .ok (.aload_n 0, 1) := by decide +kernel
theorem dL_law_965 : decode cL_law 965 = .ok (.iload 4, 2) := by decide +kernel
theorem dL_law_967 : decode cL_law 967 = .ok (.iconst 1, 1) := by decide +kernel
theorem dL_law_968 : decode cL_law 968 = .ok (.iadd, 1) := by decide +kernel
theorem dL_law_969 : decode cL_law 969 = .ok (.iaload, 1) := by decide +kernel
theorem dL_law_970 : decode cL_law 970 = .ok (.aload_n 3, 1) := by decide +kernel
theorem dL_law_971 : decode cL_law 971 = .ok (.invokestatic 111, 3) := by decide +kernel
theorem dL_law_974 : decode cL_law 974 = .ok (.istore 5, 2) := by decide +kernel
theorem dL_law_976 : decode cL_law 976 = .ok (.aload_n 2, 1) := by decide +kernel
theorem dL_law_977 : decode cL_law 977 = .ok (.aload_n 0, 1) := by decide +kernel
theorem dL_law_978 : decode cL_law 978 = .ok (.iload 4, 2) := by decide +kernel
theorem dL_law_980 : decode cL_law 980 = .ok (.iconst 1, 1) := by decide +kernel
theorem dL_law_981 : decode cL_law 981 = .ok (.iadd, 1) := by decide +kernel
theorem dL_law_982 : decode cL_law 982 = .ok (.iaload, 1) := by decide +kernel
theorem dL_law_983 : decode cL_law 983 = .ok (.invokevirtual 113, 3) := by decide +kernel
theorem dL_law_986 : decode cL_law 986 = .ok (.istore 6, 2) := by decide +kernel
theorem dL_law_988 : decode cL_law 988 = .ok (.aload_n 2, 1) := by decide +kernel
theorem dL_law_989 : decode cL_law 989 = .ok (.invokevirtual 71, 3) := by decide +kernel
theorem dL_law_992 : decode cL_law 992 = .ok (.iload 5, 2) := by decide +kernel
theorem dL_law_994 : decode cL_law 994 = .ok (.if_icmp .eq 5, 3) := by decide +kernel
theorem dL_law_997 : decode cL_law 997 = .ok (.iconst 0, 1) := by decide +kernel
theorem dL_law_998 : decode cL_law 998 = .ok (.ireturn, 1) := by decide +kernel
theorem dL_law_999 : decode cL_law 999 = .ok (.iload 5, 2) := by decide +kernel
theorem dL_law_1001 : decode cL_law 1001 = .ok (.ifCond .ne 15, 3) := by decide +kernel
theorem dL_law_1004 : decode cL_law 1004 = .ok (.aload_n 3, 1) := by decide +kernel
theorem dL_law_1005 : decode cL_law 1005 = .ok (.iconst 0, 1) := by decide +kernel
theorem dL_law_1006 : decode cL_law 1006 = .ok (.laload, 1) := by decide +kernel
theorem dL_law_1007 : decode cL_law 1007 = .ok (.iload 6, 2) := by decide +kernel
theorem dL_law_1009 : decode cL_law 1009 = .ok (.i2l, 1) := by decide +kernel
theorem dL_law_1010 : decode cL_law 1010 = .ok (.lcmp, 1) := by decide +kernel
theorem dL_law_1011 : decode cL_law 1011 = .ok (.ifCond .eq 5, 3) := by decide +kernel
theorem dL_law_1014 : decode cL_law 1014 = .ok (.iconst 0, 1) := by decide +kernel
theorem dL_law_1015 : decode cL_law 1015 = .ok (.ireturn, 1) := by decide +kernel
theorem dL_law_1016 : decode cL_law 1016 = .ok (.goto 152, 3) := by decide +kernel
theorem dL_law_1019 : decode cL_law 1019 = .ok (.aload_n 1, 1) := by decide +kernel
theorem dL_law_1020 : decode cL_law 1020 = .ok (.aload_n 0, 1) := by decide +kernel
theorem dL_law_1021 : decode cL_law 1021 = .ok (.iload 4, 2) := by decide +kernel
theorem dL_law_1023 : decode cL_law 1023 = .ok (.iconst 1, 1) := by decide +kernel
theorem dL_law_1024 : decode cL_law 1024 = .ok (.iadd, 1) := by decide +kernel
theorem dL_law_1025 : decode cL_law 1025 = .ok (.iaload, 1) := by decide +kernel
theorem dL_law_1026 : decode cL_law 1026 = .ok (.aload_n 0, 1) := by decide +kernel
theorem dL_law_1027 : decode cL_law 1027 = .ok (.iload 4, 2) := by decide +kernel
theorem dL_law_1029 : decode cL_law 1029 = .ok (.iconst 2, 1) := by decide +kernel
theorem dL_law_1030 : decode cL_law 1030 = .ok (.iadd, 1) := by decide +kernel
theorem dL_law_1031 : decode cL_law 1031 = .ok (.iaload, 1) := by decide +kernel
theorem dL_law_1032 : decode cL_law 1032 = .ok (.aload_n 3, 1) := by decide +kernel
theorem dL_law_1033 : decode cL_law 1033 = .ok (.invokestatic 114, 3) := by decide +kernel
theorem dL_law_1036 : decode cL_law 1036 = .ok (.istore 5, 2) := by decide +kernel
theorem dL_law_1038 : decode cL_law 1038 = .ok (.aload_n 2, 1) := by decide +kernel
theorem dL_law_1039 : decode cL_law 1039 = .ok (.aload_n 0, 1) := by decide +kernel
theorem dL_law_1040 : decode cL_law 1040 = .ok (.iload 4, 2) := by decide +kernel
theorem dL_law_1042 : decode cL_law 1042 = .ok (.iconst 1, 1) := by decide +kernel
theorem dL_law_1043 : decode cL_law 1043 = .ok (.iadd, 1) := by decide +kernel
theorem dL_law_1044 : decode cL_law 1044 = .ok (.iaload, 1) := by decide +kernel
theorem dL_law_1045 : decode cL_law 1045 = .ok (.aload_n 0, 1) := by decide +kernel
theorem dL_law_1046 : decode cL_law 1046 = .ok (.iload 4, 2) := by decide +kernel
theorem dL_law_1048 : decode cL_law 1048 = .ok (.iconst 2, 1) := by decide +kernel
theorem dL_law_1049 : decode cL_law 1049 = .ok (.iadd, 1) := by decide +kernel
theorem dL_law_1050 : decode cL_law 1050 = .ok (.iaload, 1) := by decide +kernel
theorem dL_law_1051 : decode cL_law 1051 = .ok (.invokevirtual 116, 3) := by decide +kernel
theorem dL_law_1054 : decode cL_law 1054 = .ok (.istore 6, 2) := by decide +kernel
theorem dL_law_1056 : decode cL_law 1056 = .ok (.aload_n 2, 1) := by decide +kernel
theorem dL_law_1057 : decode cL_law 1057 = .ok (.invokevirtual 71, 3) := by decide +kernel
theorem dL_law_1060 : decode cL_law 1060 = .ok (.iload 5, 2) := by decide +kernel
theorem dL_law_1062 : decode cL_law 1062 = .ok (.if_icmp .eq 5, 3) := by decide +kernel
theorem dL_law_1065 : decode cL_law 1065 = .ok (.iconst 0, 1) := by decide +kernel
theorem dL_law_1066 : decode cL_law 1066 = .ok (.ireturn, 1) := by decide +kernel
theorem dL_law_1067 : decode cL_law 1067 = .ok (.iload 5, 2) := by decide +kernel
theorem dL_law_1069 : decode cL_law 1069 = .ok (.ifCond .ne 15, 3) := by decide +kernel
theorem dL_law_1072 : decode cL_law 1072 = .ok (.aload_n 3, 1) := by decide +kernel
theorem dL_law_1073 : decode cL_law 1073 = .ok (.iconst 0, 1) := by decide +kernel
theorem dL_law_1074 : decode cL_law 1074 = .ok (.laload, 1) := by decide +kernel
theorem dL_law_1075 : decode cL_law 1075 = .ok (.iload 6, 2) := by decide +kernel
theorem dL_law_1077 : decode cL_law 1077 = .ok (.i2l, 1) := by decide +kernel
theorem dL_law_1078 : decode cL_law 1078 = .ok (.lcmp, 1) := by decide +kernel
theorem dL_law_1079 : decode cL_law 1079 = .ok (.ifCond .eq 5, 3) := by decide +kernel
theorem dL_law_1082 : decode cL_law 1082 = .ok (.iconst 0, 1) := by decide +kernel
theorem dL_law_1083 : decode cL_law 1083 = .ok (.ireturn, 1) := by decide +kernel
theorem dL_law_1084 : decode cL_law 1084 = .ok (.goto 84, 3) := by decide +kernel
theorem dL_law_1087 : decode cL_law 1087 = .ok (.aload_n 1, 1) := by decide +kernel
theorem dL_law_1088 : decode cL_law 1088 = .ok (.invokevirtual 117, 3) := by decide +kernel
theorem dL_law_1091 : decode cL_law 1091 = .ok (.aload_n 2, 1) := by decide +kernel
theorem dL_law_1092 : decode cL_law 1092 = .ok (.invokevirtual 120, 3) := by decide +kernel
theorem dL_law_1095 : decode cL_law 1095 = .ok (.if_icmp .eq 73, 3) := by decide +kernel
theorem dL_law_1098 : decode cL_law 1098 = .ok (.iconst 0, 1) := by decide +kernel
theorem dL_law_1099 : decode cL_law 1099 = .ok (.ireturn, 1) := by decide +kernel
theorem dL_law_1100 : decode cL_law 1100 = .ok (.aload_n 1, 1) := by decide +kernel
theorem dL_law_1101 : decode cL_law 1101 = .ok (.invokevirtual 121, 3) := by decide +kernel
theorem dL_law_1104 : decode cL_law 1104 = .ok (.aload_n 2, 1) := by decide +kernel
theorem dL_law_1105 : decode cL_law 1105 = .ok (.invokevirtual 124, 3) := by decide +kernel
theorem dL_law_1108 : decode cL_law 1108 = .ok (.if_icmp .eq 60, 3) := by decide +kernel
theorem dL_law_1111 : decode cL_law 1111 = .ok (.iconst 0, 1) := by decide +kernel
theorem dL_law_1112 : decode cL_law 1112 = .ok (.ireturn, 1) := by decide +kernel
theorem dL_law_1113 : decode cL_law 1113 = .ok (.aload_n 1, 1) := by decide +kernel
theorem dL_law_1114 : decode cL_law 1114 = .ok (.invokevirtual 125, 3) := by decide +kernel
theorem dL_law_1117 : decode cL_law 1117 = .ok (.dstore 5, 2) := by decide +kernel
theorem dL_law_1119 : decode cL_law 1119 = .ok (.aload_n 2, 1) := by decide +kernel
theorem dL_law_1120 : decode cL_law 1120 = .ok (.invokevirtual 129, 3) := by decide +kernel
theorem dL_law_1123 : decode cL_law 1123 = .ok (.dstore 7, 2) := by decide +kernel
theorem dL_law_1125 : decode cL_law 1125 = .ok (.dload 5, 2) := by decide +kernel
theorem dL_law_1127 : decode cL_law 1127 = .ok (.dload 7, 2) := by decide +kernel
theorem dL_law_1129 : decode cL_law 1129 = .ok (.dcmp .l, 1) := by decide +kernel
theorem dL_law_1130 : decode cL_law 1130 = .ok (.ifCond .eq 21, 3) := by decide +kernel
theorem dL_law_1133 : decode cL_law 1133 = .ok (.dload 5, 2) := by decide +kernel
theorem dL_law_1135 : decode cL_law 1135 = .ok (.dload 5, 2) := by decide +kernel
theorem dL_law_1137 : decode cL_law 1137 = .ok (.dcmp .l, 1) := by decide +kernel
theorem dL_law_1138 : decode cL_law 1138 = .ok (.ifCond .eq 11, 3) := by decide +kernel
theorem dL_law_1141 : decode cL_law 1141 = .ok (.dload 7, 2) := by decide +kernel
theorem dL_law_1143 : decode cL_law 1143 = .ok (.dload 7, 2) := by decide +kernel
theorem dL_law_1145 : decode cL_law 1145 = .ok (.dcmp .l, 1) := by decide +kernel
theorem dL_law_1146 : decode cL_law 1146 = .ok (.ifCond .ne 5, 3) := by decide +kernel
theorem dL_law_1149 : decode cL_law 1149 = .ok (.iconst 0, 1) := by decide +kernel
theorem dL_law_1150 : decode cL_law 1150 = .ok (.ireturn, 1) := by decide +kernel
theorem dL_law_1151 : decode cL_law 1151 = .ok (.goto 17, 3) := by decide +kernel
theorem dL_law_1154 : decode cL_law 1154 = .ok (.aload_n 1, 1) := by decide +kernel
theorem dL_law_1155 : decode cL_law 1155 = .ok (.invokevirtual 130, 3) := by decide +kernel
theorem dL_law_1158 : decode cL_law 1158 = .ok (.aload_n 2, 1) := by decide +kernel
theorem dL_law_1159 : decode cL_law 1159 = .ok (.invokevirtual 134, 3) := by decide +kernel
theorem dL_law_1162 : decode cL_law 1162 = .ok (.lcmp, 1) := by decide +kernel
theorem dL_law_1163 : decode cL_law 1163 = .ok (.ifCond .eq 5, 3) := by decide +kernel
theorem dL_law_1166 : decode cL_law 1166 = .ok (.iconst 0, 1) := by decide +kernel
theorem dL_law_1167 : decode cL_law 1167 = .ok (.ireturn, 1) := by decide +kernel
theorem dL_law_1168 : decode cL_law 1168 = .ok (.iinc 4 4, 3) := by decide +kernel
theorem dL_law_1171 : decode cL_law 1171 = .ok (.goto (-1148), 3) := by decide +kernel
theorem dL_law_1174 : decode cL_law 1174 = .ok (.iconst 1, 1) := by decide +kernel
theorem dL_law_1175 : decode cL_law 1175 = .ok (.ireturn, 1) := by decide +kernel
abbrev vwCl : List vw_C := [(RX0, TX0, 4), (RX1, TX1, 7), (RX2, TX2, 8), (RX3, TX3, 3), (RX4, TX4, 5), (RX5, TX5, 16)]
