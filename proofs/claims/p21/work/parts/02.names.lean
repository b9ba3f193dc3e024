/-! ===== BEGIN printed: names, fields, word lists, decode rows ===== -/
def RX0 : String := "PassNotes$Chart"
def TX0 : u_T := fun k => match k with
  | 0 => ("PassNotes$Chart", "froms", "[I", true)
  | 1 => ("PassNotes$Chart", "tos", "[I", true)
  | 2 => ("PassNotes$Chart", "lengths", "[I", true)
  | _ => ("PassNotes$Chart", "steps", "I", false)
def tyX0 : Nat → FieldType := fun k => match k with
  | 0 => .array .int
  | 1 => .array .int
  | 2 => .array .int
  | _ => .int
abbrev wsX00 : List Cond := u_ws RX0 TX0 4
theorem nmX0 : ∀ a, a < 4 → ∀ b, b < 4 → a ≠ b → (TX0 a).2.1 ≠ (TX0 b).2.1 := by decide +kernel
theorem tyX0_ok : ∀ k, k < 4 → parseFieldDescriptor (TX0 k).2.2.1 = some (tyX0 k) := by decide +kernel
abbrev cX0_init : ByteArray := prog_2_method_1_code
def yX0_init : MethodName := ⟨RX0, "<init>", "()V"⟩
abbrev cX0_clear : ByteArray := prog_2_method_2_code
def yX0_clear : MethodName := ⟨RX0, "clear", "()V"⟩
abbrev cX0_addStep : ByteArray := prog_2_method_3_code
def yX0_addStep : MethodName := ⟨RX0, "addStep", "(III)V"⟩
abbrev cX0_search : ByteArray := prog_2_method_4_code
def yX0_search : MethodName := ⟨RX0, "search", "(I[I)V"⟩
def RX1 : String := "PassNotes$Land"
def TX1 : u_T := fun k => match k with
  | 0 => ("PassNotes$Land", "areas", "[I", true)
  | 1 => ("PassNotes$Land", "firsts", "[I", true)
  | 2 => ("PassNotes$Land", "seconds", "[I", true)
  | 3 => ("PassNotes$Land", "lengths", "[I", true)
  | 4 => ("PassNotes$Land", "opens", "[Z", true)
  | 5 => ("PassNotes$Land", "huts", "I", false)
  | _ => ("PassNotes$Land", "passes", "I", false)
def tyX1 : Nat → FieldType := fun k => match k with
  | 0 => .array .int
  | 1 => .array .int
  | 2 => .array .int
  | 3 => .array .int
  | 4 => .array .boolean
  | 5 => .int
  | _ => .int
abbrev wsX10 : List Cond := u_ws RX1 TX1 7
theorem nmX1 : ∀ a, a < 7 → ∀ b, b < 7 → a ≠ b → (TX1 a).2.1 ≠ (TX1 b).2.1 := by decide +kernel
theorem tyX1_ok : ∀ k, k < 7 → parseFieldDescriptor (TX1 k).2.2.1 = some (tyX1 k) := by decide +kernel
abbrev cX1_init : ByteArray := prog_3_method_1_code
def yX1_init : MethodName := ⟨RX1, "<init>", "()V"⟩
abbrev cX1_huts : ByteArray := prog_3_method_2_code
def yX1_huts : MethodName := ⟨RX1, "huts", "()I"⟩
abbrev cX1_passes : ByteArray := prog_3_method_3_code
def yX1_passes : MethodName := ⟨RX1, "passes", "()I"⟩
abbrev cX1_area : ByteArray := prog_3_method_4_code
def yX1_area : MethodName := ⟨RX1, "area", "(I)I"⟩
abbrev cX1_first : ByteArray := prog_3_method_5_code
def yX1_first : MethodName := ⟨RX1, "first", "(I)I"⟩
abbrev cX1_second : ByteArray := prog_3_method_6_code
def yX1_second : MethodName := ⟨RX1, "second", "(I)I"⟩
abbrev cX1_length : ByteArray := prog_3_method_7_code
def yX1_length : MethodName := ⟨RX1, "length", "(I)I"⟩
abbrev cX1_isOpen : ByteArray := prog_3_method_8_code
def yX1_isOpen : MethodName := ⟨RX1, "isOpen", "(I)Z"⟩
abbrev cX1_addHut : ByteArray := prog_3_method_9_code
def yX1_addHut : MethodName := ⟨RX1, "addHut", "(I)I"⟩
abbrev cX1_addPass : ByteArray := prog_3_method_10_code
def yX1_addPass : MethodName := ⟨RX1, "addPass", "(III)I"⟩
abbrev cX1_changeLength : ByteArray := prog_3_method_11_code
def yX1_changeLength : MethodName := ⟨RX1, "changeLength", "(II)I"⟩
abbrev cX1_changeOpen : ByteArray := prog_3_method_12_code
def yX1_changeOpen : MethodName := ⟨RX1, "changeOpen", "(IZ)Z"⟩
abbrev cX1_openPasses : ByteArray := prog_3_method_13_code
def yX1_openPasses : MethodName := ⟨RX1, "openPasses", "()I"⟩
abbrev cX1_takesIn : ByteArray := prog_3_method_14_code
def yX1_takesIn : MethodName := ⟨RX1, "takesIn", "(II)Z"⟩
abbrev cX1_tellsNow : ByteArray := prog_3_method_15_code
def yX1_tellsNow : MethodName := ⟨RX1, "tellsNow", "(II)I"⟩
abbrev cX1_isStep : ByteArray := prog_3_method_16_code
def yX1_isStep : MethodName := ⟨RX1, "isStep", "(II)Z"⟩
abbrev cX1_draw : ByteArray := prog_3_method_17_code
def yX1_draw : MethodName := ⟨RX1, "draw", "(LPassNotes$Chart;)V"⟩
abbrev cX1_joinedPairs : ByteArray := prog_3_method_18_code
def yX1_joinedPairs : MethodName := ⟨RX1, "joinedPairs", "(I)I"⟩
abbrev cX1_groupOf : ByteArray := prog_3_method_19_code
def yX1_groupOf : MethodName := ⟨RX1, "groupOf", "(II)I"⟩
def RX2 : String := "PassNotes$Notes"
def TX2 : u_T := fun k => match k with
  | 0 => ("PassNotes$Notes", "land", "LPassNotes$Land;", true)
  | 1 => ("PassNotes$Notes", "chart", "LPassNotes$Chart;", true)
  | 2 => ("PassNotes$Notes", "wrote", "[I", true)
  | 3 => ("PassNotes$Notes", "ways", "[[I", true)
  | 4 => ("PassNotes$Notes", "waysFound", "[Z", true)
  | 5 => ("PassNotes$Notes", "held", "[LPassNotes$Sheet;", false)
  | 6 => ("PassNotes$Notes", "carried", "[LPassNotes$Sheet;", false)
  | _ => ("PassNotes$Notes", "minute", "I", false)
def tyX2 : Nat → FieldType := fun k => match k with
  | 0 => .object "PassNotes$Land"
  | 1 => .object "PassNotes$Chart"
  | 2 => .array .int
  | 3 => .array (.array .int)
  | 4 => .array .boolean
  | 5 => .array (.object "PassNotes$Sheet")
  | 6 => .array (.object "PassNotes$Sheet")
  | _ => .int
abbrev wsX20 : List Cond := u_ws RX2 TX2 8
theorem nmX2 : ∀ a, a < 8 → ∀ b, b < 8 → a ≠ b → (TX2 a).2.1 ≠ (TX2 b).2.1 := by decide +kernel
theorem tyX2_ok : ∀ k, k < 8 → parseFieldDescriptor (TX2 k).2.2.1 = some (tyX2 k) := by decide +kernel
abbrev cX2_init : ByteArray := prog_4_method_1_code
def yX2_init : MethodName := ⟨RX2, "<init>", "(LPassNotes$Land;)V"⟩
abbrev cX2_copy : ByteArray := prog_4_method_2_code
def yX2_copy : MethodName := ⟨RX2, "copy", "(LPassNotes$Notes;)V"⟩
abbrev cX2_minute : ByteArray := prog_4_method_3_code
def yX2_minute : MethodName := ⟨RX2, "minute", "()I"⟩
abbrev cX2_wroteInAll : ByteArray := prog_4_method_4_code
def yX2_wroteInAll : MethodName := ⟨RX2, "wroteInAll", "(I)I"⟩
abbrev cX2_held : ByteArray := prog_4_method_5_code
def yX2_held : MethodName := ⟨RX2, "held", "(II)LPassNotes$Sheet;"⟩
abbrev cX2_burnAll : ByteArray := prog_4_method_6_code
def yX2_burnAll : MethodName := ⟨RX2, "burnAll", "(I)I"⟩
abbrev cX2_sheetsOf : ByteArray := prog_4_method_7_code
def yX2_sheetsOf : MethodName := ⟨RX2, "sheetsOf", "(I)I"⟩
abbrev cX2_sheets : ByteArray := prog_4_method_8_code
def yX2_sheets : MethodName := ⟨RX2, "sheets", "()I"⟩
abbrev cX2_ages : ByteArray := prog_4_method_9_code
def yX2_ages : MethodName := ⟨RX2, "ages", "()I"⟩
abbrev cX2_passMinutes : ByteArray := prog_4_method_10_code
def yX2_passMinutes : MethodName := ⟨RX2, "passMinutes", "(I)I"⟩
abbrev cX2_writeSheets : ByteArray := prog_4_method_11_code
def yX2_writeSheets : MethodName := ⟨RX2, "writeSheets", "()I"⟩
abbrev cX2_mustWrite : ByteArray := prog_4_method_12_code
def yX2_mustWrite : MethodName := ⟨RX2, "mustWrite", "(I)Z"⟩
abbrev cX2_carrySheets : ByteArray := prog_4_method_13_code
def yX2_carrySheets : MethodName := ⟨RX2, "carrySheets", "()V"⟩
abbrev cX2_carry : ByteArray := prog_4_method_14_code
def yX2_carry : MethodName := ⟨RX2, "carry", "(II)V"⟩
abbrev cX2_isNewer : ByteArray := prog_4_method_15_code
def yX2_isNewer : MethodName := ⟨RX2, "isNewer", "(LPassNotes$Sheet;LPassNotes$Sheet;)Z"⟩
abbrev cX2_throwOldAway : ByteArray := prog_4_method_16_code
def yX2_throwOldAway : MethodName := ⟨RX2, "throwOldAway", "()V"⟩
abbrev cX2_takesForOpen : ByteArray := prog_4_method_17_code
def yX2_takesForOpen : MethodName := ⟨RX2, "takesForOpen", "(II)Z"⟩
abbrev cX2_takersForOpen : ByteArray := prog_4_method_18_code
def yX2_takersForOpen : MethodName := ⟨RX2, "takersForOpen", "(I)I"⟩
abbrev cX2_knownWay : ByteArray := prog_4_method_19_code
def yX2_knownWay : MethodName := ⟨RX2, "knownWay", "(II)I"⟩
abbrev cX2_findWays : ByteArray := prog_4_method_20_code
def yX2_findWays : MethodName := ⟨RX2, "findWays", "(I)V"⟩
abbrev cX2_forgetWays : ByteArray := prog_4_method_21_code
def yX2_forgetWays : MethodName := ⟨RX2, "forgetWays", "()V"⟩
abbrev cX2_knownHuts : ByteArray := prog_4_method_22_code
def yX2_knownHuts : MethodName := ⟨RX2, "knownHuts", "(I)I"⟩
abbrev cX2_letter : ByteArray := prog_4_method_23_code
def yX2_letter : MethodName := ⟨RX2, "letter", "(II)I"⟩
abbrev cX2_reachedHuts : ByteArray := prog_4_method_24_code
def yX2_reachedHuts : MethodName := ⟨RX2, "reachedHuts", "(I)I"⟩
abbrev cX2_reachedPairs : ByteArray := prog_4_method_25_code
def yX2_reachedPairs : MethodName := ⟨RX2, "reachedPairs", "()I"⟩
abbrev cX2_slot : ByteArray := prog_4_method_26_code
def yX2_slot : MethodName := ⟨RX2, "slot", "(II)I"⟩
def RX3 : String := "PassNotes$Sheet"
def TX3 : u_T := fun k => match k with
  | 0 => ("PassNotes$Sheet", "number", "I", true)
  | 1 => ("PassNotes$Sheet", "written", "I", true)
  | _ => ("PassNotes$Sheet", "lengths", "[I", true)
def tyX3 : Nat → FieldType := fun k => match k with
  | 0 => .int
  | 1 => .int
  | _ => .array .int
abbrev wsX30 : List Cond := u_ws RX3 TX3 3
theorem nmX3 : ∀ a, a < 3 → ∀ b, b < 3 → a ≠ b → (TX3 a).2.1 ≠ (TX3 b).2.1 := by decide +kernel
theorem tyX3_ok : ∀ k, k < 3 → parseFieldDescriptor (TX3 k).2.2.1 = some (tyX3 k) := by decide +kernel
abbrev cX3_init : ByteArray := prog_5_method_1_code
def yX3_init : MethodName := ⟨RX3, "<init>", "(IILPassNotes$Land;I)V"⟩
abbrev cX3_number : ByteArray := prog_5_method_2_code
def yX3_number : MethodName := ⟨RX3, "number", "()I"⟩
abbrev cX3_age : ByteArray := prog_5_method_3_code
def yX3_age : MethodName := ⟨RX3, "age", "(I)I"⟩
abbrev cX3_length : ByteArray := prog_5_method_4_code
def yX3_length : MethodName := ⟨RX3, "length", "(I)I"⟩
abbrev cX3_tells : ByteArray := prog_5_method_5_code
def yX3_tells : MethodName := ⟨RX3, "tells", "(I)Z"⟩
abbrev cX3_passesTold : ByteArray := prog_5_method_6_code
def yX3_passesTold : MethodName := ⟨RX3, "passesTold", "()I"⟩
abbrev cX3_tellsAsNow : ByteArray := prog_5_method_7_code
def yX3_tellsAsNow : MethodName := ⟨RX3, "tellsAsNow", "(LPassNotes$Land;I)Z"⟩
def RX4 : String := "PassNotes"
def TX4 : u_T := fun k => match k with
  | 0 => ("PassNotes", "land", "LPassNotes$Land;", true)
  | 1 => ("PassNotes", "now", "LPassNotes$Notes;", true)
  | 2 => ("PassNotes", "later", "LPassNotes$Notes;", true)
  | 3 => ("PassNotes", "truthChart", "LPassNotes$Chart;", true)
  | _ => ("PassNotes", "truthWays", "[I", true)
def tyX4 : Nat → FieldType := fun k => match k with
  | 0 => .object "PassNotes$Land"
  | 1 => .object "PassNotes$Notes"
  | 2 => .object "PassNotes$Notes"
  | 3 => .object "PassNotes$Chart"
  | _ => .array .int
abbrev wsX40 : List Cond := u_ws RX4 TX4 5
theorem nmX4 : ∀ a, a < 5 → ∀ b, b < 5 → a ≠ b → (TX4 a).2.1 ≠ (TX4 b).2.1 := by decide +kernel
theorem tyX4_ok : ∀ k, k < 5 → parseFieldDescriptor (TX4 k).2.2.1 = some (tyX4 k) := by decide +kernel
abbrev cX4_init : ByteArray := prog_1_method_1_code
def yX4_init : MethodName := ⟨RX4, "<init>", "()V"⟩
abbrev cX4_hut : ByteArray := prog_1_method_2_code
def yX4_hut : MethodName := ⟨RX4, "hut", "(I)I"⟩
abbrev cX4_pass : ByteArray := prog_1_method_3_code
def yX4_pass : MethodName := ⟨RX4, "pass", "(III)I"⟩
abbrev cX4_setLength : ByteArray := prog_1_method_4_code
def yX4_setLength : MethodName := ⟨RX4, "setLength", "(II)I"⟩
abbrev cX4_setOpen : ByteArray := prog_1_method_5_code
def yX4_setOpen : MethodName := ⟨RX4, "setOpen", "(IZ)Z"⟩
abbrev cX4_burn : ByteArray := prog_1_method_6_code
def yX4_burn : MethodName := ⟨RX4, "burn", "(I)I"⟩
abbrev cX4_sheet : ByteArray := prog_1_method_7_code
def yX4_sheet : MethodName := ⟨RX4, "sheet", "(III)I"⟩
abbrev cX4_way : ByteArray := prog_1_method_8_code
def yX4_way : MethodName := ⟨RX4, "way", "(III)I"⟩
abbrev cX4_post : ByteArray := prog_1_method_9_code
def yX4_post : MethodName := ⟨RX4, "post", "(II)I"⟩
abbrev cX4_truth : ByteArray := prog_1_method_10_code
def yX4_truth : MethodName := ⟨RX4, "truth", "(II)I"⟩
abbrev cX4_about : ByteArray := prog_1_method_11_code
def yX4_about : MethodName := ⟨RX4, "about", "(II)I"⟩
abbrev cX4_told : ByteArray := prog_1_method_12_code
def yX4_told : MethodName := ⟨RX4, "told", "(II)I"⟩
abbrev cX4_count : ByteArray := prog_1_method_13_code
def yX4_count : MethodName := ⟨RX4, "count", "(I)I"⟩
abbrev cX4_go : ByteArray := prog_1_method_14_code
def yX4_go : MethodName := ⟨RX4, "go", "(I)I"⟩
abbrev cX4_foresee : ByteArray := prog_1_method_15_code
def yX4_foresee : MethodName := ⟨RX4, "foresee", "(II)I"⟩
abbrev cX4_settles : ByteArray := prog_1_method_16_code
def yX4_settles : MethodName := ⟨RX4, "settles", "()I"⟩
abbrev cX4_advise : ByteArray := prog_1_method_17_code
def yX4_advise : MethodName := ⟨RX4, "advise", "()I"⟩
abbrev cX4_mean : ByteArray := prog_1_method_18_code
def yX4_mean : MethodName := ⟨RX4, "mean", "()D"⟩
abbrev cX4_digest : ByteArray := prog_1_method_19_code
def yX4_digest : MethodName := ⟨RX4, "digest", "()J"⟩
abbrev cX4_digestOfPair : ByteArray := prog_1_method_20_code
def yX4_digestOfPair : MethodName := ⟨RX4, "digestOfPair", "(JII)J"⟩
abbrev cX4_checkHut : ByteArray := prog_1_method_21_code
def yX4_checkHut : MethodName := ⟨RX4, "checkHut", "(I)V"⟩
abbrev cX4_checkPass : ByteArray := prog_1_method_22_code
def yX4_checkPass : MethodName := ⟨RX4, "checkPass", "(I)V"⟩
abbrev cX4_checkWhat : ByteArray := prog_1_method_23_code
def yX4_checkWhat : MethodName := ⟨RX4, "checkWhat", "(II)V"⟩
abbrev cX4_checkLength : ByteArray := prog_1_method_24_code
def yX4_checkLength : MethodName := ⟨RX4, "checkLength", "(I)V"⟩
abbrev cX4_checkMinutes : ByteArray := prog_1_method_25_code
def yX4_checkMinutes : MethodName := ⟨RX4, "checkMinutes", "(I)V"⟩
def RX5 : String := "PassNotesLaw$Sim"
def TX5 : u_T := fun k => match k with
  | 0 => ("PassNotesLaw$Sim", "minute", "I", false)
  | 1 => ("PassNotesLaw$Sim", "areas", "[I", false)
  | 2 => ("PassNotesLaw$Sim", "wrote", "[I", false)
  | 3 => ("PassNotesLaw$Sim", "sheets", "[[[I", false)
  | _ => ("PassNotesLaw$Sim", "passes", "[[I", false)
def tyX5 : Nat → FieldType := fun k => match k with
  | 0 => .int
  | 1 => .array .int
  | 2 => .array .int
  | 3 => .array (.array (.array .int))
  | _ => .array (.array .int)
abbrev wsX50 : List Cond := u_ws RX5 TX5 5
theorem nmX5 : ∀ a, a < 5 → ∀ b, b < 5 → a ≠ b → (TX5 a).2.1 ≠ (TX5 b).2.1 := by decide +kernel
theorem tyX5_ok : ∀ k, k < 5 → parseFieldDescriptor (TX5 k).2.2.1 = some (tyX5 k) := by decide +kernel
abbrev cX5_init : ByteArray := prog_7_method_1_code
def yX5_init : MethodName := ⟨RX5, "<init>", "()V"⟩
abbrev cX5_longer : ByteArray := prog_7_method_3_code
def yX5_longer : MethodName := ⟨RX5, "longer", "([II)[I"⟩
abbrev cX5_hut : ByteArray := prog_7_method_4_code
def yX5_hut : MethodName := ⟨RX5, "hut", "(I)V"⟩
abbrev cX5_pass : ByteArray := prog_7_method_5_code
def yX5_pass : MethodName := ⟨RX5, "pass", "(III)V"⟩
abbrev cX5_due : ByteArray := prog_7_method_6_code
def yX5_due : MethodName := ⟨RX5, "due", "(II)I"⟩
abbrev cX5_told : ByteArray := prog_7_method_7_code
def yX5_told : MethodName := ⟨RX5, "told", "([II)I"⟩
abbrev cX5_isTrue : ByteArray := prog_7_method_8_code
def yX5_isTrue : MethodName := ⟨RX5, "isTrue", "(I)Z"⟩
abbrev cX5_go : ByteArray := prog_7_method_9_code
def yX5_go : MethodName := ⟨RX5, "go", "()I"⟩
abbrev cX5_takes : ByteArray := prog_7_method_10_code
def yX5_takes : MethodName := ⟨RX5, "takes", "(II)Z"⟩
abbrev cX5_far : ByteArray := prog_7_method_11_code
def yX5_far : MethodName := ⟨RX5, "far", "(II)[I"⟩
abbrev cX5_step : ByteArray := prog_7_method_12_code
def yX5_step : MethodName := ⟨RX5, "step", "(III)I"⟩
abbrev cX5_first : ByteArray := prog_7_method_13_code
def yX5_first : MethodName := ⟨RX5, "first", "(II)I"⟩
abbrev cX5_post : ByteArray := prog_7_method_14_code
def yX5_post : MethodName := ⟨RX5, "post", "(II)I"⟩
abbrev cX5_sheetsOf : ByteArray := prog_7_method_15_code
def yX5_sheetsOf : MethodName := ⟨RX5, "sheetsOf", "(I)I"⟩
abbrev cX5_allSheets : ByteArray := prog_7_method_16_code
def yX5_allSheets : MethodName := ⟨RX5, "allSheets", "()I"⟩
abbrev cX5_pairs : ByteArray := prog_7_method_17_code
def yX5_pairs : MethodName := ⟨RX5, "pairs", "(Z)I"⟩
abbrev cX5_isSame : ByteArray := prog_7_method_18_code
def yX5_isSame : MethodName := ⟨RX5, "isSame", "(LPassNotes;)Z"⟩
def RX6 : String := "PassNotesModel"
def TX6 : u_T := fun k => match k with
  | _ => ("", "", "", false)
def tyX6 : Nat → FieldType := fun k => match k with
  | _ => .int
abbrev wsX60 : List Cond := u_ws RX6 TX6 0
theorem nmX6 : ∀ a, a < 0 → ∀ b, b < 0 → a ≠ b → (TX6 a).2.1 ≠ (TX6 b).2.1 := by decide +kernel
theorem tyX6_ok : ∀ k, k < 0 → parseFieldDescriptor (TX6 k).2.2.1 = some (tyX6 k) := by decide +kernel
def RJx8e188 : String := "java/lang/Cloneable"
def TJx8e188 : u_T := fun k => match k with
  | _ => ("", "", "", false)
def tyJx8e188 : Nat → FieldType := fun k => match k with
  | _ => .int
abbrev wsJx8e1880 : List Cond := u_ws RJx8e188 TJx8e188 0
theorem nmJx8e188 : ∀ a, a < 0 → ∀ b, b < 0 → a ≠ b → (TJx8e188 a).2.1 ≠ (TJx8e188 b).2.1 := by decide +kernel
theorem tyJx8e188_ok : ∀ k, k < 0 → parseFieldDescriptor (TJx8e188 k).2.2.1 = some (tyJx8e188 k) := by decide +kernel
def RJ6 : String := "java/lang/Integer"
def TJ6 : u_T := fun k => match k with
  | _ => ("", "", "", false)
def tyJ6 : Nat → FieldType := fun k => match k with
  | _ => .int
abbrev wsJ60 : List Cond := u_ws RJ6 TJ6 0
theorem nmJ6 : ∀ a, a < 0 → ∀ b, b < 0 → a ≠ b → (TJ6 a).2.1 ≠ (TJ6 b).2.1 := by decide +kernel
theorem tyJ6_ok : ∀ k, k < 0 → parseFieldDescriptor (TJ6 k).2.2.1 = some (tyJ6 k) := by decide +kernel
abbrev cJ6_bitCount_0f7a4 : ByteArray := prog_14_method_49_code
def yJ6_bitCount_0f7a4 : MethodName := ⟨RJ6, "bitCount", "(I)I"⟩
def RJ9 : String := "java/lang/Math"
def TJ9 : u_T := fun k => match k with
  | _ => ("", "", "", false)
def tyJ9 : Nat → FieldType := fun k => match k with
  | _ => .int
abbrev wsJ90 : List Cond := u_ws RJ9 TJ9 0
theorem nmJ9 : ∀ a, a < 0 → ∀ b, b < 0 → a ≠ b → (TJ9 a).2.1 ≠ (TJ9 b).2.1 := by decide +kernel
theorem tyJ9_ok : ∀ k, k < 0 → parseFieldDescriptor (TJ9 k).2.2.1 = some (tyJ9 k) := by decide +kernel
abbrev cJ9_min_7cf53 : ByteArray := prog_15_method_69_code
def yJ9_min_7cf53 : MethodName := ⟨RJ9, "min", "(II)I"⟩
def RJ0 : String := "java/lang/String"
def TJ0 : u_T := fun k => match k with
  | _ => ("", "", "", false)
def tyJ0 : Nat → FieldType := fun k => match k with
  | _ => .int
abbrev wsJ00 : List Cond := u_ws RJ0 TJ0 0
theorem nmJ0 : ∀ a, a < 0 → ∀ b, b < 0 → a ≠ b → (TJ0 a).2.1 ≠ (TJ0 b).2.1 := by decide +kernel
theorem tyJ0_ok : ∀ k, k < 0 → parseFieldDescriptor (TJ0 k).2.2.1 = some (tyJ0 k) := by decide +kernel
def RL : String := "PassNotesLaw"
abbrev cL_below : ByteArray := method_2_code
def yL_below : MethodName := ⟨RL, "below", "(II)I"⟩
abbrev cL_cell : ByteArray := method_3_code
def yL_cell : MethodName := ⟨RL, "cell", "([II)I"⟩
abbrev cL_act : ByteArray := method_4_code
def yL_act : MethodName := ⟨RL, "act", "(LPassNotes;LPassNotesLaw$Sim;I)Z"⟩
abbrev cL_build : ByteArray := method_5_code
def yL_build : MethodName := ⟨RL, "build", "(LPassNotes;[I)LPassNotesLaw$Sim;"⟩
abbrev cL_law : ByteArray := code
def yL_law : MethodName := ⟨RL, "law", "([I)Z"⟩
def wsX0_init : List Cond := .code yX0_init cX0_init 1 none :: ([.methodLink RX0 3 objectInit, .instanceMethod objectInit, .code objectInit ⟨#[0xb1]⟩ 1 none, .arrayClass .int, .fieldLink RX0 9 "PassNotes$Chart" "froms" "[I", .fieldLink RX0 15 "PassNotes$Chart" "tos" "[I", .fieldLink RX0 18 "PassNotes$Chart" "lengths" "[I"] ++ wsX00)
def wsX0_clear : List Cond := .code yX0_clear cX0_clear 1 none :: ([.fieldLink RX0 21 "PassNotes$Chart" "steps" "I"] ++ wsX00)
def wsX0_addStep : List Cond := .code yX0_addStep cX0_addStep 4 none :: ([.fieldLink RX0 21 "PassNotes$Chart" "steps" "I", .fieldLink RX0 9 "PassNotes$Chart" "froms" "[I", .fieldLink RX0 15 "PassNotes$Chart" "tos" "[I", .fieldLink RX0 18 "PassNotes$Chart" "lengths" "[I"] ++ wsX00)
def wsX0_search : List Cond := .code yX0_search cX0_search 7 none :: ([.constant RX0 25 (1073741824), .fieldLink RX0 21 "PassNotes$Chart" "steps" "I", .fieldLink RX0 9 "PassNotes$Chart" "froms" "[I", .fieldLink RX0 18 "PassNotes$Chart" "lengths" "[I", .fieldLink RX0 15 "PassNotes$Chart" "tos" "[I"] ++ wsX00)
def wsX1_init : List Cond := .code yX1_init cX1_init 1 none :: ([.methodLink RX1 3 objectInit, .instanceMethod objectInit, .code objectInit ⟨#[0xb1]⟩ 1 none, .arrayClass .int, .fieldLink RX1 9 "PassNotes$Land" "areas" "[I", .fieldLink RX1 15 "PassNotes$Land" "firsts" "[I", .fieldLink RX1 18 "PassNotes$Land" "seconds" "[I", .fieldLink RX1 21 "PassNotes$Land" "lengths" "[I", .arrayClass .boolean, .fieldLink RX1 24 "PassNotes$Land" "opens" "[Z"] ++ wsX10)
def wsX1_huts : List Cond := .code yX1_huts cX1_huts 1 (some .int) :: ([.fieldLink RX1 28 "PassNotes$Land" "huts" "I"] ++ wsX10)
def wsX1_passes : List Cond := .code yX1_passes cX1_passes 1 (some .int) :: ([.fieldLink RX1 32 "PassNotes$Land" "passes" "I"] ++ wsX10)
def wsX1_area : List Cond := .code yX1_area cX1_area 2 (some .int) :: ([.fieldLink RX1 9 "PassNotes$Land" "areas" "[I"] ++ wsX10)
def wsX1_first : List Cond := .code yX1_first cX1_first 2 (some .int) :: ([.fieldLink RX1 15 "PassNotes$Land" "firsts" "[I"] ++ wsX10)
def wsX1_second : List Cond := .code yX1_second cX1_second 2 (some .int) :: ([.fieldLink RX1 18 "PassNotes$Land" "seconds" "[I"] ++ wsX10)
def wsX1_length : List Cond := .code yX1_length cX1_length 2 (some .int) :: ([.fieldLink RX1 21 "PassNotes$Land" "lengths" "[I"] ++ wsX10)
def wsX1_isOpen : List Cond := .code yX1_isOpen cX1_isOpen 2 (some .boolean) :: ([.fieldLink RX1 24 "PassNotes$Land" "opens" "[Z"] ++ wsX10)
def wsX1_addHut : List Cond := .code yX1_addHut cX1_addHut 2 (some .int) :: ([.fieldLink RX1 28 "PassNotes$Land" "huts" "I", .fieldLink RX1 9 "PassNotes$Land" "areas" "[I"] ++ wsX10)
def wsX1_addPass : List Cond := .code yX1_addPass cX1_addPass 4 (some .int) :: ([.fieldLink RX1 32 "PassNotes$Land" "passes" "I", .fieldLink RX1 15 "PassNotes$Land" "firsts" "[I", .fieldLink RX1 18 "PassNotes$Land" "seconds" "[I", .fieldLink RX1 21 "PassNotes$Land" "lengths" "[I", .fieldLink RX1 24 "PassNotes$Land" "opens" "[Z"] ++ wsX10)
def wsX1_changeLength : List Cond := .code yX1_changeLength cX1_changeLength 4 (some .int) :: ([.fieldLink RX1 21 "PassNotes$Land" "lengths" "[I"] ++ wsX10)
def wsX1_changeOpen : List Cond := .code yX1_changeOpen cX1_changeOpen 4 (some .boolean) :: ([.fieldLink RX1 24 "PassNotes$Land" "opens" "[Z"] ++ wsX10)
def wsX1_openPasses : List Cond := .code yX1_openPasses cX1_openPasses 3 (some .int) :: ([.fieldLink RX1 32 "PassNotes$Land" "passes" "I", .fieldLink RX1 24 "PassNotes$Land" "opens" "[Z"] ++ wsX10)
def wsX1_takesIn : List Cond := .code yX1_takesIn cX1_takesIn 3 (some .boolean) :: ([.fieldLink RX1 9 "PassNotes$Land" "areas" "[I"] ++ wsX10)
def wsX1_tellsNow : List Cond := .code yX1_tellsNow cX1_tellsNow 4 (some .int) :: ([.fieldLink RX1 15 "PassNotes$Land" "firsts" "[I", .fieldLink RX1 18 "PassNotes$Land" "seconds" "[I", .fieldLink RX1 24 "PassNotes$Land" "opens" "[Z", .fieldLink RX1 21 "PassNotes$Land" "lengths" "[I"] ++ wsX10)
def wsX1_isStep : List Cond := .code yX1_isStep cX1_isStep 6 (some .boolean) :: ([.fieldLink RX1 32 "PassNotes$Land" "passes" "I", .fieldLink RX1 15 "PassNotes$Land" "firsts" "[I", .fieldLink RX1 18 "PassNotes$Land" "seconds" "[I", .fieldLink RX1 24 "PassNotes$Land" "opens" "[Z"] ++ wsX10)
def wsX1_draw : List Cond := .code yX1_draw cX1_draw 3 none :: ([.fieldLink RX1 32 "PassNotes$Land" "passes" "I", .fieldLink RX1 24 "PassNotes$Land" "opens" "[Z", .fieldLink RX1 15 "PassNotes$Land" "firsts" "[I", .fieldLink RX1 18 "PassNotes$Land" "seconds" "[I", .fieldLink RX1 21 "PassNotes$Land" "lengths" "[I", .methodLink RX1 35 yX0_clear, .instanceMethod yX0_clear, .selects RX0 yX0_clear yX0_clear, .initialized RX0, .code yX0_clear cX0_clear 1 none, .fieldLink RX0 21 "PassNotes$Chart" "steps" "I", .methodLink RX1 40 yX0_addStep, .instanceMethod yX0_addStep, .selects RX0 yX0_addStep yX0_addStep, .code yX0_addStep cX0_addStep 4 none, .fieldLink RX0 9 "PassNotes$Chart" "froms" "[I", .fieldLink RX0 15 "PassNotes$Chart" "tos" "[I", .fieldLink RX0 18 "PassNotes$Chart" "lengths" "[I"] ++ wsX10 ++ wsX00)
def wsX1_groupOf : List Cond := .code yX1_groupOf cX1_groupOf 9 (some .int) :: ([.fieldLink RX1 32 "PassNotes$Land" "passes" "I", .fieldLink RX1 15 "PassNotes$Land" "firsts" "[I", .fieldLink RX1 18 "PassNotes$Land" "seconds" "[I", .fieldLink RX1 24 "PassNotes$Land" "opens" "[Z"] ++ wsX10)
def wsJ6_bitCount_0f7a4 : List Cond := .code yJ6_bitCount_0f7a4 cJ6_bitCount_0f7a4 1 (some .int) :: ([.constant RJ6 265 (1431655765), .constant RJ6 266 (858993459), .constant RJ6 267 (252645135)])
def wsX1_joinedPairs : List Cond := .code yX1_joinedPairs cX1_joinedPairs 7 (some .int) :: ([.fieldLink RX1 28 "PassNotes$Land" "huts" "I", .methodLink RX1 44 yX1_groupOf, .instanceMethod yX1_groupOf, .selects RX1 yX1_groupOf yX1_groupOf, .initialized RX1, .code yX1_groupOf cX1_groupOf 9 (some .int), .fieldLink RX1 32 "PassNotes$Land" "passes" "I", .fieldLink RX1 15 "PassNotes$Land" "firsts" "[I", .fieldLink RX1 18 "PassNotes$Land" "seconds" "[I", .fieldLink RX1 24 "PassNotes$Land" "opens" "[Z", .methodLink RX1 48 yJ6_bitCount_0f7a4, .static yJ6_bitCount_0f7a4, .initialized RJ6, .code yJ6_bitCount_0f7a4 cJ6_bitCount_0f7a4 1 (some .int), .constant RJ6 265 (1431655765), .constant RJ6 266 (858993459), .constant RJ6 267 (252645135)] ++ wsX10)
def wsX2_init : List Cond := .code yX2_init cX2_init 2 none :: ([.methodLink RX2 3 objectInit, .instanceMethod objectInit, .code objectInit ⟨#[0xb1]⟩ 1 none, .classLink RX2 9 RX0, .instantiable RX0 4, .initialized RX0, .fieldLink RX2 12 "PassNotes$Notes" "chart" "LPassNotes$Chart;", .arrayClass .int, .fieldLink RX2 18 "PassNotes$Notes" "wrote" "[I", .classLink RX2 22 "[[I", .fieldLink RX2 24 "PassNotes$Notes" "ways" "[[I", .arrayClass .boolean, .fieldLink RX2 27 "PassNotes$Notes" "waysFound" "[Z", .classLink RX2 31 RX3, .fieldLink RX2 33 "PassNotes$Notes" "held" "[LPassNotes$Sheet;", .fieldLink RX2 37 "PassNotes$Notes" "carried" "[LPassNotes$Sheet;", .fieldLink RX2 40 "PassNotes$Notes" "land" "LPassNotes$Land;", .instanceMethod yX0_init, .code yX0_init cX0_init 1 none, .methodLink RX0 3 objectInit, .fieldLink RX0 9 "PassNotes$Chart" "froms" "[I", .fieldLink RX0 15 "PassNotes$Chart" "tos" "[I", .fieldLink RX0 18 "PassNotes$Chart" "lengths" "[I"] ++ wsX00 ++ wsX20)
def wsX2_forgetWays : List Cond := .code yX2_forgetWays cX2_forgetWays 2 none :: ([.fieldLink RX2 27 "PassNotes$Notes" "waysFound" "[Z"] ++ wsX20)
def wsX2_copy : List Cond := .code yX2_copy cX2_copy 3 none :: ([.fieldLink RX2 44 "PassNotes$Notes" "minute" "I", .fieldLink RX2 18 "PassNotes$Notes" "wrote" "[I", .fieldLink RX2 33 "PassNotes$Notes" "held" "[LPassNotes$Sheet;", .methodLink RX2 48 yX2_forgetWays, .instanceMethod yX2_forgetWays, .selects RX2 yX2_forgetWays yX2_forgetWays, .initialized RX2, .code yX2_forgetWays cX2_forgetWays 2 none, .fieldLink RX2 27 "PassNotes$Notes" "waysFound" "[Z"] ++ wsX20)
def wsX2_minute : List Cond := .code yX2_minute cX2_minute 1 (some .int) :: ([.fieldLink RX2 44 "PassNotes$Notes" "minute" "I"] ++ wsX20)
def wsX2_wroteInAll : List Cond := .code yX2_wroteInAll cX2_wroteInAll 2 (some .int) :: ([.fieldLink RX2 18 "PassNotes$Notes" "wrote" "[I"] ++ wsX20)
def wsX2_slot : List Cond := .code yX2_slot cX2_slot 2 (some .int) :: ([])
def wsX2_held : List Cond := .code yX2_held cX2_held 3 (some (.object "PassNotes$Sheet")) :: ([.fieldLink RX2 33 "PassNotes$Notes" "held" "[LPassNotes$Sheet;", .methodLink RX2 51 yX2_slot, .static yX2_slot, .initialized RX2, .code yX2_slot cX2_slot 2 (some .int)] ++ wsX20)
def wsX2_sheetsOf : List Cond := .code yX2_sheetsOf cX2_sheetsOf 4 (some .int) :: ([.fieldLink RX2 33 "PassNotes$Notes" "held" "[LPassNotes$Sheet;", .methodLink RX2 51 yX2_slot, .static yX2_slot, .initialized RX2, .code yX2_slot cX2_slot 2 (some .int)] ++ wsX20)
def wsX2_burnAll : List Cond := .code yX2_burnAll cX2_burnAll 4 (some .int) :: ([.fieldLink RX2 33 "PassNotes$Notes" "held" "[LPassNotes$Sheet;", .methodLink RX2 55 yX2_sheetsOf, .instanceMethod yX2_sheetsOf, .selects RX2 yX2_sheetsOf yX2_sheetsOf, .initialized RX2, .code yX2_sheetsOf cX2_sheetsOf 4 (some .int), .methodLink RX2 51 yX2_slot, .static yX2_slot, .code yX2_slot cX2_slot 2 (some .int), .methodLink RX2 48 yX2_forgetWays, .instanceMethod yX2_forgetWays, .selects RX2 yX2_forgetWays yX2_forgetWays, .code yX2_forgetWays cX2_forgetWays 2 none, .fieldLink RX2 27 "PassNotes$Notes" "waysFound" "[Z"] ++ wsX20)
def wsX2_sheets : List Cond := .code yX2_sheets cX2_sheets 3 (some .int) :: ([.fieldLink RX2 40 "PassNotes$Notes" "land" "LPassNotes$Land;", .methodLink RX2 59 yX1_huts, .instanceMethod yX1_huts, .selects RX1 yX1_huts yX1_huts, .initialized RX1, .code yX1_huts cX1_huts 1 (some .int), .fieldLink RX1 28 "PassNotes$Land" "huts" "I", .methodLink RX2 55 yX2_sheetsOf, .instanceMethod yX2_sheetsOf, .selects RX2 yX2_sheetsOf yX2_sheetsOf, .initialized RX2, .code yX2_sheetsOf cX2_sheetsOf 4 (some .int), .fieldLink RX2 33 "PassNotes$Notes" "held" "[LPassNotes$Sheet;", .methodLink RX2 51 yX2_slot, .static yX2_slot, .code yX2_slot cX2_slot 2 (some .int)] ++ wsX20 ++ wsX10)
def wsX3_age : List Cond := .code yX3_age cX3_age 2 (some .int) :: ([.fieldLink RX3 19 "PassNotes$Sheet" "written" "I"] ++ wsX30)
def wsX2_ages : List Cond := .code yX2_ages cX2_ages 4 (some .int) :: ([.fieldLink RX2 33 "PassNotes$Notes" "held" "[LPassNotes$Sheet;", .fieldLink RX2 44 "PassNotes$Notes" "minute" "I", .methodLink RX2 65 yX3_age, .instanceMethod yX3_age, .selects RX3 yX3_age yX3_age, .initialized RX3, .code yX3_age cX3_age 2 (some .int), .fieldLink RX3 19 "PassNotes$Sheet" "written" "I"] ++ wsX20 ++ wsX30)
def wsX3_tellsAsNow : List Cond := .code yX3_tellsAsNow cX3_tellsAsNow 4 (some .boolean) :: ([.fieldLink RX3 9 "PassNotes$Sheet" "lengths" "[I", .methodLink RX3 22 yX1_passes, .instanceMethod yX1_passes, .selects RX1 yX1_passes yX1_passes, .initialized RX1, .code yX1_passes cX1_passes 1 (some .int), .fieldLink RX1 32 "PassNotes$Land" "passes" "I", .methodLink RX3 28 yX1_tellsNow, .instanceMethod yX1_tellsNow, .selects RX1 yX1_tellsNow yX1_tellsNow, .code yX1_tellsNow cX1_tellsNow 4 (some .int), .fieldLink RX1 15 "PassNotes$Land" "firsts" "[I", .fieldLink RX1 18 "PassNotes$Land" "seconds" "[I", .fieldLink RX1 24 "PassNotes$Land" "opens" "[Z", .fieldLink RX1 21 "PassNotes$Land" "lengths" "[I"] ++ wsX30 ++ wsX10)
def wsX2_mustWrite_r1 : List Cond := [Cond.fieldLink RX2 33 "PassNotes$Notes" "held" "[LPassNotes$Sheet;", Cond.fieldLink RX2 44 "PassNotes$Notes" "minute" "I", Cond.fieldLink RX2 40 "PassNotes$Notes" "land" "LPassNotes$Land;", Cond.methodLink RX2 51 yX2_slot, Cond.static yX2_slot, Cond.initialized RX2, Cond.code yX2_slot cX2_slot 2 (some .int), Cond.methodLink RX2 65 yX3_age, Cond.instanceMethod yX3_age, Cond.selects RX3 yX3_age yX3_age, Cond.initialized RX3, Cond.code yX3_age cX3_age 2 (some .int), Cond.fieldLink RX3 19 "PassNotes$Sheet" "written" "I", Cond.methodLink RX2 84 yX3_tellsAsNow, Cond.instanceMethod yX3_tellsAsNow, Cond.selects RX3 yX3_tellsAsNow yX3_tellsAsNow, Cond.code yX3_tellsAsNow cX3_tellsAsNow 4 (some .boolean), Cond.fieldLink RX3 9 "PassNotes$Sheet" "lengths" "[I", Cond.methodLink RX3 22 yX1_passes, Cond.instanceMethod yX1_passes, Cond.selects RX1 yX1_passes yX1_passes, Cond.initialized RX1, Cond.code yX1_passes cX1_passes 1 (some .int), Cond.fieldLink RX1 32 "PassNotes$Land" "passes" "I"]
def wsX2_mustWrite_r2 : List Cond := [Cond.methodLink RX3 28 yX1_tellsNow, Cond.instanceMethod yX1_tellsNow, Cond.selects RX1 yX1_tellsNow yX1_tellsNow, Cond.code yX1_tellsNow cX1_tellsNow 4 (some .int), Cond.fieldLink RX1 15 "PassNotes$Land" "firsts" "[I", Cond.fieldLink RX1 18 "PassNotes$Land" "seconds" "[I", Cond.fieldLink RX1 24 "PassNotes$Land" "opens" "[Z", Cond.fieldLink RX1 21 "PassNotes$Land" "lengths" "[I"]
def wsX2_mustWrite : List Cond := .code yX2_mustWrite cX2_mustWrite 3 (some .boolean) :: ((wsX2_mustWrite_r1 ++ wsX2_mustWrite_r2) ++ wsX20 ++ wsX30 ++ wsX10)
def wsX3_init : List Cond := .code yX3_init cX3_init 6 none :: ([.methodLink RX3 3 objectInit, .instanceMethod objectInit, .code objectInit ⟨#[0xb1]⟩ 1 none, .arrayClass .int, .fieldLink RX3 9 "PassNotes$Sheet" "lengths" "[I", .fieldLink RX3 15 "PassNotes$Sheet" "number" "I", .fieldLink RX3 19 "PassNotes$Sheet" "written" "I", .methodLink RX3 22 yX1_passes, .instanceMethod yX1_passes, .selects RX1 yX1_passes yX1_passes, .initialized RX1, .code yX1_passes cX1_passes 1 (some .int), .fieldLink RX1 32 "PassNotes$Land" "passes" "I", .methodLink RX3 28 yX1_tellsNow, .instanceMethod yX1_tellsNow, .selects RX1 yX1_tellsNow yX1_tellsNow, .code yX1_tellsNow cX1_tellsNow 4 (some .int), .fieldLink RX1 15 "PassNotes$Land" "firsts" "[I", .fieldLink RX1 18 "PassNotes$Land" "seconds" "[I", .fieldLink RX1 24 "PassNotes$Land" "opens" "[Z", .fieldLink RX1 21 "PassNotes$Land" "lengths" "[I"] ++ wsX30 ++ wsX10)
def wsX2_writeSheets_r1 : List Cond := [Cond.fieldLink RX2 40 "PassNotes$Notes" "land" "LPassNotes$Land;", Cond.fieldLink RX2 18 "PassNotes$Notes" "wrote" "[I", Cond.fieldLink RX2 33 "PassNotes$Notes" "held" "[LPassNotes$Sheet;", Cond.classLink RX2 31 RX3, Cond.instantiable RX3 3, Cond.initialized RX3, Cond.fieldLink RX2 44 "PassNotes$Notes" "minute" "I", Cond.methodLink RX2 59 yX1_huts, Cond.instanceMethod yX1_huts, Cond.selects RX1 yX1_huts yX1_huts, Cond.initialized RX1, Cond.code yX1_huts cX1_huts 1 (some .int), Cond.fieldLink RX1 28 "PassNotes$Land" "huts" "I", Cond.methodLink RX2 77 yX2_mustWrite, Cond.instanceMethod yX2_mustWrite, Cond.selects RX2 yX2_mustWrite yX2_mustWrite, Cond.initialized RX2, Cond.code yX2_mustWrite cX2_mustWrite 3 (some .boolean), Cond.methodLink RX2 51 yX2_slot, Cond.static yX2_slot, Cond.code yX2_slot cX2_slot 2 (some .int), Cond.methodLink RX2 65 yX3_age, Cond.instanceMethod yX3_age, Cond.selects RX3 yX3_age yX3_age]
def wsX2_writeSheets_r2 : List Cond := [Cond.code yX3_age cX3_age 2 (some .int), Cond.fieldLink RX3 19 "PassNotes$Sheet" "written" "I", Cond.methodLink RX2 84 yX3_tellsAsNow, Cond.instanceMethod yX3_tellsAsNow, Cond.selects RX3 yX3_tellsAsNow yX3_tellsAsNow, Cond.code yX3_tellsAsNow cX3_tellsAsNow 4 (some .boolean), Cond.fieldLink RX3 9 "PassNotes$Sheet" "lengths" "[I", Cond.methodLink RX3 22 yX1_passes, Cond.instanceMethod yX1_passes, Cond.selects RX1 yX1_passes yX1_passes, Cond.code yX1_passes cX1_passes 1 (some .int), Cond.fieldLink RX1 32 "PassNotes$Land" "passes" "I", Cond.methodLink RX3 28 yX1_tellsNow, Cond.instanceMethod yX1_tellsNow, Cond.selects RX1 yX1_tellsNow yX1_tellsNow, Cond.code yX1_tellsNow cX1_tellsNow 4 (some .int), Cond.fieldLink RX1 15 "PassNotes$Land" "firsts" "[I", Cond.fieldLink RX1 18 "PassNotes$Land" "seconds" "[I", Cond.fieldLink RX1 24 "PassNotes$Land" "opens" "[Z", Cond.fieldLink RX1 21 "PassNotes$Land" "lengths" "[I", Cond.methodLink RX2 81 yX3_init, Cond.instanceMethod yX3_init, Cond.code yX3_init cX3_init 6 none, Cond.methodLink RX3 3 objectInit]
def wsX2_writeSheets_r3 : List Cond := [Cond.instanceMethod objectInit, Cond.code objectInit ⟨#[0xb1]⟩ 1 none, Cond.arrayClass .int, Cond.fieldLink RX3 15 "PassNotes$Sheet" "number" "I"]
def wsX2_writeSheets : List Cond := .code yX2_writeSheets cX2_writeSheets 3 (some .int) :: ((wsX2_writeSheets_r1 ++ (wsX2_writeSheets_r2 ++ wsX2_writeSheets_r3)) ++ wsX20 ++ wsX30 ++ wsX10)
def wsX3_number : List Cond := .code yX3_number cX3_number 1 (some .int) :: ([.fieldLink RX3 15 "PassNotes$Sheet" "number" "I"] ++ wsX30)
def wsX2_isNewer : List Cond := .code yX2_isNewer cX2_isNewer 3 (some .boolean) :: ([.methodLink RX2 112 yX3_number, .instanceMethod yX3_number, .selects RX3 yX3_number yX3_number, .initialized RX3, .code yX3_number cX3_number 1 (some .int), .fieldLink RX3 15 "PassNotes$Sheet" "number" "I"] ++ wsX30)
def wsX2_carry_r1 : List Cond := [Cond.fieldLink RX2 40 "PassNotes$Notes" "land" "LPassNotes$Land;", Cond.fieldLink RX2 33 "PassNotes$Notes" "held" "[LPassNotes$Sheet;", Cond.fieldLink RX2 37 "PassNotes$Notes" "carried" "[LPassNotes$Sheet;", Cond.methodLink RX2 59 yX1_huts, Cond.instanceMethod yX1_huts, Cond.selects RX1 yX1_huts yX1_huts, Cond.initialized RX1, Cond.code yX1_huts cX1_huts 1 (some .int), Cond.fieldLink RX1 28 "PassNotes$Land" "huts" "I", Cond.methodLink RX2 51 yX2_slot, Cond.static yX2_slot, Cond.initialized RX2, Cond.code yX2_slot cX2_slot 2 (some .int), Cond.methodLink RX2 104 yX1_takesIn, Cond.instanceMethod yX1_takesIn, Cond.selects RX1 yX1_takesIn yX1_takesIn, Cond.code yX1_takesIn cX1_takesIn 3 (some .boolean), Cond.fieldLink RX1 9 "PassNotes$Land" "areas" "[I", Cond.methodLink RX2 108 yX2_isNewer, Cond.instanceMethod yX2_isNewer, Cond.selects RX2 yX2_isNewer yX2_isNewer, Cond.code yX2_isNewer cX2_isNewer 3 (some .boolean), Cond.methodLink RX2 112 yX3_number, Cond.instanceMethod yX3_number]
def wsX2_carry_r2 : List Cond := [Cond.selects RX3 yX3_number yX3_number, Cond.initialized RX3, Cond.code yX3_number cX3_number 1 (some .int), Cond.fieldLink RX3 15 "PassNotes$Sheet" "number" "I"]
def wsX2_carry : List Cond := .code yX2_carry cX2_carry 5 none :: ((wsX2_carry_r1 ++ wsX2_carry_r2) ++ wsX20 ++ wsX10 ++ wsX30)
def wsX2_carrySheets_r1 : List Cond := [Cond.fieldLink RX2 33 "PassNotes$Notes" "held" "[LPassNotes$Sheet;", Cond.fieldLink RX2 37 "PassNotes$Notes" "carried" "[LPassNotes$Sheet;", Cond.fieldLink RX2 40 "PassNotes$Notes" "land" "LPassNotes$Land;", Cond.methodLink RX2 88 yX1_passes, Cond.instanceMethod yX1_passes, Cond.selects RX1 yX1_passes yX1_passes, Cond.initialized RX1, Cond.code yX1_passes cX1_passes 1 (some .int), Cond.fieldLink RX1 32 "PassNotes$Land" "passes" "I", Cond.methodLink RX2 91 yX1_isOpen, Cond.instanceMethod yX1_isOpen, Cond.selects RX1 yX1_isOpen yX1_isOpen, Cond.code yX1_isOpen cX1_isOpen 2 (some .boolean), Cond.fieldLink RX1 24 "PassNotes$Land" "opens" "[Z", Cond.methodLink RX2 94 yX1_first, Cond.instanceMethod yX1_first, Cond.selects RX1 yX1_first yX1_first, Cond.code yX1_first cX1_first 2 (some .int), Cond.fieldLink RX1 15 "PassNotes$Land" "firsts" "[I", Cond.methodLink RX2 97 yX1_second, Cond.instanceMethod yX1_second, Cond.selects RX1 yX1_second yX1_second, Cond.code yX1_second cX1_second 2 (some .int), Cond.fieldLink RX1 18 "PassNotes$Land" "seconds" "[I"]
def wsX2_carrySheets_r2 : List Cond := [Cond.methodLink RX2 100 yX2_carry, Cond.instanceMethod yX2_carry, Cond.selects RX2 yX2_carry yX2_carry, Cond.initialized RX2, Cond.code yX2_carry cX2_carry 5 none, Cond.methodLink RX2 59 yX1_huts, Cond.instanceMethod yX1_huts, Cond.selects RX1 yX1_huts yX1_huts, Cond.code yX1_huts cX1_huts 1 (some .int), Cond.fieldLink RX1 28 "PassNotes$Land" "huts" "I", Cond.methodLink RX2 51 yX2_slot, Cond.static yX2_slot, Cond.code yX2_slot cX2_slot 2 (some .int), Cond.methodLink RX2 104 yX1_takesIn, Cond.instanceMethod yX1_takesIn, Cond.selects RX1 yX1_takesIn yX1_takesIn, Cond.code yX1_takesIn cX1_takesIn 3 (some .boolean), Cond.fieldLink RX1 9 "PassNotes$Land" "areas" "[I", Cond.methodLink RX2 108 yX2_isNewer, Cond.instanceMethod yX2_isNewer, Cond.selects RX2 yX2_isNewer yX2_isNewer, Cond.code yX2_isNewer cX2_isNewer 3 (some .boolean), Cond.methodLink RX2 112 yX3_number, Cond.instanceMethod yX3_number]
def wsX2_carrySheets_r3 : List Cond := [Cond.selects RX3 yX3_number yX3_number, Cond.initialized RX3, Cond.code yX3_number cX3_number 1 (some .int), Cond.fieldLink RX3 15 "PassNotes$Sheet" "number" "I"]
def wsX2_carrySheets : List Cond := .code yX2_carrySheets cX2_carrySheets 2 none :: ((wsX2_carrySheets_r1 ++ (wsX2_carrySheets_r2 ++ wsX2_carrySheets_r3)) ++ wsX20 ++ wsX10 ++ wsX30)
def wsX2_throwOldAway : List Cond := .code yX2_throwOldAway cX2_throwOldAway 3 none :: ([.fieldLink RX2 33 "PassNotes$Notes" "held" "[LPassNotes$Sheet;", .fieldLink RX2 44 "PassNotes$Notes" "minute" "I", .methodLink RX2 65 yX3_age, .instanceMethod yX3_age, .selects RX3 yX3_age yX3_age, .initialized RX3, .code yX3_age cX3_age 2 (some .int), .fieldLink RX3 19 "PassNotes$Sheet" "written" "I"] ++ wsX20 ++ wsX30)
def wsX2_passMinutes_r1 : List Cond := [Cond.fieldLink RX2 44 "PassNotes$Notes" "minute" "I", Cond.methodLink RX2 68 yX2_writeSheets, Cond.instanceMethod yX2_writeSheets, Cond.selects RX2 yX2_writeSheets yX2_writeSheets, Cond.initialized RX2, Cond.code yX2_writeSheets cX2_writeSheets 3 (some .int), Cond.fieldLink RX2 40 "PassNotes$Notes" "land" "LPassNotes$Land;", Cond.fieldLink RX2 18 "PassNotes$Notes" "wrote" "[I", Cond.fieldLink RX2 33 "PassNotes$Notes" "held" "[LPassNotes$Sheet;", Cond.classLink RX2 31 RX3, Cond.instantiable RX3 3, Cond.initialized RX3, Cond.methodLink RX2 59 yX1_huts, Cond.instanceMethod yX1_huts, Cond.selects RX1 yX1_huts yX1_huts, Cond.initialized RX1, Cond.code yX1_huts cX1_huts 1 (some .int), Cond.fieldLink RX1 28 "PassNotes$Land" "huts" "I", Cond.methodLink RX2 77 yX2_mustWrite, Cond.instanceMethod yX2_mustWrite, Cond.selects RX2 yX2_mustWrite yX2_mustWrite, Cond.code yX2_mustWrite cX2_mustWrite 3 (some .boolean), Cond.methodLink RX2 51 yX2_slot, Cond.static yX2_slot]
def wsX2_passMinutes_r2 : List Cond := [Cond.code yX2_slot cX2_slot 2 (some .int), Cond.methodLink RX2 65 yX3_age, Cond.instanceMethod yX3_age, Cond.selects RX3 yX3_age yX3_age, Cond.code yX3_age cX3_age 2 (some .int), Cond.fieldLink RX3 19 "PassNotes$Sheet" "written" "I", Cond.methodLink RX2 84 yX3_tellsAsNow, Cond.instanceMethod yX3_tellsAsNow, Cond.selects RX3 yX3_tellsAsNow yX3_tellsAsNow, Cond.code yX3_tellsAsNow cX3_tellsAsNow 4 (some .boolean), Cond.fieldLink RX3 9 "PassNotes$Sheet" "lengths" "[I", Cond.methodLink RX3 22 yX1_passes, Cond.instanceMethod yX1_passes, Cond.selects RX1 yX1_passes yX1_passes, Cond.code yX1_passes cX1_passes 1 (some .int), Cond.fieldLink RX1 32 "PassNotes$Land" "passes" "I", Cond.methodLink RX3 28 yX1_tellsNow, Cond.instanceMethod yX1_tellsNow, Cond.selects RX1 yX1_tellsNow yX1_tellsNow, Cond.code yX1_tellsNow cX1_tellsNow 4 (some .int), Cond.fieldLink RX1 15 "PassNotes$Land" "firsts" "[I", Cond.fieldLink RX1 18 "PassNotes$Land" "seconds" "[I", Cond.fieldLink RX1 24 "PassNotes$Land" "opens" "[Z", Cond.fieldLink RX1 21 "PassNotes$Land" "lengths" "[I"]
def wsX2_passMinutes_r3 : List Cond := [Cond.methodLink RX2 81 yX3_init, Cond.instanceMethod yX3_init, Cond.code yX3_init cX3_init 6 none, Cond.methodLink RX3 3 objectInit, Cond.instanceMethod objectInit, Cond.code objectInit ⟨#[0xb1]⟩ 1 none, Cond.arrayClass .int, Cond.fieldLink RX3 15 "PassNotes$Sheet" "number" "I", Cond.methodLink RX2 71 yX2_carrySheets, Cond.instanceMethod yX2_carrySheets, Cond.selects RX2 yX2_carrySheets yX2_carrySheets, Cond.code yX2_carrySheets cX2_carrySheets 2 none, Cond.fieldLink RX2 37 "PassNotes$Notes" "carried" "[LPassNotes$Sheet;", Cond.methodLink RX2 88 yX1_passes, Cond.methodLink RX2 91 yX1_isOpen, Cond.instanceMethod yX1_isOpen, Cond.selects RX1 yX1_isOpen yX1_isOpen, Cond.code yX1_isOpen cX1_isOpen 2 (some .boolean), Cond.methodLink RX2 94 yX1_first, Cond.instanceMethod yX1_first, Cond.selects RX1 yX1_first yX1_first, Cond.code yX1_first cX1_first 2 (some .int), Cond.methodLink RX2 97 yX1_second, Cond.instanceMethod yX1_second]
def wsX2_passMinutes_r4 : List Cond := [Cond.selects RX1 yX1_second yX1_second, Cond.code yX1_second cX1_second 2 (some .int), Cond.methodLink RX2 100 yX2_carry, Cond.instanceMethod yX2_carry, Cond.selects RX2 yX2_carry yX2_carry, Cond.code yX2_carry cX2_carry 5 none, Cond.methodLink RX2 104 yX1_takesIn, Cond.instanceMethod yX1_takesIn, Cond.selects RX1 yX1_takesIn yX1_takesIn, Cond.code yX1_takesIn cX1_takesIn 3 (some .boolean), Cond.fieldLink RX1 9 "PassNotes$Land" "areas" "[I", Cond.methodLink RX2 108 yX2_isNewer, Cond.instanceMethod yX2_isNewer, Cond.selects RX2 yX2_isNewer yX2_isNewer, Cond.code yX2_isNewer cX2_isNewer 3 (some .boolean), Cond.methodLink RX2 112 yX3_number, Cond.instanceMethod yX3_number, Cond.selects RX3 yX3_number yX3_number, Cond.code yX3_number cX3_number 1 (some .int), Cond.methodLink RX2 74 yX2_throwOldAway, Cond.instanceMethod yX2_throwOldAway, Cond.selects RX2 yX2_throwOldAway yX2_throwOldAway, Cond.code yX2_throwOldAway cX2_throwOldAway 3 none, Cond.methodLink RX2 48 yX2_forgetWays]
def wsX2_passMinutes_r5 : List Cond := [Cond.instanceMethod yX2_forgetWays, Cond.selects RX2 yX2_forgetWays yX2_forgetWays, Cond.code yX2_forgetWays cX2_forgetWays 2 none, Cond.fieldLink RX2 27 "PassNotes$Notes" "waysFound" "[Z"]
def wsX2_passMinutes : List Cond := .code yX2_passMinutes cX2_passMinutes 4 (some .int) :: ((wsX2_passMinutes_r1 ++ (wsX2_passMinutes_r2 ++ (wsX2_passMinutes_r3 ++ (wsX2_passMinutes_r4 ++ wsX2_passMinutes_r5)))) ++ wsX20 ++ wsX30 ++ wsX10)
def wsX3_tells : List Cond := .code yX3_tells cX3_tells 2 (some .boolean) :: ([.fieldLink RX3 9 "PassNotes$Sheet" "lengths" "[I"] ++ wsX30)
def wsX2_takesForOpen : List Cond := .code yX2_takesForOpen cX2_takesForOpen 5 (some .boolean) :: ([.fieldLink RX2 33 "PassNotes$Notes" "held" "[LPassNotes$Sheet;", .fieldLink RX2 40 "PassNotes$Notes" "land" "LPassNotes$Land;", .methodLink RX2 94 yX1_first, .instanceMethod yX1_first, .selects RX1 yX1_first yX1_first, .initialized RX1, .code yX1_first cX1_first 2 (some .int), .fieldLink RX1 15 "PassNotes$Land" "firsts" "[I", .methodLink RX2 51 yX2_slot, .static yX2_slot, .initialized RX2, .code yX2_slot cX2_slot 2 (some .int), .methodLink RX2 97 yX1_second, .instanceMethod yX1_second, .selects RX1 yX1_second yX1_second, .code yX1_second cX1_second 2 (some .int), .fieldLink RX1 18 "PassNotes$Land" "seconds" "[I", .methodLink RX2 115 yX3_tells, .instanceMethod yX3_tells, .selects RX3 yX3_tells yX3_tells, .initialized RX3, .code yX3_tells cX3_tells 2 (some .boolean), .fieldLink RX3 9 "PassNotes$Sheet" "lengths" "[I"] ++ wsX20 ++ wsX10 ++ wsX30)
def wsX2_takersForOpen_r1 : List Cond := [Cond.fieldLink RX2 40 "PassNotes$Notes" "land" "LPassNotes$Land;", Cond.methodLink RX2 59 yX1_huts, Cond.instanceMethod yX1_huts, Cond.selects RX1 yX1_huts yX1_huts, Cond.initialized RX1, Cond.code yX1_huts cX1_huts 1 (some .int), Cond.fieldLink RX1 28 "PassNotes$Land" "huts" "I", Cond.methodLink RX2 118 yX2_takesForOpen, Cond.instanceMethod yX2_takesForOpen, Cond.selects RX2 yX2_takesForOpen yX2_takesForOpen, Cond.initialized RX2, Cond.code yX2_takesForOpen cX2_takesForOpen 5 (some .boolean), Cond.fieldLink RX2 33 "PassNotes$Notes" "held" "[LPassNotes$Sheet;", Cond.methodLink RX2 94 yX1_first, Cond.instanceMethod yX1_first, Cond.selects RX1 yX1_first yX1_first, Cond.code yX1_first cX1_first 2 (some .int), Cond.fieldLink RX1 15 "PassNotes$Land" "firsts" "[I", Cond.methodLink RX2 51 yX2_slot, Cond.static yX2_slot, Cond.code yX2_slot cX2_slot 2 (some .int), Cond.methodLink RX2 97 yX1_second, Cond.instanceMethod yX1_second, Cond.selects RX1 yX1_second yX1_second]
def wsX2_takersForOpen_r2 : List Cond := [Cond.code yX1_second cX1_second 2 (some .int), Cond.fieldLink RX1 18 "PassNotes$Land" "seconds" "[I", Cond.methodLink RX2 115 yX3_tells, Cond.instanceMethod yX3_tells, Cond.selects RX3 yX3_tells yX3_tells, Cond.initialized RX3, Cond.code yX3_tells cX3_tells 2 (some .boolean), Cond.fieldLink RX3 9 "PassNotes$Sheet" "lengths" "[I"]
def wsX2_takersForOpen : List Cond := .code yX2_takersForOpen cX2_takersForOpen 4 (some .int) :: ((wsX2_takersForOpen_r1 ++ wsX2_takersForOpen_r2) ++ wsX20 ++ wsX10 ++ wsX30)
def wsX3_length : List Cond := .code yX3_length cX3_length 2 (some .int) :: ([.fieldLink RX3 9 "PassNotes$Sheet" "lengths" "[I"] ++ wsX30)
def wsX2_findWays_r1 : List Cond := [Cond.fieldLink RX2 12 "PassNotes$Notes" "chart" "LPassNotes$Chart;", Cond.fieldLink RX2 40 "PassNotes$Notes" "land" "LPassNotes$Land;", Cond.fieldLink RX2 33 "PassNotes$Notes" "held" "[LPassNotes$Sheet;", Cond.fieldLink RX2 24 "PassNotes$Notes" "ways" "[[I", Cond.fieldLink RX2 27 "PassNotes$Notes" "waysFound" "[Z", Cond.methodLink RX2 125 yX0_clear, Cond.instanceMethod yX0_clear, Cond.selects RX0 yX0_clear yX0_clear, Cond.initialized RX0, Cond.code yX0_clear cX0_clear 1 none, Cond.fieldLink RX0 21 "PassNotes$Chart" "steps" "I", Cond.methodLink RX2 88 yX1_passes, Cond.instanceMethod yX1_passes, Cond.selects RX1 yX1_passes yX1_passes, Cond.initialized RX1, Cond.code yX1_passes cX1_passes 1 (some .int), Cond.fieldLink RX1 32 "PassNotes$Land" "passes" "I", Cond.methodLink RX2 94 yX1_first, Cond.instanceMethod yX1_first, Cond.selects RX1 yX1_first yX1_first, Cond.code yX1_first cX1_first 2 (some .int), Cond.fieldLink RX1 15 "PassNotes$Land" "firsts" "[I", Cond.methodLink RX2 97 yX1_second, Cond.instanceMethod yX1_second]
def wsX2_findWays_r2 : List Cond := [Cond.selects RX1 yX1_second yX1_second, Cond.code yX1_second cX1_second 2 (some .int), Cond.fieldLink RX1 18 "PassNotes$Land" "seconds" "[I", Cond.methodLink RX2 51 yX2_slot, Cond.static yX2_slot, Cond.initialized RX2, Cond.code yX2_slot cX2_slot 2 (some .int), Cond.methodLink RX2 115 yX3_tells, Cond.instanceMethod yX3_tells, Cond.selects RX3 yX3_tells yX3_tells, Cond.initialized RX3, Cond.code yX3_tells cX3_tells 2 (some .boolean), Cond.fieldLink RX3 9 "PassNotes$Sheet" "lengths" "[I", Cond.methodLink RX2 128 yX3_length, Cond.instanceMethod yX3_length, Cond.selects RX3 yX3_length yX3_length, Cond.code yX3_length cX3_length 2 (some .int), Cond.methodLink RX2 131 yX0_addStep, Cond.instanceMethod yX0_addStep, Cond.selects RX0 yX0_addStep yX0_addStep, Cond.code yX0_addStep cX0_addStep 4 none, Cond.fieldLink RX0 9 "PassNotes$Chart" "froms" "[I", Cond.fieldLink RX0 15 "PassNotes$Chart" "tos" "[I", Cond.fieldLink RX0 18 "PassNotes$Chart" "lengths" "[I"]
def wsX2_findWays_r3 : List Cond := [Cond.methodLink RX2 135 yX0_search, Cond.instanceMethod yX0_search, Cond.selects RX0 yX0_search yX0_search, Cond.code yX0_search cX0_search 7 none, Cond.constant RX0 25 (1073741824)]
def wsX2_findWays : List Cond := .code yX2_findWays cX2_findWays 7 none :: ((wsX2_findWays_r1 ++ (wsX2_findWays_r2 ++ wsX2_findWays_r3)) ++ wsX20 ++ wsX00 ++ wsX10 ++ wsX30)
def wsX2_knownWay_r1 : List Cond := [Cond.fieldLink RX2 27 "PassNotes$Notes" "waysFound" "[Z", Cond.fieldLink RX2 24 "PassNotes$Notes" "ways" "[[I", Cond.methodLink RX2 121 yX2_findWays, Cond.instanceMethod yX2_findWays, Cond.selects RX2 yX2_findWays yX2_findWays, Cond.initialized RX2, Cond.code yX2_findWays cX2_findWays 7 none, Cond.fieldLink RX2 12 "PassNotes$Notes" "chart" "LPassNotes$Chart;", Cond.fieldLink RX2 40 "PassNotes$Notes" "land" "LPassNotes$Land;", Cond.fieldLink RX2 33 "PassNotes$Notes" "held" "[LPassNotes$Sheet;", Cond.methodLink RX2 125 yX0_clear, Cond.instanceMethod yX0_clear, Cond.selects RX0 yX0_clear yX0_clear, Cond.initialized RX0, Cond.code yX0_clear cX0_clear 1 none, Cond.fieldLink RX0 21 "PassNotes$Chart" "steps" "I", Cond.methodLink RX2 88 yX1_passes, Cond.instanceMethod yX1_passes, Cond.selects RX1 yX1_passes yX1_passes, Cond.initialized RX1, Cond.code yX1_passes cX1_passes 1 (some .int), Cond.fieldLink RX1 32 "PassNotes$Land" "passes" "I", Cond.methodLink RX2 94 yX1_first, Cond.instanceMethod yX1_first]
def wsX2_knownWay_r2 : List Cond := [Cond.selects RX1 yX1_first yX1_first, Cond.code yX1_first cX1_first 2 (some .int), Cond.fieldLink RX1 15 "PassNotes$Land" "firsts" "[I", Cond.methodLink RX2 97 yX1_second, Cond.instanceMethod yX1_second, Cond.selects RX1 yX1_second yX1_second, Cond.code yX1_second cX1_second 2 (some .int), Cond.fieldLink RX1 18 "PassNotes$Land" "seconds" "[I", Cond.methodLink RX2 51 yX2_slot, Cond.static yX2_slot, Cond.code yX2_slot cX2_slot 2 (some .int), Cond.methodLink RX2 115 yX3_tells, Cond.instanceMethod yX3_tells, Cond.selects RX3 yX3_tells yX3_tells, Cond.initialized RX3, Cond.code yX3_tells cX3_tells 2 (some .boolean), Cond.fieldLink RX3 9 "PassNotes$Sheet" "lengths" "[I", Cond.methodLink RX2 128 yX3_length, Cond.instanceMethod yX3_length, Cond.selects RX3 yX3_length yX3_length, Cond.code yX3_length cX3_length 2 (some .int), Cond.methodLink RX2 131 yX0_addStep, Cond.instanceMethod yX0_addStep, Cond.selects RX0 yX0_addStep yX0_addStep]
def wsX2_knownWay_r3 : List Cond := [Cond.code yX0_addStep cX0_addStep 4 none, Cond.fieldLink RX0 9 "PassNotes$Chart" "froms" "[I", Cond.fieldLink RX0 15 "PassNotes$Chart" "tos" "[I", Cond.fieldLink RX0 18 "PassNotes$Chart" "lengths" "[I", Cond.methodLink RX2 135 yX0_search, Cond.instanceMethod yX0_search, Cond.selects RX0 yX0_search yX0_search, Cond.code yX0_search cX0_search 7 none, Cond.constant RX0 25 (1073741824)]
def wsX2_knownWay : List Cond := .code yX2_knownWay cX2_knownWay 3 (some .int) :: ((wsX2_knownWay_r1 ++ (wsX2_knownWay_r2 ++ wsX2_knownWay_r3)) ++ wsX20 ++ wsX00 ++ wsX10 ++ wsX30)
def wsX2_knownHuts_r1 : List Cond := [Cond.fieldLink RX2 40 "PassNotes$Notes" "land" "LPassNotes$Land;", Cond.constant RX2 142 (1073741824), Cond.methodLink RX2 59 yX1_huts, Cond.instanceMethod yX1_huts, Cond.selects RX1 yX1_huts yX1_huts, Cond.initialized RX1, Cond.code yX1_huts cX1_huts 1 (some .int), Cond.fieldLink RX1 28 "PassNotes$Land" "huts" "I", Cond.methodLink RX2 139 yX2_knownWay, Cond.instanceMethod yX2_knownWay, Cond.selects RX2 yX2_knownWay yX2_knownWay, Cond.initialized RX2, Cond.code yX2_knownWay cX2_knownWay 3 (some .int), Cond.fieldLink RX2 27 "PassNotes$Notes" "waysFound" "[Z", Cond.fieldLink RX2 24 "PassNotes$Notes" "ways" "[[I", Cond.methodLink RX2 121 yX2_findWays, Cond.instanceMethod yX2_findWays, Cond.selects RX2 yX2_findWays yX2_findWays, Cond.code yX2_findWays cX2_findWays 7 none, Cond.fieldLink RX2 12 "PassNotes$Notes" "chart" "LPassNotes$Chart;", Cond.fieldLink RX2 33 "PassNotes$Notes" "held" "[LPassNotes$Sheet;", Cond.methodLink RX2 125 yX0_clear, Cond.instanceMethod yX0_clear, Cond.selects RX0 yX0_clear yX0_clear]
def wsX2_knownHuts_r2 : List Cond := [Cond.initialized RX0, Cond.code yX0_clear cX0_clear 1 none, Cond.fieldLink RX0 21 "PassNotes$Chart" "steps" "I", Cond.methodLink RX2 88 yX1_passes, Cond.instanceMethod yX1_passes, Cond.selects RX1 yX1_passes yX1_passes, Cond.code yX1_passes cX1_passes 1 (some .int), Cond.fieldLink RX1 32 "PassNotes$Land" "passes" "I", Cond.methodLink RX2 94 yX1_first, Cond.instanceMethod yX1_first, Cond.selects RX1 yX1_first yX1_first, Cond.code yX1_first cX1_first 2 (some .int), Cond.fieldLink RX1 15 "PassNotes$Land" "firsts" "[I", Cond.methodLink RX2 97 yX1_second, Cond.instanceMethod yX1_second, Cond.selects RX1 yX1_second yX1_second, Cond.code yX1_second cX1_second 2 (some .int), Cond.fieldLink RX1 18 "PassNotes$Land" "seconds" "[I", Cond.methodLink RX2 51 yX2_slot, Cond.static yX2_slot, Cond.code yX2_slot cX2_slot 2 (some .int), Cond.methodLink RX2 115 yX3_tells, Cond.instanceMethod yX3_tells, Cond.selects RX3 yX3_tells yX3_tells]
def wsX2_knownHuts_r3 : List Cond := [Cond.initialized RX3, Cond.code yX3_tells cX3_tells 2 (some .boolean), Cond.fieldLink RX3 9 "PassNotes$Sheet" "lengths" "[I", Cond.methodLink RX2 128 yX3_length, Cond.instanceMethod yX3_length, Cond.selects RX3 yX3_length yX3_length, Cond.code yX3_length cX3_length 2 (some .int), Cond.methodLink RX2 131 yX0_addStep, Cond.instanceMethod yX0_addStep, Cond.selects RX0 yX0_addStep yX0_addStep, Cond.code yX0_addStep cX0_addStep 4 none, Cond.fieldLink RX0 9 "PassNotes$Chart" "froms" "[I", Cond.fieldLink RX0 15 "PassNotes$Chart" "tos" "[I", Cond.fieldLink RX0 18 "PassNotes$Chart" "lengths" "[I", Cond.methodLink RX2 135 yX0_search, Cond.instanceMethod yX0_search, Cond.selects RX0 yX0_search yX0_search, Cond.code yX0_search cX0_search 7 none, Cond.constant RX0 25 (1073741824)]
def wsX2_knownHuts : List Cond := .code yX2_knownHuts cX2_knownHuts 4 (some .int) :: ((wsX2_knownHuts_r1 ++ (wsX2_knownHuts_r2 ++ wsX2_knownHuts_r3)) ++ wsX20 ++ wsX10 ++ wsX00 ++ wsX30)
def wsX2_letter_r1 : List Cond := [Cond.constant RX2 142 (1073741824), Cond.fieldLink RX2 40 "PassNotes$Notes" "land" "LPassNotes$Land;", Cond.methodLink RX2 139 yX2_knownWay, Cond.instanceMethod yX2_knownWay, Cond.selects RX2 yX2_knownWay yX2_knownWay, Cond.initialized RX2, Cond.code yX2_knownWay cX2_knownWay 3 (some .int), Cond.fieldLink RX2 27 "PassNotes$Notes" "waysFound" "[Z", Cond.fieldLink RX2 24 "PassNotes$Notes" "ways" "[[I", Cond.methodLink RX2 121 yX2_findWays, Cond.instanceMethod yX2_findWays, Cond.selects RX2 yX2_findWays yX2_findWays, Cond.code yX2_findWays cX2_findWays 7 none, Cond.fieldLink RX2 12 "PassNotes$Notes" "chart" "LPassNotes$Chart;", Cond.fieldLink RX2 33 "PassNotes$Notes" "held" "[LPassNotes$Sheet;", Cond.methodLink RX2 125 yX0_clear, Cond.instanceMethod yX0_clear, Cond.selects RX0 yX0_clear yX0_clear, Cond.initialized RX0, Cond.code yX0_clear cX0_clear 1 none, Cond.fieldLink RX0 21 "PassNotes$Chart" "steps" "I", Cond.methodLink RX2 88 yX1_passes, Cond.instanceMethod yX1_passes, Cond.selects RX1 yX1_passes yX1_passes]
def wsX2_letter_r2 : List Cond := [Cond.initialized RX1, Cond.code yX1_passes cX1_passes 1 (some .int), Cond.fieldLink RX1 32 "PassNotes$Land" "passes" "I", Cond.methodLink RX2 94 yX1_first, Cond.instanceMethod yX1_first, Cond.selects RX1 yX1_first yX1_first, Cond.code yX1_first cX1_first 2 (some .int), Cond.fieldLink RX1 15 "PassNotes$Land" "firsts" "[I", Cond.methodLink RX2 97 yX1_second, Cond.instanceMethod yX1_second, Cond.selects RX1 yX1_second yX1_second, Cond.code yX1_second cX1_second 2 (some .int), Cond.fieldLink RX1 18 "PassNotes$Land" "seconds" "[I", Cond.methodLink RX2 51 yX2_slot, Cond.static yX2_slot, Cond.code yX2_slot cX2_slot 2 (some .int), Cond.methodLink RX2 115 yX3_tells, Cond.instanceMethod yX3_tells, Cond.selects RX3 yX3_tells yX3_tells, Cond.initialized RX3, Cond.code yX3_tells cX3_tells 2 (some .boolean), Cond.fieldLink RX3 9 "PassNotes$Sheet" "lengths" "[I", Cond.methodLink RX2 128 yX3_length, Cond.instanceMethod yX3_length]
def wsX2_letter_r3 : List Cond := [Cond.selects RX3 yX3_length yX3_length, Cond.code yX3_length cX3_length 2 (some .int), Cond.methodLink RX2 131 yX0_addStep, Cond.instanceMethod yX0_addStep, Cond.selects RX0 yX0_addStep yX0_addStep, Cond.code yX0_addStep cX0_addStep 4 none, Cond.fieldLink RX0 9 "PassNotes$Chart" "froms" "[I", Cond.fieldLink RX0 15 "PassNotes$Chart" "tos" "[I", Cond.fieldLink RX0 18 "PassNotes$Chart" "lengths" "[I", Cond.methodLink RX2 135 yX0_search, Cond.instanceMethod yX0_search, Cond.selects RX0 yX0_search yX0_search, Cond.code yX0_search cX0_search 7 none, Cond.constant RX0 25 (1073741824), Cond.methodLink RX2 143 yX1_isStep, Cond.instanceMethod yX1_isStep, Cond.selects RX1 yX1_isStep yX1_isStep, Cond.code yX1_isStep cX1_isStep 6 (some .boolean), Cond.fieldLink RX1 24 "PassNotes$Land" "opens" "[Z"]
def wsX2_letter : List Cond := .code yX2_letter cX2_letter 6 (some .int) :: ((wsX2_letter_r1 ++ (wsX2_letter_r2 ++ wsX2_letter_r3)) ++ wsX20 ++ wsX00 ++ wsX10 ++ wsX30)
def wsX2_reachedHuts_r1 : List Cond := [Cond.fieldLink RX2 40 "PassNotes$Notes" "land" "LPassNotes$Land;", Cond.methodLink RX2 59 yX1_huts, Cond.instanceMethod yX1_huts, Cond.selects RX1 yX1_huts yX1_huts, Cond.initialized RX1, Cond.code yX1_huts cX1_huts 1 (some .int), Cond.fieldLink RX1 28 "PassNotes$Land" "huts" "I", Cond.methodLink RX2 146 yX2_letter, Cond.instanceMethod yX2_letter, Cond.selects RX2 yX2_letter yX2_letter, Cond.initialized RX2, Cond.code yX2_letter cX2_letter 6 (some .int), Cond.constant RX2 142 (1073741824), Cond.methodLink RX2 139 yX2_knownWay, Cond.instanceMethod yX2_knownWay, Cond.selects RX2 yX2_knownWay yX2_knownWay, Cond.code yX2_knownWay cX2_knownWay 3 (some .int), Cond.fieldLink RX2 27 "PassNotes$Notes" "waysFound" "[Z", Cond.fieldLink RX2 24 "PassNotes$Notes" "ways" "[[I", Cond.methodLink RX2 121 yX2_findWays, Cond.instanceMethod yX2_findWays, Cond.selects RX2 yX2_findWays yX2_findWays, Cond.code yX2_findWays cX2_findWays 7 none, Cond.fieldLink RX2 12 "PassNotes$Notes" "chart" "LPassNotes$Chart;"]
def wsX2_reachedHuts_r2 : List Cond := [Cond.fieldLink RX2 33 "PassNotes$Notes" "held" "[LPassNotes$Sheet;", Cond.methodLink RX2 125 yX0_clear, Cond.instanceMethod yX0_clear, Cond.selects RX0 yX0_clear yX0_clear, Cond.initialized RX0, Cond.code yX0_clear cX0_clear 1 none, Cond.fieldLink RX0 21 "PassNotes$Chart" "steps" "I", Cond.methodLink RX2 88 yX1_passes, Cond.instanceMethod yX1_passes, Cond.selects RX1 yX1_passes yX1_passes, Cond.code yX1_passes cX1_passes 1 (some .int), Cond.fieldLink RX1 32 "PassNotes$Land" "passes" "I", Cond.methodLink RX2 94 yX1_first, Cond.instanceMethod yX1_first, Cond.selects RX1 yX1_first yX1_first, Cond.code yX1_first cX1_first 2 (some .int), Cond.fieldLink RX1 15 "PassNotes$Land" "firsts" "[I", Cond.methodLink RX2 97 yX1_second, Cond.instanceMethod yX1_second, Cond.selects RX1 yX1_second yX1_second, Cond.code yX1_second cX1_second 2 (some .int), Cond.fieldLink RX1 18 "PassNotes$Land" "seconds" "[I", Cond.methodLink RX2 51 yX2_slot, Cond.static yX2_slot]
def wsX2_reachedHuts_r3 : List Cond := [Cond.code yX2_slot cX2_slot 2 (some .int), Cond.methodLink RX2 115 yX3_tells, Cond.instanceMethod yX3_tells, Cond.selects RX3 yX3_tells yX3_tells, Cond.initialized RX3, Cond.code yX3_tells cX3_tells 2 (some .boolean), Cond.fieldLink RX3 9 "PassNotes$Sheet" "lengths" "[I", Cond.methodLink RX2 128 yX3_length, Cond.instanceMethod yX3_length, Cond.selects RX3 yX3_length yX3_length, Cond.code yX3_length cX3_length 2 (some .int), Cond.methodLink RX2 131 yX0_addStep, Cond.instanceMethod yX0_addStep, Cond.selects RX0 yX0_addStep yX0_addStep, Cond.code yX0_addStep cX0_addStep 4 none, Cond.fieldLink RX0 9 "PassNotes$Chart" "froms" "[I", Cond.fieldLink RX0 15 "PassNotes$Chart" "tos" "[I", Cond.fieldLink RX0 18 "PassNotes$Chart" "lengths" "[I", Cond.methodLink RX2 135 yX0_search, Cond.instanceMethod yX0_search, Cond.selects RX0 yX0_search yX0_search, Cond.code yX0_search cX0_search 7 none, Cond.constant RX0 25 (1073741824), Cond.methodLink RX2 143 yX1_isStep]
def wsX2_reachedHuts_r4 : List Cond := [Cond.instanceMethod yX1_isStep, Cond.selects RX1 yX1_isStep yX1_isStep, Cond.code yX1_isStep cX1_isStep 6 (some .boolean), Cond.fieldLink RX1 24 "PassNotes$Land" "opens" "[Z"]
def wsX2_reachedHuts : List Cond := .code yX2_reachedHuts cX2_reachedHuts 4 (some .int) :: ((wsX2_reachedHuts_r1 ++ (wsX2_reachedHuts_r2 ++ (wsX2_reachedHuts_r3 ++ wsX2_reachedHuts_r4))) ++ wsX20 ++ wsX10 ++ wsX00 ++ wsX30)
def wsX2_reachedPairs_r1 : List Cond := [Cond.fieldLink RX2 40 "PassNotes$Notes" "land" "LPassNotes$Land;", Cond.methodLink RX2 59 yX1_huts, Cond.instanceMethod yX1_huts, Cond.selects RX1 yX1_huts yX1_huts, Cond.initialized RX1, Cond.code yX1_huts cX1_huts 1 (some .int), Cond.fieldLink RX1 28 "PassNotes$Land" "huts" "I", Cond.methodLink RX2 146 yX2_letter, Cond.instanceMethod yX2_letter, Cond.selects RX2 yX2_letter yX2_letter, Cond.initialized RX2, Cond.code yX2_letter cX2_letter 6 (some .int), Cond.constant RX2 142 (1073741824), Cond.methodLink RX2 139 yX2_knownWay, Cond.instanceMethod yX2_knownWay, Cond.selects RX2 yX2_knownWay yX2_knownWay, Cond.code yX2_knownWay cX2_knownWay 3 (some .int), Cond.fieldLink RX2 27 "PassNotes$Notes" "waysFound" "[Z", Cond.fieldLink RX2 24 "PassNotes$Notes" "ways" "[[I", Cond.methodLink RX2 121 yX2_findWays, Cond.instanceMethod yX2_findWays, Cond.selects RX2 yX2_findWays yX2_findWays, Cond.code yX2_findWays cX2_findWays 7 none, Cond.fieldLink RX2 12 "PassNotes$Notes" "chart" "LPassNotes$Chart;"]
def wsX2_reachedPairs_r2 : List Cond := [Cond.fieldLink RX2 33 "PassNotes$Notes" "held" "[LPassNotes$Sheet;", Cond.methodLink RX2 125 yX0_clear, Cond.instanceMethod yX0_clear, Cond.selects RX0 yX0_clear yX0_clear, Cond.initialized RX0, Cond.code yX0_clear cX0_clear 1 none, Cond.fieldLink RX0 21 "PassNotes$Chart" "steps" "I", Cond.methodLink RX2 88 yX1_passes, Cond.instanceMethod yX1_passes, Cond.selects RX1 yX1_passes yX1_passes, Cond.code yX1_passes cX1_passes 1 (some .int), Cond.fieldLink RX1 32 "PassNotes$Land" "passes" "I", Cond.methodLink RX2 94 yX1_first, Cond.instanceMethod yX1_first, Cond.selects RX1 yX1_first yX1_first, Cond.code yX1_first cX1_first 2 (some .int), Cond.fieldLink RX1 15 "PassNotes$Land" "firsts" "[I", Cond.methodLink RX2 97 yX1_second, Cond.instanceMethod yX1_second, Cond.selects RX1 yX1_second yX1_second, Cond.code yX1_second cX1_second 2 (some .int), Cond.fieldLink RX1 18 "PassNotes$Land" "seconds" "[I", Cond.methodLink RX2 51 yX2_slot, Cond.static yX2_slot]
def wsX2_reachedPairs_r3 : List Cond := [Cond.code yX2_slot cX2_slot 2 (some .int), Cond.methodLink RX2 115 yX3_tells, Cond.instanceMethod yX3_tells, Cond.selects RX3 yX3_tells yX3_tells, Cond.initialized RX3, Cond.code yX3_tells cX3_tells 2 (some .boolean), Cond.fieldLink RX3 9 "PassNotes$Sheet" "lengths" "[I", Cond.methodLink RX2 128 yX3_length, Cond.instanceMethod yX3_length, Cond.selects RX3 yX3_length yX3_length, Cond.code yX3_length cX3_length 2 (some .int), Cond.methodLink RX2 131 yX0_addStep, Cond.instanceMethod yX0_addStep, Cond.selects RX0 yX0_addStep yX0_addStep, Cond.code yX0_addStep cX0_addStep 4 none, Cond.fieldLink RX0 9 "PassNotes$Chart" "froms" "[I", Cond.fieldLink RX0 15 "PassNotes$Chart" "tos" "[I", Cond.fieldLink RX0 18 "PassNotes$Chart" "lengths" "[I", Cond.methodLink RX2 135 yX0_search, Cond.instanceMethod yX0_search, Cond.selects RX0 yX0_search yX0_search, Cond.code yX0_search cX0_search 7 none, Cond.constant RX0 25 (1073741824), Cond.methodLink RX2 143 yX1_isStep]
def wsX2_reachedPairs_r4 : List Cond := [Cond.instanceMethod yX1_isStep, Cond.selects RX1 yX1_isStep yX1_isStep, Cond.code yX1_isStep cX1_isStep 6 (some .boolean), Cond.fieldLink RX1 24 "PassNotes$Land" "opens" "[Z"]
def wsX2_reachedPairs : List Cond := .code yX2_reachedPairs cX2_reachedPairs 4 (some .int) :: ((wsX2_reachedPairs_r1 ++ (wsX2_reachedPairs_r2 ++ (wsX2_reachedPairs_r3 ++ wsX2_reachedPairs_r4))) ++ wsX20 ++ wsX10 ++ wsX00 ++ wsX30)
def wsX3_passesTold : List Cond := .code yX3_passesTold cX3_passesTold 3 (some .int) :: ([.fieldLink RX3 9 "PassNotes$Sheet" "lengths" "[I", .methodLink RX3 32 yX3_tells, .instanceMethod yX3_tells, .selects RX3 yX3_tells yX3_tells, .initialized RX3, .code yX3_tells cX3_tells 2 (some .boolean)] ++ wsX30)
def wsX4_init_r1 : List Cond := [Cond.methodLink RX4 1 objectInit, Cond.instanceMethod objectInit, Cond.code objectInit ⟨#[0xb1]⟩ 1 none, Cond.classLink RX4 7 RX1, Cond.instantiable RX1 7, Cond.initialized RX1, Cond.fieldLink RX4 10 "PassNotes" "land" "LPassNotes$Land;", Cond.classLink RX4 16 RX2, Cond.instantiable RX2 8, Cond.initialized RX2, Cond.fieldLink RX4 21 "PassNotes" "now" "LPassNotes$Notes;", Cond.fieldLink RX4 25 "PassNotes" "later" "LPassNotes$Notes;", Cond.classLink RX4 28 RX0, Cond.instantiable RX0 4, Cond.initialized RX0, Cond.fieldLink RX4 31 "PassNotes" "truthChart" "LPassNotes$Chart;", Cond.arrayClass .int, Cond.fieldLink RX4 35 "PassNotes" "truthWays" "[I", Cond.instanceMethod yX1_init, Cond.code yX1_init cX1_init 1 none, Cond.methodLink RX1 3 objectInit, Cond.fieldLink RX1 9 "PassNotes$Land" "areas" "[I", Cond.fieldLink RX1 15 "PassNotes$Land" "firsts" "[I", Cond.fieldLink RX1 18 "PassNotes$Land" "seconds" "[I"]
def wsX4_init_r2 : List Cond := [Cond.fieldLink RX1 21 "PassNotes$Land" "lengths" "[I", Cond.arrayClass .boolean, Cond.fieldLink RX1 24 "PassNotes$Land" "opens" "[Z", Cond.methodLink RX4 18 yX2_init, Cond.instanceMethod yX2_init, Cond.code yX2_init cX2_init 2 none, Cond.methodLink RX2 3 objectInit, Cond.classLink RX2 9 RX0, Cond.fieldLink RX2 12 "PassNotes$Notes" "chart" "LPassNotes$Chart;", Cond.fieldLink RX2 18 "PassNotes$Notes" "wrote" "[I", Cond.classLink RX2 22 "[[I", Cond.fieldLink RX2 24 "PassNotes$Notes" "ways" "[[I", Cond.fieldLink RX2 27 "PassNotes$Notes" "waysFound" "[Z", Cond.classLink RX2 31 RX3, Cond.fieldLink RX2 33 "PassNotes$Notes" "held" "[LPassNotes$Sheet;", Cond.fieldLink RX2 37 "PassNotes$Notes" "carried" "[LPassNotes$Sheet;", Cond.fieldLink RX2 40 "PassNotes$Notes" "land" "LPassNotes$Land;", Cond.instanceMethod yX0_init, Cond.code yX0_init cX0_init 1 none, Cond.methodLink RX0 3 objectInit, Cond.fieldLink RX0 9 "PassNotes$Chart" "froms" "[I", Cond.fieldLink RX0 15 "PassNotes$Chart" "tos" "[I", Cond.fieldLink RX0 18 "PassNotes$Chart" "lengths" "[I"]
def wsX4_init : List Cond := .code yX4_init cX4_init 1 none :: ((wsX4_init_r1 ++ wsX4_init_r2) ++ wsX10 ++ wsX40 ++ wsX20 ++ wsX00)
def wsX4_hut : List Cond := .code yX4_hut cX4_hut 2 (some .int) :: ([.classLink RX4 39 "java/lang/IllegalArgumentException", .initialized "java/lang/IllegalArgumentException", .classLink RX4 50 "java/lang/IllegalStateException", .initialized "java/lang/IllegalStateException", .fieldLink RX4 10 "PassNotes" "land" "LPassNotes$Land;", .methodLink RX4 46 yX1_huts, .instanceMethod yX1_huts, .selects RX1 yX1_huts yX1_huts, .initialized RX1, .code yX1_huts cX1_huts 1 (some .int), .fieldLink RX1 28 "PassNotes$Land" "huts" "I", .methodLink RX4 55 yX1_addHut, .instanceMethod yX1_addHut, .selects RX1 yX1_addHut yX1_addHut, .code yX1_addHut cX1_addHut 2 (some .int), .fieldLink RX1 9 "PassNotes$Land" "areas" "[I"] ++ wsX40 ++ wsX10 ++ (vx_atS RX4 43 "java/lang/IllegalArgumentException" ["java/lang/RuntimeException", "java/lang/Exception"]).filter goodWord ++ (vx_atS RX4 54 "java/lang/IllegalStateException" ["java/lang/RuntimeException", "java/lang/Exception"]).filter goodWord)
def wsX4_checkHut : List Cond := .code yX4_checkHut cX4_checkHut 2 none :: ([.classLink RX4 144 "java/lang/IndexOutOfBoundsException", .initialized "java/lang/IndexOutOfBoundsException", .fieldLink RX4 10 "PassNotes" "land" "LPassNotes$Land;", .methodLink RX4 46 yX1_huts, .instanceMethod yX1_huts, .selects RX1 yX1_huts yX1_huts, .initialized RX1, .code yX1_huts cX1_huts 1 (some .int), .fieldLink RX1 28 "PassNotes$Land" "huts" "I"] ++ wsX40 ++ wsX10 ++ (vx_atS RX4 148 "java/lang/IndexOutOfBoundsException" ["java/lang/RuntimeException", "java/lang/Exception"]).filter goodWord)
def wsX4_checkLength : List Cond := .code yX4_checkLength cX4_checkLength 2 none :: ([.classLink RX4 39 "java/lang/IllegalArgumentException", .initialized "java/lang/IllegalArgumentException"] ++ (vx_atS RX4 43 "java/lang/IllegalArgumentException" ["java/lang/RuntimeException", "java/lang/Exception"]).filter goodWord)
def wsX4_pass_r1 : List Cond := [Cond.classLink RX4 39 "java/lang/IllegalArgumentException", Cond.initialized "java/lang/IllegalArgumentException", Cond.classLink RX4 50 "java/lang/IllegalStateException", Cond.initialized "java/lang/IllegalStateException", Cond.fieldLink RX4 10 "PassNotes" "land" "LPassNotes$Land;", Cond.methodLink RX4 59 yX4_checkHut, Cond.instanceMethod yX4_checkHut, Cond.selects RX4 yX4_checkHut yX4_checkHut, Cond.initialized RX4, Cond.code yX4_checkHut cX4_checkHut 2 none, Cond.classLink RX4 144 "java/lang/IndexOutOfBoundsException", Cond.initialized "java/lang/IndexOutOfBoundsException", Cond.methodLink RX4 46 yX1_huts, Cond.instanceMethod yX1_huts, Cond.selects RX1 yX1_huts yX1_huts, Cond.initialized RX1, Cond.code yX1_huts cX1_huts 1 (some .int), Cond.fieldLink RX1 28 "PassNotes$Land" "huts" "I", Cond.methodLink RX4 65 yX4_checkLength, Cond.instanceMethod yX4_checkLength, Cond.selects RX4 yX4_checkLength yX4_checkLength, Cond.code yX4_checkLength cX4_checkLength 2 none, Cond.methodLink RX4 68 yX1_passes, Cond.instanceMethod yX1_passes]
def wsX4_pass_r2 : List Cond := [Cond.selects RX1 yX1_passes yX1_passes, Cond.code yX1_passes cX1_passes 1 (some .int), Cond.fieldLink RX1 32 "PassNotes$Land" "passes" "I", Cond.methodLink RX4 73 yX1_addPass, Cond.instanceMethod yX1_addPass, Cond.selects RX1 yX1_addPass yX1_addPass, Cond.code yX1_addPass cX1_addPass 4 (some .int), Cond.fieldLink RX1 15 "PassNotes$Land" "firsts" "[I", Cond.fieldLink RX1 18 "PassNotes$Land" "seconds" "[I", Cond.fieldLink RX1 21 "PassNotes$Land" "lengths" "[I", Cond.fieldLink RX1 24 "PassNotes$Land" "opens" "[Z"]
def wsX4_pass : List Cond := .code yX4_pass cX4_pass 4 (some .int) :: ((wsX4_pass_r1 ++ wsX4_pass_r2) ++ wsX40 ++ wsX10 ++ (vx_atS RX4 43 "java/lang/IllegalArgumentException" ["java/lang/RuntimeException", "java/lang/Exception"]).filter goodWord ++ (vx_atS RX4 54 "java/lang/IllegalStateException" ["java/lang/RuntimeException", "java/lang/Exception"]).filter goodWord ++ (vx_atS RX4 148 "java/lang/IndexOutOfBoundsException" ["java/lang/RuntimeException", "java/lang/Exception"]).filter goodWord)
def wsX4_checkPass : List Cond := .code yX4_checkPass cX4_checkPass 2 none :: ([.classLink RX4 144 "java/lang/IndexOutOfBoundsException", .initialized "java/lang/IndexOutOfBoundsException", .fieldLink RX4 10 "PassNotes" "land" "LPassNotes$Land;", .methodLink RX4 68 yX1_passes, .instanceMethod yX1_passes, .selects RX1 yX1_passes yX1_passes, .initialized RX1, .code yX1_passes cX1_passes 1 (some .int), .fieldLink RX1 32 "PassNotes$Land" "passes" "I"] ++ wsX40 ++ wsX10 ++ (vx_atS RX4 148 "java/lang/IndexOutOfBoundsException" ["java/lang/RuntimeException", "java/lang/Exception"]).filter goodWord)
def wsX4_setLength_r1 : List Cond := [Cond.fieldLink RX4 10 "PassNotes" "land" "LPassNotes$Land;", Cond.methodLink RX4 77 yX4_checkPass, Cond.instanceMethod yX4_checkPass, Cond.selects RX4 yX4_checkPass yX4_checkPass, Cond.initialized RX4, Cond.code yX4_checkPass cX4_checkPass 2 none, Cond.classLink RX4 144 "java/lang/IndexOutOfBoundsException", Cond.initialized "java/lang/IndexOutOfBoundsException", Cond.methodLink RX4 68 yX1_passes, Cond.instanceMethod yX1_passes, Cond.selects RX1 yX1_passes yX1_passes, Cond.initialized RX1, Cond.code yX1_passes cX1_passes 1 (some .int), Cond.fieldLink RX1 32 "PassNotes$Land" "passes" "I", Cond.methodLink RX4 65 yX4_checkLength, Cond.instanceMethod yX4_checkLength, Cond.selects RX4 yX4_checkLength yX4_checkLength, Cond.code yX4_checkLength cX4_checkLength 2 none, Cond.classLink RX4 39 "java/lang/IllegalArgumentException", Cond.initialized "java/lang/IllegalArgumentException", Cond.methodLink RX4 80 yX1_changeLength, Cond.instanceMethod yX1_changeLength, Cond.selects RX1 yX1_changeLength yX1_changeLength, Cond.code yX1_changeLength cX1_changeLength 4 (some .int)]
def wsX4_setLength_r2 : List Cond := [Cond.fieldLink RX1 21 "PassNotes$Land" "lengths" "[I"]
def wsX4_setLength : List Cond := .code yX4_setLength cX4_setLength 3 (some .int) :: ((wsX4_setLength_r1 ++ wsX4_setLength_r2) ++ wsX40 ++ wsX10 ++ (vx_atS RX4 148 "java/lang/IndexOutOfBoundsException" ["java/lang/RuntimeException", "java/lang/Exception"]).filter goodWord ++ (vx_atS RX4 43 "java/lang/IllegalArgumentException" ["java/lang/RuntimeException", "java/lang/Exception"]).filter goodWord)
def wsX4_setOpen : List Cond := .code yX4_setOpen cX4_setOpen 3 (some .boolean) :: ([.fieldLink RX4 10 "PassNotes" "land" "LPassNotes$Land;", .methodLink RX4 77 yX4_checkPass, .instanceMethod yX4_checkPass, .selects RX4 yX4_checkPass yX4_checkPass, .initialized RX4, .code yX4_checkPass cX4_checkPass 2 none, .classLink RX4 144 "java/lang/IndexOutOfBoundsException", .initialized "java/lang/IndexOutOfBoundsException", .methodLink RX4 68 yX1_passes, .instanceMethod yX1_passes, .selects RX1 yX1_passes yX1_passes, .initialized RX1, .code yX1_passes cX1_passes 1 (some .int), .fieldLink RX1 32 "PassNotes$Land" "passes" "I", .methodLink RX4 84 yX1_changeOpen, .instanceMethod yX1_changeOpen, .selects RX1 yX1_changeOpen yX1_changeOpen, .code yX1_changeOpen cX1_changeOpen 4 (some .boolean), .fieldLink RX1 24 "PassNotes$Land" "opens" "[Z"] ++ wsX40 ++ wsX10 ++ (vx_atS RX4 148 "java/lang/IndexOutOfBoundsException" ["java/lang/RuntimeException", "java/lang/Exception"]).filter goodWord)
def wsX4_burn_r1 : List Cond := [Cond.fieldLink RX4 21 "PassNotes" "now" "LPassNotes$Notes;", Cond.methodLink RX4 59 yX4_checkHut, Cond.instanceMethod yX4_checkHut, Cond.selects RX4 yX4_checkHut yX4_checkHut, Cond.initialized RX4, Cond.code yX4_checkHut cX4_checkHut 2 none, Cond.classLink RX4 144 "java/lang/IndexOutOfBoundsException", Cond.initialized "java/lang/IndexOutOfBoundsException", Cond.fieldLink RX4 10 "PassNotes" "land" "LPassNotes$Land;", Cond.methodLink RX4 46 yX1_huts, Cond.instanceMethod yX1_huts, Cond.selects RX1 yX1_huts yX1_huts, Cond.initialized RX1, Cond.code yX1_huts cX1_huts 1 (some .int), Cond.fieldLink RX1 28 "PassNotes$Land" "huts" "I", Cond.methodLink RX4 88 yX2_burnAll, Cond.instanceMethod yX2_burnAll, Cond.selects RX2 yX2_burnAll yX2_burnAll, Cond.initialized RX2, Cond.code yX2_burnAll cX2_burnAll 4 (some .int), Cond.fieldLink RX2 33 "PassNotes$Notes" "held" "[LPassNotes$Sheet;", Cond.methodLink RX2 55 yX2_sheetsOf, Cond.instanceMethod yX2_sheetsOf, Cond.selects RX2 yX2_sheetsOf yX2_sheetsOf]
def wsX4_burn_r2 : List Cond := [Cond.code yX2_sheetsOf cX2_sheetsOf 4 (some .int), Cond.methodLink RX2 51 yX2_slot, Cond.static yX2_slot, Cond.code yX2_slot cX2_slot 2 (some .int), Cond.methodLink RX2 48 yX2_forgetWays, Cond.instanceMethod yX2_forgetWays, Cond.selects RX2 yX2_forgetWays yX2_forgetWays, Cond.code yX2_forgetWays cX2_forgetWays 2 none, Cond.fieldLink RX2 27 "PassNotes$Notes" "waysFound" "[Z"]
def wsX4_burn : List Cond := .code yX4_burn cX4_burn 2 (some .int) :: ((wsX4_burn_r1 ++ wsX4_burn_r2) ++ wsX40 ++ wsX10 ++ wsX20 ++ (vx_atS RX4 148 "java/lang/IndexOutOfBoundsException" ["java/lang/RuntimeException", "java/lang/Exception"]).filter goodWord)
def wsX4_checkWhat : List Cond := .code yX4_checkWhat cX4_checkWhat 3 none :: ([.classLink RX4 144 "java/lang/IndexOutOfBoundsException", .initialized "java/lang/IndexOutOfBoundsException"] ++ (vx_atS RX4 148 "java/lang/IndexOutOfBoundsException" ["java/lang/RuntimeException", "java/lang/Exception"]).filter goodWord)
def wsX4_sheet_r1 : List Cond := [Cond.fieldLink RX4 21 "PassNotes" "now" "LPassNotes$Notes;", Cond.methodLink RX4 59 yX4_checkHut, Cond.instanceMethod yX4_checkHut, Cond.selects RX4 yX4_checkHut yX4_checkHut, Cond.initialized RX4, Cond.code yX4_checkHut cX4_checkHut 2 none, Cond.classLink RX4 144 "java/lang/IndexOutOfBoundsException", Cond.initialized "java/lang/IndexOutOfBoundsException", Cond.fieldLink RX4 10 "PassNotes" "land" "LPassNotes$Land;", Cond.methodLink RX4 46 yX1_huts, Cond.instanceMethod yX1_huts, Cond.selects RX1 yX1_huts yX1_huts, Cond.initialized RX1, Cond.code yX1_huts cX1_huts 1 (some .int), Cond.fieldLink RX1 28 "PassNotes$Land" "huts" "I", Cond.methodLink RX4 91 yX4_checkWhat, Cond.instanceMethod yX4_checkWhat, Cond.selects RX4 yX4_checkWhat yX4_checkWhat, Cond.code yX4_checkWhat cX4_checkWhat 3 none, Cond.methodLink RX4 95 yX2_held, Cond.instanceMethod yX2_held, Cond.selects RX2 yX2_held yX2_held, Cond.initialized RX2, Cond.code yX2_held cX2_held 3 (some (.object "PassNotes$Sheet"))]
def wsX4_sheet_r2 : List Cond := [Cond.fieldLink RX2 33 "PassNotes$Notes" "held" "[LPassNotes$Sheet;", Cond.methodLink RX2 51 yX2_slot, Cond.static yX2_slot, Cond.code yX2_slot cX2_slot 2 (some .int), Cond.methodLink RX4 99 yX3_number, Cond.instanceMethod yX3_number, Cond.selects RX3 yX3_number yX3_number, Cond.initialized RX3, Cond.code yX3_number cX3_number 1 (some .int), Cond.fieldLink RX3 15 "PassNotes$Sheet" "number" "I", Cond.methodLink RX4 104 yX2_minute, Cond.instanceMethod yX2_minute, Cond.selects RX2 yX2_minute yX2_minute, Cond.code yX2_minute cX2_minute 1 (some .int), Cond.fieldLink RX2 44 "PassNotes$Notes" "minute" "I", Cond.methodLink RX4 107 yX3_age, Cond.instanceMethod yX3_age, Cond.selects RX3 yX3_age yX3_age, Cond.code yX3_age cX3_age 2 (some .int), Cond.fieldLink RX3 19 "PassNotes$Sheet" "written" "I", Cond.methodLink RX4 110 yX3_passesTold, Cond.instanceMethod yX3_passesTold, Cond.selects RX3 yX3_passesTold yX3_passesTold, Cond.code yX3_passesTold cX3_passesTold 3 (some .int)]
def wsX4_sheet_r3 : List Cond := [Cond.fieldLink RX3 9 "PassNotes$Sheet" "lengths" "[I", Cond.methodLink RX3 32 yX3_tells, Cond.instanceMethod yX3_tells, Cond.selects RX3 yX3_tells yX3_tells, Cond.code yX3_tells cX3_tells 2 (some .boolean)]
def wsX4_sheet : List Cond := .code yX4_sheet cX4_sheet 5 (some .int) :: ((wsX4_sheet_r1 ++ (wsX4_sheet_r2 ++ wsX4_sheet_r3)) ++ wsX40 ++ wsX10 ++ wsX20 ++ wsX30 ++ (vx_atS RX4 148 "java/lang/IndexOutOfBoundsException" ["java/lang/RuntimeException", "java/lang/Exception"]).filter goodWord)
def wsX4_way_r1 : List Cond := [Cond.fieldLink RX4 21 "PassNotes" "now" "LPassNotes$Notes;", Cond.constant RX4 116 (1073741824), Cond.methodLink RX4 59 yX4_checkHut, Cond.instanceMethod yX4_checkHut, Cond.selects RX4 yX4_checkHut yX4_checkHut, Cond.initialized RX4, Cond.code yX4_checkHut cX4_checkHut 2 none, Cond.classLink RX4 144 "java/lang/IndexOutOfBoundsException", Cond.initialized "java/lang/IndexOutOfBoundsException", Cond.fieldLink RX4 10 "PassNotes" "land" "LPassNotes$Land;", Cond.methodLink RX4 46 yX1_huts, Cond.instanceMethod yX1_huts, Cond.selects RX1 yX1_huts yX1_huts, Cond.initialized RX1, Cond.code yX1_huts cX1_huts 1 (some .int), Cond.fieldLink RX1 28 "PassNotes$Land" "huts" "I", Cond.methodLink RX4 91 yX4_checkWhat, Cond.instanceMethod yX4_checkWhat, Cond.selects RX4 yX4_checkWhat yX4_checkWhat, Cond.code yX4_checkWhat cX4_checkWhat 3 none, Cond.methodLink RX4 113 yX2_knownWay, Cond.instanceMethod yX2_knownWay, Cond.selects RX2 yX2_knownWay yX2_knownWay, Cond.initialized RX2]
def wsX4_way_r2 : List Cond := [Cond.code yX2_knownWay cX2_knownWay 3 (some .int), Cond.fieldLink RX2 27 "PassNotes$Notes" "waysFound" "[Z", Cond.fieldLink RX2 24 "PassNotes$Notes" "ways" "[[I", Cond.methodLink RX2 121 yX2_findWays, Cond.instanceMethod yX2_findWays, Cond.selects RX2 yX2_findWays yX2_findWays, Cond.code yX2_findWays cX2_findWays 7 none, Cond.fieldLink RX2 12 "PassNotes$Notes" "chart" "LPassNotes$Chart;", Cond.fieldLink RX2 40 "PassNotes$Notes" "land" "LPassNotes$Land;", Cond.fieldLink RX2 33 "PassNotes$Notes" "held" "[LPassNotes$Sheet;", Cond.methodLink RX2 125 yX0_clear, Cond.instanceMethod yX0_clear, Cond.selects RX0 yX0_clear yX0_clear, Cond.initialized RX0, Cond.code yX0_clear cX0_clear 1 none, Cond.fieldLink RX0 21 "PassNotes$Chart" "steps" "I", Cond.methodLink RX2 88 yX1_passes, Cond.instanceMethod yX1_passes, Cond.selects RX1 yX1_passes yX1_passes, Cond.code yX1_passes cX1_passes 1 (some .int), Cond.fieldLink RX1 32 "PassNotes$Land" "passes" "I", Cond.methodLink RX2 94 yX1_first, Cond.instanceMethod yX1_first, Cond.selects RX1 yX1_first yX1_first]
def wsX4_way_r3 : List Cond := [Cond.code yX1_first cX1_first 2 (some .int), Cond.fieldLink RX1 15 "PassNotes$Land" "firsts" "[I", Cond.methodLink RX2 97 yX1_second, Cond.instanceMethod yX1_second, Cond.selects RX1 yX1_second yX1_second, Cond.code yX1_second cX1_second 2 (some .int), Cond.fieldLink RX1 18 "PassNotes$Land" "seconds" "[I", Cond.methodLink RX2 51 yX2_slot, Cond.static yX2_slot, Cond.code yX2_slot cX2_slot 2 (some .int), Cond.methodLink RX2 115 yX3_tells, Cond.instanceMethod yX3_tells, Cond.selects RX3 yX3_tells yX3_tells, Cond.initialized RX3, Cond.code yX3_tells cX3_tells 2 (some .boolean), Cond.fieldLink RX3 9 "PassNotes$Sheet" "lengths" "[I", Cond.methodLink RX2 128 yX3_length, Cond.instanceMethod yX3_length, Cond.selects RX3 yX3_length yX3_length, Cond.code yX3_length cX3_length 2 (some .int), Cond.methodLink RX2 131 yX0_addStep, Cond.instanceMethod yX0_addStep, Cond.selects RX0 yX0_addStep yX0_addStep, Cond.code yX0_addStep cX0_addStep 4 none]
def wsX4_way_r4 : List Cond := [Cond.fieldLink RX0 9 "PassNotes$Chart" "froms" "[I", Cond.fieldLink RX0 15 "PassNotes$Chart" "tos" "[I", Cond.fieldLink RX0 18 "PassNotes$Chart" "lengths" "[I", Cond.methodLink RX2 135 yX0_search, Cond.instanceMethod yX0_search, Cond.selects RX0 yX0_search yX0_search, Cond.code yX0_search cX0_search 7 none, Cond.constant RX0 25 (1073741824)]
def wsX4_way : List Cond := .code yX4_way cX4_way 5 (some .int) :: ((wsX4_way_r1 ++ (wsX4_way_r2 ++ (wsX4_way_r3 ++ wsX4_way_r4))) ++ wsX40 ++ wsX10 ++ wsX20 ++ wsX00 ++ wsX30 ++ (vx_atS RX4 148 "java/lang/IndexOutOfBoundsException" ["java/lang/RuntimeException", "java/lang/Exception"]).filter goodWord)
def wsX4_post_r1 : List Cond := [Cond.fieldLink RX4 21 "PassNotes" "now" "LPassNotes$Notes;", Cond.methodLink RX4 59 yX4_checkHut, Cond.instanceMethod yX4_checkHut, Cond.selects RX4 yX4_checkHut yX4_checkHut, Cond.initialized RX4, Cond.code yX4_checkHut cX4_checkHut 2 none, Cond.classLink RX4 144 "java/lang/IndexOutOfBoundsException", Cond.initialized "java/lang/IndexOutOfBoundsException", Cond.fieldLink RX4 10 "PassNotes" "land" "LPassNotes$Land;", Cond.methodLink RX4 46 yX1_huts, Cond.instanceMethod yX1_huts, Cond.selects RX1 yX1_huts yX1_huts, Cond.initialized RX1, Cond.code yX1_huts cX1_huts 1 (some .int), Cond.fieldLink RX1 28 "PassNotes$Land" "huts" "I", Cond.methodLink RX4 117 yX2_letter, Cond.instanceMethod yX2_letter, Cond.selects RX2 yX2_letter yX2_letter, Cond.initialized RX2, Cond.code yX2_letter cX2_letter 6 (some .int), Cond.constant RX2 142 (1073741824), Cond.fieldLink RX2 40 "PassNotes$Notes" "land" "LPassNotes$Land;", Cond.methodLink RX2 139 yX2_knownWay, Cond.instanceMethod yX2_knownWay]
def wsX4_post_r2 : List Cond := [Cond.selects RX2 yX2_knownWay yX2_knownWay, Cond.code yX2_knownWay cX2_knownWay 3 (some .int), Cond.fieldLink RX2 27 "PassNotes$Notes" "waysFound" "[Z", Cond.fieldLink RX2 24 "PassNotes$Notes" "ways" "[[I", Cond.methodLink RX2 121 yX2_findWays, Cond.instanceMethod yX2_findWays, Cond.selects RX2 yX2_findWays yX2_findWays, Cond.code yX2_findWays cX2_findWays 7 none, Cond.fieldLink RX2 12 "PassNotes$Notes" "chart" "LPassNotes$Chart;", Cond.fieldLink RX2 33 "PassNotes$Notes" "held" "[LPassNotes$Sheet;", Cond.methodLink RX2 125 yX0_clear, Cond.instanceMethod yX0_clear, Cond.selects RX0 yX0_clear yX0_clear, Cond.initialized RX0, Cond.code yX0_clear cX0_clear 1 none, Cond.fieldLink RX0 21 "PassNotes$Chart" "steps" "I", Cond.methodLink RX2 88 yX1_passes, Cond.instanceMethod yX1_passes, Cond.selects RX1 yX1_passes yX1_passes, Cond.code yX1_passes cX1_passes 1 (some .int), Cond.fieldLink RX1 32 "PassNotes$Land" "passes" "I", Cond.methodLink RX2 94 yX1_first, Cond.instanceMethod yX1_first, Cond.selects RX1 yX1_first yX1_first]
def wsX4_post_r3 : List Cond := [Cond.code yX1_first cX1_first 2 (some .int), Cond.fieldLink RX1 15 "PassNotes$Land" "firsts" "[I", Cond.methodLink RX2 97 yX1_second, Cond.instanceMethod yX1_second, Cond.selects RX1 yX1_second yX1_second, Cond.code yX1_second cX1_second 2 (some .int), Cond.fieldLink RX1 18 "PassNotes$Land" "seconds" "[I", Cond.methodLink RX2 51 yX2_slot, Cond.static yX2_slot, Cond.code yX2_slot cX2_slot 2 (some .int), Cond.methodLink RX2 115 yX3_tells, Cond.instanceMethod yX3_tells, Cond.selects RX3 yX3_tells yX3_tells, Cond.initialized RX3, Cond.code yX3_tells cX3_tells 2 (some .boolean), Cond.fieldLink RX3 9 "PassNotes$Sheet" "lengths" "[I", Cond.methodLink RX2 128 yX3_length, Cond.instanceMethod yX3_length, Cond.selects RX3 yX3_length yX3_length, Cond.code yX3_length cX3_length 2 (some .int), Cond.methodLink RX2 131 yX0_addStep, Cond.instanceMethod yX0_addStep, Cond.selects RX0 yX0_addStep yX0_addStep, Cond.code yX0_addStep cX0_addStep 4 none]
def wsX4_post_r4 : List Cond := [Cond.fieldLink RX0 9 "PassNotes$Chart" "froms" "[I", Cond.fieldLink RX0 15 "PassNotes$Chart" "tos" "[I", Cond.fieldLink RX0 18 "PassNotes$Chart" "lengths" "[I", Cond.methodLink RX2 135 yX0_search, Cond.instanceMethod yX0_search, Cond.selects RX0 yX0_search yX0_search, Cond.code yX0_search cX0_search 7 none, Cond.constant RX0 25 (1073741824), Cond.methodLink RX2 143 yX1_isStep, Cond.instanceMethod yX1_isStep, Cond.selects RX1 yX1_isStep yX1_isStep, Cond.code yX1_isStep cX1_isStep 6 (some .boolean), Cond.fieldLink RX1 24 "PassNotes$Land" "opens" "[Z"]
def wsX4_post : List Cond := .code yX4_post cX4_post 3 (some .int) :: ((wsX4_post_r1 ++ (wsX4_post_r2 ++ (wsX4_post_r3 ++ wsX4_post_r4))) ++ wsX40 ++ wsX10 ++ wsX20 ++ wsX00 ++ wsX30 ++ (vx_atS RX4 148 "java/lang/IndexOutOfBoundsException" ["java/lang/RuntimeException", "java/lang/Exception"]).filter goodWord)
def wsX4_truth_r1 : List Cond := [Cond.fieldLink RX4 10 "PassNotes" "land" "LPassNotes$Land;", Cond.fieldLink RX4 31 "PassNotes" "truthChart" "LPassNotes$Chart;", Cond.fieldLink RX4 35 "PassNotes" "truthWays" "[I", Cond.constant RX4 116 (1073741824), Cond.methodLink RX4 59 yX4_checkHut, Cond.instanceMethod yX4_checkHut, Cond.selects RX4 yX4_checkHut yX4_checkHut, Cond.initialized RX4, Cond.code yX4_checkHut cX4_checkHut 2 none, Cond.classLink RX4 144 "java/lang/IndexOutOfBoundsException", Cond.initialized "java/lang/IndexOutOfBoundsException", Cond.methodLink RX4 46 yX1_huts, Cond.instanceMethod yX1_huts, Cond.selects RX1 yX1_huts yX1_huts, Cond.initialized RX1, Cond.code yX1_huts cX1_huts 1 (some .int), Cond.fieldLink RX1 28 "PassNotes$Land" "huts" "I", Cond.methodLink RX4 120 yX1_draw, Cond.instanceMethod yX1_draw, Cond.selects RX1 yX1_draw yX1_draw, Cond.code yX1_draw cX1_draw 3 none, Cond.fieldLink RX1 32 "PassNotes$Land" "passes" "I", Cond.fieldLink RX1 24 "PassNotes$Land" "opens" "[Z", Cond.fieldLink RX1 15 "PassNotes$Land" "firsts" "[I"]
def wsX4_truth_r2 : List Cond := [Cond.fieldLink RX1 18 "PassNotes$Land" "seconds" "[I", Cond.fieldLink RX1 21 "PassNotes$Land" "lengths" "[I", Cond.methodLink RX1 35 yX0_clear, Cond.instanceMethod yX0_clear, Cond.selects RX0 yX0_clear yX0_clear, Cond.initialized RX0, Cond.code yX0_clear cX0_clear 1 none, Cond.fieldLink RX0 21 "PassNotes$Chart" "steps" "I", Cond.methodLink RX1 40 yX0_addStep, Cond.instanceMethod yX0_addStep, Cond.selects RX0 yX0_addStep yX0_addStep, Cond.code yX0_addStep cX0_addStep 4 none, Cond.fieldLink RX0 9 "PassNotes$Chart" "froms" "[I", Cond.fieldLink RX0 15 "PassNotes$Chart" "tos" "[I", Cond.fieldLink RX0 18 "PassNotes$Chart" "lengths" "[I", Cond.methodLink RX4 124 yX0_search, Cond.instanceMethod yX0_search, Cond.selects RX0 yX0_search yX0_search, Cond.code yX0_search cX0_search 7 none, Cond.constant RX0 25 (1073741824)]
def wsX4_truth : List Cond := .code yX4_truth cX4_truth 4 (some .int) :: ((wsX4_truth_r1 ++ wsX4_truth_r2) ++ wsX40 ++ wsX10 ++ wsX00 ++ (vx_atS RX4 148 "java/lang/IndexOutOfBoundsException" ["java/lang/RuntimeException", "java/lang/Exception"]).filter goodWord)
def wsX4_about_r1 : List Cond := [Cond.classLink RX4 144 "java/lang/IndexOutOfBoundsException", Cond.initialized "java/lang/IndexOutOfBoundsException", Cond.fieldLink RX4 10 "PassNotes" "land" "LPassNotes$Land;", Cond.fieldLink RX4 21 "PassNotes" "now" "LPassNotes$Notes;", Cond.methodLink RX4 77 yX4_checkPass, Cond.instanceMethod yX4_checkPass, Cond.selects RX4 yX4_checkPass yX4_checkPass, Cond.initialized RX4, Cond.code yX4_checkPass cX4_checkPass 2 none, Cond.methodLink RX4 68 yX1_passes, Cond.instanceMethod yX1_passes, Cond.selects RX1 yX1_passes yX1_passes, Cond.initialized RX1, Cond.code yX1_passes cX1_passes 1 (some .int), Cond.fieldLink RX1 32 "PassNotes$Land" "passes" "I", Cond.methodLink RX4 128 yX1_first, Cond.instanceMethod yX1_first, Cond.selects RX1 yX1_first yX1_first, Cond.code yX1_first cX1_first 2 (some .int), Cond.fieldLink RX1 15 "PassNotes$Land" "firsts" "[I", Cond.methodLink RX4 131 yX1_second, Cond.instanceMethod yX1_second, Cond.selects RX1 yX1_second yX1_second, Cond.code yX1_second cX1_second 2 (some .int)]
def wsX4_about_r2 : List Cond := [Cond.fieldLink RX1 18 "PassNotes$Land" "seconds" "[I", Cond.methodLink RX4 134 yX1_length, Cond.instanceMethod yX1_length, Cond.selects RX1 yX1_length yX1_length, Cond.code yX1_length cX1_length 2 (some .int), Cond.fieldLink RX1 21 "PassNotes$Land" "lengths" "[I", Cond.methodLink RX4 137 yX1_isOpen, Cond.instanceMethod yX1_isOpen, Cond.selects RX1 yX1_isOpen yX1_isOpen, Cond.code yX1_isOpen cX1_isOpen 2 (some .boolean), Cond.fieldLink RX1 24 "PassNotes$Land" "opens" "[Z", Cond.methodLink RX4 141 yX2_takersForOpen, Cond.instanceMethod yX2_takersForOpen, Cond.selects RX2 yX2_takersForOpen yX2_takersForOpen, Cond.initialized RX2, Cond.code yX2_takersForOpen cX2_takersForOpen 4 (some .int), Cond.fieldLink RX2 40 "PassNotes$Notes" "land" "LPassNotes$Land;", Cond.methodLink RX2 59 yX1_huts, Cond.instanceMethod yX1_huts, Cond.selects RX1 yX1_huts yX1_huts, Cond.code yX1_huts cX1_huts 1 (some .int), Cond.fieldLink RX1 28 "PassNotes$Land" "huts" "I", Cond.methodLink RX2 118 yX2_takesForOpen, Cond.instanceMethod yX2_takesForOpen]
def wsX4_about_r3 : List Cond := [Cond.selects RX2 yX2_takesForOpen yX2_takesForOpen, Cond.code yX2_takesForOpen cX2_takesForOpen 5 (some .boolean), Cond.fieldLink RX2 33 "PassNotes$Notes" "held" "[LPassNotes$Sheet;", Cond.methodLink RX2 94 yX1_first, Cond.methodLink RX2 51 yX2_slot, Cond.static yX2_slot, Cond.code yX2_slot cX2_slot 2 (some .int), Cond.methodLink RX2 97 yX1_second, Cond.methodLink RX2 115 yX3_tells, Cond.instanceMethod yX3_tells, Cond.selects RX3 yX3_tells yX3_tells, Cond.initialized RX3, Cond.code yX3_tells cX3_tells 2 (some .boolean), Cond.fieldLink RX3 9 "PassNotes$Sheet" "lengths" "[I"]
def wsX4_about : List Cond := .code yX4_about cX4_about 3 (some .int) :: ((wsX4_about_r1 ++ (wsX4_about_r2 ++ wsX4_about_r3)) ++ wsX40 ++ wsX10 ++ wsX20 ++ wsX30 ++ (vx_atS RX4 148 "java/lang/IndexOutOfBoundsException" ["java/lang/RuntimeException", "java/lang/Exception"]).filter goodWord)
def wsX4_told_r1 : List Cond := [Cond.classLink RX4 144 "java/lang/IndexOutOfBoundsException", Cond.initialized "java/lang/IndexOutOfBoundsException", Cond.fieldLink RX4 10 "PassNotes" "land" "LPassNotes$Land;", Cond.fieldLink RX4 21 "PassNotes" "now" "LPassNotes$Notes;", Cond.methodLink RX4 59 yX4_checkHut, Cond.instanceMethod yX4_checkHut, Cond.selects RX4 yX4_checkHut yX4_checkHut, Cond.initialized RX4, Cond.code yX4_checkHut cX4_checkHut 2 none, Cond.methodLink RX4 46 yX1_huts, Cond.instanceMethod yX1_huts, Cond.selects RX1 yX1_huts yX1_huts, Cond.initialized RX1, Cond.code yX1_huts cX1_huts 1 (some .int), Cond.fieldLink RX1 28 "PassNotes$Land" "huts" "I", Cond.methodLink RX4 149 yX1_area, Cond.instanceMethod yX1_area, Cond.selects RX1 yX1_area yX1_area, Cond.code yX1_area cX1_area 2 (some .int), Cond.fieldLink RX1 9 "PassNotes$Land" "areas" "[I", Cond.methodLink RX4 152 yX2_sheetsOf, Cond.instanceMethod yX2_sheetsOf, Cond.selects RX2 yX2_sheetsOf yX2_sheetsOf, Cond.initialized RX2]
def wsX4_told_r2 : List Cond := [Cond.code yX2_sheetsOf cX2_sheetsOf 4 (some .int), Cond.fieldLink RX2 33 "PassNotes$Notes" "held" "[LPassNotes$Sheet;", Cond.methodLink RX2 51 yX2_slot, Cond.static yX2_slot, Cond.code yX2_slot cX2_slot 2 (some .int), Cond.methodLink RX4 155 yX2_wroteInAll, Cond.instanceMethod yX2_wroteInAll, Cond.selects RX2 yX2_wroteInAll yX2_wroteInAll, Cond.code yX2_wroteInAll cX2_wroteInAll 2 (some .int), Cond.fieldLink RX2 18 "PassNotes$Notes" "wrote" "[I", Cond.methodLink RX4 158 yX2_knownHuts, Cond.instanceMethod yX2_knownHuts, Cond.selects RX2 yX2_knownHuts yX2_knownHuts, Cond.code yX2_knownHuts cX2_knownHuts 4 (some .int), Cond.fieldLink RX2 40 "PassNotes$Notes" "land" "LPassNotes$Land;", Cond.constant RX2 142 (1073741824), Cond.methodLink RX2 59 yX1_huts, Cond.methodLink RX2 139 yX2_knownWay, Cond.instanceMethod yX2_knownWay, Cond.selects RX2 yX2_knownWay yX2_knownWay, Cond.code yX2_knownWay cX2_knownWay 3 (some .int), Cond.fieldLink RX2 27 "PassNotes$Notes" "waysFound" "[Z", Cond.fieldLink RX2 24 "PassNotes$Notes" "ways" "[[I", Cond.methodLink RX2 121 yX2_findWays]
def wsX4_told_r3 : List Cond := [Cond.instanceMethod yX2_findWays, Cond.selects RX2 yX2_findWays yX2_findWays, Cond.code yX2_findWays cX2_findWays 7 none, Cond.fieldLink RX2 12 "PassNotes$Notes" "chart" "LPassNotes$Chart;", Cond.methodLink RX2 125 yX0_clear, Cond.instanceMethod yX0_clear, Cond.selects RX0 yX0_clear yX0_clear, Cond.initialized RX0, Cond.code yX0_clear cX0_clear 1 none, Cond.fieldLink RX0 21 "PassNotes$Chart" "steps" "I", Cond.methodLink RX2 88 yX1_passes, Cond.instanceMethod yX1_passes, Cond.selects RX1 yX1_passes yX1_passes, Cond.code yX1_passes cX1_passes 1 (some .int), Cond.fieldLink RX1 32 "PassNotes$Land" "passes" "I", Cond.methodLink RX2 94 yX1_first, Cond.instanceMethod yX1_first, Cond.selects RX1 yX1_first yX1_first, Cond.code yX1_first cX1_first 2 (some .int), Cond.fieldLink RX1 15 "PassNotes$Land" "firsts" "[I", Cond.methodLink RX2 97 yX1_second, Cond.instanceMethod yX1_second, Cond.selects RX1 yX1_second yX1_second, Cond.code yX1_second cX1_second 2 (some .int)]
def wsX4_told_r4 : List Cond := [Cond.fieldLink RX1 18 "PassNotes$Land" "seconds" "[I", Cond.methodLink RX2 115 yX3_tells, Cond.instanceMethod yX3_tells, Cond.selects RX3 yX3_tells yX3_tells, Cond.initialized RX3, Cond.code yX3_tells cX3_tells 2 (some .boolean), Cond.fieldLink RX3 9 "PassNotes$Sheet" "lengths" "[I", Cond.methodLink RX2 128 yX3_length, Cond.instanceMethod yX3_length, Cond.selects RX3 yX3_length yX3_length, Cond.code yX3_length cX3_length 2 (some .int), Cond.methodLink RX2 131 yX0_addStep, Cond.instanceMethod yX0_addStep, Cond.selects RX0 yX0_addStep yX0_addStep, Cond.code yX0_addStep cX0_addStep 4 none, Cond.fieldLink RX0 9 "PassNotes$Chart" "froms" "[I", Cond.fieldLink RX0 15 "PassNotes$Chart" "tos" "[I", Cond.fieldLink RX0 18 "PassNotes$Chart" "lengths" "[I", Cond.methodLink RX2 135 yX0_search, Cond.instanceMethod yX0_search, Cond.selects RX0 yX0_search yX0_search, Cond.code yX0_search cX0_search 7 none, Cond.constant RX0 25 (1073741824), Cond.methodLink RX4 161 yX2_reachedHuts]
def wsX4_told_r5 : List Cond := [Cond.instanceMethod yX2_reachedHuts, Cond.selects RX2 yX2_reachedHuts yX2_reachedHuts, Cond.code yX2_reachedHuts cX2_reachedHuts 4 (some .int), Cond.methodLink RX2 146 yX2_letter, Cond.instanceMethod yX2_letter, Cond.selects RX2 yX2_letter yX2_letter, Cond.code yX2_letter cX2_letter 6 (some .int), Cond.methodLink RX2 143 yX1_isStep, Cond.instanceMethod yX1_isStep, Cond.selects RX1 yX1_isStep yX1_isStep, Cond.code yX1_isStep cX1_isStep 6 (some .boolean), Cond.fieldLink RX1 24 "PassNotes$Land" "opens" "[Z"]
def wsX4_told : List Cond := .code yX4_told cX4_told 3 (some .int) :: ((wsX4_told_r1 ++ (wsX4_told_r2 ++ (wsX4_told_r3 ++ (wsX4_told_r4 ++ wsX4_told_r5)))) ++ wsX40 ++ wsX10 ++ wsX20 ++ wsX00 ++ wsX30 ++ (vx_atS RX4 148 "java/lang/IndexOutOfBoundsException" ["java/lang/RuntimeException", "java/lang/Exception"]).filter goodWord)
def wsX4_count_r1 : List Cond := [Cond.classLink RX4 144 "java/lang/IndexOutOfBoundsException", Cond.initialized "java/lang/IndexOutOfBoundsException", Cond.fieldLink RX4 21 "PassNotes" "now" "LPassNotes$Notes;", Cond.fieldLink RX4 10 "PassNotes" "land" "LPassNotes$Land;", Cond.methodLink RX4 104 yX2_minute, Cond.instanceMethod yX2_minute, Cond.selects RX2 yX2_minute yX2_minute, Cond.initialized RX2, Cond.code yX2_minute cX2_minute 1 (some .int), Cond.fieldLink RX2 44 "PassNotes$Notes" "minute" "I", Cond.methodLink RX4 46 yX1_huts, Cond.instanceMethod yX1_huts, Cond.selects RX1 yX1_huts yX1_huts, Cond.initialized RX1, Cond.code yX1_huts cX1_huts 1 (some .int), Cond.fieldLink RX1 28 "PassNotes$Land" "huts" "I", Cond.methodLink RX4 68 yX1_passes, Cond.instanceMethod yX1_passes, Cond.selects RX1 yX1_passes yX1_passes, Cond.code yX1_passes cX1_passes 1 (some .int), Cond.fieldLink RX1 32 "PassNotes$Land" "passes" "I", Cond.methodLink RX4 164 yX1_openPasses, Cond.instanceMethod yX1_openPasses, Cond.selects RX1 yX1_openPasses yX1_openPasses]
def wsX4_count_r2 : List Cond := [Cond.code yX1_openPasses cX1_openPasses 3 (some .int), Cond.fieldLink RX1 24 "PassNotes$Land" "opens" "[Z", Cond.methodLink RX4 167 yX2_sheets, Cond.instanceMethod yX2_sheets, Cond.selects RX2 yX2_sheets yX2_sheets, Cond.code yX2_sheets cX2_sheets 3 (some .int), Cond.fieldLink RX2 40 "PassNotes$Notes" "land" "LPassNotes$Land;", Cond.methodLink RX2 59 yX1_huts, Cond.methodLink RX2 55 yX2_sheetsOf, Cond.instanceMethod yX2_sheetsOf, Cond.selects RX2 yX2_sheetsOf yX2_sheetsOf, Cond.code yX2_sheetsOf cX2_sheetsOf 4 (some .int), Cond.fieldLink RX2 33 "PassNotes$Notes" "held" "[LPassNotes$Sheet;", Cond.methodLink RX2 51 yX2_slot, Cond.static yX2_slot, Cond.code yX2_slot cX2_slot 2 (some .int), Cond.methodLink RX4 170 yX2_reachedPairs, Cond.instanceMethod yX2_reachedPairs, Cond.selects RX2 yX2_reachedPairs yX2_reachedPairs, Cond.code yX2_reachedPairs cX2_reachedPairs 4 (some .int), Cond.methodLink RX2 146 yX2_letter, Cond.instanceMethod yX2_letter, Cond.selects RX2 yX2_letter yX2_letter, Cond.code yX2_letter cX2_letter 6 (some .int)]
def wsX4_count_r3 : List Cond := [Cond.constant RX2 142 (1073741824), Cond.methodLink RX2 139 yX2_knownWay, Cond.instanceMethod yX2_knownWay, Cond.selects RX2 yX2_knownWay yX2_knownWay, Cond.code yX2_knownWay cX2_knownWay 3 (some .int), Cond.fieldLink RX2 27 "PassNotes$Notes" "waysFound" "[Z", Cond.fieldLink RX2 24 "PassNotes$Notes" "ways" "[[I", Cond.methodLink RX2 121 yX2_findWays, Cond.instanceMethod yX2_findWays, Cond.selects RX2 yX2_findWays yX2_findWays, Cond.code yX2_findWays cX2_findWays 7 none, Cond.fieldLink RX2 12 "PassNotes$Notes" "chart" "LPassNotes$Chart;", Cond.methodLink RX2 125 yX0_clear, Cond.instanceMethod yX0_clear, Cond.selects RX0 yX0_clear yX0_clear, Cond.initialized RX0, Cond.code yX0_clear cX0_clear 1 none, Cond.fieldLink RX0 21 "PassNotes$Chart" "steps" "I", Cond.methodLink RX2 88 yX1_passes, Cond.methodLink RX2 94 yX1_first, Cond.instanceMethod yX1_first, Cond.selects RX1 yX1_first yX1_first, Cond.code yX1_first cX1_first 2 (some .int), Cond.fieldLink RX1 15 "PassNotes$Land" "firsts" "[I"]
def wsX4_count_r4 : List Cond := [Cond.methodLink RX2 97 yX1_second, Cond.instanceMethod yX1_second, Cond.selects RX1 yX1_second yX1_second, Cond.code yX1_second cX1_second 2 (some .int), Cond.fieldLink RX1 18 "PassNotes$Land" "seconds" "[I", Cond.methodLink RX2 115 yX3_tells, Cond.instanceMethod yX3_tells, Cond.selects RX3 yX3_tells yX3_tells, Cond.initialized RX3, Cond.code yX3_tells cX3_tells 2 (some .boolean), Cond.fieldLink RX3 9 "PassNotes$Sheet" "lengths" "[I", Cond.methodLink RX2 128 yX3_length, Cond.instanceMethod yX3_length, Cond.selects RX3 yX3_length yX3_length, Cond.code yX3_length cX3_length 2 (some .int), Cond.methodLink RX2 131 yX0_addStep, Cond.instanceMethod yX0_addStep, Cond.selects RX0 yX0_addStep yX0_addStep, Cond.code yX0_addStep cX0_addStep 4 none, Cond.fieldLink RX0 9 "PassNotes$Chart" "froms" "[I", Cond.fieldLink RX0 15 "PassNotes$Chart" "tos" "[I", Cond.fieldLink RX0 18 "PassNotes$Chart" "lengths" "[I", Cond.methodLink RX2 135 yX0_search, Cond.instanceMethod yX0_search]
def wsX4_count_r5 : List Cond := [Cond.selects RX0 yX0_search yX0_search, Cond.code yX0_search cX0_search 7 none, Cond.constant RX0 25 (1073741824), Cond.methodLink RX2 143 yX1_isStep, Cond.instanceMethod yX1_isStep, Cond.selects RX1 yX1_isStep yX1_isStep, Cond.code yX1_isStep cX1_isStep 6 (some .boolean), Cond.methodLink RX4 173 yX1_joinedPairs, Cond.instanceMethod yX1_joinedPairs, Cond.selects RX1 yX1_joinedPairs yX1_joinedPairs, Cond.code yX1_joinedPairs cX1_joinedPairs 7 (some .int), Cond.methodLink RX1 44 yX1_groupOf, Cond.instanceMethod yX1_groupOf, Cond.selects RX1 yX1_groupOf yX1_groupOf, Cond.code yX1_groupOf cX1_groupOf 9 (some .int), Cond.methodLink RX1 48 yJ6_bitCount_0f7a4, Cond.static yJ6_bitCount_0f7a4, Cond.initialized RJ6, Cond.code yJ6_bitCount_0f7a4 cJ6_bitCount_0f7a4 1 (some .int), Cond.constant RJ6 265 (1431655765), Cond.constant RJ6 266 (858993459), Cond.constant RJ6 267 (252645135)]
def wsX4_count : List Cond := .code yX4_count cX4_count 2 (some .int) :: ((wsX4_count_r1 ++ (wsX4_count_r2 ++ (wsX4_count_r3 ++ (wsX4_count_r4 ++ wsX4_count_r5)))) ++ wsX40 ++ wsX20 ++ wsX10 ++ wsX00 ++ wsX30 ++ (vx_atS RX4 148 "java/lang/IndexOutOfBoundsException" ["java/lang/RuntimeException", "java/lang/Exception"]).filter goodWord)
def wsX4_checkMinutes : List Cond := .code yX4_checkMinutes cX4_checkMinutes 2 none :: ([.classLink RX4 39 "java/lang/IllegalArgumentException", .initialized "java/lang/IllegalArgumentException"] ++ (vx_atS RX4 43 "java/lang/IllegalArgumentException" ["java/lang/RuntimeException", "java/lang/Exception"]).filter goodWord)
def wsX4_go_r1 : List Cond := [Cond.fieldLink RX4 21 "PassNotes" "now" "LPassNotes$Notes;", Cond.methodLink RX4 178 yX4_checkMinutes, Cond.instanceMethod yX4_checkMinutes, Cond.selects RX4 yX4_checkMinutes yX4_checkMinutes, Cond.initialized RX4, Cond.code yX4_checkMinutes cX4_checkMinutes 2 none, Cond.classLink RX4 39 "java/lang/IllegalArgumentException", Cond.initialized "java/lang/IllegalArgumentException", Cond.methodLink RX4 181 yX2_passMinutes, Cond.instanceMethod yX2_passMinutes, Cond.selects RX2 yX2_passMinutes yX2_passMinutes, Cond.initialized RX2, Cond.code yX2_passMinutes cX2_passMinutes 4 (some .int), Cond.fieldLink RX2 44 "PassNotes$Notes" "minute" "I", Cond.methodLink RX2 68 yX2_writeSheets, Cond.instanceMethod yX2_writeSheets, Cond.selects RX2 yX2_writeSheets yX2_writeSheets, Cond.code yX2_writeSheets cX2_writeSheets 3 (some .int), Cond.fieldLink RX2 40 "PassNotes$Notes" "land" "LPassNotes$Land;", Cond.fieldLink RX2 18 "PassNotes$Notes" "wrote" "[I", Cond.fieldLink RX2 33 "PassNotes$Notes" "held" "[LPassNotes$Sheet;", Cond.classLink RX2 31 RX3, Cond.instantiable RX3 3, Cond.initialized RX3]
def wsX4_go_r2 : List Cond := [Cond.methodLink RX2 59 yX1_huts, Cond.instanceMethod yX1_huts, Cond.selects RX1 yX1_huts yX1_huts, Cond.initialized RX1, Cond.code yX1_huts cX1_huts 1 (some .int), Cond.fieldLink RX1 28 "PassNotes$Land" "huts" "I", Cond.methodLink RX2 77 yX2_mustWrite, Cond.instanceMethod yX2_mustWrite, Cond.selects RX2 yX2_mustWrite yX2_mustWrite, Cond.code yX2_mustWrite cX2_mustWrite 3 (some .boolean), Cond.methodLink RX2 51 yX2_slot, Cond.static yX2_slot, Cond.code yX2_slot cX2_slot 2 (some .int), Cond.methodLink RX2 65 yX3_age, Cond.instanceMethod yX3_age, Cond.selects RX3 yX3_age yX3_age, Cond.code yX3_age cX3_age 2 (some .int), Cond.fieldLink RX3 19 "PassNotes$Sheet" "written" "I", Cond.methodLink RX2 84 yX3_tellsAsNow, Cond.instanceMethod yX3_tellsAsNow, Cond.selects RX3 yX3_tellsAsNow yX3_tellsAsNow, Cond.code yX3_tellsAsNow cX3_tellsAsNow 4 (some .boolean), Cond.fieldLink RX3 9 "PassNotes$Sheet" "lengths" "[I", Cond.methodLink RX3 22 yX1_passes]
def wsX4_go_r3 : List Cond := [Cond.instanceMethod yX1_passes, Cond.selects RX1 yX1_passes yX1_passes, Cond.code yX1_passes cX1_passes 1 (some .int), Cond.fieldLink RX1 32 "PassNotes$Land" "passes" "I", Cond.methodLink RX3 28 yX1_tellsNow, Cond.instanceMethod yX1_tellsNow, Cond.selects RX1 yX1_tellsNow yX1_tellsNow, Cond.code yX1_tellsNow cX1_tellsNow 4 (some .int), Cond.fieldLink RX1 15 "PassNotes$Land" "firsts" "[I", Cond.fieldLink RX1 18 "PassNotes$Land" "seconds" "[I", Cond.fieldLink RX1 24 "PassNotes$Land" "opens" "[Z", Cond.fieldLink RX1 21 "PassNotes$Land" "lengths" "[I", Cond.methodLink RX2 81 yX3_init, Cond.instanceMethod yX3_init, Cond.code yX3_init cX3_init 6 none, Cond.methodLink RX3 3 objectInit, Cond.instanceMethod objectInit, Cond.code objectInit ⟨#[0xb1]⟩ 1 none, Cond.arrayClass .int, Cond.fieldLink RX3 15 "PassNotes$Sheet" "number" "I", Cond.methodLink RX2 71 yX2_carrySheets, Cond.instanceMethod yX2_carrySheets, Cond.selects RX2 yX2_carrySheets yX2_carrySheets, Cond.code yX2_carrySheets cX2_carrySheets 2 none]
def wsX4_go_r4 : List Cond := [Cond.fieldLink RX2 37 "PassNotes$Notes" "carried" "[LPassNotes$Sheet;", Cond.methodLink RX2 88 yX1_passes, Cond.methodLink RX2 91 yX1_isOpen, Cond.instanceMethod yX1_isOpen, Cond.selects RX1 yX1_isOpen yX1_isOpen, Cond.code yX1_isOpen cX1_isOpen 2 (some .boolean), Cond.methodLink RX2 94 yX1_first, Cond.instanceMethod yX1_first, Cond.selects RX1 yX1_first yX1_first, Cond.code yX1_first cX1_first 2 (some .int), Cond.methodLink RX2 97 yX1_second, Cond.instanceMethod yX1_second, Cond.selects RX1 yX1_second yX1_second, Cond.code yX1_second cX1_second 2 (some .int), Cond.methodLink RX2 100 yX2_carry, Cond.instanceMethod yX2_carry, Cond.selects RX2 yX2_carry yX2_carry, Cond.code yX2_carry cX2_carry 5 none, Cond.methodLink RX2 104 yX1_takesIn, Cond.instanceMethod yX1_takesIn, Cond.selects RX1 yX1_takesIn yX1_takesIn, Cond.code yX1_takesIn cX1_takesIn 3 (some .boolean), Cond.fieldLink RX1 9 "PassNotes$Land" "areas" "[I", Cond.methodLink RX2 108 yX2_isNewer]
def wsX4_go_r5 : List Cond := [Cond.instanceMethod yX2_isNewer, Cond.selects RX2 yX2_isNewer yX2_isNewer, Cond.code yX2_isNewer cX2_isNewer 3 (some .boolean), Cond.methodLink RX2 112 yX3_number, Cond.instanceMethod yX3_number, Cond.selects RX3 yX3_number yX3_number, Cond.code yX3_number cX3_number 1 (some .int), Cond.methodLink RX2 74 yX2_throwOldAway, Cond.instanceMethod yX2_throwOldAway, Cond.selects RX2 yX2_throwOldAway yX2_throwOldAway, Cond.code yX2_throwOldAway cX2_throwOldAway 3 none, Cond.methodLink RX2 48 yX2_forgetWays, Cond.instanceMethod yX2_forgetWays, Cond.selects RX2 yX2_forgetWays yX2_forgetWays, Cond.code yX2_forgetWays cX2_forgetWays 2 none, Cond.fieldLink RX2 27 "PassNotes$Notes" "waysFound" "[Z"]
def wsX4_go : List Cond := .code yX4_go cX4_go 2 (some .int) :: ((wsX4_go_r1 ++ (wsX4_go_r2 ++ (wsX4_go_r3 ++ (wsX4_go_r4 ++ wsX4_go_r5)))) ++ wsX40 ++ wsX20 ++ wsX30 ++ wsX10 ++ (vx_atS RX4 43 "java/lang/IllegalArgumentException" ["java/lang/RuntimeException", "java/lang/Exception"]).filter goodWord)
def wsX4_foresee_r1 : List Cond := [Cond.classLink RX4 144 "java/lang/IndexOutOfBoundsException", Cond.initialized "java/lang/IndexOutOfBoundsException", Cond.fieldLink RX4 25 "PassNotes" "later" "LPassNotes$Notes;", Cond.fieldLink RX4 21 "PassNotes" "now" "LPassNotes$Notes;", Cond.methodLink RX4 178 yX4_checkMinutes, Cond.instanceMethod yX4_checkMinutes, Cond.selects RX4 yX4_checkMinutes yX4_checkMinutes, Cond.initialized RX4, Cond.code yX4_checkMinutes cX4_checkMinutes 2 none, Cond.classLink RX4 39 "java/lang/IllegalArgumentException", Cond.initialized "java/lang/IllegalArgumentException", Cond.methodLink RX4 186 yX2_copy, Cond.instanceMethod yX2_copy, Cond.selects RX2 yX2_copy yX2_copy, Cond.initialized RX2, Cond.code yX2_copy cX2_copy 3 none, Cond.fieldLink RX2 44 "PassNotes$Notes" "minute" "I", Cond.fieldLink RX2 18 "PassNotes$Notes" "wrote" "[I", Cond.fieldLink RX2 33 "PassNotes$Notes" "held" "[LPassNotes$Sheet;", Cond.methodLink RX2 48 yX2_forgetWays, Cond.instanceMethod yX2_forgetWays, Cond.selects RX2 yX2_forgetWays yX2_forgetWays, Cond.code yX2_forgetWays cX2_forgetWays 2 none, Cond.fieldLink RX2 27 "PassNotes$Notes" "waysFound" "[Z"]
def wsX4_foresee_r2 : List Cond := [Cond.methodLink RX4 181 yX2_passMinutes, Cond.instanceMethod yX2_passMinutes, Cond.selects RX2 yX2_passMinutes yX2_passMinutes, Cond.code yX2_passMinutes cX2_passMinutes 4 (some .int), Cond.methodLink RX2 68 yX2_writeSheets, Cond.instanceMethod yX2_writeSheets, Cond.selects RX2 yX2_writeSheets yX2_writeSheets, Cond.code yX2_writeSheets cX2_writeSheets 3 (some .int), Cond.fieldLink RX2 40 "PassNotes$Notes" "land" "LPassNotes$Land;", Cond.classLink RX2 31 RX3, Cond.instantiable RX3 3, Cond.initialized RX3, Cond.methodLink RX2 59 yX1_huts, Cond.instanceMethod yX1_huts, Cond.selects RX1 yX1_huts yX1_huts, Cond.initialized RX1, Cond.code yX1_huts cX1_huts 1 (some .int), Cond.fieldLink RX1 28 "PassNotes$Land" "huts" "I", Cond.methodLink RX2 77 yX2_mustWrite, Cond.instanceMethod yX2_mustWrite, Cond.selects RX2 yX2_mustWrite yX2_mustWrite, Cond.code yX2_mustWrite cX2_mustWrite 3 (some .boolean), Cond.methodLink RX2 51 yX2_slot, Cond.static yX2_slot]
def wsX4_foresee_r3 : List Cond := [Cond.code yX2_slot cX2_slot 2 (some .int), Cond.methodLink RX2 65 yX3_age, Cond.instanceMethod yX3_age, Cond.selects RX3 yX3_age yX3_age, Cond.code yX3_age cX3_age 2 (some .int), Cond.fieldLink RX3 19 "PassNotes$Sheet" "written" "I", Cond.methodLink RX2 84 yX3_tellsAsNow, Cond.instanceMethod yX3_tellsAsNow, Cond.selects RX3 yX3_tellsAsNow yX3_tellsAsNow, Cond.code yX3_tellsAsNow cX3_tellsAsNow 4 (some .boolean), Cond.fieldLink RX3 9 "PassNotes$Sheet" "lengths" "[I", Cond.methodLink RX3 22 yX1_passes, Cond.instanceMethod yX1_passes, Cond.selects RX1 yX1_passes yX1_passes, Cond.code yX1_passes cX1_passes 1 (some .int), Cond.fieldLink RX1 32 "PassNotes$Land" "passes" "I", Cond.methodLink RX3 28 yX1_tellsNow, Cond.instanceMethod yX1_tellsNow, Cond.selects RX1 yX1_tellsNow yX1_tellsNow, Cond.code yX1_tellsNow cX1_tellsNow 4 (some .int), Cond.fieldLink RX1 15 "PassNotes$Land" "firsts" "[I", Cond.fieldLink RX1 18 "PassNotes$Land" "seconds" "[I", Cond.fieldLink RX1 24 "PassNotes$Land" "opens" "[Z", Cond.fieldLink RX1 21 "PassNotes$Land" "lengths" "[I"]
def wsX4_foresee_r4 : List Cond := [Cond.methodLink RX2 81 yX3_init, Cond.instanceMethod yX3_init, Cond.code yX3_init cX3_init 6 none, Cond.methodLink RX3 3 objectInit, Cond.instanceMethod objectInit, Cond.code objectInit ⟨#[0xb1]⟩ 1 none, Cond.arrayClass .int, Cond.fieldLink RX3 15 "PassNotes$Sheet" "number" "I", Cond.methodLink RX2 71 yX2_carrySheets, Cond.instanceMethod yX2_carrySheets, Cond.selects RX2 yX2_carrySheets yX2_carrySheets, Cond.code yX2_carrySheets cX2_carrySheets 2 none, Cond.fieldLink RX2 37 "PassNotes$Notes" "carried" "[LPassNotes$Sheet;", Cond.methodLink RX2 88 yX1_passes, Cond.methodLink RX2 91 yX1_isOpen, Cond.instanceMethod yX1_isOpen, Cond.selects RX1 yX1_isOpen yX1_isOpen, Cond.code yX1_isOpen cX1_isOpen 2 (some .boolean), Cond.methodLink RX2 94 yX1_first, Cond.instanceMethod yX1_first, Cond.selects RX1 yX1_first yX1_first, Cond.code yX1_first cX1_first 2 (some .int), Cond.methodLink RX2 97 yX1_second, Cond.instanceMethod yX1_second]
def wsX4_foresee_r5 : List Cond := [Cond.selects RX1 yX1_second yX1_second, Cond.code yX1_second cX1_second 2 (some .int), Cond.methodLink RX2 100 yX2_carry, Cond.instanceMethod yX2_carry, Cond.selects RX2 yX2_carry yX2_carry, Cond.code yX2_carry cX2_carry 5 none, Cond.methodLink RX2 104 yX1_takesIn, Cond.instanceMethod yX1_takesIn, Cond.selects RX1 yX1_takesIn yX1_takesIn, Cond.code yX1_takesIn cX1_takesIn 3 (some .boolean), Cond.fieldLink RX1 9 "PassNotes$Land" "areas" "[I", Cond.methodLink RX2 108 yX2_isNewer, Cond.instanceMethod yX2_isNewer, Cond.selects RX2 yX2_isNewer yX2_isNewer, Cond.code yX2_isNewer cX2_isNewer 3 (some .boolean), Cond.methodLink RX2 112 yX3_number, Cond.instanceMethod yX3_number, Cond.selects RX3 yX3_number yX3_number, Cond.code yX3_number cX3_number 1 (some .int), Cond.methodLink RX2 74 yX2_throwOldAway, Cond.instanceMethod yX2_throwOldAway, Cond.selects RX2 yX2_throwOldAway yX2_throwOldAway, Cond.code yX2_throwOldAway cX2_throwOldAway 3 none, Cond.methodLink RX4 167 yX2_sheets]
def wsX4_foresee_r6 : List Cond := [Cond.instanceMethod yX2_sheets, Cond.selects RX2 yX2_sheets yX2_sheets, Cond.code yX2_sheets cX2_sheets 3 (some .int), Cond.methodLink RX2 55 yX2_sheetsOf, Cond.instanceMethod yX2_sheetsOf, Cond.selects RX2 yX2_sheetsOf yX2_sheetsOf, Cond.code yX2_sheetsOf cX2_sheetsOf 4 (some .int), Cond.methodLink RX4 170 yX2_reachedPairs, Cond.instanceMethod yX2_reachedPairs, Cond.selects RX2 yX2_reachedPairs yX2_reachedPairs, Cond.code yX2_reachedPairs cX2_reachedPairs 4 (some .int), Cond.methodLink RX2 146 yX2_letter, Cond.instanceMethod yX2_letter, Cond.selects RX2 yX2_letter yX2_letter, Cond.code yX2_letter cX2_letter 6 (some .int), Cond.constant RX2 142 (1073741824), Cond.methodLink RX2 139 yX2_knownWay, Cond.instanceMethod yX2_knownWay, Cond.selects RX2 yX2_knownWay yX2_knownWay, Cond.code yX2_knownWay cX2_knownWay 3 (some .int), Cond.fieldLink RX2 24 "PassNotes$Notes" "ways" "[[I", Cond.methodLink RX2 121 yX2_findWays, Cond.instanceMethod yX2_findWays, Cond.selects RX2 yX2_findWays yX2_findWays]
def wsX4_foresee_r7 : List Cond := [Cond.code yX2_findWays cX2_findWays 7 none, Cond.fieldLink RX2 12 "PassNotes$Notes" "chart" "LPassNotes$Chart;", Cond.methodLink RX2 125 yX0_clear, Cond.instanceMethod yX0_clear, Cond.selects RX0 yX0_clear yX0_clear, Cond.initialized RX0, Cond.code yX0_clear cX0_clear 1 none, Cond.fieldLink RX0 21 "PassNotes$Chart" "steps" "I", Cond.methodLink RX2 115 yX3_tells, Cond.instanceMethod yX3_tells, Cond.selects RX3 yX3_tells yX3_tells, Cond.code yX3_tells cX3_tells 2 (some .boolean), Cond.methodLink RX2 128 yX3_length, Cond.instanceMethod yX3_length, Cond.selects RX3 yX3_length yX3_length, Cond.code yX3_length cX3_length 2 (some .int), Cond.methodLink RX2 131 yX0_addStep, Cond.instanceMethod yX0_addStep, Cond.selects RX0 yX0_addStep yX0_addStep, Cond.code yX0_addStep cX0_addStep 4 none, Cond.fieldLink RX0 9 "PassNotes$Chart" "froms" "[I", Cond.fieldLink RX0 15 "PassNotes$Chart" "tos" "[I", Cond.fieldLink RX0 18 "PassNotes$Chart" "lengths" "[I", Cond.methodLink RX2 135 yX0_search]
def wsX4_foresee_r8 : List Cond := [Cond.instanceMethod yX0_search, Cond.selects RX0 yX0_search yX0_search, Cond.code yX0_search cX0_search 7 none, Cond.constant RX0 25 (1073741824), Cond.methodLink RX2 143 yX1_isStep, Cond.instanceMethod yX1_isStep, Cond.selects RX1 yX1_isStep yX1_isStep, Cond.code yX1_isStep cX1_isStep 6 (some .boolean)]
def wsX4_foresee : List Cond := .code yX4_foresee cX4_foresee 3 (some .int) :: ((wsX4_foresee_r1 ++ (wsX4_foresee_r2 ++ (wsX4_foresee_r3 ++ (wsX4_foresee_r4 ++ (wsX4_foresee_r5 ++ (wsX4_foresee_r6 ++ (wsX4_foresee_r7 ++ wsX4_foresee_r8))))))) ++ wsX40 ++ wsX20 ++ wsX30 ++ wsX10 ++ wsX00 ++ (vx_atS RX4 148 "java/lang/IndexOutOfBoundsException" ["java/lang/RuntimeException", "java/lang/Exception"]).filter goodWord ++ (vx_atS RX4 43 "java/lang/IllegalArgumentException" ["java/lang/RuntimeException", "java/lang/Exception"]).filter goodWord)
def wsX4_settles_r1 : List Cond := [Cond.fieldLink RX4 10 "PassNotes" "land" "LPassNotes$Land;", Cond.fieldLink RX4 21 "PassNotes" "now" "LPassNotes$Notes;", Cond.fieldLink RX4 25 "PassNotes" "later" "LPassNotes$Notes;", Cond.methodLink RX4 173 yX1_joinedPairs, Cond.instanceMethod yX1_joinedPairs, Cond.selects RX1 yX1_joinedPairs yX1_joinedPairs, Cond.initialized RX1, Cond.code yX1_joinedPairs cX1_joinedPairs 7 (some .int), Cond.fieldLink RX1 28 "PassNotes$Land" "huts" "I", Cond.methodLink RX1 44 yX1_groupOf, Cond.instanceMethod yX1_groupOf, Cond.selects RX1 yX1_groupOf yX1_groupOf, Cond.code yX1_groupOf cX1_groupOf 9 (some .int), Cond.fieldLink RX1 32 "PassNotes$Land" "passes" "I", Cond.fieldLink RX1 15 "PassNotes$Land" "firsts" "[I", Cond.fieldLink RX1 18 "PassNotes$Land" "seconds" "[I", Cond.fieldLink RX1 24 "PassNotes$Land" "opens" "[Z", Cond.methodLink RX1 48 yJ6_bitCount_0f7a4, Cond.static yJ6_bitCount_0f7a4, Cond.initialized RJ6, Cond.code yJ6_bitCount_0f7a4 cJ6_bitCount_0f7a4 1 (some .int), Cond.constant RJ6 265 (1431655765), Cond.constant RJ6 266 (858993459), Cond.constant RJ6 267 (252645135)]
def wsX4_settles_r2 : List Cond := [Cond.methodLink RX4 170 yX2_reachedPairs, Cond.instanceMethod yX2_reachedPairs, Cond.selects RX2 yX2_reachedPairs yX2_reachedPairs, Cond.initialized RX2, Cond.code yX2_reachedPairs cX2_reachedPairs 4 (some .int), Cond.fieldLink RX2 40 "PassNotes$Notes" "land" "LPassNotes$Land;", Cond.methodLink RX2 59 yX1_huts, Cond.instanceMethod yX1_huts, Cond.selects RX1 yX1_huts yX1_huts, Cond.code yX1_huts cX1_huts 1 (some .int), Cond.methodLink RX2 146 yX2_letter, Cond.instanceMethod yX2_letter, Cond.selects RX2 yX2_letter yX2_letter, Cond.code yX2_letter cX2_letter 6 (some .int), Cond.constant RX2 142 (1073741824), Cond.methodLink RX2 139 yX2_knownWay, Cond.instanceMethod yX2_knownWay, Cond.selects RX2 yX2_knownWay yX2_knownWay, Cond.code yX2_knownWay cX2_knownWay 3 (some .int), Cond.fieldLink RX2 27 "PassNotes$Notes" "waysFound" "[Z", Cond.fieldLink RX2 24 "PassNotes$Notes" "ways" "[[I", Cond.methodLink RX2 121 yX2_findWays, Cond.instanceMethod yX2_findWays, Cond.selects RX2 yX2_findWays yX2_findWays]
def wsX4_settles_r3 : List Cond := [Cond.code yX2_findWays cX2_findWays 7 none, Cond.fieldLink RX2 12 "PassNotes$Notes" "chart" "LPassNotes$Chart;", Cond.fieldLink RX2 33 "PassNotes$Notes" "held" "[LPassNotes$Sheet;", Cond.methodLink RX2 125 yX0_clear, Cond.instanceMethod yX0_clear, Cond.selects RX0 yX0_clear yX0_clear, Cond.initialized RX0, Cond.code yX0_clear cX0_clear 1 none, Cond.fieldLink RX0 21 "PassNotes$Chart" "steps" "I", Cond.methodLink RX2 88 yX1_passes, Cond.instanceMethod yX1_passes, Cond.selects RX1 yX1_passes yX1_passes, Cond.code yX1_passes cX1_passes 1 (some .int), Cond.methodLink RX2 94 yX1_first, Cond.instanceMethod yX1_first, Cond.selects RX1 yX1_first yX1_first, Cond.code yX1_first cX1_first 2 (some .int), Cond.methodLink RX2 97 yX1_second, Cond.instanceMethod yX1_second, Cond.selects RX1 yX1_second yX1_second, Cond.code yX1_second cX1_second 2 (some .int), Cond.methodLink RX2 51 yX2_slot, Cond.static yX2_slot, Cond.code yX2_slot cX2_slot 2 (some .int)]
def wsX4_settles_r4 : List Cond := [Cond.methodLink RX2 115 yX3_tells, Cond.instanceMethod yX3_tells, Cond.selects RX3 yX3_tells yX3_tells, Cond.initialized RX3, Cond.code yX3_tells cX3_tells 2 (some .boolean), Cond.fieldLink RX3 9 "PassNotes$Sheet" "lengths" "[I", Cond.methodLink RX2 128 yX3_length, Cond.instanceMethod yX3_length, Cond.selects RX3 yX3_length yX3_length, Cond.code yX3_length cX3_length 2 (some .int), Cond.methodLink RX2 131 yX0_addStep, Cond.instanceMethod yX0_addStep, Cond.selects RX0 yX0_addStep yX0_addStep, Cond.code yX0_addStep cX0_addStep 4 none, Cond.fieldLink RX0 9 "PassNotes$Chart" "froms" "[I", Cond.fieldLink RX0 15 "PassNotes$Chart" "tos" "[I", Cond.fieldLink RX0 18 "PassNotes$Chart" "lengths" "[I", Cond.methodLink RX2 135 yX0_search, Cond.instanceMethod yX0_search, Cond.selects RX0 yX0_search yX0_search, Cond.code yX0_search cX0_search 7 none, Cond.constant RX0 25 (1073741824), Cond.methodLink RX2 143 yX1_isStep, Cond.instanceMethod yX1_isStep]
def wsX4_settles_r5 : List Cond := [Cond.selects RX1 yX1_isStep yX1_isStep, Cond.code yX1_isStep cX1_isStep 6 (some .boolean), Cond.methodLink RX4 186 yX2_copy, Cond.instanceMethod yX2_copy, Cond.selects RX2 yX2_copy yX2_copy, Cond.code yX2_copy cX2_copy 3 none, Cond.fieldLink RX2 44 "PassNotes$Notes" "minute" "I", Cond.fieldLink RX2 18 "PassNotes$Notes" "wrote" "[I", Cond.methodLink RX2 48 yX2_forgetWays, Cond.instanceMethod yX2_forgetWays, Cond.selects RX2 yX2_forgetWays yX2_forgetWays, Cond.code yX2_forgetWays cX2_forgetWays 2 none, Cond.methodLink RX4 181 yX2_passMinutes, Cond.instanceMethod yX2_passMinutes, Cond.selects RX2 yX2_passMinutes yX2_passMinutes, Cond.code yX2_passMinutes cX2_passMinutes 4 (some .int), Cond.methodLink RX2 68 yX2_writeSheets, Cond.instanceMethod yX2_writeSheets, Cond.selects RX2 yX2_writeSheets yX2_writeSheets, Cond.code yX2_writeSheets cX2_writeSheets 3 (some .int), Cond.classLink RX2 31 RX3, Cond.instantiable RX3 3, Cond.methodLink RX2 77 yX2_mustWrite, Cond.instanceMethod yX2_mustWrite]
def wsX4_settles_r6 : List Cond := [Cond.selects RX2 yX2_mustWrite yX2_mustWrite, Cond.code yX2_mustWrite cX2_mustWrite 3 (some .boolean), Cond.methodLink RX2 65 yX3_age, Cond.instanceMethod yX3_age, Cond.selects RX3 yX3_age yX3_age, Cond.code yX3_age cX3_age 2 (some .int), Cond.fieldLink RX3 19 "PassNotes$Sheet" "written" "I", Cond.methodLink RX2 84 yX3_tellsAsNow, Cond.instanceMethod yX3_tellsAsNow, Cond.selects RX3 yX3_tellsAsNow yX3_tellsAsNow, Cond.code yX3_tellsAsNow cX3_tellsAsNow 4 (some .boolean), Cond.methodLink RX3 22 yX1_passes, Cond.methodLink RX3 28 yX1_tellsNow, Cond.instanceMethod yX1_tellsNow, Cond.selects RX1 yX1_tellsNow yX1_tellsNow, Cond.code yX1_tellsNow cX1_tellsNow 4 (some .int), Cond.fieldLink RX1 21 "PassNotes$Land" "lengths" "[I", Cond.methodLink RX2 81 yX3_init, Cond.instanceMethod yX3_init, Cond.code yX3_init cX3_init 6 none, Cond.methodLink RX3 3 objectInit, Cond.instanceMethod objectInit, Cond.code objectInit ⟨#[0xb1]⟩ 1 none, Cond.arrayClass .int]
def wsX4_settles_r7 : List Cond := [Cond.fieldLink RX3 15 "PassNotes$Sheet" "number" "I", Cond.methodLink RX2 71 yX2_carrySheets, Cond.instanceMethod yX2_carrySheets, Cond.selects RX2 yX2_carrySheets yX2_carrySheets, Cond.code yX2_carrySheets cX2_carrySheets 2 none, Cond.fieldLink RX2 37 "PassNotes$Notes" "carried" "[LPassNotes$Sheet;", Cond.methodLink RX2 91 yX1_isOpen, Cond.instanceMethod yX1_isOpen, Cond.selects RX1 yX1_isOpen yX1_isOpen, Cond.code yX1_isOpen cX1_isOpen 2 (some .boolean), Cond.methodLink RX2 100 yX2_carry, Cond.instanceMethod yX2_carry, Cond.selects RX2 yX2_carry yX2_carry, Cond.code yX2_carry cX2_carry 5 none, Cond.methodLink RX2 104 yX1_takesIn, Cond.instanceMethod yX1_takesIn, Cond.selects RX1 yX1_takesIn yX1_takesIn, Cond.code yX1_takesIn cX1_takesIn 3 (some .boolean), Cond.fieldLink RX1 9 "PassNotes$Land" "areas" "[I", Cond.methodLink RX2 108 yX2_isNewer, Cond.instanceMethod yX2_isNewer, Cond.selects RX2 yX2_isNewer yX2_isNewer, Cond.code yX2_isNewer cX2_isNewer 3 (some .boolean), Cond.methodLink RX2 112 yX3_number]
def wsX4_settles_r8 : List Cond := [Cond.instanceMethod yX3_number, Cond.selects RX3 yX3_number yX3_number, Cond.code yX3_number cX3_number 1 (some .int), Cond.methodLink RX2 74 yX2_throwOldAway, Cond.instanceMethod yX2_throwOldAway, Cond.selects RX2 yX2_throwOldAway yX2_throwOldAway, Cond.code yX2_throwOldAway cX2_throwOldAway 3 none]
def wsX4_settles : List Cond := .code yX4_settles cX4_settles 3 (some .int) :: ((wsX4_settles_r1 ++ (wsX4_settles_r2 ++ (wsX4_settles_r3 ++ (wsX4_settles_r4 ++ (wsX4_settles_r5 ++ (wsX4_settles_r6 ++ (wsX4_settles_r7 ++ wsX4_settles_r8))))))) ++ wsX40 ++ wsX10 ++ wsX20 ++ wsX00 ++ wsX30)
def wsX4_advise_r1 : List Cond := [Cond.fieldLink RX4 10 "PassNotes" "land" "LPassNotes$Land;", Cond.methodLink RX4 68 yX1_passes, Cond.instanceMethod yX1_passes, Cond.selects RX1 yX1_passes yX1_passes, Cond.initialized RX1, Cond.code yX1_passes cX1_passes 1 (some .int), Cond.fieldLink RX1 32 "PassNotes$Land" "passes" "I", Cond.methodLink RX4 137 yX1_isOpen, Cond.instanceMethod yX1_isOpen, Cond.selects RX1 yX1_isOpen yX1_isOpen, Cond.code yX1_isOpen cX1_isOpen 2 (some .boolean), Cond.fieldLink RX1 24 "PassNotes$Land" "opens" "[Z", Cond.methodLink RX4 173 yX1_joinedPairs, Cond.instanceMethod yX1_joinedPairs, Cond.selects RX1 yX1_joinedPairs yX1_joinedPairs, Cond.code yX1_joinedPairs cX1_joinedPairs 7 (some .int), Cond.fieldLink RX1 28 "PassNotes$Land" "huts" "I", Cond.methodLink RX1 44 yX1_groupOf, Cond.instanceMethod yX1_groupOf, Cond.selects RX1 yX1_groupOf yX1_groupOf, Cond.code yX1_groupOf cX1_groupOf 9 (some .int), Cond.fieldLink RX1 15 "PassNotes$Land" "firsts" "[I", Cond.fieldLink RX1 18 "PassNotes$Land" "seconds" "[I", Cond.methodLink RX1 48 yJ6_bitCount_0f7a4]
def wsX4_advise_r2 : List Cond := [Cond.static yJ6_bitCount_0f7a4, Cond.initialized RJ6, Cond.code yJ6_bitCount_0f7a4 cJ6_bitCount_0f7a4 1 (some .int), Cond.constant RJ6 265 (1431655765), Cond.constant RJ6 266 (858993459), Cond.constant RJ6 267 (252645135)]
def wsX4_advise : List Cond := .code yX4_advise cX4_advise 5 (some .int) :: ((wsX4_advise_r1 ++ wsX4_advise_r2) ++ wsX40 ++ wsX10)
def wsX4_mean_r1 : List Cond := [Cond.fieldLink RX4 21 "PassNotes" "now" "LPassNotes$Notes;", Cond.methodLink RX4 167 yX2_sheets, Cond.instanceMethod yX2_sheets, Cond.selects RX2 yX2_sheets yX2_sheets, Cond.initialized RX2, Cond.code yX2_sheets cX2_sheets 3 (some .int), Cond.fieldLink RX2 40 "PassNotes$Notes" "land" "LPassNotes$Land;", Cond.methodLink RX2 59 yX1_huts, Cond.instanceMethod yX1_huts, Cond.selects RX1 yX1_huts yX1_huts, Cond.initialized RX1, Cond.code yX1_huts cX1_huts 1 (some .int), Cond.fieldLink RX1 28 "PassNotes$Land" "huts" "I", Cond.methodLink RX2 55 yX2_sheetsOf, Cond.instanceMethod yX2_sheetsOf, Cond.selects RX2 yX2_sheetsOf yX2_sheetsOf, Cond.code yX2_sheetsOf cX2_sheetsOf 4 (some .int), Cond.fieldLink RX2 33 "PassNotes$Notes" "held" "[LPassNotes$Sheet;", Cond.methodLink RX2 51 yX2_slot, Cond.static yX2_slot, Cond.code yX2_slot cX2_slot 2 (some .int), Cond.methodLink RX4 190 yX2_ages, Cond.instanceMethod yX2_ages, Cond.selects RX2 yX2_ages yX2_ages]
def wsX4_mean_r2 : List Cond := [Cond.code yX2_ages cX2_ages 4 (some .int), Cond.fieldLink RX2 44 "PassNotes$Notes" "minute" "I", Cond.methodLink RX2 65 yX3_age, Cond.instanceMethod yX3_age, Cond.selects RX3 yX3_age yX3_age, Cond.initialized RX3, Cond.code yX3_age cX3_age 2 (some .int), Cond.fieldLink RX3 19 "PassNotes$Sheet" "written" "I"]
def wsX4_mean : List Cond := .code yX4_mean cX4_mean 2 (some .double) :: ((wsX4_mean_r1 ++ wsX4_mean_r2) ++ wsX40 ++ wsX20 ++ wsX10 ++ wsX30)
def wsX4_digestOfPair_r1 : List Cond := [Cond.constantLong RX4 195 (31), Cond.methodLink RX4 210 yX4_sheet, Cond.instanceMethod yX4_sheet, Cond.selects RX4 yX4_sheet yX4_sheet, Cond.initialized RX4, Cond.code yX4_sheet cX4_sheet 5 (some .int), Cond.fieldLink RX4 21 "PassNotes" "now" "LPassNotes$Notes;", Cond.methodLink RX4 59 yX4_checkHut, Cond.instanceMethod yX4_checkHut, Cond.selects RX4 yX4_checkHut yX4_checkHut, Cond.code yX4_checkHut cX4_checkHut 2 none, Cond.classLink RX4 144 "java/lang/IndexOutOfBoundsException", Cond.initialized "java/lang/IndexOutOfBoundsException", Cond.fieldLink RX4 10 "PassNotes" "land" "LPassNotes$Land;", Cond.methodLink RX4 46 yX1_huts, Cond.instanceMethod yX1_huts, Cond.selects RX1 yX1_huts yX1_huts, Cond.initialized RX1, Cond.code yX1_huts cX1_huts 1 (some .int), Cond.fieldLink RX1 28 "PassNotes$Land" "huts" "I", Cond.methodLink RX4 91 yX4_checkWhat, Cond.instanceMethod yX4_checkWhat, Cond.selects RX4 yX4_checkWhat yX4_checkWhat, Cond.code yX4_checkWhat cX4_checkWhat 3 none]
def wsX4_digestOfPair_r2 : List Cond := [Cond.methodLink RX4 95 yX2_held, Cond.instanceMethod yX2_held, Cond.selects RX2 yX2_held yX2_held, Cond.initialized RX2, Cond.code yX2_held cX2_held 3 (some (.object "PassNotes$Sheet")), Cond.fieldLink RX2 33 "PassNotes$Notes" "held" "[LPassNotes$Sheet;", Cond.methodLink RX2 51 yX2_slot, Cond.static yX2_slot, Cond.code yX2_slot cX2_slot 2 (some .int), Cond.methodLink RX4 99 yX3_number, Cond.instanceMethod yX3_number, Cond.selects RX3 yX3_number yX3_number, Cond.initialized RX3, Cond.code yX3_number cX3_number 1 (some .int), Cond.fieldLink RX3 15 "PassNotes$Sheet" "number" "I", Cond.methodLink RX4 104 yX2_minute, Cond.instanceMethod yX2_minute, Cond.selects RX2 yX2_minute yX2_minute, Cond.code yX2_minute cX2_minute 1 (some .int), Cond.fieldLink RX2 44 "PassNotes$Notes" "minute" "I", Cond.methodLink RX4 107 yX3_age, Cond.instanceMethod yX3_age, Cond.selects RX3 yX3_age yX3_age, Cond.code yX3_age cX3_age 2 (some .int)]
def wsX4_digestOfPair_r3 : List Cond := [Cond.fieldLink RX3 19 "PassNotes$Sheet" "written" "I", Cond.methodLink RX4 110 yX3_passesTold, Cond.instanceMethod yX3_passesTold, Cond.selects RX3 yX3_passesTold yX3_passesTold, Cond.code yX3_passesTold cX3_passesTold 3 (some .int), Cond.fieldLink RX3 9 "PassNotes$Sheet" "lengths" "[I", Cond.methodLink RX3 32 yX3_tells, Cond.instanceMethod yX3_tells, Cond.selects RX3 yX3_tells yX3_tells, Cond.code yX3_tells cX3_tells 2 (some .boolean), Cond.methodLink RX4 213 yX4_way, Cond.instanceMethod yX4_way, Cond.selects RX4 yX4_way yX4_way, Cond.code yX4_way cX4_way 5 (some .int), Cond.constant RX4 116 (1073741824), Cond.methodLink RX4 113 yX2_knownWay, Cond.instanceMethod yX2_knownWay, Cond.selects RX2 yX2_knownWay yX2_knownWay, Cond.code yX2_knownWay cX2_knownWay 3 (some .int), Cond.fieldLink RX2 27 "PassNotes$Notes" "waysFound" "[Z", Cond.fieldLink RX2 24 "PassNotes$Notes" "ways" "[[I", Cond.methodLink RX2 121 yX2_findWays, Cond.instanceMethod yX2_findWays, Cond.selects RX2 yX2_findWays yX2_findWays]
def wsX4_digestOfPair_r4 : List Cond := [Cond.code yX2_findWays cX2_findWays 7 none, Cond.fieldLink RX2 12 "PassNotes$Notes" "chart" "LPassNotes$Chart;", Cond.fieldLink RX2 40 "PassNotes$Notes" "land" "LPassNotes$Land;", Cond.methodLink RX2 125 yX0_clear, Cond.instanceMethod yX0_clear, Cond.selects RX0 yX0_clear yX0_clear, Cond.initialized RX0, Cond.code yX0_clear cX0_clear 1 none, Cond.fieldLink RX0 21 "PassNotes$Chart" "steps" "I", Cond.methodLink RX2 88 yX1_passes, Cond.instanceMethod yX1_passes, Cond.selects RX1 yX1_passes yX1_passes, Cond.code yX1_passes cX1_passes 1 (some .int), Cond.fieldLink RX1 32 "PassNotes$Land" "passes" "I", Cond.methodLink RX2 94 yX1_first, Cond.instanceMethod yX1_first, Cond.selects RX1 yX1_first yX1_first, Cond.code yX1_first cX1_first 2 (some .int), Cond.fieldLink RX1 15 "PassNotes$Land" "firsts" "[I", Cond.methodLink RX2 97 yX1_second, Cond.instanceMethod yX1_second, Cond.selects RX1 yX1_second yX1_second, Cond.code yX1_second cX1_second 2 (some .int), Cond.fieldLink RX1 18 "PassNotes$Land" "seconds" "[I"]
def wsX4_digestOfPair_r5 : List Cond := [Cond.methodLink RX2 115 yX3_tells, Cond.methodLink RX2 128 yX3_length, Cond.instanceMethod yX3_length, Cond.selects RX3 yX3_length yX3_length, Cond.code yX3_length cX3_length 2 (some .int), Cond.methodLink RX2 131 yX0_addStep, Cond.instanceMethod yX0_addStep, Cond.selects RX0 yX0_addStep yX0_addStep, Cond.code yX0_addStep cX0_addStep 4 none, Cond.fieldLink RX0 9 "PassNotes$Chart" "froms" "[I", Cond.fieldLink RX0 15 "PassNotes$Chart" "tos" "[I", Cond.fieldLink RX0 18 "PassNotes$Chart" "lengths" "[I", Cond.methodLink RX2 135 yX0_search, Cond.instanceMethod yX0_search, Cond.selects RX0 yX0_search yX0_search, Cond.code yX0_search cX0_search 7 none, Cond.constant RX0 25 (1073741824)]
def wsX4_digestOfPair : List Cond := .code yX4_digestOfPair cX4_digestOfPair 8 (some .long) :: ((wsX4_digestOfPair_r1 ++ (wsX4_digestOfPair_r2 ++ (wsX4_digestOfPair_r3 ++ (wsX4_digestOfPair_r4 ++ wsX4_digestOfPair_r5)))) ++ wsX40 ++ wsX10 ++ wsX20 ++ wsX30 ++ wsX00 ++ (vx_atS RX4 148 "java/lang/IndexOutOfBoundsException" ["java/lang/RuntimeException", "java/lang/Exception"]).filter goodWord)
def wsX4_digest_r1 : List Cond := [Cond.constantLong RX4 193 (1627), Cond.constantLong RX4 195 (31), Cond.fieldLink RX4 10 "PassNotes" "land" "LPassNotes$Land;", Cond.methodLink RX4 197 yX4_count, Cond.instanceMethod yX4_count, Cond.selects RX4 yX4_count yX4_count, Cond.initialized RX4, Cond.code yX4_count cX4_count 2 (some .int), Cond.classLink RX4 144 "java/lang/IndexOutOfBoundsException", Cond.initialized "java/lang/IndexOutOfBoundsException", Cond.fieldLink RX4 21 "PassNotes" "now" "LPassNotes$Notes;", Cond.methodLink RX4 104 yX2_minute, Cond.instanceMethod yX2_minute, Cond.selects RX2 yX2_minute yX2_minute, Cond.initialized RX2, Cond.code yX2_minute cX2_minute 1 (some .int), Cond.fieldLink RX2 44 "PassNotes$Notes" "minute" "I", Cond.methodLink RX4 46 yX1_huts, Cond.instanceMethod yX1_huts, Cond.selects RX1 yX1_huts yX1_huts, Cond.initialized RX1, Cond.code yX1_huts cX1_huts 1 (some .int), Cond.fieldLink RX1 28 "PassNotes$Land" "huts" "I", Cond.methodLink RX4 68 yX1_passes]
def wsX4_digest_r2 : List Cond := [Cond.instanceMethod yX1_passes, Cond.selects RX1 yX1_passes yX1_passes, Cond.code yX1_passes cX1_passes 1 (some .int), Cond.fieldLink RX1 32 "PassNotes$Land" "passes" "I", Cond.methodLink RX4 164 yX1_openPasses, Cond.instanceMethod yX1_openPasses, Cond.selects RX1 yX1_openPasses yX1_openPasses, Cond.code yX1_openPasses cX1_openPasses 3 (some .int), Cond.fieldLink RX1 24 "PassNotes$Land" "opens" "[Z", Cond.methodLink RX4 167 yX2_sheets, Cond.instanceMethod yX2_sheets, Cond.selects RX2 yX2_sheets yX2_sheets, Cond.code yX2_sheets cX2_sheets 3 (some .int), Cond.fieldLink RX2 40 "PassNotes$Notes" "land" "LPassNotes$Land;", Cond.methodLink RX2 59 yX1_huts, Cond.methodLink RX2 55 yX2_sheetsOf, Cond.instanceMethod yX2_sheetsOf, Cond.selects RX2 yX2_sheetsOf yX2_sheetsOf, Cond.code yX2_sheetsOf cX2_sheetsOf 4 (some .int), Cond.fieldLink RX2 33 "PassNotes$Notes" "held" "[LPassNotes$Sheet;", Cond.methodLink RX2 51 yX2_slot, Cond.static yX2_slot, Cond.code yX2_slot cX2_slot 2 (some .int), Cond.methodLink RX4 170 yX2_reachedPairs]
def wsX4_digest_r3 : List Cond := [Cond.instanceMethod yX2_reachedPairs, Cond.selects RX2 yX2_reachedPairs yX2_reachedPairs, Cond.code yX2_reachedPairs cX2_reachedPairs 4 (some .int), Cond.methodLink RX2 146 yX2_letter, Cond.instanceMethod yX2_letter, Cond.selects RX2 yX2_letter yX2_letter, Cond.code yX2_letter cX2_letter 6 (some .int), Cond.constant RX2 142 (1073741824), Cond.methodLink RX2 139 yX2_knownWay, Cond.instanceMethod yX2_knownWay, Cond.selects RX2 yX2_knownWay yX2_knownWay, Cond.code yX2_knownWay cX2_knownWay 3 (some .int), Cond.fieldLink RX2 27 "PassNotes$Notes" "waysFound" "[Z", Cond.fieldLink RX2 24 "PassNotes$Notes" "ways" "[[I", Cond.methodLink RX2 121 yX2_findWays, Cond.instanceMethod yX2_findWays, Cond.selects RX2 yX2_findWays yX2_findWays, Cond.code yX2_findWays cX2_findWays 7 none, Cond.fieldLink RX2 12 "PassNotes$Notes" "chart" "LPassNotes$Chart;", Cond.methodLink RX2 125 yX0_clear, Cond.instanceMethod yX0_clear, Cond.selects RX0 yX0_clear yX0_clear, Cond.initialized RX0, Cond.code yX0_clear cX0_clear 1 none]
def wsX4_digest_r4 : List Cond := [Cond.fieldLink RX0 21 "PassNotes$Chart" "steps" "I", Cond.methodLink RX2 88 yX1_passes, Cond.methodLink RX2 94 yX1_first, Cond.instanceMethod yX1_first, Cond.selects RX1 yX1_first yX1_first, Cond.code yX1_first cX1_first 2 (some .int), Cond.fieldLink RX1 15 "PassNotes$Land" "firsts" "[I", Cond.methodLink RX2 97 yX1_second, Cond.instanceMethod yX1_second, Cond.selects RX1 yX1_second yX1_second, Cond.code yX1_second cX1_second 2 (some .int), Cond.fieldLink RX1 18 "PassNotes$Land" "seconds" "[I", Cond.methodLink RX2 115 yX3_tells, Cond.instanceMethod yX3_tells, Cond.selects RX3 yX3_tells yX3_tells, Cond.initialized RX3, Cond.code yX3_tells cX3_tells 2 (some .boolean), Cond.fieldLink RX3 9 "PassNotes$Sheet" "lengths" "[I", Cond.methodLink RX2 128 yX3_length, Cond.instanceMethod yX3_length, Cond.selects RX3 yX3_length yX3_length, Cond.code yX3_length cX3_length 2 (some .int), Cond.methodLink RX2 131 yX0_addStep, Cond.instanceMethod yX0_addStep]
def wsX4_digest_r5 : List Cond := [Cond.selects RX0 yX0_addStep yX0_addStep, Cond.code yX0_addStep cX0_addStep 4 none, Cond.fieldLink RX0 9 "PassNotes$Chart" "froms" "[I", Cond.fieldLink RX0 15 "PassNotes$Chart" "tos" "[I", Cond.fieldLink RX0 18 "PassNotes$Chart" "lengths" "[I", Cond.methodLink RX2 135 yX0_search, Cond.instanceMethod yX0_search, Cond.selects RX0 yX0_search yX0_search, Cond.code yX0_search cX0_search 7 none, Cond.constant RX0 25 (1073741824), Cond.methodLink RX2 143 yX1_isStep, Cond.instanceMethod yX1_isStep, Cond.selects RX1 yX1_isStep yX1_isStep, Cond.code yX1_isStep cX1_isStep 6 (some .boolean), Cond.methodLink RX4 173 yX1_joinedPairs, Cond.instanceMethod yX1_joinedPairs, Cond.selects RX1 yX1_joinedPairs yX1_joinedPairs, Cond.code yX1_joinedPairs cX1_joinedPairs 7 (some .int), Cond.methodLink RX1 44 yX1_groupOf, Cond.instanceMethod yX1_groupOf, Cond.selects RX1 yX1_groupOf yX1_groupOf, Cond.code yX1_groupOf cX1_groupOf 9 (some .int), Cond.methodLink RX1 48 yJ6_bitCount_0f7a4, Cond.static yJ6_bitCount_0f7a4]
def wsX4_digest_r6 : List Cond := [Cond.initialized RJ6, Cond.code yJ6_bitCount_0f7a4 cJ6_bitCount_0f7a4 1 (some .int), Cond.constant RJ6 265 (1431655765), Cond.constant RJ6 266 (858993459), Cond.constant RJ6 267 (252645135), Cond.methodLink RX4 200 yX4_told, Cond.instanceMethod yX4_told, Cond.selects RX4 yX4_told yX4_told, Cond.code yX4_told cX4_told 3 (some .int), Cond.methodLink RX4 59 yX4_checkHut, Cond.instanceMethod yX4_checkHut, Cond.selects RX4 yX4_checkHut yX4_checkHut, Cond.code yX4_checkHut cX4_checkHut 2 none, Cond.methodLink RX4 149 yX1_area, Cond.instanceMethod yX1_area, Cond.selects RX1 yX1_area yX1_area, Cond.code yX1_area cX1_area 2 (some .int), Cond.fieldLink RX1 9 "PassNotes$Land" "areas" "[I", Cond.methodLink RX4 152 yX2_sheetsOf, Cond.methodLink RX4 155 yX2_wroteInAll, Cond.instanceMethod yX2_wroteInAll, Cond.selects RX2 yX2_wroteInAll yX2_wroteInAll, Cond.code yX2_wroteInAll cX2_wroteInAll 2 (some .int), Cond.fieldLink RX2 18 "PassNotes$Notes" "wrote" "[I"]
def wsX4_digest_r7 : List Cond := [Cond.methodLink RX4 158 yX2_knownHuts, Cond.instanceMethod yX2_knownHuts, Cond.selects RX2 yX2_knownHuts yX2_knownHuts, Cond.code yX2_knownHuts cX2_knownHuts 4 (some .int), Cond.methodLink RX4 161 yX2_reachedHuts, Cond.instanceMethod yX2_reachedHuts, Cond.selects RX2 yX2_reachedHuts yX2_reachedHuts, Cond.code yX2_reachedHuts cX2_reachedHuts 4 (some .int), Cond.methodLink RX4 203 yX4_about, Cond.instanceMethod yX4_about, Cond.selects RX4 yX4_about yX4_about, Cond.code yX4_about cX4_about 3 (some .int), Cond.methodLink RX4 77 yX4_checkPass, Cond.instanceMethod yX4_checkPass, Cond.selects RX4 yX4_checkPass yX4_checkPass, Cond.code yX4_checkPass cX4_checkPass 2 none, Cond.methodLink RX4 128 yX1_first, Cond.methodLink RX4 131 yX1_second, Cond.methodLink RX4 134 yX1_length, Cond.instanceMethod yX1_length, Cond.selects RX1 yX1_length yX1_length, Cond.code yX1_length cX1_length 2 (some .int), Cond.fieldLink RX1 21 "PassNotes$Land" "lengths" "[I", Cond.methodLink RX4 137 yX1_isOpen]
def wsX4_digest_r8 : List Cond := [Cond.instanceMethod yX1_isOpen, Cond.selects RX1 yX1_isOpen yX1_isOpen, Cond.code yX1_isOpen cX1_isOpen 2 (some .boolean), Cond.methodLink RX4 141 yX2_takersForOpen, Cond.instanceMethod yX2_takersForOpen, Cond.selects RX2 yX2_takersForOpen yX2_takersForOpen, Cond.code yX2_takersForOpen cX2_takersForOpen 4 (some .int), Cond.methodLink RX2 118 yX2_takesForOpen, Cond.instanceMethod yX2_takesForOpen, Cond.selects RX2 yX2_takesForOpen yX2_takesForOpen, Cond.code yX2_takesForOpen cX2_takesForOpen 5 (some .boolean), Cond.methodLink RX4 206 yX4_digestOfPair, Cond.instanceMethod yX4_digestOfPair, Cond.selects RX4 yX4_digestOfPair yX4_digestOfPair, Cond.code yX4_digestOfPair cX4_digestOfPair 8 (some .long), Cond.methodLink RX4 210 yX4_sheet, Cond.instanceMethod yX4_sheet, Cond.selects RX4 yX4_sheet yX4_sheet, Cond.code yX4_sheet cX4_sheet 5 (some .int), Cond.methodLink RX4 91 yX4_checkWhat, Cond.instanceMethod yX4_checkWhat, Cond.selects RX4 yX4_checkWhat yX4_checkWhat, Cond.code yX4_checkWhat cX4_checkWhat 3 none, Cond.methodLink RX4 95 yX2_held]
def wsX4_digest_r9 : List Cond := [Cond.instanceMethod yX2_held, Cond.selects RX2 yX2_held yX2_held, Cond.code yX2_held cX2_held 3 (some (.object "PassNotes$Sheet")), Cond.methodLink RX4 99 yX3_number, Cond.instanceMethod yX3_number, Cond.selects RX3 yX3_number yX3_number, Cond.code yX3_number cX3_number 1 (some .int), Cond.fieldLink RX3 15 "PassNotes$Sheet" "number" "I", Cond.methodLink RX4 107 yX3_age, Cond.instanceMethod yX3_age, Cond.selects RX3 yX3_age yX3_age, Cond.code yX3_age cX3_age 2 (some .int), Cond.fieldLink RX3 19 "PassNotes$Sheet" "written" "I", Cond.methodLink RX4 110 yX3_passesTold, Cond.instanceMethod yX3_passesTold, Cond.selects RX3 yX3_passesTold yX3_passesTold, Cond.code yX3_passesTold cX3_passesTold 3 (some .int), Cond.methodLink RX3 32 yX3_tells, Cond.methodLink RX4 213 yX4_way, Cond.instanceMethod yX4_way, Cond.selects RX4 yX4_way yX4_way, Cond.code yX4_way cX4_way 5 (some .int), Cond.constant RX4 116 (1073741824), Cond.methodLink RX4 113 yX2_knownWay]
def wsX4_digest : List Cond := .code yX4_digest cX4_digest 5 (some .long) :: ((wsX4_digest_r1 ++ (wsX4_digest_r2 ++ (wsX4_digest_r3 ++ (wsX4_digest_r4 ++ (wsX4_digest_r5 ++ (wsX4_digest_r6 ++ (wsX4_digest_r7 ++ (wsX4_digest_r8 ++ wsX4_digest_r9)))))))) ++ wsX40 ++ wsX20 ++ wsX10 ++ wsX00 ++ wsX30 ++ (vx_atS RX4 148 "java/lang/IndexOutOfBoundsException" ["java/lang/RuntimeException", "java/lang/Exception"]).filter goodWord)
def wsX5_init : List Cond := .code yX5_init cX5_init 1 none :: ([.methodLink RX5 3 objectInit, .instanceMethod objectInit, .code objectInit ⟨#[0xb1]⟩ 1 none, .arrayClass .int, .fieldLink RX5 9 "PassNotesLaw$Sim" "areas" "[I", .fieldLink RX5 15 "PassNotesLaw$Sim" "wrote" "[I", .classLink RX5 18 "[[I", .fieldLink RX5 20 "PassNotesLaw$Sim" "sheets" "[[[I", .classLink RX5 24 "[I", .fieldLink RX5 25 "PassNotesLaw$Sim" "passes" "[[I"] ++ wsX50)
def wsX5_longer : List Cond := .code yX5_longer cX5_longer 4 (some (.array .int)) :: ([.arrayClass .int])
def wsX5_hut : List Cond := .code yX5_hut cX5_hut 6 none :: ([.fieldLink RX5 9 "PassNotesLaw$Sim" "areas" "[I", .fieldLink RX5 15 "PassNotesLaw$Sim" "wrote" "[I", .fieldLink RX5 20 "PassNotesLaw$Sim" "sheets" "[[[I", .methodLink RX5 37 yX5_longer, .static yX5_longer, .initialized RX5, .code yX5_longer cX5_longer 4 (some (.array .int)), .arrayClass .int] ++ wsX50)
def wsX5_pass : List Cond := .code yX5_pass cX5_pass 6 none :: ([.fieldLink RX5 25 "PassNotesLaw$Sim" "passes" "[[I", .classLink RX5 24 "[I", .arrayClass .int] ++ wsX50)
def wsX5_due : List Cond := .code yX5_due cX5_due 3 (some .int) :: ([.fieldLink RX5 25 "PassNotesLaw$Sim" "passes" "[[I"] ++ wsX50)
def wsX5_told : List Cond := .code yX5_told cX5_told 2 (some .int) :: ([])
def wsX5_isTrue : List Cond := .code yX5_isTrue cX5_isTrue 4 (some .boolean) :: ([.fieldLink RX5 20 "PassNotesLaw$Sim" "sheets" "[[[I", .fieldLink RX5 25 "PassNotesLaw$Sim" "passes" "[[I", .methodLink RX5 42 yX5_told, .static yX5_told, .initialized RX5, .code yX5_told cX5_told 2 (some .int), .methodLink RX5 46 yX5_due, .instanceMethod yX5_due, .selects RX5 yX5_due yX5_due, .code yX5_due cX5_due 3 (some .int)] ++ wsX50)
def wsX5_go : List Cond := .code yX5_go cX5_go 12 (some .int) :: ([.fieldLink RX5 9 "PassNotesLaw$Sim" "areas" "[I", .fieldLink RX5 20 "PassNotesLaw$Sim" "sheets" "[[[I", .fieldLink RX5 15 "PassNotesLaw$Sim" "wrote" "[I", .fieldLink RX5 25 "PassNotesLaw$Sim" "passes" "[[I", .arrayClass .int, .methodLink RX5 33 ⟨"[I", "clone", "()Ljava/lang/Object;"⟩, .sameMethod "[I" "java/lang/Object" "clone" "()Ljava/lang/Object;", .native ⟨"java/lang/Object", "clone", "()Ljava/lang/Object;"⟩, .instanceMethod ⟨"java/lang/Object", "clone", "()Ljava/lang/Object;"⟩, .selects "[I" ⟨"[I", "clone", "()Ljava/lang/Object;"⟩ ⟨"java/lang/Object", "clone", "()Ljava/lang/Object;"⟩, .classLink RX5 24 "[I", .fieldLink RX5 29 "PassNotesLaw$Sim" "minute" "I", .methodLink RX5 50 yX5_isTrue, .instanceMethod yX5_isTrue, .selects RX5 yX5_isTrue yX5_isTrue, .initialized RX5, .code yX5_isTrue cX5_isTrue 4 (some .boolean), .methodLink RX5 42 yX5_told, .static yX5_told, .code yX5_told cX5_told 2 (some .int), .methodLink RX5 46 yX5_due, .instanceMethod yX5_due, .selects RX5 yX5_due yX5_due, .code yX5_due cX5_due 3 (some .int)] ++ wsX50)
def wsX5_takes : List Cond := .code yX5_takes cX5_takes 3 (some .boolean) :: ([.fieldLink RX5 20 "PassNotesLaw$Sim" "sheets" "[[[I", .fieldLink RX5 25 "PassNotesLaw$Sim" "passes" "[[I", .methodLink RX5 42 yX5_told, .static yX5_told, .initialized RX5, .code yX5_told cX5_told 2 (some .int)] ++ wsX50)
def wsX5_step : List Cond := .code yX5_step cX5_step 4 (some .int) :: ([.fieldLink RX5 25 "PassNotesLaw$Sim" "passes" "[[I", .constant RX5 54 (99999999), .fieldLink RX5 20 "PassNotesLaw$Sim" "sheets" "[[[I", .methodLink RX5 64 yX5_takes, .instanceMethod yX5_takes, .selects RX5 yX5_takes yX5_takes, .initialized RX5, .code yX5_takes cX5_takes 3 (some .boolean), .methodLink RX5 42 yX5_told, .static yX5_told, .code yX5_told cX5_told 2 (some .int)] ++ wsX50)
def wsX5_far : List Cond := .code yX5_far cX5_far 8 (some (.array .int)) :: ([.fieldLink RX5 9 "PassNotesLaw$Sim" "areas" "[I", .arrayClass .int, .constant RX5 54 (99999999), .fieldLink RX5 25 "PassNotesLaw$Sim" "passes" "[[I", .methodLink RX5 59 Lib.Math.min.name, .static Lib.Math.min.name, .initialized "java/lang/Math", .code Lib.Math.min.name Lib.Math.min.code 2 (some .int), .methodLink RX5 55 yX5_step, .instanceMethod yX5_step, .selects RX5 yX5_step yX5_step, .initialized RX5, .code yX5_step cX5_step 4 (some .int), .fieldLink RX5 20 "PassNotesLaw$Sim" "sheets" "[[[I", .methodLink RX5 64 yX5_takes, .instanceMethod yX5_takes, .selects RX5 yX5_takes yX5_takes, .code yX5_takes cX5_takes 3 (some .boolean), .methodLink RX5 42 yX5_told, .static yX5_told, .code yX5_told cX5_told 2 (some .int)] ++ wsX50)
def wsX5_first_r1 : List Cond := [Cond.constant RX5 54 (99999999), Cond.fieldLink RX5 25 "PassNotesLaw$Sim" "passes" "[[I", Cond.methodLink RX5 68 yX5_far, Cond.instanceMethod yX5_far, Cond.selects RX5 yX5_far yX5_far, Cond.initialized RX5, Cond.code yX5_far cX5_far 8 (some (.array .int)), Cond.fieldLink RX5 9 "PassNotesLaw$Sim" "areas" "[I", Cond.arrayClass .int, Cond.methodLink RX5 59 Lib.Math.min.name, Cond.static Lib.Math.min.name, Cond.initialized "java/lang/Math", Cond.code Lib.Math.min.name Lib.Math.min.code 2 (some .int), Cond.methodLink RX5 55 yX5_step, Cond.instanceMethod yX5_step, Cond.selects RX5 yX5_step yX5_step, Cond.code yX5_step cX5_step 4 (some .int), Cond.fieldLink RX5 20 "PassNotesLaw$Sim" "sheets" "[[[I", Cond.methodLink RX5 64 yX5_takes, Cond.instanceMethod yX5_takes, Cond.selects RX5 yX5_takes yX5_takes, Cond.code yX5_takes cX5_takes 3 (some .boolean), Cond.methodLink RX5 42 yX5_told, Cond.static yX5_told]
def wsX5_first_r2 : List Cond := [Cond.code yX5_told cX5_told 2 (some .int)]
def wsX5_first : List Cond := .code yX5_first cX5_first 8 (some .int) :: ((wsX5_first_r1 ++ wsX5_first_r2) ++ wsX50)
def wsX5_post_r1 : List Cond := [Cond.fieldLink RX5 25 "PassNotesLaw$Sim" "passes" "[[I", Cond.methodLink RX5 72 yX5_first, Cond.instanceMethod yX5_first, Cond.selects RX5 yX5_first yX5_first, Cond.initialized RX5, Cond.code yX5_first cX5_first 8 (some .int), Cond.constant RX5 54 (99999999), Cond.methodLink RX5 68 yX5_far, Cond.instanceMethod yX5_far, Cond.selects RX5 yX5_far yX5_far, Cond.code yX5_far cX5_far 8 (some (.array .int)), Cond.fieldLink RX5 9 "PassNotesLaw$Sim" "areas" "[I", Cond.arrayClass .int, Cond.methodLink RX5 59 Lib.Math.min.name, Cond.static Lib.Math.min.name, Cond.initialized "java/lang/Math", Cond.code Lib.Math.min.name Lib.Math.min.code 2 (some .int), Cond.methodLink RX5 55 yX5_step, Cond.instanceMethod yX5_step, Cond.selects RX5 yX5_step yX5_step, Cond.code yX5_step cX5_step 4 (some .int), Cond.fieldLink RX5 20 "PassNotesLaw$Sim" "sheets" "[[[I", Cond.methodLink RX5 64 yX5_takes, Cond.instanceMethod yX5_takes]
def wsX5_post_r2 : List Cond := [Cond.selects RX5 yX5_takes yX5_takes, Cond.code yX5_takes cX5_takes 3 (some .boolean), Cond.methodLink RX5 42 yX5_told, Cond.static yX5_told, Cond.code yX5_told cX5_told 2 (some .int)]
def wsX5_post : List Cond := .code yX5_post cX5_post 11 (some .int) :: ((wsX5_post_r1 ++ wsX5_post_r2) ++ wsX50)
def wsX5_sheetsOf : List Cond := .code yX5_sheetsOf cX5_sheetsOf 7 (some .int) :: ([.fieldLink RX5 20 "PassNotesLaw$Sim" "sheets" "[[[I"] ++ wsX50)
def wsX5_allSheets : List Cond := .code yX5_allSheets cX5_allSheets 3 (some .int) :: ([.fieldLink RX5 9 "PassNotesLaw$Sim" "areas" "[I", .methodLink RX5 75 yX5_sheetsOf, .instanceMethod yX5_sheetsOf, .selects RX5 yX5_sheetsOf yX5_sheetsOf, .initialized RX5, .code yX5_sheetsOf cX5_sheetsOf 7 (some .int), .fieldLink RX5 20 "PassNotesLaw$Sim" "sheets" "[[[I"] ++ wsX50)
def wsX5_pairs_r1 : List Cond := [Cond.fieldLink RX5 9 "PassNotesLaw$Sim" "areas" "[I", Cond.constant RX5 54 (99999999), Cond.methodLink RX5 79 yX5_post, Cond.instanceMethod yX5_post, Cond.selects RX5 yX5_post yX5_post, Cond.initialized RX5, Cond.code yX5_post cX5_post 11 (some .int), Cond.fieldLink RX5 25 "PassNotesLaw$Sim" "passes" "[[I", Cond.methodLink RX5 72 yX5_first, Cond.instanceMethod yX5_first, Cond.selects RX5 yX5_first yX5_first, Cond.code yX5_first cX5_first 8 (some .int), Cond.methodLink RX5 68 yX5_far, Cond.instanceMethod yX5_far, Cond.selects RX5 yX5_far yX5_far, Cond.code yX5_far cX5_far 8 (some (.array .int)), Cond.arrayClass .int, Cond.methodLink RX5 59 Lib.Math.min.name, Cond.static Lib.Math.min.name, Cond.initialized "java/lang/Math", Cond.code Lib.Math.min.name Lib.Math.min.code 2 (some .int), Cond.methodLink RX5 55 yX5_step, Cond.instanceMethod yX5_step, Cond.selects RX5 yX5_step yX5_step]
def wsX5_pairs_r2 : List Cond := [Cond.code yX5_step cX5_step 4 (some .int), Cond.fieldLink RX5 20 "PassNotesLaw$Sim" "sheets" "[[[I", Cond.methodLink RX5 64 yX5_takes, Cond.instanceMethod yX5_takes, Cond.selects RX5 yX5_takes yX5_takes, Cond.code yX5_takes cX5_takes 3 (some .boolean), Cond.methodLink RX5 42 yX5_told, Cond.static yX5_told, Cond.code yX5_told cX5_told 2 (some .int)]
def wsX5_pairs : List Cond := .code yX5_pairs cX5_pairs 5 (some .int) :: ((wsX5_pairs_r1 ++ wsX5_pairs_r2) ++ wsX50)
def wsX5_isSame_r1 : List Cond := [Cond.fieldLink RX5 9 "PassNotesLaw$Sim" "areas" "[I", Cond.fieldLink RX5 20 "PassNotesLaw$Sim" "sheets" "[[[I", Cond.fieldLink RX5 25 "PassNotesLaw$Sim" "passes" "[[I", Cond.constant RX5 54 (99999999), Cond.arrayClass .int, Cond.fieldLink RX5 15 "PassNotesLaw$Sim" "wrote" "[I", Cond.fieldLink RX5 29 "PassNotesLaw$Sim" "minute" "I", Cond.methodLink RX5 42 yX5_told, Cond.static yX5_told, Cond.initialized RX5, Cond.code yX5_told cX5_told 2 (some .int), Cond.methodLink RX5 82 yX4_sheet, Cond.instanceMethod yX4_sheet, Cond.selects RX4 yX4_sheet yX4_sheet, Cond.initialized RX4, Cond.code yX4_sheet cX4_sheet 5 (some .int), Cond.fieldLink RX4 21 "PassNotes" "now" "LPassNotes$Notes;", Cond.methodLink RX4 59 yX4_checkHut, Cond.instanceMethod yX4_checkHut, Cond.selects RX4 yX4_checkHut yX4_checkHut, Cond.code yX4_checkHut cX4_checkHut 2 none, Cond.classLink RX4 144 "java/lang/IndexOutOfBoundsException", Cond.initialized "java/lang/IndexOutOfBoundsException", Cond.fieldLink RX4 10 "PassNotes" "land" "LPassNotes$Land;"]
def wsX5_isSame_r2 : List Cond := [Cond.methodLink RX4 46 yX1_huts, Cond.instanceMethod yX1_huts, Cond.selects RX1 yX1_huts yX1_huts, Cond.initialized RX1, Cond.code yX1_huts cX1_huts 1 (some .int), Cond.fieldLink RX1 28 "PassNotes$Land" "huts" "I", Cond.methodLink RX4 91 yX4_checkWhat, Cond.instanceMethod yX4_checkWhat, Cond.selects RX4 yX4_checkWhat yX4_checkWhat, Cond.code yX4_checkWhat cX4_checkWhat 3 none, Cond.methodLink RX4 95 yX2_held, Cond.instanceMethod yX2_held, Cond.selects RX2 yX2_held yX2_held, Cond.initialized RX2, Cond.code yX2_held cX2_held 3 (some (.object "PassNotes$Sheet")), Cond.fieldLink RX2 33 "PassNotes$Notes" "held" "[LPassNotes$Sheet;", Cond.methodLink RX2 51 yX2_slot, Cond.static yX2_slot, Cond.code yX2_slot cX2_slot 2 (some .int), Cond.methodLink RX4 99 yX3_number, Cond.instanceMethod yX3_number, Cond.selects RX3 yX3_number yX3_number, Cond.initialized RX3, Cond.code yX3_number cX3_number 1 (some .int)]
def wsX5_isSame_r3 : List Cond := [Cond.fieldLink RX3 15 "PassNotes$Sheet" "number" "I", Cond.methodLink RX4 104 yX2_minute, Cond.instanceMethod yX2_minute, Cond.selects RX2 yX2_minute yX2_minute, Cond.code yX2_minute cX2_minute 1 (some .int), Cond.fieldLink RX2 44 "PassNotes$Notes" "minute" "I", Cond.methodLink RX4 107 yX3_age, Cond.instanceMethod yX3_age, Cond.selects RX3 yX3_age yX3_age, Cond.code yX3_age cX3_age 2 (some .int), Cond.fieldLink RX3 19 "PassNotes$Sheet" "written" "I", Cond.methodLink RX4 110 yX3_passesTold, Cond.instanceMethod yX3_passesTold, Cond.selects RX3 yX3_passesTold yX3_passesTold, Cond.code yX3_passesTold cX3_passesTold 3 (some .int), Cond.fieldLink RX3 9 "PassNotes$Sheet" "lengths" "[I", Cond.methodLink RX3 32 yX3_tells, Cond.instanceMethod yX3_tells, Cond.selects RX3 yX3_tells yX3_tells, Cond.code yX3_tells cX3_tells 2 (some .boolean), Cond.methodLink RX5 68 yX5_far, Cond.instanceMethod yX5_far, Cond.selects RX5 yX5_far yX5_far, Cond.code yX5_far cX5_far 8 (some (.array .int))]
def wsX5_isSame_r4 : List Cond := [Cond.methodLink RX5 59 Lib.Math.min.name, Cond.static Lib.Math.min.name, Cond.initialized "java/lang/Math", Cond.code Lib.Math.min.name Lib.Math.min.code 2 (some .int), Cond.methodLink RX5 55 yX5_step, Cond.instanceMethod yX5_step, Cond.selects RX5 yX5_step yX5_step, Cond.code yX5_step cX5_step 4 (some .int), Cond.methodLink RX5 64 yX5_takes, Cond.instanceMethod yX5_takes, Cond.selects RX5 yX5_takes yX5_takes, Cond.code yX5_takes cX5_takes 3 (some .boolean), Cond.methodLink RX5 87 yX4_way, Cond.instanceMethod yX4_way, Cond.selects RX4 yX4_way yX4_way, Cond.code yX4_way cX4_way 5 (some .int), Cond.constant RX4 116 (1073741824), Cond.methodLink RX4 113 yX2_knownWay, Cond.instanceMethod yX2_knownWay, Cond.selects RX2 yX2_knownWay yX2_knownWay, Cond.code yX2_knownWay cX2_knownWay 3 (some .int), Cond.fieldLink RX2 27 "PassNotes$Notes" "waysFound" "[Z", Cond.fieldLink RX2 24 "PassNotes$Notes" "ways" "[[I", Cond.methodLink RX2 121 yX2_findWays]
def wsX5_isSame_r5 : List Cond := [Cond.instanceMethod yX2_findWays, Cond.selects RX2 yX2_findWays yX2_findWays, Cond.code yX2_findWays cX2_findWays 7 none, Cond.fieldLink RX2 12 "PassNotes$Notes" "chart" "LPassNotes$Chart;", Cond.fieldLink RX2 40 "PassNotes$Notes" "land" "LPassNotes$Land;", Cond.methodLink RX2 125 yX0_clear, Cond.instanceMethod yX0_clear, Cond.selects RX0 yX0_clear yX0_clear, Cond.initialized RX0, Cond.code yX0_clear cX0_clear 1 none, Cond.fieldLink RX0 21 "PassNotes$Chart" "steps" "I", Cond.methodLink RX2 88 yX1_passes, Cond.instanceMethod yX1_passes, Cond.selects RX1 yX1_passes yX1_passes, Cond.code yX1_passes cX1_passes 1 (some .int), Cond.fieldLink RX1 32 "PassNotes$Land" "passes" "I", Cond.methodLink RX2 94 yX1_first, Cond.instanceMethod yX1_first, Cond.selects RX1 yX1_first yX1_first, Cond.code yX1_first cX1_first 2 (some .int), Cond.fieldLink RX1 15 "PassNotes$Land" "firsts" "[I", Cond.methodLink RX2 97 yX1_second, Cond.instanceMethod yX1_second, Cond.selects RX1 yX1_second yX1_second]
def wsX5_isSame_r6 : List Cond := [Cond.code yX1_second cX1_second 2 (some .int), Cond.fieldLink RX1 18 "PassNotes$Land" "seconds" "[I", Cond.methodLink RX2 115 yX3_tells, Cond.methodLink RX2 128 yX3_length, Cond.instanceMethod yX3_length, Cond.selects RX3 yX3_length yX3_length, Cond.code yX3_length cX3_length 2 (some .int), Cond.methodLink RX2 131 yX0_addStep, Cond.instanceMethod yX0_addStep, Cond.selects RX0 yX0_addStep yX0_addStep, Cond.code yX0_addStep cX0_addStep 4 none, Cond.fieldLink RX0 9 "PassNotes$Chart" "froms" "[I", Cond.fieldLink RX0 15 "PassNotes$Chart" "tos" "[I", Cond.fieldLink RX0 18 "PassNotes$Chart" "lengths" "[I", Cond.methodLink RX2 135 yX0_search, Cond.instanceMethod yX0_search, Cond.selects RX0 yX0_search yX0_search, Cond.code yX0_search cX0_search 7 none, Cond.constant RX0 25 (1073741824), Cond.methodLink RX5 72 yX5_first, Cond.instanceMethod yX5_first, Cond.selects RX5 yX5_first yX5_first, Cond.code yX5_first cX5_first 8 (some .int), Cond.methodLink RX5 79 yX5_post]
def wsX5_isSame_r7 : List Cond := [Cond.instanceMethod yX5_post, Cond.selects RX5 yX5_post yX5_post, Cond.code yX5_post cX5_post 11 (some .int), Cond.methodLink RX5 90 yX4_post, Cond.instanceMethod yX4_post, Cond.selects RX4 yX4_post yX4_post, Cond.code yX4_post cX4_post 3 (some .int), Cond.methodLink RX4 117 yX2_letter, Cond.instanceMethod yX2_letter, Cond.selects RX2 yX2_letter yX2_letter, Cond.code yX2_letter cX2_letter 6 (some .int), Cond.constant RX2 142 (1073741824), Cond.methodLink RX2 139 yX2_knownWay, Cond.methodLink RX2 143 yX1_isStep, Cond.instanceMethod yX1_isStep, Cond.selects RX1 yX1_isStep yX1_isStep, Cond.code yX1_isStep cX1_isStep 6 (some .boolean), Cond.fieldLink RX1 24 "PassNotes$Land" "opens" "[Z", Cond.methodLink RX5 91 yX4_truth, Cond.instanceMethod yX4_truth, Cond.selects RX4 yX4_truth yX4_truth, Cond.code yX4_truth cX4_truth 4 (some .int), Cond.fieldLink RX4 31 "PassNotes" "truthChart" "LPassNotes$Chart;", Cond.fieldLink RX4 35 "PassNotes" "truthWays" "[I"]
def wsX5_isSame_r8 : List Cond := [Cond.methodLink RX4 120 yX1_draw, Cond.instanceMethod yX1_draw, Cond.selects RX1 yX1_draw yX1_draw, Cond.code yX1_draw cX1_draw 3 none, Cond.fieldLink RX1 21 "PassNotes$Land" "lengths" "[I", Cond.methodLink RX1 35 yX0_clear, Cond.methodLink RX1 40 yX0_addStep, Cond.methodLink RX4 124 yX0_search, Cond.methodLink RX5 75 yX5_sheetsOf, Cond.instanceMethod yX5_sheetsOf, Cond.selects RX5 yX5_sheetsOf yX5_sheetsOf, Cond.code yX5_sheetsOf cX5_sheetsOf 7 (some .int), Cond.methodLink RX5 94 yX4_told, Cond.instanceMethod yX4_told, Cond.selects RX4 yX4_told yX4_told, Cond.code yX4_told cX4_told 3 (some .int), Cond.methodLink RX4 149 yX1_area, Cond.instanceMethod yX1_area, Cond.selects RX1 yX1_area yX1_area, Cond.code yX1_area cX1_area 2 (some .int), Cond.fieldLink RX1 9 "PassNotes$Land" "areas" "[I", Cond.methodLink RX4 152 yX2_sheetsOf, Cond.instanceMethod yX2_sheetsOf, Cond.selects RX2 yX2_sheetsOf yX2_sheetsOf]
def wsX5_isSame_r9 : List Cond := [Cond.code yX2_sheetsOf cX2_sheetsOf 4 (some .int), Cond.methodLink RX4 155 yX2_wroteInAll, Cond.instanceMethod yX2_wroteInAll, Cond.selects RX2 yX2_wroteInAll yX2_wroteInAll, Cond.code yX2_wroteInAll cX2_wroteInAll 2 (some .int), Cond.fieldLink RX2 18 "PassNotes$Notes" "wrote" "[I", Cond.methodLink RX4 158 yX2_knownHuts, Cond.instanceMethod yX2_knownHuts, Cond.selects RX2 yX2_knownHuts yX2_knownHuts, Cond.code yX2_knownHuts cX2_knownHuts 4 (some .int), Cond.methodLink RX2 59 yX1_huts, Cond.methodLink RX4 161 yX2_reachedHuts, Cond.instanceMethod yX2_reachedHuts, Cond.selects RX2 yX2_reachedHuts yX2_reachedHuts, Cond.code yX2_reachedHuts cX2_reachedHuts 4 (some .int), Cond.methodLink RX2 146 yX2_letter, Cond.methodLink RX5 96 yX4_about, Cond.instanceMethod yX4_about, Cond.selects RX4 yX4_about yX4_about, Cond.code yX4_about cX4_about 3 (some .int), Cond.methodLink RX4 77 yX4_checkPass, Cond.instanceMethod yX4_checkPass, Cond.selects RX4 yX4_checkPass yX4_checkPass, Cond.code yX4_checkPass cX4_checkPass 2 none]
def wsX5_isSame_r10 : List Cond := [Cond.methodLink RX4 68 yX1_passes, Cond.methodLink RX4 128 yX1_first, Cond.methodLink RX4 131 yX1_second, Cond.methodLink RX4 134 yX1_length, Cond.instanceMethod yX1_length, Cond.selects RX1 yX1_length yX1_length, Cond.code yX1_length cX1_length 2 (some .int), Cond.methodLink RX4 137 yX1_isOpen, Cond.instanceMethod yX1_isOpen, Cond.selects RX1 yX1_isOpen yX1_isOpen, Cond.code yX1_isOpen cX1_isOpen 2 (some .boolean), Cond.methodLink RX4 141 yX2_takersForOpen, Cond.instanceMethod yX2_takersForOpen, Cond.selects RX2 yX2_takersForOpen yX2_takersForOpen, Cond.code yX2_takersForOpen cX2_takersForOpen 4 (some .int), Cond.methodLink RX2 118 yX2_takesForOpen, Cond.instanceMethod yX2_takesForOpen, Cond.selects RX2 yX2_takesForOpen yX2_takesForOpen, Cond.code yX2_takesForOpen cX2_takesForOpen 5 (some .boolean), Cond.methodLink RX5 99 yX5_allSheets, Cond.instanceMethod yX5_allSheets, Cond.selects RX5 yX5_allSheets yX5_allSheets, Cond.code yX5_allSheets cX5_allSheets 3 (some .int), Cond.methodLink RX5 103 yX5_pairs]
def wsX5_isSame_r11 : List Cond := [Cond.instanceMethod yX5_pairs, Cond.selects RX5 yX5_pairs yX5_pairs, Cond.code yX5_pairs cX5_pairs 5 (some .int), Cond.methodLink RX5 107 yX4_count, Cond.instanceMethod yX4_count, Cond.selects RX4 yX4_count yX4_count, Cond.code yX4_count cX4_count 2 (some .int), Cond.methodLink RX4 164 yX1_openPasses, Cond.instanceMethod yX1_openPasses, Cond.selects RX1 yX1_openPasses yX1_openPasses, Cond.code yX1_openPasses cX1_openPasses 3 (some .int), Cond.methodLink RX4 167 yX2_sheets, Cond.instanceMethod yX2_sheets, Cond.selects RX2 yX2_sheets yX2_sheets, Cond.code yX2_sheets cX2_sheets 3 (some .int), Cond.methodLink RX2 55 yX2_sheetsOf, Cond.methodLink RX4 170 yX2_reachedPairs, Cond.instanceMethod yX2_reachedPairs, Cond.selects RX2 yX2_reachedPairs yX2_reachedPairs, Cond.code yX2_reachedPairs cX2_reachedPairs 4 (some .int), Cond.methodLink RX4 173 yX1_joinedPairs, Cond.instanceMethod yX1_joinedPairs, Cond.selects RX1 yX1_joinedPairs yX1_joinedPairs, Cond.code yX1_joinedPairs cX1_joinedPairs 7 (some .int)]
def wsX5_isSame_r12 : List Cond := [Cond.methodLink RX1 44 yX1_groupOf, Cond.instanceMethod yX1_groupOf, Cond.selects RX1 yX1_groupOf yX1_groupOf, Cond.code yX1_groupOf cX1_groupOf 9 (some .int), Cond.methodLink RX1 48 yJ6_bitCount_0f7a4, Cond.static yJ6_bitCount_0f7a4, Cond.initialized RJ6, Cond.code yJ6_bitCount_0f7a4 cJ6_bitCount_0f7a4 1 (some .int), Cond.constant RJ6 265 (1431655765), Cond.constant RJ6 266 (858993459), Cond.constant RJ6 267 (252645135), Cond.methodLink RX5 110 yX4_mean, Cond.instanceMethod yX4_mean, Cond.selects RX4 yX4_mean yX4_mean, Cond.code yX4_mean cX4_mean 2 (some .double), Cond.methodLink RX4 190 yX2_ages, Cond.instanceMethod yX2_ages, Cond.selects RX2 yX2_ages yX2_ages, Cond.code yX2_ages cX2_ages 4 (some .int), Cond.methodLink RX2 65 yX3_age]
def wsX5_isSame : List Cond := .code yX5_isSame cX5_isSame 15 (some .boolean) :: ((wsX5_isSame_r1 ++ (wsX5_isSame_r2 ++ (wsX5_isSame_r3 ++ (wsX5_isSame_r4 ++ (wsX5_isSame_r5 ++ (wsX5_isSame_r6 ++ (wsX5_isSame_r7 ++ (wsX5_isSame_r8 ++ (wsX5_isSame_r9 ++ (wsX5_isSame_r10 ++ (wsX5_isSame_r11 ++ wsX5_isSame_r12))))))))))) ++ wsX50 ++ wsX40 ++ wsX10 ++ wsX20 ++ wsX30 ++ wsX00 ++ (vx_atS RX4 148 "java/lang/IndexOutOfBoundsException" ["java/lang/RuntimeException", "java/lang/Exception"]).filter goodWord)
def wsJ9_min_7cf53 : List Cond := .code yJ9_min_7cf53 cJ9_min_7cf53 2 (some .int) :: ([])
def wsL_below : List Cond := .code yL_below cL_below 2 (some .int) :: ([.constant RL 7 (2147483647)])
def wsL_cell : List Cond := .code yL_cell cL_cell 2 (some .int) :: ([.constant RL 8 (790386105)])
def wsL_act_r1 : List Cond := [Cond.fieldLink RL 9 "PassNotesLaw$Sim" "areas" "[I", Cond.fieldLink RL 15 "PassNotesLaw$Sim" "passes" "[[I", Cond.fieldLink RL 51 "PassNotesLaw$Sim" "sheets" "[[[I", Cond.arrayClass .int, Cond.methodLink RL 19 yL_below, Cond.static yL_below, Cond.initialized RL, Cond.code yL_below cL_below 2 (some .int), Cond.constant RL 7 (2147483647), Cond.methodLink RL 25 yX5_hut, Cond.instanceMethod yX5_hut, Cond.selects RX5 yX5_hut yX5_hut, Cond.initialized RX5, Cond.code yX5_hut cX5_hut 6 none, Cond.fieldLink RX5 9 "PassNotesLaw$Sim" "areas" "[I", Cond.fieldLink RX5 15 "PassNotesLaw$Sim" "wrote" "[I", Cond.fieldLink RX5 20 "PassNotesLaw$Sim" "sheets" "[[[I", Cond.methodLink RX5 37 yX5_longer, Cond.static yX5_longer, Cond.code yX5_longer cX5_longer 4 (some (.array .int)), Cond.methodLink RL 29 yX4_hut, Cond.instanceMethod yX4_hut, Cond.selects RX4 yX4_hut yX4_hut, Cond.initialized RX4]
def wsL_act_r2 : List Cond := [Cond.code yX4_hut cX4_hut 2 (some .int), Cond.classLink RX4 39 "java/lang/IllegalArgumentException", Cond.initialized "java/lang/IllegalArgumentException", Cond.classLink RX4 50 "java/lang/IllegalStateException", Cond.initialized "java/lang/IllegalStateException", Cond.fieldLink RX4 10 "PassNotes" "land" "LPassNotes$Land;", Cond.methodLink RX4 46 yX1_huts, Cond.instanceMethod yX1_huts, Cond.selects RX1 yX1_huts yX1_huts, Cond.initialized RX1, Cond.code yX1_huts cX1_huts 1 (some .int), Cond.fieldLink RX1 28 "PassNotes$Land" "huts" "I", Cond.methodLink RX4 55 yX1_addHut, Cond.instanceMethod yX1_addHut, Cond.selects RX1 yX1_addHut yX1_addHut, Cond.code yX1_addHut cX1_addHut 2 (some .int), Cond.fieldLink RX1 9 "PassNotes$Land" "areas" "[I", Cond.methodLink RL 34 yX5_pass, Cond.instanceMethod yX5_pass, Cond.selects RX5 yX5_pass yX5_pass, Cond.code yX5_pass cX5_pass 6 none, Cond.fieldLink RX5 25 "PassNotesLaw$Sim" "passes" "[[I", Cond.classLink RX5 24 "[I", Cond.methodLink RL 38 yX4_pass]
def wsL_act_r3 : List Cond := [Cond.instanceMethod yX4_pass, Cond.selects RX4 yX4_pass yX4_pass, Cond.code yX4_pass cX4_pass 4 (some .int), Cond.methodLink RX4 59 yX4_checkHut, Cond.instanceMethod yX4_checkHut, Cond.selects RX4 yX4_checkHut yX4_checkHut, Cond.code yX4_checkHut cX4_checkHut 2 none, Cond.classLink RX4 144 "java/lang/IndexOutOfBoundsException", Cond.initialized "java/lang/IndexOutOfBoundsException", Cond.methodLink RX4 65 yX4_checkLength, Cond.instanceMethod yX4_checkLength, Cond.selects RX4 yX4_checkLength yX4_checkLength, Cond.code yX4_checkLength cX4_checkLength 2 none, Cond.methodLink RX4 68 yX1_passes, Cond.instanceMethod yX1_passes, Cond.selects RX1 yX1_passes yX1_passes, Cond.code yX1_passes cX1_passes 1 (some .int), Cond.fieldLink RX1 32 "PassNotes$Land" "passes" "I", Cond.methodLink RX4 73 yX1_addPass, Cond.instanceMethod yX1_addPass, Cond.selects RX1 yX1_addPass yX1_addPass, Cond.code yX1_addPass cX1_addPass 4 (some .int), Cond.fieldLink RX1 15 "PassNotes$Land" "firsts" "[I", Cond.fieldLink RX1 18 "PassNotes$Land" "seconds" "[I"]
def wsL_act_r4 : List Cond := [Cond.fieldLink RX1 21 "PassNotes$Land" "lengths" "[I", Cond.fieldLink RX1 24 "PassNotes$Land" "opens" "[Z", Cond.methodLink RL 41 yX4_setLength, Cond.instanceMethod yX4_setLength, Cond.selects RX4 yX4_setLength yX4_setLength, Cond.code yX4_setLength cX4_setLength 3 (some .int), Cond.methodLink RX4 77 yX4_checkPass, Cond.instanceMethod yX4_checkPass, Cond.selects RX4 yX4_checkPass yX4_checkPass, Cond.code yX4_checkPass cX4_checkPass 2 none, Cond.methodLink RX4 80 yX1_changeLength, Cond.instanceMethod yX1_changeLength, Cond.selects RX1 yX1_changeLength yX1_changeLength, Cond.code yX1_changeLength cX1_changeLength 4 (some .int), Cond.methodLink RL 44 yX4_setOpen, Cond.instanceMethod yX4_setOpen, Cond.selects RX4 yX4_setOpen yX4_setOpen, Cond.code yX4_setOpen cX4_setOpen 3 (some .boolean), Cond.methodLink RX4 84 yX1_changeOpen, Cond.instanceMethod yX1_changeOpen, Cond.selects RX1 yX1_changeOpen yX1_changeOpen, Cond.code yX1_changeOpen cX1_changeOpen 4 (some .boolean), Cond.methodLink RL 48 yX5_sheetsOf, Cond.instanceMethod yX5_sheetsOf]
def wsL_act_r5 : List Cond := [Cond.selects RX5 yX5_sheetsOf yX5_sheetsOf, Cond.code yX5_sheetsOf cX5_sheetsOf 7 (some .int), Cond.methodLink RL 55 yX4_burn, Cond.instanceMethod yX4_burn, Cond.selects RX4 yX4_burn yX4_burn, Cond.code yX4_burn cX4_burn 2 (some .int), Cond.fieldLink RX4 21 "PassNotes" "now" "LPassNotes$Notes;", Cond.methodLink RX4 88 yX2_burnAll, Cond.instanceMethod yX2_burnAll, Cond.selects RX2 yX2_burnAll yX2_burnAll, Cond.initialized RX2, Cond.code yX2_burnAll cX2_burnAll 4 (some .int), Cond.fieldLink RX2 33 "PassNotes$Notes" "held" "[LPassNotes$Sheet;", Cond.methodLink RX2 55 yX2_sheetsOf, Cond.instanceMethod yX2_sheetsOf, Cond.selects RX2 yX2_sheetsOf yX2_sheetsOf, Cond.code yX2_sheetsOf cX2_sheetsOf 4 (some .int), Cond.methodLink RX2 51 yX2_slot, Cond.static yX2_slot, Cond.code yX2_slot cX2_slot 2 (some .int), Cond.methodLink RX2 48 yX2_forgetWays, Cond.instanceMethod yX2_forgetWays, Cond.selects RX2 yX2_forgetWays yX2_forgetWays, Cond.code yX2_forgetWays cX2_forgetWays 2 none]
def wsL_act_r6 : List Cond := [Cond.fieldLink RX2 27 "PassNotes$Notes" "waysFound" "[Z", Cond.methodLink RL 58 yX5_go, Cond.instanceMethod yX5_go, Cond.selects RX5 yX5_go yX5_go, Cond.code yX5_go cX5_go 12 (some .int), Cond.methodLink RX5 33 ⟨"[I", "clone", "()Ljava/lang/Object;"⟩, Cond.sameMethod "[I" "java/lang/Object" "clone" "()Ljava/lang/Object;", Cond.native ⟨"java/lang/Object", "clone", "()Ljava/lang/Object;"⟩, Cond.instanceMethod ⟨"java/lang/Object", "clone", "()Ljava/lang/Object;"⟩, Cond.selects "[I" ⟨"[I", "clone", "()Ljava/lang/Object;"⟩ ⟨"java/lang/Object", "clone", "()Ljava/lang/Object;"⟩, Cond.fieldLink RX5 29 "PassNotesLaw$Sim" "minute" "I", Cond.methodLink RX5 50 yX5_isTrue, Cond.instanceMethod yX5_isTrue, Cond.selects RX5 yX5_isTrue yX5_isTrue, Cond.code yX5_isTrue cX5_isTrue 4 (some .boolean), Cond.methodLink RX5 42 yX5_told, Cond.static yX5_told, Cond.code yX5_told cX5_told 2 (some .int), Cond.methodLink RX5 46 yX5_due, Cond.instanceMethod yX5_due, Cond.selects RX5 yX5_due yX5_due, Cond.code yX5_due cX5_due 3 (some .int), Cond.methodLink RL 62 yX4_go, Cond.instanceMethod yX4_go]
def wsL_act_r7 : List Cond := [Cond.selects RX4 yX4_go yX4_go, Cond.code yX4_go cX4_go 2 (some .int), Cond.methodLink RX4 178 yX4_checkMinutes, Cond.instanceMethod yX4_checkMinutes, Cond.selects RX4 yX4_checkMinutes yX4_checkMinutes, Cond.code yX4_checkMinutes cX4_checkMinutes 2 none, Cond.methodLink RX4 181 yX2_passMinutes, Cond.instanceMethod yX2_passMinutes, Cond.selects RX2 yX2_passMinutes yX2_passMinutes, Cond.code yX2_passMinutes cX2_passMinutes 4 (some .int), Cond.fieldLink RX2 44 "PassNotes$Notes" "minute" "I", Cond.methodLink RX2 68 yX2_writeSheets, Cond.instanceMethod yX2_writeSheets, Cond.selects RX2 yX2_writeSheets yX2_writeSheets, Cond.code yX2_writeSheets cX2_writeSheets 3 (some .int), Cond.fieldLink RX2 40 "PassNotes$Notes" "land" "LPassNotes$Land;", Cond.fieldLink RX2 18 "PassNotes$Notes" "wrote" "[I", Cond.classLink RX2 31 RX3, Cond.instantiable RX3 3, Cond.initialized RX3, Cond.methodLink RX2 59 yX1_huts, Cond.methodLink RX2 77 yX2_mustWrite, Cond.instanceMethod yX2_mustWrite, Cond.selects RX2 yX2_mustWrite yX2_mustWrite]
def wsL_act_r8 : List Cond := [Cond.code yX2_mustWrite cX2_mustWrite 3 (some .boolean), Cond.methodLink RX2 65 yX3_age, Cond.instanceMethod yX3_age, Cond.selects RX3 yX3_age yX3_age, Cond.code yX3_age cX3_age 2 (some .int), Cond.fieldLink RX3 19 "PassNotes$Sheet" "written" "I", Cond.methodLink RX2 84 yX3_tellsAsNow, Cond.instanceMethod yX3_tellsAsNow, Cond.selects RX3 yX3_tellsAsNow yX3_tellsAsNow, Cond.code yX3_tellsAsNow cX3_tellsAsNow 4 (some .boolean), Cond.fieldLink RX3 9 "PassNotes$Sheet" "lengths" "[I", Cond.methodLink RX3 22 yX1_passes, Cond.methodLink RX3 28 yX1_tellsNow, Cond.instanceMethod yX1_tellsNow, Cond.selects RX1 yX1_tellsNow yX1_tellsNow, Cond.code yX1_tellsNow cX1_tellsNow 4 (some .int), Cond.methodLink RX2 81 yX3_init, Cond.instanceMethod yX3_init, Cond.code yX3_init cX3_init 6 none, Cond.methodLink RX3 3 objectInit, Cond.instanceMethod objectInit, Cond.code objectInit ⟨#[0xb1]⟩ 1 none, Cond.fieldLink RX3 15 "PassNotes$Sheet" "number" "I", Cond.methodLink RX2 71 yX2_carrySheets]
def wsL_act_r9 : List Cond := [Cond.instanceMethod yX2_carrySheets, Cond.selects RX2 yX2_carrySheets yX2_carrySheets, Cond.code yX2_carrySheets cX2_carrySheets 2 none, Cond.fieldLink RX2 37 "PassNotes$Notes" "carried" "[LPassNotes$Sheet;", Cond.methodLink RX2 88 yX1_passes, Cond.methodLink RX2 91 yX1_isOpen, Cond.instanceMethod yX1_isOpen, Cond.selects RX1 yX1_isOpen yX1_isOpen, Cond.code yX1_isOpen cX1_isOpen 2 (some .boolean), Cond.methodLink RX2 94 yX1_first, Cond.instanceMethod yX1_first, Cond.selects RX1 yX1_first yX1_first, Cond.code yX1_first cX1_first 2 (some .int), Cond.methodLink RX2 97 yX1_second, Cond.instanceMethod yX1_second, Cond.selects RX1 yX1_second yX1_second, Cond.code yX1_second cX1_second 2 (some .int), Cond.methodLink RX2 100 yX2_carry, Cond.instanceMethod yX2_carry, Cond.selects RX2 yX2_carry yX2_carry, Cond.code yX2_carry cX2_carry 5 none, Cond.methodLink RX2 104 yX1_takesIn, Cond.instanceMethod yX1_takesIn, Cond.selects RX1 yX1_takesIn yX1_takesIn]
def wsL_act_r10 : List Cond := [Cond.code yX1_takesIn cX1_takesIn 3 (some .boolean), Cond.methodLink RX2 108 yX2_isNewer, Cond.instanceMethod yX2_isNewer, Cond.selects RX2 yX2_isNewer yX2_isNewer, Cond.code yX2_isNewer cX2_isNewer 3 (some .boolean), Cond.methodLink RX2 112 yX3_number, Cond.instanceMethod yX3_number, Cond.selects RX3 yX3_number yX3_number, Cond.code yX3_number cX3_number 1 (some .int), Cond.methodLink RX2 74 yX2_throwOldAway, Cond.instanceMethod yX2_throwOldAway, Cond.selects RX2 yX2_throwOldAway yX2_throwOldAway, Cond.code yX2_throwOldAway cX2_throwOldAway 3 none]
def wsL_act : List Cond := .code yL_act cL_act 16 (some .boolean) :: ((wsL_act_r1 ++ (wsL_act_r2 ++ (wsL_act_r3 ++ (wsL_act_r4 ++ (wsL_act_r5 ++ (wsL_act_r6 ++ (wsL_act_r7 ++ (wsL_act_r8 ++ (wsL_act_r9 ++ wsL_act_r10))))))))) ++ wsX50 ++ wsX40 ++ wsX10 ++ wsX20 ++ wsX30 ++ (vx_atS RX4 43 "java/lang/IllegalArgumentException" ["java/lang/RuntimeException", "java/lang/Exception"]).filter goodWord ++ (vx_atS RX4 54 "java/lang/IllegalStateException" ["java/lang/RuntimeException", "java/lang/Exception"]).filter goodWord ++ (vx_atS RX4 148 "java/lang/IndexOutOfBoundsException" ["java/lang/RuntimeException", "java/lang/Exception"]).filter goodWord)
def wsL_build_r1 : List Cond := [Cond.classLink RL 10 RX5, Cond.instantiable RX5 5, Cond.initialized RX5, Cond.constant RL 69 (100000), Cond.instanceMethod yX5_init, Cond.code yX5_init cX5_init 1 none, Cond.methodLink RX5 3 objectInit, Cond.instanceMethod objectInit, Cond.code objectInit ⟨#[0xb1]⟩ 1 none, Cond.arrayClass .int, Cond.fieldLink RX5 9 "PassNotesLaw$Sim" "areas" "[I", Cond.fieldLink RX5 15 "PassNotesLaw$Sim" "wrote" "[I", Cond.classLink RX5 18 "[[I", Cond.fieldLink RX5 20 "PassNotesLaw$Sim" "sheets" "[[[I", Cond.classLink RX5 24 "[I", Cond.fieldLink RX5 25 "PassNotesLaw$Sim" "passes" "[[I", Cond.methodLink RL 65 yL_cell, Cond.static yL_cell, Cond.initialized RL, Cond.code yL_cell cL_cell 2 (some .int), Cond.constant RL 8 (790386105), Cond.methodLink RL 19 yL_below, Cond.static yL_below, Cond.code yL_below cL_below 2 (some .int)]
def wsL_build_r2 : List Cond := [Cond.constant RL 7 (2147483647), Cond.methodLink RL 25 yX5_hut, Cond.instanceMethod yX5_hut, Cond.selects RX5 yX5_hut yX5_hut, Cond.code yX5_hut cX5_hut 6 none, Cond.methodLink RX5 37 yX5_longer, Cond.static yX5_longer, Cond.code yX5_longer cX5_longer 4 (some (.array .int)), Cond.methodLink RL 29 yX4_hut, Cond.instanceMethod yX4_hut, Cond.selects RX4 yX4_hut yX4_hut, Cond.initialized RX4, Cond.code yX4_hut cX4_hut 2 (some .int), Cond.classLink RX4 39 "java/lang/IllegalArgumentException", Cond.initialized "java/lang/IllegalArgumentException", Cond.classLink RX4 50 "java/lang/IllegalStateException", Cond.initialized "java/lang/IllegalStateException", Cond.fieldLink RX4 10 "PassNotes" "land" "LPassNotes$Land;", Cond.methodLink RX4 46 yX1_huts, Cond.instanceMethod yX1_huts, Cond.selects RX1 yX1_huts yX1_huts, Cond.initialized RX1, Cond.code yX1_huts cX1_huts 1 (some .int), Cond.fieldLink RX1 28 "PassNotes$Land" "huts" "I"]
def wsL_build_r3 : List Cond := [Cond.methodLink RX4 55 yX1_addHut, Cond.instanceMethod yX1_addHut, Cond.selects RX1 yX1_addHut yX1_addHut, Cond.code yX1_addHut cX1_addHut 2 (some .int), Cond.fieldLink RX1 9 "PassNotes$Land" "areas" "[I", Cond.methodLink RL 70 yL_act, Cond.static yL_act, Cond.code yL_act cL_act 16 (some .boolean), Cond.fieldLink RL 9 "PassNotesLaw$Sim" "areas" "[I", Cond.fieldLink RL 15 "PassNotesLaw$Sim" "passes" "[[I", Cond.fieldLink RL 51 "PassNotesLaw$Sim" "sheets" "[[[I", Cond.methodLink RL 34 yX5_pass, Cond.instanceMethod yX5_pass, Cond.selects RX5 yX5_pass yX5_pass, Cond.code yX5_pass cX5_pass 6 none, Cond.methodLink RL 38 yX4_pass, Cond.instanceMethod yX4_pass, Cond.selects RX4 yX4_pass yX4_pass, Cond.code yX4_pass cX4_pass 4 (some .int), Cond.methodLink RX4 59 yX4_checkHut, Cond.instanceMethod yX4_checkHut, Cond.selects RX4 yX4_checkHut yX4_checkHut, Cond.code yX4_checkHut cX4_checkHut 2 none, Cond.classLink RX4 144 "java/lang/IndexOutOfBoundsException"]
def wsL_build_r4 : List Cond := [Cond.initialized "java/lang/IndexOutOfBoundsException", Cond.methodLink RX4 65 yX4_checkLength, Cond.instanceMethod yX4_checkLength, Cond.selects RX4 yX4_checkLength yX4_checkLength, Cond.code yX4_checkLength cX4_checkLength 2 none, Cond.methodLink RX4 68 yX1_passes, Cond.instanceMethod yX1_passes, Cond.selects RX1 yX1_passes yX1_passes, Cond.code yX1_passes cX1_passes 1 (some .int), Cond.fieldLink RX1 32 "PassNotes$Land" "passes" "I", Cond.methodLink RX4 73 yX1_addPass, Cond.instanceMethod yX1_addPass, Cond.selects RX1 yX1_addPass yX1_addPass, Cond.code yX1_addPass cX1_addPass 4 (some .int), Cond.fieldLink RX1 15 "PassNotes$Land" "firsts" "[I", Cond.fieldLink RX1 18 "PassNotes$Land" "seconds" "[I", Cond.fieldLink RX1 21 "PassNotes$Land" "lengths" "[I", Cond.fieldLink RX1 24 "PassNotes$Land" "opens" "[Z", Cond.methodLink RL 41 yX4_setLength, Cond.instanceMethod yX4_setLength, Cond.selects RX4 yX4_setLength yX4_setLength, Cond.code yX4_setLength cX4_setLength 3 (some .int), Cond.methodLink RX4 77 yX4_checkPass, Cond.instanceMethod yX4_checkPass]
def wsL_build_r5 : List Cond := [Cond.selects RX4 yX4_checkPass yX4_checkPass, Cond.code yX4_checkPass cX4_checkPass 2 none, Cond.methodLink RX4 80 yX1_changeLength, Cond.instanceMethod yX1_changeLength, Cond.selects RX1 yX1_changeLength yX1_changeLength, Cond.code yX1_changeLength cX1_changeLength 4 (some .int), Cond.methodLink RL 44 yX4_setOpen, Cond.instanceMethod yX4_setOpen, Cond.selects RX4 yX4_setOpen yX4_setOpen, Cond.code yX4_setOpen cX4_setOpen 3 (some .boolean), Cond.methodLink RX4 84 yX1_changeOpen, Cond.instanceMethod yX1_changeOpen, Cond.selects RX1 yX1_changeOpen yX1_changeOpen, Cond.code yX1_changeOpen cX1_changeOpen 4 (some .boolean), Cond.methodLink RL 48 yX5_sheetsOf, Cond.instanceMethod yX5_sheetsOf, Cond.selects RX5 yX5_sheetsOf yX5_sheetsOf, Cond.code yX5_sheetsOf cX5_sheetsOf 7 (some .int), Cond.methodLink RL 55 yX4_burn, Cond.instanceMethod yX4_burn, Cond.selects RX4 yX4_burn yX4_burn, Cond.code yX4_burn cX4_burn 2 (some .int), Cond.fieldLink RX4 21 "PassNotes" "now" "LPassNotes$Notes;", Cond.methodLink RX4 88 yX2_burnAll]
def wsL_build_r6 : List Cond := [Cond.instanceMethod yX2_burnAll, Cond.selects RX2 yX2_burnAll yX2_burnAll, Cond.initialized RX2, Cond.code yX2_burnAll cX2_burnAll 4 (some .int), Cond.fieldLink RX2 33 "PassNotes$Notes" "held" "[LPassNotes$Sheet;", Cond.methodLink RX2 55 yX2_sheetsOf, Cond.instanceMethod yX2_sheetsOf, Cond.selects RX2 yX2_sheetsOf yX2_sheetsOf, Cond.code yX2_sheetsOf cX2_sheetsOf 4 (some .int), Cond.methodLink RX2 51 yX2_slot, Cond.static yX2_slot, Cond.code yX2_slot cX2_slot 2 (some .int), Cond.methodLink RX2 48 yX2_forgetWays, Cond.instanceMethod yX2_forgetWays, Cond.selects RX2 yX2_forgetWays yX2_forgetWays, Cond.code yX2_forgetWays cX2_forgetWays 2 none, Cond.fieldLink RX2 27 "PassNotes$Notes" "waysFound" "[Z", Cond.methodLink RL 58 yX5_go, Cond.instanceMethod yX5_go, Cond.selects RX5 yX5_go yX5_go, Cond.code yX5_go cX5_go 12 (some .int), Cond.methodLink RX5 33 ⟨"[I", "clone", "()Ljava/lang/Object;"⟩, Cond.sameMethod "[I" "java/lang/Object" "clone" "()Ljava/lang/Object;", Cond.native ⟨"java/lang/Object", "clone", "()Ljava/lang/Object;"⟩]
def wsL_build_r7 : List Cond := [Cond.instanceMethod ⟨"java/lang/Object", "clone", "()Ljava/lang/Object;"⟩, Cond.selects "[I" ⟨"[I", "clone", "()Ljava/lang/Object;"⟩ ⟨"java/lang/Object", "clone", "()Ljava/lang/Object;"⟩, Cond.fieldLink RX5 29 "PassNotesLaw$Sim" "minute" "I", Cond.methodLink RX5 50 yX5_isTrue, Cond.instanceMethod yX5_isTrue, Cond.selects RX5 yX5_isTrue yX5_isTrue, Cond.code yX5_isTrue cX5_isTrue 4 (some .boolean), Cond.methodLink RX5 42 yX5_told, Cond.static yX5_told, Cond.code yX5_told cX5_told 2 (some .int), Cond.methodLink RX5 46 yX5_due, Cond.instanceMethod yX5_due, Cond.selects RX5 yX5_due yX5_due, Cond.code yX5_due cX5_due 3 (some .int), Cond.methodLink RL 62 yX4_go, Cond.instanceMethod yX4_go, Cond.selects RX4 yX4_go yX4_go, Cond.code yX4_go cX4_go 2 (some .int), Cond.methodLink RX4 178 yX4_checkMinutes, Cond.instanceMethod yX4_checkMinutes, Cond.selects RX4 yX4_checkMinutes yX4_checkMinutes, Cond.code yX4_checkMinutes cX4_checkMinutes 2 none, Cond.methodLink RX4 181 yX2_passMinutes, Cond.instanceMethod yX2_passMinutes]
def wsL_build_r8 : List Cond := [Cond.selects RX2 yX2_passMinutes yX2_passMinutes, Cond.code yX2_passMinutes cX2_passMinutes 4 (some .int), Cond.fieldLink RX2 44 "PassNotes$Notes" "minute" "I", Cond.methodLink RX2 68 yX2_writeSheets, Cond.instanceMethod yX2_writeSheets, Cond.selects RX2 yX2_writeSheets yX2_writeSheets, Cond.code yX2_writeSheets cX2_writeSheets 3 (some .int), Cond.fieldLink RX2 40 "PassNotes$Notes" "land" "LPassNotes$Land;", Cond.fieldLink RX2 18 "PassNotes$Notes" "wrote" "[I", Cond.classLink RX2 31 RX3, Cond.instantiable RX3 3, Cond.initialized RX3, Cond.methodLink RX2 59 yX1_huts, Cond.methodLink RX2 77 yX2_mustWrite, Cond.instanceMethod yX2_mustWrite, Cond.selects RX2 yX2_mustWrite yX2_mustWrite, Cond.code yX2_mustWrite cX2_mustWrite 3 (some .boolean), Cond.methodLink RX2 65 yX3_age, Cond.instanceMethod yX3_age, Cond.selects RX3 yX3_age yX3_age, Cond.code yX3_age cX3_age 2 (some .int), Cond.fieldLink RX3 19 "PassNotes$Sheet" "written" "I", Cond.methodLink RX2 84 yX3_tellsAsNow, Cond.instanceMethod yX3_tellsAsNow]
def wsL_build_r9 : List Cond := [Cond.selects RX3 yX3_tellsAsNow yX3_tellsAsNow, Cond.code yX3_tellsAsNow cX3_tellsAsNow 4 (some .boolean), Cond.fieldLink RX3 9 "PassNotes$Sheet" "lengths" "[I", Cond.methodLink RX3 22 yX1_passes, Cond.methodLink RX3 28 yX1_tellsNow, Cond.instanceMethod yX1_tellsNow, Cond.selects RX1 yX1_tellsNow yX1_tellsNow, Cond.code yX1_tellsNow cX1_tellsNow 4 (some .int), Cond.methodLink RX2 81 yX3_init, Cond.instanceMethod yX3_init, Cond.code yX3_init cX3_init 6 none, Cond.methodLink RX3 3 objectInit, Cond.fieldLink RX3 15 "PassNotes$Sheet" "number" "I", Cond.methodLink RX2 71 yX2_carrySheets, Cond.instanceMethod yX2_carrySheets, Cond.selects RX2 yX2_carrySheets yX2_carrySheets, Cond.code yX2_carrySheets cX2_carrySheets 2 none, Cond.fieldLink RX2 37 "PassNotes$Notes" "carried" "[LPassNotes$Sheet;", Cond.methodLink RX2 88 yX1_passes, Cond.methodLink RX2 91 yX1_isOpen, Cond.instanceMethod yX1_isOpen, Cond.selects RX1 yX1_isOpen yX1_isOpen, Cond.code yX1_isOpen cX1_isOpen 2 (some .boolean), Cond.methodLink RX2 94 yX1_first]
def wsL_build_r10 : List Cond := [Cond.instanceMethod yX1_first, Cond.selects RX1 yX1_first yX1_first, Cond.code yX1_first cX1_first 2 (some .int), Cond.methodLink RX2 97 yX1_second, Cond.instanceMethod yX1_second, Cond.selects RX1 yX1_second yX1_second, Cond.code yX1_second cX1_second 2 (some .int), Cond.methodLink RX2 100 yX2_carry, Cond.instanceMethod yX2_carry, Cond.selects RX2 yX2_carry yX2_carry, Cond.code yX2_carry cX2_carry 5 none, Cond.methodLink RX2 104 yX1_takesIn, Cond.instanceMethod yX1_takesIn, Cond.selects RX1 yX1_takesIn yX1_takesIn, Cond.code yX1_takesIn cX1_takesIn 3 (some .boolean), Cond.methodLink RX2 108 yX2_isNewer, Cond.instanceMethod yX2_isNewer, Cond.selects RX2 yX2_isNewer yX2_isNewer, Cond.code yX2_isNewer cX2_isNewer 3 (some .boolean), Cond.methodLink RX2 112 yX3_number, Cond.instanceMethod yX3_number, Cond.selects RX3 yX3_number yX3_number, Cond.code yX3_number cX3_number 1 (some .int), Cond.methodLink RX2 74 yX2_throwOldAway]
def wsL_build_r11 : List Cond := [Cond.instanceMethod yX2_throwOldAway, Cond.selects RX2 yX2_throwOldAway yX2_throwOldAway, Cond.code yX2_throwOldAway cX2_throwOldAway 3 none]
def wsL_build : List Cond := .code yL_build cL_build 6 (some (.object "PassNotesLaw$Sim")) :: ((wsL_build_r1 ++ (wsL_build_r2 ++ (wsL_build_r3 ++ (wsL_build_r4 ++ (wsL_build_r5 ++ (wsL_build_r6 ++ (wsL_build_r7 ++ (wsL_build_r8 ++ (wsL_build_r9 ++ (wsL_build_r10 ++ wsL_build_r11)))))))))) ++ wsX50 ++ wsX40 ++ wsX10 ++ wsX20 ++ wsX30 ++ (vx_atS RX4 43 "java/lang/IllegalArgumentException" ["java/lang/RuntimeException", "java/lang/Exception"]).filter goodWord ++ (vx_atS RX4 54 "java/lang/IllegalStateException" ["java/lang/RuntimeException", "java/lang/Exception"]).filter goodWord ++ (vx_atS RX4 148 "java/lang/IndexOutOfBoundsException" ["java/lang/RuntimeException", "java/lang/Exception"]).filter goodWord)
def wsL_law0_r1 : List Cond := [Cond.classLink RL 30 RX4, Cond.instantiable RX4 5, Cond.initialized RX4, Cond.methodLink RL 74 yX4_init, Cond.instanceMethod yX4_init, Cond.code yX4_init cX4_init 1 none, Cond.methodLink RX4 1 objectInit, Cond.instanceMethod objectInit, Cond.code objectInit ⟨#[0xb1]⟩ 1 none, Cond.classLink RX4 7 RX1, Cond.instantiable RX1 7, Cond.initialized RX1, Cond.fieldLink RX4 10 "PassNotes" "land" "LPassNotes$Land;", Cond.classLink RX4 16 RX2, Cond.instantiable RX2 8, Cond.initialized RX2, Cond.fieldLink RX4 21 "PassNotes" "now" "LPassNotes$Notes;", Cond.fieldLink RX4 25 "PassNotes" "later" "LPassNotes$Notes;", Cond.classLink RX4 28 RX0, Cond.instantiable RX0 4, Cond.initialized RX0, Cond.fieldLink RX4 31 "PassNotes" "truthChart" "LPassNotes$Chart;", Cond.arrayClass .int, Cond.fieldLink RX4 35 "PassNotes" "truthWays" "[I"]
def wsL_law0_r2 : List Cond := [Cond.instanceMethod yX1_init, Cond.code yX1_init cX1_init 1 none, Cond.methodLink RX1 3 objectInit, Cond.fieldLink RX1 9 "PassNotes$Land" "areas" "[I", Cond.fieldLink RX1 15 "PassNotes$Land" "firsts" "[I", Cond.fieldLink RX1 18 "PassNotes$Land" "seconds" "[I", Cond.fieldLink RX1 21 "PassNotes$Land" "lengths" "[I", Cond.arrayClass .boolean, Cond.fieldLink RX1 24 "PassNotes$Land" "opens" "[Z", Cond.methodLink RX4 18 yX2_init, Cond.instanceMethod yX2_init, Cond.code yX2_init cX2_init 2 none, Cond.methodLink RX2 3 objectInit, Cond.classLink RX2 9 RX0, Cond.fieldLink RX2 12 "PassNotes$Notes" "chart" "LPassNotes$Chart;", Cond.fieldLink RX2 18 "PassNotes$Notes" "wrote" "[I", Cond.classLink RX2 22 "[[I", Cond.fieldLink RX2 24 "PassNotes$Notes" "ways" "[[I", Cond.fieldLink RX2 27 "PassNotes$Notes" "waysFound" "[Z", Cond.classLink RX2 31 RX3, Cond.fieldLink RX2 33 "PassNotes$Notes" "held" "[LPassNotes$Sheet;", Cond.fieldLink RX2 37 "PassNotes$Notes" "carried" "[LPassNotes$Sheet;", Cond.fieldLink RX2 40 "PassNotes$Notes" "land" "LPassNotes$Land;", Cond.instanceMethod yX0_init]
def wsL_law0_r3 : List Cond := [Cond.code yX0_init cX0_init 1 none, Cond.methodLink RX0 3 objectInit, Cond.fieldLink RX0 9 "PassNotes$Chart" "froms" "[I", Cond.fieldLink RX0 15 "PassNotes$Chart" "tos" "[I", Cond.fieldLink RX0 18 "PassNotes$Chart" "lengths" "[I", Cond.methodLink RL 75 yL_build, Cond.static yL_build, Cond.initialized RL, Cond.code yL_build cL_build 6 (some (.object "PassNotesLaw$Sim")), Cond.classLink RL 10 RX5, Cond.instantiable RX5 5, Cond.initialized RX5, Cond.constant RL 69 (100000), Cond.instanceMethod yX5_init, Cond.code yX5_init cX5_init 1 none, Cond.methodLink RX5 3 objectInit, Cond.fieldLink RX5 9 "PassNotesLaw$Sim" "areas" "[I", Cond.fieldLink RX5 15 "PassNotesLaw$Sim" "wrote" "[I", Cond.classLink RX5 18 "[[I", Cond.fieldLink RX5 20 "PassNotesLaw$Sim" "sheets" "[[[I", Cond.classLink RX5 24 "[I", Cond.fieldLink RX5 25 "PassNotesLaw$Sim" "passes" "[[I", Cond.methodLink RL 65 yL_cell, Cond.static yL_cell]
def wsL_law0_r4 : List Cond := [Cond.code yL_cell cL_cell 2 (some .int), Cond.constant RL 8 (790386105), Cond.methodLink RL 19 yL_below, Cond.static yL_below, Cond.code yL_below cL_below 2 (some .int), Cond.constant RL 7 (2147483647), Cond.methodLink RL 25 yX5_hut, Cond.instanceMethod yX5_hut, Cond.selects RX5 yX5_hut yX5_hut, Cond.code yX5_hut cX5_hut 6 none, Cond.methodLink RX5 37 yX5_longer, Cond.static yX5_longer, Cond.code yX5_longer cX5_longer 4 (some (.array .int)), Cond.methodLink RL 29 yX4_hut, Cond.instanceMethod yX4_hut, Cond.selects RX4 yX4_hut yX4_hut, Cond.code yX4_hut cX4_hut 2 (some .int), Cond.classLink RX4 39 "java/lang/IllegalArgumentException", Cond.initialized "java/lang/IllegalArgumentException", Cond.classLink RX4 50 "java/lang/IllegalStateException", Cond.initialized "java/lang/IllegalStateException", Cond.methodLink RX4 46 yX1_huts, Cond.instanceMethod yX1_huts, Cond.selects RX1 yX1_huts yX1_huts]
def wsL_law0_r5 : List Cond := [Cond.code yX1_huts cX1_huts 1 (some .int), Cond.fieldLink RX1 28 "PassNotes$Land" "huts" "I", Cond.methodLink RX4 55 yX1_addHut, Cond.instanceMethod yX1_addHut, Cond.selects RX1 yX1_addHut yX1_addHut, Cond.code yX1_addHut cX1_addHut 2 (some .int), Cond.methodLink RL 70 yL_act, Cond.static yL_act, Cond.code yL_act cL_act 16 (some .boolean), Cond.fieldLink RL 9 "PassNotesLaw$Sim" "areas" "[I", Cond.fieldLink RL 15 "PassNotesLaw$Sim" "passes" "[[I", Cond.fieldLink RL 51 "PassNotesLaw$Sim" "sheets" "[[[I", Cond.methodLink RL 34 yX5_pass, Cond.instanceMethod yX5_pass, Cond.selects RX5 yX5_pass yX5_pass, Cond.code yX5_pass cX5_pass 6 none, Cond.methodLink RL 38 yX4_pass, Cond.instanceMethod yX4_pass, Cond.selects RX4 yX4_pass yX4_pass, Cond.code yX4_pass cX4_pass 4 (some .int), Cond.methodLink RX4 59 yX4_checkHut, Cond.instanceMethod yX4_checkHut, Cond.selects RX4 yX4_checkHut yX4_checkHut, Cond.code yX4_checkHut cX4_checkHut 2 none]
def wsL_law0_r6 : List Cond := [Cond.classLink RX4 144 "java/lang/IndexOutOfBoundsException", Cond.initialized "java/lang/IndexOutOfBoundsException", Cond.methodLink RX4 65 yX4_checkLength, Cond.instanceMethod yX4_checkLength, Cond.selects RX4 yX4_checkLength yX4_checkLength, Cond.code yX4_checkLength cX4_checkLength 2 none, Cond.methodLink RX4 68 yX1_passes, Cond.instanceMethod yX1_passes, Cond.selects RX1 yX1_passes yX1_passes, Cond.code yX1_passes cX1_passes 1 (some .int), Cond.fieldLink RX1 32 "PassNotes$Land" "passes" "I", Cond.methodLink RX4 73 yX1_addPass, Cond.instanceMethod yX1_addPass, Cond.selects RX1 yX1_addPass yX1_addPass, Cond.code yX1_addPass cX1_addPass 4 (some .int), Cond.methodLink RL 41 yX4_setLength, Cond.instanceMethod yX4_setLength, Cond.selects RX4 yX4_setLength yX4_setLength, Cond.code yX4_setLength cX4_setLength 3 (some .int), Cond.methodLink RX4 77 yX4_checkPass, Cond.instanceMethod yX4_checkPass, Cond.selects RX4 yX4_checkPass yX4_checkPass, Cond.code yX4_checkPass cX4_checkPass 2 none, Cond.methodLink RX4 80 yX1_changeLength]
def wsL_law0_r7 : List Cond := [Cond.instanceMethod yX1_changeLength, Cond.selects RX1 yX1_changeLength yX1_changeLength, Cond.code yX1_changeLength cX1_changeLength 4 (some .int), Cond.methodLink RL 44 yX4_setOpen, Cond.instanceMethod yX4_setOpen, Cond.selects RX4 yX4_setOpen yX4_setOpen, Cond.code yX4_setOpen cX4_setOpen 3 (some .boolean), Cond.methodLink RX4 84 yX1_changeOpen, Cond.instanceMethod yX1_changeOpen, Cond.selects RX1 yX1_changeOpen yX1_changeOpen, Cond.code yX1_changeOpen cX1_changeOpen 4 (some .boolean), Cond.methodLink RL 48 yX5_sheetsOf, Cond.instanceMethod yX5_sheetsOf, Cond.selects RX5 yX5_sheetsOf yX5_sheetsOf, Cond.code yX5_sheetsOf cX5_sheetsOf 7 (some .int), Cond.methodLink RL 55 yX4_burn, Cond.instanceMethod yX4_burn, Cond.selects RX4 yX4_burn yX4_burn, Cond.code yX4_burn cX4_burn 2 (some .int), Cond.methodLink RX4 88 yX2_burnAll, Cond.instanceMethod yX2_burnAll, Cond.selects RX2 yX2_burnAll yX2_burnAll, Cond.code yX2_burnAll cX2_burnAll 4 (some .int), Cond.methodLink RX2 55 yX2_sheetsOf]
def wsL_law0_r8 : List Cond := [Cond.instanceMethod yX2_sheetsOf, Cond.selects RX2 yX2_sheetsOf yX2_sheetsOf, Cond.code yX2_sheetsOf cX2_sheetsOf 4 (some .int), Cond.methodLink RX2 51 yX2_slot, Cond.static yX2_slot, Cond.code yX2_slot cX2_slot 2 (some .int), Cond.methodLink RX2 48 yX2_forgetWays, Cond.instanceMethod yX2_forgetWays, Cond.selects RX2 yX2_forgetWays yX2_forgetWays, Cond.code yX2_forgetWays cX2_forgetWays 2 none, Cond.methodLink RL 58 yX5_go, Cond.instanceMethod yX5_go, Cond.selects RX5 yX5_go yX5_go, Cond.code yX5_go cX5_go 12 (some .int), Cond.methodLink RX5 33 ⟨"[I", "clone", "()Ljava/lang/Object;"⟩, Cond.sameMethod "[I" "java/lang/Object" "clone" "()Ljava/lang/Object;", Cond.native ⟨"java/lang/Object", "clone", "()Ljava/lang/Object;"⟩, Cond.instanceMethod ⟨"java/lang/Object", "clone", "()Ljava/lang/Object;"⟩, Cond.selects "[I" ⟨"[I", "clone", "()Ljava/lang/Object;"⟩ ⟨"java/lang/Object", "clone", "()Ljava/lang/Object;"⟩, Cond.fieldLink RX5 29 "PassNotesLaw$Sim" "minute" "I", Cond.methodLink RX5 50 yX5_isTrue, Cond.instanceMethod yX5_isTrue, Cond.selects RX5 yX5_isTrue yX5_isTrue, Cond.code yX5_isTrue cX5_isTrue 4 (some .boolean)]
def wsL_law0_r9 : List Cond := [Cond.methodLink RX5 42 yX5_told, Cond.static yX5_told, Cond.code yX5_told cX5_told 2 (some .int), Cond.methodLink RX5 46 yX5_due, Cond.instanceMethod yX5_due, Cond.selects RX5 yX5_due yX5_due, Cond.code yX5_due cX5_due 3 (some .int), Cond.methodLink RL 62 yX4_go, Cond.instanceMethod yX4_go, Cond.selects RX4 yX4_go yX4_go, Cond.code yX4_go cX4_go 2 (some .int), Cond.methodLink RX4 178 yX4_checkMinutes, Cond.instanceMethod yX4_checkMinutes, Cond.selects RX4 yX4_checkMinutes yX4_checkMinutes, Cond.code yX4_checkMinutes cX4_checkMinutes 2 none, Cond.methodLink RX4 181 yX2_passMinutes, Cond.instanceMethod yX2_passMinutes, Cond.selects RX2 yX2_passMinutes yX2_passMinutes, Cond.code yX2_passMinutes cX2_passMinutes 4 (some .int), Cond.fieldLink RX2 44 "PassNotes$Notes" "minute" "I", Cond.methodLink RX2 68 yX2_writeSheets, Cond.instanceMethod yX2_writeSheets, Cond.selects RX2 yX2_writeSheets yX2_writeSheets, Cond.code yX2_writeSheets cX2_writeSheets 3 (some .int)]
def wsL_law0_r10 : List Cond := [Cond.instantiable RX3 3, Cond.initialized RX3, Cond.methodLink RX2 59 yX1_huts, Cond.methodLink RX2 77 yX2_mustWrite, Cond.instanceMethod yX2_mustWrite, Cond.selects RX2 yX2_mustWrite yX2_mustWrite, Cond.code yX2_mustWrite cX2_mustWrite 3 (some .boolean), Cond.methodLink RX2 65 yX3_age, Cond.instanceMethod yX3_age, Cond.selects RX3 yX3_age yX3_age, Cond.code yX3_age cX3_age 2 (some .int), Cond.fieldLink RX3 19 "PassNotes$Sheet" "written" "I", Cond.methodLink RX2 84 yX3_tellsAsNow, Cond.instanceMethod yX3_tellsAsNow, Cond.selects RX3 yX3_tellsAsNow yX3_tellsAsNow, Cond.code yX3_tellsAsNow cX3_tellsAsNow 4 (some .boolean), Cond.fieldLink RX3 9 "PassNotes$Sheet" "lengths" "[I", Cond.methodLink RX3 22 yX1_passes, Cond.methodLink RX3 28 yX1_tellsNow, Cond.instanceMethod yX1_tellsNow, Cond.selects RX1 yX1_tellsNow yX1_tellsNow, Cond.code yX1_tellsNow cX1_tellsNow 4 (some .int), Cond.methodLink RX2 81 yX3_init, Cond.instanceMethod yX3_init]
def wsL_law0_r11 : List Cond := [Cond.code yX3_init cX3_init 6 none, Cond.methodLink RX3 3 objectInit, Cond.fieldLink RX3 15 "PassNotes$Sheet" "number" "I", Cond.methodLink RX2 71 yX2_carrySheets, Cond.instanceMethod yX2_carrySheets, Cond.selects RX2 yX2_carrySheets yX2_carrySheets, Cond.code yX2_carrySheets cX2_carrySheets 2 none, Cond.methodLink RX2 88 yX1_passes, Cond.methodLink RX2 91 yX1_isOpen, Cond.instanceMethod yX1_isOpen, Cond.selects RX1 yX1_isOpen yX1_isOpen, Cond.code yX1_isOpen cX1_isOpen 2 (some .boolean), Cond.methodLink RX2 94 yX1_first, Cond.instanceMethod yX1_first, Cond.selects RX1 yX1_first yX1_first, Cond.code yX1_first cX1_first 2 (some .int), Cond.methodLink RX2 97 yX1_second, Cond.instanceMethod yX1_second, Cond.selects RX1 yX1_second yX1_second, Cond.code yX1_second cX1_second 2 (some .int), Cond.methodLink RX2 100 yX2_carry, Cond.instanceMethod yX2_carry, Cond.selects RX2 yX2_carry yX2_carry, Cond.code yX2_carry cX2_carry 5 none]
def wsL_law0_r12 : List Cond := [Cond.methodLink RX2 104 yX1_takesIn, Cond.instanceMethod yX1_takesIn, Cond.selects RX1 yX1_takesIn yX1_takesIn, Cond.code yX1_takesIn cX1_takesIn 3 (some .boolean), Cond.methodLink RX2 108 yX2_isNewer, Cond.instanceMethod yX2_isNewer, Cond.selects RX2 yX2_isNewer yX2_isNewer, Cond.code yX2_isNewer cX2_isNewer 3 (some .boolean), Cond.methodLink RX2 112 yX3_number, Cond.instanceMethod yX3_number, Cond.selects RX3 yX3_number yX3_number, Cond.code yX3_number cX3_number 1 (some .int), Cond.methodLink RX2 74 yX2_throwOldAway, Cond.instanceMethod yX2_throwOldAway, Cond.selects RX2 yX2_throwOldAway yX2_throwOldAway, Cond.code yX2_throwOldAway cX2_throwOldAway 3 none, Cond.methodLink RL 79 yX4_digest, Cond.instanceMethod yX4_digest, Cond.selects RX4 yX4_digest yX4_digest, Cond.code yX4_digest cX4_digest 5 (some .long), Cond.constantLong RX4 193 (1627), Cond.constantLong RX4 195 (31), Cond.methodLink RX4 197 yX4_count, Cond.instanceMethod yX4_count]
def wsL_law0_r13 : List Cond := [Cond.selects RX4 yX4_count yX4_count, Cond.code yX4_count cX4_count 2 (some .int), Cond.methodLink RX4 104 yX2_minute, Cond.instanceMethod yX2_minute, Cond.selects RX2 yX2_minute yX2_minute, Cond.code yX2_minute cX2_minute 1 (some .int), Cond.methodLink RX4 164 yX1_openPasses, Cond.instanceMethod yX1_openPasses, Cond.selects RX1 yX1_openPasses yX1_openPasses, Cond.code yX1_openPasses cX1_openPasses 3 (some .int), Cond.methodLink RX4 167 yX2_sheets, Cond.instanceMethod yX2_sheets, Cond.selects RX2 yX2_sheets yX2_sheets, Cond.code yX2_sheets cX2_sheets 3 (some .int), Cond.methodLink RX4 170 yX2_reachedPairs, Cond.instanceMethod yX2_reachedPairs, Cond.selects RX2 yX2_reachedPairs yX2_reachedPairs, Cond.code yX2_reachedPairs cX2_reachedPairs 4 (some .int), Cond.methodLink RX2 146 yX2_letter, Cond.instanceMethod yX2_letter, Cond.selects RX2 yX2_letter yX2_letter, Cond.code yX2_letter cX2_letter 6 (some .int), Cond.constant RX2 142 (1073741824), Cond.methodLink RX2 139 yX2_knownWay]
def wsL_law0_r14 : List Cond := [Cond.instanceMethod yX2_knownWay, Cond.selects RX2 yX2_knownWay yX2_knownWay, Cond.code yX2_knownWay cX2_knownWay 3 (some .int), Cond.methodLink RX2 121 yX2_findWays, Cond.instanceMethod yX2_findWays, Cond.selects RX2 yX2_findWays yX2_findWays, Cond.code yX2_findWays cX2_findWays 7 none, Cond.methodLink RX2 125 yX0_clear, Cond.instanceMethod yX0_clear, Cond.selects RX0 yX0_clear yX0_clear, Cond.code yX0_clear cX0_clear 1 none, Cond.fieldLink RX0 21 "PassNotes$Chart" "steps" "I", Cond.methodLink RX2 115 yX3_tells, Cond.instanceMethod yX3_tells, Cond.selects RX3 yX3_tells yX3_tells, Cond.code yX3_tells cX3_tells 2 (some .boolean), Cond.methodLink RX2 128 yX3_length, Cond.instanceMethod yX3_length, Cond.selects RX3 yX3_length yX3_length, Cond.code yX3_length cX3_length 2 (some .int), Cond.methodLink RX2 131 yX0_addStep, Cond.instanceMethod yX0_addStep, Cond.selects RX0 yX0_addStep yX0_addStep, Cond.code yX0_addStep cX0_addStep 4 none]
def wsL_law0_r15 : List Cond := [Cond.methodLink RX2 135 yX0_search, Cond.instanceMethod yX0_search, Cond.selects RX0 yX0_search yX0_search, Cond.code yX0_search cX0_search 7 none, Cond.constant RX0 25 (1073741824), Cond.methodLink RX2 143 yX1_isStep, Cond.instanceMethod yX1_isStep, Cond.selects RX1 yX1_isStep yX1_isStep, Cond.code yX1_isStep cX1_isStep 6 (some .boolean), Cond.methodLink RX4 173 yX1_joinedPairs, Cond.instanceMethod yX1_joinedPairs, Cond.selects RX1 yX1_joinedPairs yX1_joinedPairs, Cond.code yX1_joinedPairs cX1_joinedPairs 7 (some .int), Cond.methodLink RX1 44 yX1_groupOf, Cond.instanceMethod yX1_groupOf, Cond.selects RX1 yX1_groupOf yX1_groupOf, Cond.code yX1_groupOf cX1_groupOf 9 (some .int), Cond.methodLink RX1 48 yJ6_bitCount_0f7a4, Cond.static yJ6_bitCount_0f7a4, Cond.initialized RJ6, Cond.code yJ6_bitCount_0f7a4 cJ6_bitCount_0f7a4 1 (some .int), Cond.constant RJ6 265 (1431655765), Cond.constant RJ6 266 (858993459), Cond.constant RJ6 267 (252645135)]
def wsL_law0_r16 : List Cond := [Cond.methodLink RX4 200 yX4_told, Cond.instanceMethod yX4_told, Cond.selects RX4 yX4_told yX4_told, Cond.code yX4_told cX4_told 3 (some .int), Cond.methodLink RX4 149 yX1_area, Cond.instanceMethod yX1_area, Cond.selects RX1 yX1_area yX1_area, Cond.code yX1_area cX1_area 2 (some .int), Cond.methodLink RX4 152 yX2_sheetsOf, Cond.methodLink RX4 155 yX2_wroteInAll, Cond.instanceMethod yX2_wroteInAll, Cond.selects RX2 yX2_wroteInAll yX2_wroteInAll, Cond.code yX2_wroteInAll cX2_wroteInAll 2 (some .int), Cond.methodLink RX4 158 yX2_knownHuts, Cond.instanceMethod yX2_knownHuts, Cond.selects RX2 yX2_knownHuts yX2_knownHuts, Cond.code yX2_knownHuts cX2_knownHuts 4 (some .int), Cond.methodLink RX4 161 yX2_reachedHuts, Cond.instanceMethod yX2_reachedHuts, Cond.selects RX2 yX2_reachedHuts yX2_reachedHuts, Cond.code yX2_reachedHuts cX2_reachedHuts 4 (some .int), Cond.methodLink RX4 203 yX4_about, Cond.instanceMethod yX4_about, Cond.selects RX4 yX4_about yX4_about]
def wsL_law0_r17 : List Cond := [Cond.code yX4_about cX4_about 3 (some .int), Cond.methodLink RX4 128 yX1_first, Cond.methodLink RX4 131 yX1_second, Cond.methodLink RX4 134 yX1_length, Cond.instanceMethod yX1_length, Cond.selects RX1 yX1_length yX1_length, Cond.code yX1_length cX1_length 2 (some .int), Cond.methodLink RX4 137 yX1_isOpen, Cond.methodLink RX4 141 yX2_takersForOpen, Cond.instanceMethod yX2_takersForOpen, Cond.selects RX2 yX2_takersForOpen yX2_takersForOpen, Cond.code yX2_takersForOpen cX2_takersForOpen 4 (some .int), Cond.methodLink RX2 118 yX2_takesForOpen, Cond.instanceMethod yX2_takesForOpen, Cond.selects RX2 yX2_takesForOpen yX2_takesForOpen, Cond.code yX2_takesForOpen cX2_takesForOpen 5 (some .boolean), Cond.methodLink RX4 206 yX4_digestOfPair, Cond.instanceMethod yX4_digestOfPair, Cond.selects RX4 yX4_digestOfPair yX4_digestOfPair, Cond.code yX4_digestOfPair cX4_digestOfPair 8 (some .long), Cond.methodLink RX4 210 yX4_sheet, Cond.instanceMethod yX4_sheet, Cond.selects RX4 yX4_sheet yX4_sheet, Cond.code yX4_sheet cX4_sheet 5 (some .int)]
def wsL_law0_r18 : List Cond := [Cond.methodLink RX4 91 yX4_checkWhat, Cond.instanceMethod yX4_checkWhat, Cond.selects RX4 yX4_checkWhat yX4_checkWhat, Cond.code yX4_checkWhat cX4_checkWhat 3 none, Cond.methodLink RX4 95 yX2_held, Cond.instanceMethod yX2_held, Cond.selects RX2 yX2_held yX2_held, Cond.code yX2_held cX2_held 3 (some (.object "PassNotes$Sheet")), Cond.methodLink RX4 99 yX3_number, Cond.methodLink RX4 107 yX3_age, Cond.methodLink RX4 110 yX3_passesTold, Cond.instanceMethod yX3_passesTold, Cond.selects RX3 yX3_passesTold yX3_passesTold, Cond.code yX3_passesTold cX3_passesTold 3 (some .int), Cond.methodLink RX3 32 yX3_tells, Cond.methodLink RX4 213 yX4_way, Cond.instanceMethod yX4_way, Cond.selects RX4 yX4_way yX4_way, Cond.code yX4_way cX4_way 5 (some .int), Cond.constant RX4 116 (1073741824), Cond.methodLink RX4 113 yX2_knownWay, Cond.methodLink RL 83 yX4_count, Cond.methodLink RL 86 yX4_told, Cond.methodLink RL 89 yX4_sheet]
def wsL_law0_r19 : List Cond := [Cond.methodLink RL 92 yX4_way, Cond.methodLink RL 95 yX4_post, Cond.instanceMethod yX4_post, Cond.selects RX4 yX4_post yX4_post, Cond.code yX4_post cX4_post 3 (some .int), Cond.methodLink RX4 117 yX2_letter, Cond.methodLink RL 98 yX4_truth, Cond.instanceMethod yX4_truth, Cond.selects RX4 yX4_truth yX4_truth, Cond.code yX4_truth cX4_truth 4 (some .int), Cond.methodLink RX4 120 yX1_draw, Cond.instanceMethod yX1_draw, Cond.selects RX1 yX1_draw yX1_draw, Cond.code yX1_draw cX1_draw 3 none, Cond.methodLink RX1 35 yX0_clear, Cond.methodLink RX1 40 yX0_addStep, Cond.methodLink RX4 124 yX0_search, Cond.methodLink RL 101 yX4_settles, Cond.instanceMethod yX4_settles, Cond.selects RX4 yX4_settles yX4_settles, Cond.code yX4_settles cX4_settles 3 (some .int), Cond.methodLink RX4 186 yX2_copy, Cond.instanceMethod yX2_copy, Cond.selects RX2 yX2_copy yX2_copy]
def wsL_law0_r20 : List Cond := [Cond.code yX2_copy cX2_copy 3 none, Cond.methodLink RL 104 yX4_foresee, Cond.instanceMethod yX4_foresee, Cond.selects RX4 yX4_foresee yX4_foresee, Cond.code yX4_foresee cX4_foresee 3 (some .int), Cond.methodLink RL 107 yX4_advise, Cond.instanceMethod yX4_advise, Cond.selects RX4 yX4_advise yX4_advise, Cond.code yX4_advise cX4_advise 5 (some .int), Cond.methodLink RL 110 yX4_about, Cond.methodLink RL 113 yX5_isSame, Cond.instanceMethod yX5_isSame, Cond.selects RX5 yX5_isSame yX5_isSame, Cond.code yX5_isSame cX5_isSame 15 (some .boolean), Cond.constant RX5 54 (99999999), Cond.methodLink RX5 82 yX4_sheet, Cond.methodLink RX5 68 yX5_far, Cond.instanceMethod yX5_far, Cond.selects RX5 yX5_far yX5_far, Cond.code yX5_far cX5_far 8 (some (.array .int)), Cond.methodLink RX5 59 Lib.Math.min.name, Cond.static Lib.Math.min.name, Cond.initialized "java/lang/Math", Cond.code Lib.Math.min.name Lib.Math.min.code 2 (some .int)]
def wsL_law0_r21 : List Cond := [Cond.methodLink RX5 55 yX5_step, Cond.instanceMethod yX5_step, Cond.selects RX5 yX5_step yX5_step, Cond.code yX5_step cX5_step 4 (some .int), Cond.methodLink RX5 64 yX5_takes, Cond.instanceMethod yX5_takes, Cond.selects RX5 yX5_takes yX5_takes, Cond.code yX5_takes cX5_takes 3 (some .boolean), Cond.methodLink RX5 87 yX4_way, Cond.methodLink RX5 72 yX5_first, Cond.instanceMethod yX5_first, Cond.selects RX5 yX5_first yX5_first, Cond.code yX5_first cX5_first 8 (some .int), Cond.methodLink RX5 79 yX5_post, Cond.instanceMethod yX5_post, Cond.selects RX5 yX5_post yX5_post, Cond.code yX5_post cX5_post 11 (some .int), Cond.methodLink RX5 90 yX4_post, Cond.methodLink RX5 91 yX4_truth, Cond.methodLink RX5 75 yX5_sheetsOf, Cond.methodLink RX5 94 yX4_told, Cond.methodLink RX5 96 yX4_about, Cond.methodLink RX5 99 yX5_allSheets, Cond.instanceMethod yX5_allSheets]
def wsL_law0_r22 : List Cond := [Cond.selects RX5 yX5_allSheets yX5_allSheets, Cond.code yX5_allSheets cX5_allSheets 3 (some .int), Cond.methodLink RX5 103 yX5_pairs, Cond.instanceMethod yX5_pairs, Cond.selects RX5 yX5_pairs yX5_pairs, Cond.code yX5_pairs cX5_pairs 5 (some .int), Cond.methodLink RX5 107 yX4_count, Cond.methodLink RX5 110 yX4_mean, Cond.instanceMethod yX4_mean, Cond.selects RX4 yX4_mean yX4_mean, Cond.code yX4_mean cX4_mean 2 (some .double), Cond.methodLink RX4 190 yX2_ages, Cond.instanceMethod yX2_ages, Cond.selects RX2 yX2_ages yX2_ages, Cond.code yX2_ages cX2_ages 4 (some .int)]
def wsL_law0 : List Cond := (wsL_law0_r1 ++ (wsL_law0_r2 ++ (wsL_law0_r3 ++ (wsL_law0_r4 ++ (wsL_law0_r5 ++ (wsL_law0_r6 ++ (wsL_law0_r7 ++ (wsL_law0_r8 ++ (wsL_law0_r9 ++ (wsL_law0_r10 ++ (wsL_law0_r11 ++ (wsL_law0_r12 ++ (wsL_law0_r13 ++ (wsL_law0_r14 ++ (wsL_law0_r15 ++ (wsL_law0_r16 ++ (wsL_law0_r17 ++ (wsL_law0_r18 ++ (wsL_law0_r19 ++ (wsL_law0_r20 ++ (wsL_law0_r21 ++ wsL_law0_r22))))))))))))))))))))) ++ wsX40 ++ wsX10 ++ wsX20 ++ wsX00 ++ wsX50 ++ wsX30 ++ ([] : List Cond)
def wsL_law : List Cond := wsL_law0 ++ (vx_atS RX4 43 "java/lang/IllegalArgumentException" ["java/lang/RuntimeException", "java/lang/Exception"]).filter goodWord ++ (vx_atS RX4 54 "java/lang/IllegalStateException" ["java/lang/RuntimeException", "java/lang/Exception"]).filter goodWord ++ (vx_atS RX4 148 "java/lang/IndexOutOfBoundsException" ["java/lang/RuntimeException", "java/lang/Exception"]).filter goodWord
set_option maxRecDepth 20000 in
theorem wsL_law_in0 : ∀ w ∈ wsL_law0, w ∈ lw_tbl := fun w h => (goodIn_p wsL_law0 [38, 41, 46, 76, 82, 699, 703, 612, 619, 624, 627, 631, 155, 652, 616, 656, 660, 151, 665, 275, 671, 675, 331, 679, 683, 687, 590, 692, 696, 365, 235, 497, 533, 537, 540, 545, 414, 418, 438, 442, 446, 247, 451, 456, 460, 475, 343, 279, 283, 480, 484, 488, 239, 493, 518, 382, 243, 386, 390, 395, 306, 263, 267, 271, 255, 288, 292, 296, 312, 399, 403, 406, 357, 361, 369, 373, 377, 327, 339, 347, 352, 527, 147, 227, 232, 251, 259, 302, 316, 320, 510, 506, 501, 514, 558, 563, 575, 568, 572, 580, 584, 596, 600, 605, 609] (by decide +kernel) (by decide +kernel) w h).1
theorem wsL_law_x0 : ∀ w ∈ (vx_atS RX4 43 "java/lang/IllegalArgumentException" ["java/lang/RuntimeException", "java/lang/Exception"]).filter goodWord, w ∈ lw_tbl := by decide +kernel
theorem wsL_law_x1 : ∀ w ∈ (vx_atS RX4 54 "java/lang/IllegalStateException" ["java/lang/RuntimeException", "java/lang/Exception"]).filter goodWord, w ∈ lw_tbl := by decide +kernel
theorem wsL_law_x2 : ∀ w ∈ (vx_atS RX4 148 "java/lang/IndexOutOfBoundsException" ["java/lang/RuntimeException", "java/lang/Exception"]).filter goodWord, w ∈ lw_tbl := by decide +kernel
theorem wsL_law_in : ∀ w ∈ wsL_law, w ∈ lw_tbl := fun w h => (List.mem_append.mp h).elim (fun h => (List.mem_append.mp h).elim (fun h => (List.mem_append.mp h).elim (fun h => wsL_law_in0 w h) (fun h => wsL_law_x0 w h)) (fun h => wsL_law_x1 w h)) (fun h => wsL_law_x2 w h)
theorem inlX0 : ∀ w ∈ wsX00, w ∈ wsL_law := fun _ h => List.mem_append_left _ (List.mem_append_left _ (List.mem_append_left _ (List.mem_append_left _ (List.mem_append_left _ (List.mem_append_left _ (List.mem_append_right _ h))))))
theorem inX0 : ∀ w ∈ wsX00, w ∈ lw_tbl := fun w h => wsL_law_in w (inlX0 w h)
theorem inlX1 : ∀ w ∈ wsX10, w ∈ wsL_law := fun _ h => List.mem_append_left _ (List.mem_append_left _ (List.mem_append_left _ (List.mem_append_left _ (List.mem_append_left _ (List.mem_append_left _ (List.mem_append_left _ (List.mem_append_left _ (List.mem_append_right _ h))))))))
theorem inX1 : ∀ w ∈ wsX10, w ∈ lw_tbl := fun w h => wsL_law_in w (inlX1 w h)
theorem inlX2 : ∀ w ∈ wsX20, w ∈ wsL_law := fun _ h => List.mem_append_left _ (List.mem_append_left _ (List.mem_append_left _ (List.mem_append_left _ (List.mem_append_left _ (List.mem_append_left _ (List.mem_append_left _ (List.mem_append_right _ h)))))))
theorem inX2 : ∀ w ∈ wsX20, w ∈ lw_tbl := fun w h => wsL_law_in w (inlX2 w h)
theorem inlX3 : ∀ w ∈ wsX30, w ∈ wsL_law := fun _ h => List.mem_append_left _ (List.mem_append_left _ (List.mem_append_left _ (List.mem_append_left _ (List.mem_append_right _ h))))
theorem inX3 : ∀ w ∈ wsX30, w ∈ lw_tbl := fun w h => wsL_law_in w (inlX3 w h)
theorem inlX4 : ∀ w ∈ wsX40, w ∈ wsL_law := fun _ h => List.mem_append_left _ (List.mem_append_left _ (List.mem_append_left _ (List.mem_append_left _ (List.mem_append_left _ (List.mem_append_left _ (List.mem_append_left _ (List.mem_append_left _ (List.mem_append_left _ (List.mem_append_right _ h)))))))))
theorem inX4 : ∀ w ∈ wsX40, w ∈ lw_tbl := fun w h => wsL_law_in w (inlX4 w h)
theorem inlX5 : ∀ w ∈ wsX50, w ∈ wsL_law := fun _ h => List.mem_append_left _ (List.mem_append_left _ (List.mem_append_left _ (List.mem_append_left _ (List.mem_append_left _ (List.mem_append_right _ h)))))
theorem inX5 : ∀ w ∈ wsX50, w ∈ lw_tbl := fun w h => wsL_law_in w (inlX5 w h)
theorem inX6 : ∀ w ∈ wsX60, w ∈ lw_tbl := by decide +kernel
theorem inJx8e188 : ∀ w ∈ wsJx8e1880, w ∈ lw_tbl := by decide +kernel
theorem inJ6 : ∀ w ∈ wsJ60, w ∈ lw_tbl := by decide +kernel
theorem inJ9 : ∀ w ∈ wsJ90, w ∈ lw_tbl := by decide +kernel
theorem inJ0 : ∀ w ∈ wsJ00, w ∈ lw_tbl := by decide +kernel
theorem dX0_init_0 : decode cX0_init 0 = .ok (.aload_n 0, 1) := by decide +kernel
theorem dX0_init_1 : decode cX0_init 1 = .ok (.invokespecial 3, 3) := by decide +kernel
theorem dX0_init_4 : decode cX0_init 4 = .ok (.aload_n 0, 1) := by decide +kernel
theorem dX0_init_5 : decode cX0_init 5 = .ok (.bipush 40, 2) := by decide +kernel
theorem dX0_init_7 : decode cX0_init 7 = .ok (.newarray .int, 2) := by decide +kernel
theorem dX0_init_9 : decode cX0_init 9 = .ok (.putfield 9, 3) := by decide +kernel
theorem dX0_init_12 : decode cX0_init 12 = .ok (.aload_n 0, 1) := by decide +kernel
theorem dX0_init_13 : decode cX0_init 13 = .ok (.bipush 40, 2) := by decide +kernel
theorem dX0_init_15 : decode cX0_init 15 = .ok (.newarray .int, 2) := by decide +kernel
theorem dX0_init_17 : decode cX0_init 17 = .ok (.putfield 15, 3) := by decide +kernel
theorem dX0_init_20 : decode cX0_init 20 = .ok (.aload_n 0, 1) := by decide +kernel
theorem dX0_init_21 : decode cX0_init 21 = .ok (.bipush 40, 2) := by decide +kernel
theorem dX0_init_23 : decode cX0_init 23 = .ok (.newarray .int, 2) := by decide +kernel
theorem dX0_init_25 : decode cX0_init 25 = .ok (.putfield 18, 3) := by decide +kernel
theorem dX0_init_28 : decode cX0_init 28 = .ok (.return_, 1) := by decide +kernel
theorem dX0_clear_0 : decode cX0_clear 0 = .ok (.aload_n 0, 1) := by decide +kernel
theorem dX0_clear_1 : decode cX0_clear 1 = .ok (.iconst 0, 1) := by decide +kernel
theorem dX0_clear_2 : decode cX0_clear 2 = .ok (.putfield 21, 3) := by decide +kernel
theorem dX0_clear_5 : decode cX0_clear 5 = .ok (.return_, 1) := by decide +kernel
theorem dX0_addStep_0 : decode cX0_addStep 0 = .ok (.aload_n 0, 1) := by decide +kernel
theorem dX0_addStep_1 : decode cX0_addStep 1 = .ok (.getfield 21, 3) := by decide +kernel
theorem dX0_addStep_4 : decode cX0_addStep 4 = .ok (.aload_n 0, 1) := by decide +kernel
theorem dX0_addStep_5 : decode cX0_addStep 5 = .ok (.getfield 9, 3) := by decide +kernel
theorem dX0_addStep_8 : decode cX0_addStep 8 = .ok (.arraylength, 1) := by decide +kernel
theorem dX0_addStep_9 : decode cX0_addStep 9 = .ok (.if_icmp .ge 43, 3) := by decide +kernel
theorem dX0_addStep_12 : decode cX0_addStep 12 = .ok (.aload_n 0, 1) := by decide +kernel
theorem dX0_addStep_13 : decode cX0_addStep 13 = .ok (.getfield 9, 3) := by decide +kernel
theorem dX0_addStep_16 : decode cX0_addStep 16 = .ok (.aload_n 0, 1) := by decide +kernel
theorem dX0_addStep_17 : decode cX0_addStep 17 = .ok (.getfield 21, 3) := by decide +kernel
theorem dX0_addStep_20 : decode cX0_addStep 20 = .ok (.iload_n 1, 1) := by decide +kernel
theorem dX0_addStep_21 : decode cX0_addStep 21 = .ok (.iastore, 1) := by decide +kernel
theorem dX0_addStep_22 : decode cX0_addStep 22 = .ok (.aload_n 0, 1) := by decide +kernel
theorem dX0_addStep_23 : decode cX0_addStep 23 = .ok (.getfield 15, 3) := by decide +kernel
theorem dX0_addStep_26 : decode cX0_addStep 26 = .ok (.aload_n 0, 1) := by decide +kernel
theorem dX0_addStep_27 : decode cX0_addStep 27 = .ok (.getfield 21, 3) := by decide +kernel
theorem dX0_addStep_30 : decode cX0_addStep 30 = .ok (.iload_n 2, 1) := by decide +kernel
theorem dX0_addStep_31 : decode cX0_addStep 31 = .ok (.iastore, 1) := by decide +kernel
theorem dX0_addStep_32 : decode cX0_addStep 32 = .ok (.aload_n 0, 1) := by decide +kernel
theorem dX0_addStep_33 : decode cX0_addStep 33 = .ok (.getfield 18, 3) := by decide +kernel
theorem dX0_addStep_36 : decode cX0_addStep 36 = .ok (.aload_n 0, 1) := by decide +kernel
theorem dX0_addStep_37 : decode cX0_addStep 37 = .ok (.getfield 21, 3) := by decide +kernel
theorem dX0_addStep_40 : decode cX0_addStep 40 = .ok (.iload_n 3, 1) := by decide +kernel
theorem dX0_addStep_41 : decode cX0_addStep 41 = .ok (.iastore, 1) := by decide +kernel
theorem dX0_addStep_42 : decode cX0_addStep 42 = .ok (.aload_n 0, 1) := by decide +kernel
theorem dX0_addStep_43 : decode cX0_addStep 43 = .ok (.dup, 1) := by decide +kernel
theorem dX0_addStep_44 : decode cX0_addStep 44 = .ok (.getfield 21, 3) := by decide +kernel
theorem dX0_addStep_47 : decode cX0_addStep 47 = .ok (.iconst 1, 1) := by decide +kernel
theorem dX0_addStep_48 : decode cX0_addStep 48 = .ok (.iadd, 1) := by decide +kernel
theorem dX0_addStep_49 : decode cX0_addStep 49 = .ok (.putfield 21, 3) := by decide +kernel
theorem dX0_addStep_52 : decode cX0_addStep 52 = .ok (.return_, 1) := by decide +kernel
theorem dX0_search_0 : decode cX0_search 0 = .ok (.iconst 0, 1) := by decide +kernel
theorem dX0_search_1 : decode cX0_search 1 = .ok (.istore_n 3, 1) := by decide +kernel
theorem dX0_search_2 : decode cX0_search 2 = .ok (.iload_n 3, 1) := by decide +kernel
theorem dX0_search_3 : decode cX0_search 3 = .ok (.aload_n 2, 1) := by decide +kernel
theorem dX0_search_4 : decode cX0_search 4 = .ok (.arraylength, 1) := by decide +kernel
theorem dX0_search_5 : decode cX0_search 5 = .ok (.if_icmp .ge 14, 3) := by decide +kernel
theorem dX0_search_8 : decode cX0_search 8 = .ok (.aload_n 2, 1) := by decide +kernel
theorem dX0_search_9 : decode cX0_search 9 = .ok (.iload_n 3, 1) := by decide +kernel
theorem dX0_search_10 : decode cX0_search 10 = .ok (.ldc 25, 2) := by decide +kernel
theorem dX0_search_12 : decode cX0_search 12 = .ok (.iastore, 1) := by decide +kernel
theorem dX0_search_13 : decode cX0_search 13 = .ok (.iinc 3 1, 3) := by decide +kernel
theorem dX0_search_16 : decode cX0_search 16 = .ok (.goto (-14), 3) := by decide +kernel
theorem dX0_search_19 : decode cX0_search 19 = .ok (.aload_n 2, 1) := by decide +kernel
theorem dX0_search_20 : decode cX0_search 20 = .ok (.iload_n 1, 1) := by decide +kernel
theorem dX0_search_21 : decode cX0_search 21 = .ok (.iload_n 1, 1) := by decide +kernel
theorem dX0_search_22 : decode cX0_search 22 = .ok (.iastore, 1) := by decide +kernel
theorem dX0_search_23 : decode cX0_search 23 = .ok (.iconst 1, 1) := by decide +kernel
theorem dX0_search_24 : decode cX0_search 24 = .ok (.istore_n 3, 1) := by decide +kernel
theorem dX0_search_25 : decode cX0_search 25 = .ok (.iconst 0, 1) := by decide +kernel
theorem dX0_search_26 : decode cX0_search 26 = .ok (.istore 4, 2) := by decide +kernel
theorem dX0_search_28 : decode cX0_search 28 = .ok (.iload 4, 2) := by decide +kernel
theorem dX0_search_30 : decode cX0_search 30 = .ok (.bipush 10, 2) := by decide +kernel
theorem dX0_search_32 : decode cX0_search 32 = .ok (.if_icmp .ge 125, 3) := by decide +kernel
theorem dX0_search_35 : decode cX0_search 35 = .ok (.iload_n 3, 1) := by decide +kernel
theorem dX0_search_36 : decode cX0_search 36 = .ok (.ifCond .eq 121, 3) := by decide +kernel
theorem dX0_search_39 : decode cX0_search 39 = .ok (.iconst 0, 1) := by decide +kernel
theorem dX0_search_40 : decode cX0_search 40 = .ok (.istore_n 3, 1) := by decide +kernel
theorem dX0_search_41 : decode cX0_search 41 = .ok (.iconst 0, 1) := by decide +kernel
theorem dX0_search_42 : decode cX0_search 42 = .ok (.istore 5, 2) := by decide +kernel
theorem dX0_search_44 : decode cX0_search 44 = .ok (.iload 5, 2) := by decide +kernel
theorem dX0_search_46 : decode cX0_search 46 = .ok (.aload_n 0, 1) := by decide +kernel
theorem dX0_search_47 : decode cX0_search 47 = .ok (.getfield 21, 3) := by decide +kernel
theorem dX0_search_50 : decode cX0_search 50 = .ok (.if_icmp .ge 101, 3) := by decide +kernel
theorem dX0_search_53 : decode cX0_search 53 = .ok (.aload_n 2, 1) := by decide +kernel
theorem dX0_search_54 : decode cX0_search 54 = .ok (.aload_n 0, 1) := by decide +kernel
theorem dX0_search_55 : decode cX0_search 55 = .ok (.getfield 9, 3) := by decide +kernel
theorem dX0_search_58 : decode cX0_search 58 = .ok (.iload 5, 2) := by decide +kernel
theorem dX0_search_60 : decode cX0_search 60 = .ok (.iaload, 1) := by decide +kernel
theorem dX0_search_61 : decode cX0_search 61 = .ok (.iaload, 1) := by decide +kernel
theorem dX0_search_62 : decode cX0_search 62 = .ok (.istore 6, 2) := by decide +kernel
theorem dX0_search_64 : decode cX0_search 64 = .ok (.iload 6, 2) := by decide +kernel
theorem dX0_search_66 : decode cX0_search 66 = .ok (.ldc 25, 2) := by decide +kernel
theorem dX0_search_68 : decode cX0_search 68 = .ok (.if_icmp .ne 6, 3) := by decide +kernel
theorem dX0_search_71 : decode cX0_search 71 = .ok (.goto 74, 3) := by decide +kernel
theorem dX0_search_74 : decode cX0_search 74 = .ok (.iload 6, 2) := by decide +kernel
theorem dX0_search_76 : decode cX0_search 76 = .ok (.aload_n 0, 1) := by decide +kernel
theorem dX0_search_77 : decode cX0_search 77 = .ok (.getfield 18, 3) := by decide +kernel
theorem dX0_search_80 : decode cX0_search 80 = .ok (.iload 5, 2) := by decide +kernel
theorem dX0_search_82 : decode cX0_search 82 = .ok (.iaload, 1) := by decide +kernel
theorem dX0_search_83 : decode cX0_search 83 = .ok (.sipush 256, 3) := by decide +kernel
theorem dX0_search_86 : decode cX0_search 86 = .ok (.imul, 1) := by decide +kernel
theorem dX0_search_87 : decode cX0_search 87 = .ok (.bipush 16, 2) := by decide +kernel
theorem dX0_search_89 : decode cX0_search 89 = .ok (.iadd, 1) := by decide +kernel
theorem dX0_search_90 : decode cX0_search 90 = .ok (.iadd, 1) := by decide +kernel
theorem dX0_search_91 : decode cX0_search 91 = .ok (.istore 6, 2) := by decide +kernel
theorem dX0_search_93 : decode cX0_search 93 = .ok (.aload_n 0, 1) := by decide +kernel
theorem dX0_search_94 : decode cX0_search 94 = .ok (.getfield 9, 3) := by decide +kernel
theorem dX0_search_97 : decode cX0_search 97 = .ok (.iload 5, 2) := by decide +kernel
theorem dX0_search_99 : decode cX0_search 99 = .ok (.iaload, 1) := by decide +kernel
theorem dX0_search_100 : decode cX0_search 100 = .ok (.iload_n 1, 1) := by decide +kernel
theorem dX0_search_101 : decode cX0_search 101 = .ok (.if_icmp .ne 17, 3) := by decide +kernel
theorem dX0_search_104 : decode cX0_search 104 = .ok (.iload 6, 2) := by decide +kernel
theorem dX0_search_106 : decode cX0_search 106 = .ok (.aload_n 0, 1) := by decide +kernel
theorem dX0_search_107 : decode cX0_search 107 = .ok (.getfield 15, 3) := by decide +kernel
theorem dX0_search_110 : decode cX0_search 110 = .ok (.iload 5, 2) := by decide +kernel
theorem dX0_search_112 : decode cX0_search 112 = .ok (.iaload, 1) := by decide +kernel
theorem dX0_search_113 : decode cX0_search 113 = .ok (.iload_n 1, 1) := by decide +kernel
theorem dX0_search_114 : decode cX0_search 114 = .ok (.isub, 1) := by decide +kernel
theorem dX0_search_115 : decode cX0_search 115 = .ok (.iadd, 1) := by decide +kernel
theorem dX0_search_116 : decode cX0_search 116 = .ok (.istore 6, 2) := by decide +kernel
theorem dX0_search_118 : decode cX0_search 118 = .ok (.iload 6, 2) := by decide +kernel
theorem dX0_search_120 : decode cX0_search 120 = .ok (.aload_n 2, 1) := by decide +kernel
theorem dX0_search_121 : decode cX0_search 121 = .ok (.aload_n 0, 1) := by decide +kernel
theorem dX0_search_122 : decode cX0_search 122 = .ok (.getfield 15, 3) := by decide +kernel
theorem dX0_search_125 : decode cX0_search 125 = .ok (.iload 5, 2) := by decide +kernel
theorem dX0_search_127 : decode cX0_search 127 = .ok (.iaload, 1) := by decide +kernel
theorem dX0_search_128 : decode cX0_search 128 = .ok (.iaload, 1) := by decide +kernel
theorem dX0_search_129 : decode cX0_search 129 = .ok (.if_icmp .ge 16, 3) := by decide +kernel
theorem dX0_search_132 : decode cX0_search 132 = .ok (.aload_n 2, 1) := by decide +kernel
theorem dX0_search_133 : decode cX0_search 133 = .ok (.aload_n 0, 1) := by decide +kernel
theorem dX0_search_134 : decode cX0_search 134 = .ok (.getfield 15, 3) := by decide +kernel
theorem dX0_search_137 : decode cX0_search 137 = .ok (.iload 5, 2) := by decide +kernel
theorem dX0_search_139 : decode cX0_search 139 = .ok (.iaload, 1) := by decide +kernel
theorem dX0_search_140 : decode cX0_search 140 = .ok (.iload 6, 2) := by decide +kernel
theorem dX0_search_142 : decode cX0_search 142 = .ok (.iastore, 1) := by decide +kernel
theorem dX0_search_143 : decode cX0_search 143 = .ok (.iconst 1, 1) := by decide +kernel
theorem dX0_search_144 : decode cX0_search 144 = .ok (.istore_n 3, 1) := by decide +kernel
theorem dX0_search_145 : decode cX0_search 145 = .ok (.iinc 5 1, 3) := by decide +kernel
theorem dX0_search_148 : decode cX0_search 148 = .ok (.goto (-104), 3) := by decide +kernel
theorem dX0_search_151 : decode cX0_search 151 = .ok (.iinc 4 1, 3) := by decide +kernel
theorem dX0_search_154 : decode cX0_search 154 = .ok (.goto (-126), 3) := by decide +kernel
theorem dX0_search_157 : decode cX0_search 157 = .ok (.return_, 1) := by decide +kernel
theorem dX1_init_0 : decode cX1_init 0 = .ok (.aload_n 0, 1) := by decide +kernel
theorem dX1_init_1 : decode cX1_init 1 = .ok (.invokespecial 3, 3) := by decide +kernel
theorem dX1_init_4 : decode cX1_init 4 = .ok (.aload_n 0, 1) := by decide +kernel
theorem dX1_init_5 : decode cX1_init 5 = .ok (.bipush 10, 2) := by decide +kernel
theorem dX1_init_7 : decode cX1_init 7 = .ok (.newarray .int, 2) := by decide +kernel
theorem dX1_init_9 : decode cX1_init 9 = .ok (.putfield 9, 3) := by decide +kernel
theorem dX1_init_12 : decode cX1_init 12 = .ok (.aload_n 0, 1) := by decide +kernel
theorem dX1_init_13 : decode cX1_init 13 = .ok (.bipush 20, 2) := by decide +kernel
theorem dX1_init_15 : decode cX1_init 15 = .ok (.newarray .int, 2) := by decide +kernel
theorem dX1_init_17 : decode cX1_init 17 = .ok (.putfield 15, 3) := by decide +kernel
theorem dX1_init_20 : decode cX1_init 20 = .ok (.aload_n 0, 1) := by decide +kernel
theorem dX1_init_21 : decode cX1_init 21 = .ok (.bipush 20, 2) := by decide +kernel
theorem dX1_init_23 : decode cX1_init 23 = .ok (.newarray .int, 2) := by decide +kernel
theorem dX1_init_25 : decode cX1_init 25 = .ok (.putfield 18, 3) := by decide +kernel
theorem dX1_init_28 : decode cX1_init 28 = .ok (.aload_n 0, 1) := by decide +kernel
theorem dX1_init_29 : decode cX1_init 29 = .ok (.bipush 20, 2) := by decide +kernel
theorem dX1_init_31 : decode cX1_init 31 = .ok (.newarray .int, 2) := by decide +kernel
theorem dX1_init_33 : decode cX1_init 33 = .ok (.putfield 21, 3) := by decide +kernel
theorem dX1_init_36 : decode cX1_init 36 = .ok (.aload_n 0, 1) := by decide +kernel
theorem dX1_init_37 : decode cX1_init 37 = .ok (.bipush 20, 2) := by decide +kernel
theorem dX1_init_39 : decode cX1_init 39 = .ok (.newarray .boolean, 2) := by decide +kernel
theorem dX1_init_41 : decode cX1_init 41 = .ok (.putfield 24, 3) := by decide +kernel
theorem dX1_init_44 : decode cX1_init 44 = .ok (.return_, 1) := by decide +kernel
theorem dX1_huts_0 : decode cX1_huts 0 = .ok (.aload_n 0, 1) := by decide +kernel
theorem dX1_huts_1 : decode cX1_huts 1 = .ok (.getfield 28, 3) := by decide +kernel
theorem dX1_huts_4 : decode cX1_huts 4 = .ok (.ireturn, 1) := by decide +kernel
theorem dX1_passes_0 : decode cX1_passes 0 = .ok (.aload_n 0, 1) := by decide +kernel
theorem dX1_passes_1 : decode cX1_passes 1 = .ok (.getfield 32, 3) := by decide +kernel
theorem dX1_passes_4 : decode cX1_passes 4 = .ok (.ireturn, 1) := by decide +kernel
theorem dX1_area_0 : decode cX1_area 0 = .ok (.aload_n 0, 1) := by decide +kernel
theorem dX1_area_1 : decode cX1_area 1 = .ok (.getfield 9, 3) := by decide +kernel
theorem dX1_area_4 : decode cX1_area 4 = .ok (.iload_n 1, 1) := by decide +kernel
theorem dX1_area_5 : decode cX1_area 5 = .ok (.iaload, 1) := by decide +kernel
theorem dX1_area_6 : decode cX1_area 6 = .ok (.ireturn, 1) := by decide +kernel
theorem dX1_first_0 : decode cX1_first 0 = .ok (.aload_n 0, 1) := by decide +kernel
theorem dX1_first_1 : decode cX1_first 1 = .ok (.getfield 15, 3) := by decide +kernel
theorem dX1_first_4 : decode cX1_first 4 = .ok (.iload_n 1, 1) := by decide +kernel
theorem dX1_first_5 : decode cX1_first 5 = .ok (.iaload, 1) := by decide +kernel
theorem dX1_first_6 : decode cX1_first 6 = .ok (.ireturn, 1) := by decide +kernel
theorem dX1_second_0 : decode cX1_second 0 = .ok (.aload_n 0, 1) := by decide +kernel
theorem dX1_second_1 : decode cX1_second 1 = .ok (.getfield 18, 3) := by decide +kernel
theorem dX1_second_4 : decode cX1_second 4 = .ok (.iload_n 1, 1) := by decide +kernel
theorem dX1_second_5 : decode cX1_second 5 = .ok (.iaload, 1) := by decide +kernel
theorem dX1_second_6 : decode cX1_second 6 = .ok (.ireturn, 1) := by decide +kernel
theorem dX1_length_0 : decode cX1_length 0 = .ok (.aload_n 0, 1) := by decide +kernel
theorem dX1_length_1 : decode cX1_length 1 = .ok (.getfield 21, 3) := by decide +kernel
theorem dX1_length_4 : decode cX1_length 4 = .ok (.iload_n 1, 1) := by decide +kernel
theorem dX1_length_5 : decode cX1_length 5 = .ok (.iaload, 1) := by decide +kernel
theorem dX1_length_6 : decode cX1_length 6 = .ok (.ireturn, 1) := by decide +kernel
theorem dX1_isOpen_0 : decode cX1_isOpen 0 = .ok (.aload_n 0, 1) := by decide +kernel
theorem dX1_isOpen_1 : decode cX1_isOpen 1 = .ok (.getfield 24, 3) := by decide +kernel
theorem dX1_isOpen_4 : decode cX1_isOpen 4 = .ok (.iload_n 1, 1) := by decide +kernel
theorem dX1_isOpen_5 : decode cX1_isOpen 5 = .ok (.baload, 1) := by decide +kernel
theorem dX1_isOpen_6 : decode cX1_isOpen 6 = .ok (.ireturn, 1) := by decide +kernel
theorem dX1_addHut_0 : decode cX1_addHut 0 = .ok (.aload_n 0, 1) := by decide +kernel
theorem dX1_addHut_1 : decode cX1_addHut 1 = .ok (.getfield 28, 3) := by decide +kernel
theorem dX1_addHut_4 : decode cX1_addHut 4 = .ok (.bipush 10, 2) := by decide +kernel
theorem dX1_addHut_6 : decode cX1_addHut 6 = .ok (.if_icmp .lt 5, 3) := by decide +kernel
theorem dX1_addHut_9 : decode cX1_addHut 9 = .ok (.iconst (-1), 1) := by decide +kernel
theorem dX1_addHut_10 : decode cX1_addHut 10 = .ok (.ireturn, 1) := by decide +kernel
theorem dX1_addHut_11 : decode cX1_addHut 11 = .ok (.aload_n 0, 1) := by decide +kernel
theorem dX1_addHut_12 : decode cX1_addHut 12 = .ok (.getfield 9, 3) := by decide +kernel
theorem dX1_addHut_15 : decode cX1_addHut 15 = .ok (.aload_n 0, 1) := by decide +kernel
theorem dX1_addHut_16 : decode cX1_addHut 16 = .ok (.getfield 28, 3) := by decide +kernel
theorem dX1_addHut_19 : decode cX1_addHut 19 = .ok (.iload_n 1, 1) := by decide +kernel
theorem dX1_addHut_20 : decode cX1_addHut 20 = .ok (.iastore, 1) := by decide +kernel
theorem dX1_addHut_21 : decode cX1_addHut 21 = .ok (.aload_n 0, 1) := by decide +kernel
theorem dX1_addHut_22 : decode cX1_addHut 22 = .ok (.dup, 1) := by decide +kernel
theorem dX1_addHut_23 : decode cX1_addHut 23 = .ok (.getfield 28, 3) := by decide +kernel
theorem dX1_addHut_26 : decode cX1_addHut 26 = .ok (.iconst 1, 1) := by decide +kernel
theorem dX1_addHut_27 : decode cX1_addHut 27 = .ok (.iadd, 1) := by decide +kernel
theorem dX1_addHut_28 : decode cX1_addHut 28 = .ok (.putfield 28, 3) := by decide +kernel
theorem dX1_addHut_31 : decode cX1_addHut 31 = .ok (.aload_n 0, 1) := by decide +kernel
theorem dX1_addHut_32 : decode cX1_addHut 32 = .ok (.getfield 28, 3) := by decide +kernel
theorem dX1_addHut_35 : decode cX1_addHut 35 = .ok (.iconst 1, 1) := by decide +kernel
theorem dX1_addHut_36 : decode cX1_addHut 36 = .ok (.isub, 1) := by decide +kernel
theorem dX1_addHut_37 : decode cX1_addHut 37 = .ok (.ireturn, 1) := by decide +kernel
theorem dX1_addPass_0 : decode cX1_addPass 0 = .ok (.aload_n 0, 1) := by decide +kernel
theorem dX1_addPass_1 : decode cX1_addPass 1 = .ok (.getfield 32, 3) := by decide +kernel
theorem dX1_addPass_4 : decode cX1_addPass 4 = .ok (.bipush 20, 2) := by decide +kernel
theorem dX1_addPass_6 : decode cX1_addPass 6 = .ok (.if_icmp .lt 5, 3) := by decide +kernel
theorem dX1_addPass_9 : decode cX1_addPass 9 = .ok (.iconst (-1), 1) := by decide +kernel
theorem dX1_addPass_10 : decode cX1_addPass 10 = .ok (.ireturn, 1) := by decide +kernel
theorem dX1_addPass_11 : decode cX1_addPass 11 = .ok (.aload_n 0, 1) := by decide +kernel
theorem dX1_addPass_12 : decode cX1_addPass 12 = .ok (.getfield 15, 3) := by decide +kernel
theorem dX1_addPass_15 : decode cX1_addPass 15 = .ok (.aload_n 0, 1) := by decide +kernel
theorem dX1_addPass_16 : decode cX1_addPass 16 = .ok (.getfield 32, 3) := by decide +kernel
theorem dX1_addPass_19 : decode cX1_addPass 19 = .ok (.iload_n 1, 1) := by decide +kernel
theorem dX1_addPass_20 : decode cX1_addPass 20 = .ok (.iastore, 1) := by decide +kernel
theorem dX1_addPass_21 : decode cX1_addPass 21 = .ok (.aload_n 0, 1) := by decide +kernel
theorem dX1_addPass_22 : decode cX1_addPass 22 = .ok (.getfield 18, 3) := by decide +kernel
theorem dX1_addPass_25 : decode cX1_addPass 25 = .ok (.aload_n 0, 1) := by decide +kernel
theorem dX1_addPass_26 : decode cX1_addPass 26 = .ok (.getfield 32, 3) := by decide +kernel
theorem dX1_addPass_29 : decode cX1_addPass 29 = .ok (.iload_n 2, 1) := by decide +kernel
theorem dX1_addPass_30 : decode cX1_addPass 30 = .ok (.iastore, 1) := by decide +kernel
theorem dX1_addPass_31 : decode cX1_addPass 31 = .ok (.aload_n 0, 1) := by decide +kernel
theorem dX1_addPass_32 : decode cX1_addPass 32 = .ok (.getfield 21, 3) := by decide +kernel
theorem dX1_addPass_35 : decode cX1_addPass 35 = .ok (.aload_n 0, 1) := by decide +kernel
theorem dX1_addPass_36 : decode cX1_addPass 36 = .ok (.getfield 32, 3) := by decide +kernel
theorem dX1_addPass_39 : decode cX1_addPass 39 = .ok (.iload_n 3, 1) := by decide +kernel
theorem dX1_addPass_40 : decode cX1_addPass 40 = .ok (.iastore, 1) := by decide +kernel
theorem dX1_addPass_41 : decode cX1_addPass 41 = .ok (.aload_n 0, 1) := by decide +kernel
theorem dX1_addPass_42 : decode cX1_addPass 42 = .ok (.getfield 24, 3) := by decide +kernel
theorem dX1_addPass_45 : decode cX1_addPass 45 = .ok (.aload_n 0, 1) := by decide +kernel
theorem dX1_addPass_46 : decode cX1_addPass 46 = .ok (.getfield 32, 3) := by decide +kernel
theorem dX1_addPass_49 : decode cX1_addPass 49 = .ok (.iconst 1, 1) := by decide +kernel
theorem dX1_addPass_50 : decode cX1_addPass 50 = .ok (.bastore, 1) := by decide +kernel
theorem dX1_addPass_51 : decode cX1_addPass 51 = .ok (.aload_n 0, 1) := by decide +kernel
theorem dX1_addPass_52 : decode cX1_addPass 52 = .ok (.dup, 1) := by decide +kernel
theorem dX1_addPass_53 : decode cX1_addPass 53 = .ok (.getfield 32, 3) := by decide +kernel
theorem dX1_addPass_56 : decode cX1_addPass 56 = .ok (.iconst 1, 1) := by decide +kernel
theorem dX1_addPass_57 : decode cX1_addPass 57 = .ok (.iadd, 1) := by decide +kernel
theorem dX1_addPass_58 : decode cX1_addPass 58 = .ok (.putfield 32, 3) := by decide +kernel
theorem dX1_addPass_61 : decode cX1_addPass 61 = .ok (.aload_n 0, 1) := by decide +kernel
theorem dX1_addPass_62 : decode cX1_addPass 62 = .ok (.getfield 32, 3) := by decide +kernel
theorem dX1_addPass_65 : decode cX1_addPass 65 = .ok (.iconst 1, 1) := by decide +kernel
theorem dX1_addPass_66 : decode cX1_addPass 66 = .ok (.isub, 1) := by decide +kernel
theorem dX1_addPass_67 : decode cX1_addPass 67 = .ok (.ireturn, 1) := by decide +kernel
theorem dX1_changeLength_0 : decode cX1_changeLength 0 = .ok (.aload_n 0, 1) := by decide +kernel
theorem dX1_changeLength_1 : decode cX1_changeLength 1 = .ok (.getfield 21, 3) := by decide +kernel
theorem dX1_changeLength_4 : decode cX1_changeLength 4 = .ok (.iload_n 1, 1) := by decide +kernel
theorem dX1_changeLength_5 : decode cX1_changeLength 5 = .ok (.iaload, 1) := by decide +kernel
theorem dX1_changeLength_6 : decode cX1_changeLength 6 = .ok (.istore_n 3, 1) := by decide +kernel
theorem dX1_changeLength_7 : decode cX1_changeLength 7 = .ok (.aload_n 0, 1) := by decide +kernel
theorem dX1_changeLength_8 : decode cX1_changeLength 8 = .ok (.getfield 21, 3) := by decide +kernel
theorem dX1_changeLength_11 : decode cX1_changeLength 11 = .ok (.iload_n 1, 1) := by decide +kernel
theorem dX1_changeLength_12 : decode cX1_changeLength 12 = .ok (.iload_n 2, 1) := by decide +kernel
theorem dX1_changeLength_13 : decode cX1_changeLength 13 = .ok (.iastore, 1) := by decide +kernel
theorem dX1_changeLength_14 : decode cX1_changeLength 14 = .ok (.iload_n 3, 1) := by decide +kernel
theorem dX1_changeLength_15 : decode cX1_changeLength 15 = .ok (.ireturn, 1) := by decide +kernel
theorem dX1_changeOpen_0 : decode cX1_changeOpen 0 = .ok (.aload_n 0, 1) := by decide +kernel
theorem dX1_changeOpen_1 : decode cX1_changeOpen 1 = .ok (.getfield 24, 3) := by decide +kernel
theorem dX1_changeOpen_4 : decode cX1_changeOpen 4 = .ok (.iload_n 1, 1) := by decide +kernel
theorem dX1_changeOpen_5 : decode cX1_changeOpen 5 = .ok (.baload, 1) := by decide +kernel
theorem dX1_changeOpen_6 : decode cX1_changeOpen 6 = .ok (.istore_n 3, 1) := by decide +kernel
theorem dX1_changeOpen_7 : decode cX1_changeOpen 7 = .ok (.aload_n 0, 1) := by decide +kernel
theorem dX1_changeOpen_8 : decode cX1_changeOpen 8 = .ok (.getfield 24, 3) := by decide +kernel
theorem dX1_changeOpen_11 : decode cX1_changeOpen 11 = .ok (.iload_n 1, 1) := by decide +kernel
theorem dX1_changeOpen_12 : decode cX1_changeOpen 12 = .ok (.iload_n 2, 1) := by decide +kernel
theorem dX1_changeOpen_13 : decode cX1_changeOpen 13 = .ok (.bastore, 1) := by decide +kernel
theorem dX1_changeOpen_14 : decode cX1_changeOpen 14 = .ok (.iload_n 3, 1) := by decide +kernel
theorem dX1_changeOpen_15 : decode cX1_changeOpen 15 = .ok (.ireturn, 1) := by decide +kernel
theorem dX1_openPasses_0 : decode cX1_openPasses 0 = .ok (.iconst 0, 1) := by decide +kernel
theorem dX1_openPasses_1 : decode cX1_openPasses 1 = .ok (.istore_n 1, 1) := by decide +kernel
theorem dX1_openPasses_2 : decode cX1_openPasses 2 = .ok (.iconst 0, 1) := by decide +kernel
theorem dX1_openPasses_3 : decode cX1_openPasses 3 = .ok (.istore_n 2, 1) := by decide +kernel
theorem dX1_openPasses_4 : decode cX1_openPasses 4 = .ok (.iload_n 2, 1) := by decide +kernel
theorem dX1_openPasses_5 : decode cX1_openPasses 5 = .ok (.aload_n 0, 1) := by decide +kernel
theorem dX1_openPasses_6 : decode cX1_openPasses 6 = .ok (.getfield 32, 3) := by decide +kernel
theorem dX1_openPasses_9 : decode cX1_openPasses 9 = .ok (.if_icmp .ge 21, 3) := by decide +kernel
theorem dX1_openPasses_12 : decode cX1_openPasses 12 = .ok (.aload_n 0, 1) := by decide +kernel
theorem dX1_openPasses_13 : decode cX1_openPasses 13 = .ok (.getfield 24, 3) := by decide +kernel
theorem dX1_openPasses_16 : decode cX1_openPasses 16 = .ok (.iload_n 2, 1) := by decide +kernel
theorem dX1_openPasses_17 : decode cX1_openPasses 17 = .ok (.baload, 1) := by decide +kernel
theorem dX1_openPasses_18 : decode cX1_openPasses 18 = .ok (.ifCond .eq 6, 3) := by decide +kernel
theorem dX1_openPasses_21 : decode cX1_openPasses 21 = .ok (.iinc 1 1, 3) := by decide +kernel
theorem dX1_openPasses_24 : decode cX1_openPasses 24 = .ok (.iinc 2 1, 3) := by decide +kernel
theorem dX1_openPasses_27 : decode cX1_openPasses 27 = .ok (.goto (-23), 3) := by decide +kernel
theorem dX1_openPasses_30 : decode cX1_openPasses 30 = .ok (.iload_n 1, 1) := by decide +kernel
theorem dX1_openPasses_31 : decode cX1_openPasses 31 = .ok (.ireturn, 1) := by decide +kernel
theorem dX1_takesIn_0 : decode cX1_takesIn 0 = .ok (.aload_n 0, 1) := by decide +kernel
theorem dX1_takesIn_1 : decode cX1_takesIn 1 = .ok (.getfield 9, 3) := by decide +kernel
theorem dX1_takesIn_4 : decode cX1_takesIn 4 = .ok (.iload_n 1, 1) := by decide +kernel
theorem dX1_takesIn_5 : decode cX1_takesIn 5 = .ok (.iaload, 1) := by decide +kernel
theorem dX1_takesIn_6 : decode cX1_takesIn 6 = .ok (.ifCond .eq 27, 3) := by decide +kernel
theorem dX1_takesIn_9 : decode cX1_takesIn 9 = .ok (.aload_n 0, 1) := by decide +kernel
theorem dX1_takesIn_10 : decode cX1_takesIn 10 = .ok (.getfield 9, 3) := by decide +kernel
theorem dX1_takesIn_13 : decode cX1_takesIn 13 = .ok (.iload_n 2, 1) := by decide +kernel
theorem dX1_takesIn_14 : decode cX1_takesIn 14 = .ok (.iaload, 1) := by decide +kernel
theorem dX1_takesIn_15 : decode cX1_takesIn 15 = .ok (.ifCond .eq 18, 3) := by decide +kernel
theorem dX1_takesIn_18 : decode cX1_takesIn 18 = .ok (.aload_n 0, 1) := by decide +kernel
theorem dX1_takesIn_19 : decode cX1_takesIn 19 = .ok (.getfield 9, 3) := by decide +kernel
theorem dX1_takesIn_22 : decode cX1_takesIn 22 = .ok (.iload_n 1, 1) := by decide +kernel
theorem dX1_takesIn_23 : decode cX1_takesIn 23 = .ok (.iaload, 1) := by decide +kernel
theorem dX1_takesIn_24 : decode cX1_takesIn 24 = .ok (.aload_n 0, 1) := by decide +kernel
theorem dX1_takesIn_25 : decode cX1_takesIn 25 = .ok (.getfield 9, 3) := by decide +kernel
theorem dX1_takesIn_28 : decode cX1_takesIn 28 = .ok (.iload_n 2, 1) := by decide +kernel
theorem dX1_takesIn_29 : decode cX1_takesIn 29 = .ok (.iaload, 1) := by decide +kernel
theorem dX1_takesIn_30 : decode cX1_takesIn 30 = .ok (.if_icmp .ne 7, 3) := by decide +kernel
theorem dX1_takesIn_33 : decode cX1_takesIn 33 = .ok (.iconst 1, 1) := by decide +kernel
theorem dX1_takesIn_34 : decode cX1_takesIn 34 = .ok (.goto 4, 3) := by decide +kernel
theorem dX1_takesIn_37 : decode cX1_takesIn 37 = .ok (.iconst 0, 1) := by decide +kernel
theorem dX1_takesIn_38 : decode cX1_takesIn 38 = .ok (.ireturn, 1) := by decide +kernel
theorem dX1_tellsNow_0 : decode cX1_tellsNow 0 = .ok (.aload_n 0, 1) := by decide +kernel
theorem dX1_tellsNow_1 : decode cX1_tellsNow 1 = .ok (.getfield 15, 3) := by decide +kernel
theorem dX1_tellsNow_4 : decode cX1_tellsNow 4 = .ok (.iload_n 2, 1) := by decide +kernel
theorem dX1_tellsNow_5 : decode cX1_tellsNow 5 = .ok (.iaload, 1) := by decide +kernel
theorem dX1_tellsNow_6 : decode cX1_tellsNow 6 = .ok (.iload_n 1, 1) := by decide +kernel
theorem dX1_tellsNow_7 : decode cX1_tellsNow 7 = .ok (.if_icmp .eq 13, 3) := by decide +kernel
theorem dX1_tellsNow_10 : decode cX1_tellsNow 10 = .ok (.aload_n 0, 1) := by decide +kernel
theorem dX1_tellsNow_11 : decode cX1_tellsNow 11 = .ok (.getfield 18, 3) := by decide +kernel
theorem dX1_tellsNow_14 : decode cX1_tellsNow 14 = .ok (.iload_n 2, 1) := by decide +kernel
theorem dX1_tellsNow_15 : decode cX1_tellsNow 15 = .ok (.iaload, 1) := by decide +kernel
theorem dX1_tellsNow_16 : decode cX1_tellsNow 16 = .ok (.iload_n 1, 1) := by decide +kernel
theorem dX1_tellsNow_17 : decode cX1_tellsNow 17 = .ok (.if_icmp .ne 7, 3) := by decide +kernel
theorem dX1_tellsNow_20 : decode cX1_tellsNow 20 = .ok (.iconst 1, 1) := by decide +kernel
theorem dX1_tellsNow_21 : decode cX1_tellsNow 21 = .ok (.goto 4, 3) := by decide +kernel
theorem dX1_tellsNow_24 : decode cX1_tellsNow 24 = .ok (.iconst 0, 1) := by decide +kernel
theorem dX1_tellsNow_25 : decode cX1_tellsNow 25 = .ok (.istore_n 3, 1) := by decide +kernel
theorem dX1_tellsNow_26 : decode cX1_tellsNow 26 = .ok (.iload_n 3, 1) := by decide +kernel
theorem dX1_tellsNow_27 : decode cX1_tellsNow 27 = .ok (.ifCond .eq 21, 3) := by decide +kernel
theorem dX1_tellsNow_30 : decode cX1_tellsNow 30 = .ok (.aload_n 0, 1) := by decide +kernel
theorem dX1_tellsNow_31 : decode cX1_tellsNow 31 = .ok (.getfield 24, 3) := by decide +kernel
theorem dX1_tellsNow_34 : decode cX1_tellsNow 34 = .ok (.iload_n 2, 1) := by decide +kernel
theorem dX1_tellsNow_35 : decode cX1_tellsNow 35 = .ok (.baload, 1) := by decide +kernel
theorem dX1_tellsNow_36 : decode cX1_tellsNow 36 = .ok (.ifCond .eq 12, 3) := by decide +kernel
theorem dX1_tellsNow_39 : decode cX1_tellsNow 39 = .ok (.aload_n 0, 1) := by decide +kernel
theorem dX1_tellsNow_40 : decode cX1_tellsNow 40 = .ok (.getfield 21, 3) := by decide +kernel
theorem dX1_tellsNow_43 : decode cX1_tellsNow 43 = .ok (.iload_n 2, 1) := by decide +kernel
theorem dX1_tellsNow_44 : decode cX1_tellsNow 44 = .ok (.iaload, 1) := by decide +kernel
theorem dX1_tellsNow_45 : decode cX1_tellsNow 45 = .ok (.goto 4, 3) := by decide +kernel
theorem dX1_tellsNow_48 : decode cX1_tellsNow 48 = .ok (.iconst 0, 1) := by decide +kernel
theorem dX1_tellsNow_49 : decode cX1_tellsNow 49 = .ok (.ireturn, 1) := by decide +kernel
theorem dX1_isStep_0 : decode cX1_isStep 0 = .ok (.iconst 0, 1) := by decide +kernel
theorem dX1_isStep_1 : decode cX1_isStep 1 = .ok (.istore_n 3, 1) := by decide +kernel
theorem dX1_isStep_2 : decode cX1_isStep 2 = .ok (.iload_n 3, 1) := by decide +kernel
theorem dX1_isStep_3 : decode cX1_isStep 3 = .ok (.aload_n 0, 1) := by decide +kernel
theorem dX1_isStep_4 : decode cX1_isStep 4 = .ok (.getfield 32, 3) := by decide +kernel
theorem dX1_isStep_7 : decode cX1_isStep 7 = .ok (.if_icmp .ge 84, 3) := by decide +kernel
theorem dX1_isStep_10 : decode cX1_isStep 10 = .ok (.aload_n 0, 1) := by decide +kernel
theorem dX1_isStep_11 : decode cX1_isStep 11 = .ok (.getfield 15, 3) := by decide +kernel
theorem dX1_isStep_14 : decode cX1_isStep 14 = .ok (.iload_n 3, 1) := by decide +kernel
theorem dX1_isStep_15 : decode cX1_isStep 15 = .ok (.iaload, 1) := by decide +kernel
theorem dX1_isStep_16 : decode cX1_isStep 16 = .ok (.iload_n 1, 1) := by decide +kernel
theorem dX1_isStep_17 : decode cX1_isStep 17 = .ok (.if_icmp .ne 17, 3) := by decide +kernel
theorem dX1_isStep_20 : decode cX1_isStep 20 = .ok (.aload_n 0, 1) := by decide +kernel
theorem dX1_isStep_21 : decode cX1_isStep 21 = .ok (.getfield 18, 3) := by decide +kernel
theorem dX1_isStep_24 : decode cX1_isStep 24 = .ok (.iload_n 3, 1) := by decide +kernel
theorem dX1_isStep_25 : decode cX1_isStep 25 = .ok (.iaload, 1) := by decide +kernel
theorem dX1_isStep_26 : decode cX1_isStep 26 = .ok (.iload_n 2, 1) := by decide +kernel
theorem dX1_isStep_27 : decode cX1_isStep 27 = .ok (.if_icmp .ne 7, 3) := by decide +kernel
theorem dX1_isStep_30 : decode cX1_isStep 30 = .ok (.iconst 1, 1) := by decide +kernel
theorem dX1_isStep_31 : decode cX1_isStep 31 = .ok (.goto 4, 3) := by decide +kernel
theorem dX1_isStep_34 : decode cX1_isStep 34 = .ok (.iconst 0, 1) := by decide +kernel
theorem dX1_isStep_35 : decode cX1_isStep 35 = .ok (.istore 4, 2) := by decide +kernel
theorem dX1_isStep_37 : decode cX1_isStep 37 = .ok (.aload_n 0, 1) := by decide +kernel
theorem dX1_isStep_38 : decode cX1_isStep 38 = .ok (.getfield 15, 3) := by decide +kernel
theorem dX1_isStep_41 : decode cX1_isStep 41 = .ok (.iload_n 3, 1) := by decide +kernel
theorem dX1_isStep_42 : decode cX1_isStep 42 = .ok (.iaload, 1) := by decide +kernel
theorem dX1_isStep_43 : decode cX1_isStep 43 = .ok (.iload_n 2, 1) := by decide +kernel
theorem dX1_isStep_44 : decode cX1_isStep 44 = .ok (.if_icmp .ne 17, 3) := by decide +kernel
theorem dX1_isStep_47 : decode cX1_isStep 47 = .ok (.aload_n 0, 1) := by decide +kernel
theorem dX1_isStep_48 : decode cX1_isStep 48 = .ok (.getfield 18, 3) := by decide +kernel
theorem dX1_isStep_51 : decode cX1_isStep 51 = .ok (.iload_n 3, 1) := by decide +kernel
theorem dX1_isStep_52 : decode cX1_isStep 52 = .ok (.iaload, 1) := by decide +kernel
theorem dX1_isStep_53 : decode cX1_isStep 53 = .ok (.iload_n 1, 1) := by decide +kernel
theorem dX1_isStep_54 : decode cX1_isStep 54 = .ok (.if_icmp .ne 7, 3) := by decide +kernel
theorem dX1_isStep_57 : decode cX1_isStep 57 = .ok (.iconst 1, 1) := by decide +kernel
theorem dX1_isStep_58 : decode cX1_isStep 58 = .ok (.goto 4, 3) := by decide +kernel
theorem dX1_isStep_61 : decode cX1_isStep 61 = .ok (.iconst 0, 1) := by decide +kernel
theorem dX1_isStep_62 : decode cX1_isStep 62 = .ok (.istore 5, 2) := by decide +kernel
theorem dX1_isStep_64 : decode cX1_isStep 64 = .ok (.aload_n 0, 1) := by decide +kernel
theorem dX1_isStep_65 : decode cX1_isStep 65 = .ok (.getfield 24, 3) := by decide +kernel
theorem dX1_isStep_68 : decode cX1_isStep 68 = .ok (.iload_n 3, 1) := by decide +kernel
theorem dX1_isStep_69 : decode cX1_isStep 69 = .ok (.baload, 1) := by decide +kernel
theorem dX1_isStep_70 : decode cX1_isStep 70 = .ok (.ifCond .eq 15, 3) := by decide +kernel
theorem dX1_isStep_73 : decode cX1_isStep 73 = .ok (.iload 4, 2) := by decide +kernel
theorem dX1_isStep_75 : decode cX1_isStep 75 = .ok (.ifCond .ne 8, 3) := by decide +kernel
theorem dX1_isStep_78 : decode cX1_isStep 78 = .ok (.iload 5, 2) := by decide +kernel
theorem dX1_isStep_80 : decode cX1_isStep 80 = .ok (.ifCond .eq 5, 3) := by decide +kernel
theorem dX1_isStep_83 : decode cX1_isStep 83 = .ok (.iconst 1, 1) := by decide +kernel
theorem dX1_isStep_84 : decode cX1_isStep 84 = .ok (.ireturn, 1) := by decide +kernel
theorem dX1_isStep_85 : decode cX1_isStep 85 = .ok (.iinc 3 1, 3) := by decide +kernel
theorem dX1_isStep_88 : decode cX1_isStep 88 = .ok (.goto (-86), 3) := by decide +kernel
theorem dX1_isStep_91 : decode cX1_isStep 91 = .ok (.iconst 0, 1) := by decide +kernel
theorem dX1_isStep_92 : decode cX1_isStep 92 = .ok (.ireturn, 1) := by decide +kernel
set_option maxRecDepth 20000 in
theorem ggX1_draw_X0_clear : GoodIn wsX1_draw wsX0_clear := goodIn_r _ [10, 11, 26, 27, 28, 29] (by decide +kernel) (by decide +kernel)
set_option maxRecDepth 20000 in
theorem gX1_draw_X0_clear : GoodIn wsX1_draw (wsV RX1 35 RX0 yX0_clear wsX0_clear) := goodIn_app (goodIn_of _ (by decide +kernel)) ggX1_draw_X0_clear
set_option maxRecDepth 20000 in
theorem ggX1_draw_X0_addStep : GoodIn wsX1_draw wsX0_addStep := goodIn_r _ [15, 11, 16, 17, 18, 26, 27, 28, 29] (by decide +kernel) (by decide +kernel)
set_option maxRecDepth 20000 in
theorem gX1_draw_X0_addStep : GoodIn wsX1_draw (wsV RX1 40 RX0 yX0_addStep wsX0_addStep) := goodIn_app (goodIn_of _ (by decide +kernel)) ggX1_draw_X0_addStep
theorem dX1_draw_0 : decode cX1_draw 0 = .ok (.aload_n 1, 1) := by decide +kernel
theorem dX1_draw_1 : decode cX1_draw 1 = .ok (.invokevirtual 35, 3) := by decide +kernel
theorem dX1_draw_4 : decode cX1_draw 4 = .ok (.iconst 0, 1) := by decide +kernel
theorem dX1_draw_5 : decode cX1_draw 5 = .ok (.istore_n 2, 1) := by decide +kernel
theorem dX1_draw_6 : decode cX1_draw 6 = .ok (.iload_n 2, 1) := by decide +kernel
theorem dX1_draw_7 : decode cX1_draw 7 = .ok (.aload_n 0, 1) := by decide +kernel
theorem dX1_draw_8 : decode cX1_draw 8 = .ok (.getfield 32, 3) := by decide +kernel
theorem dX1_draw_11 : decode cX1_draw 11 = .ok (.if_icmp .ge 62, 3) := by decide +kernel
theorem dX1_draw_14 : decode cX1_draw 14 = .ok (.aload_n 0, 1) := by decide +kernel
theorem dX1_draw_15 : decode cX1_draw 15 = .ok (.getfield 24, 3) := by decide +kernel
theorem dX1_draw_18 : decode cX1_draw 18 = .ok (.iload_n 2, 1) := by decide +kernel
theorem dX1_draw_19 : decode cX1_draw 19 = .ok (.baload, 1) := by decide +kernel
theorem dX1_draw_20 : decode cX1_draw 20 = .ok (.ifCond .eq 47, 3) := by decide +kernel
theorem dX1_draw_23 : decode cX1_draw 23 = .ok (.aload_n 1, 1) := by decide +kernel
theorem dX1_draw_24 : decode cX1_draw 24 = .ok (.aload_n 0, 1) := by decide +kernel
theorem dX1_draw_25 : decode cX1_draw 25 = .ok (.getfield 15, 3) := by decide +kernel
theorem dX1_draw_28 : decode cX1_draw 28 = .ok (.iload_n 2, 1) := by decide +kernel
theorem dX1_draw_29 : decode cX1_draw 29 = .ok (.iaload, 1) := by decide +kernel
theorem dX1_draw_30 : decode cX1_draw 30 = .ok (.aload_n 0, 1) := by decide +kernel
theorem dX1_draw_31 : decode cX1_draw 31 = .ok (.getfield 18, 3) := by decide +kernel
theorem dX1_draw_34 : decode cX1_draw 34 = .ok (.iload_n 2, 1) := by decide +kernel
theorem dX1_draw_35 : decode cX1_draw 35 = .ok (.iaload, 1) := by decide +kernel
theorem dX1_draw_36 : decode cX1_draw 36 = .ok (.aload_n 0, 1) := by decide +kernel
theorem dX1_draw_37 : decode cX1_draw 37 = .ok (.getfield 21, 3) := by decide +kernel
theorem dX1_draw_40 : decode cX1_draw 40 = .ok (.iload_n 2, 1) := by decide +kernel
theorem dX1_draw_41 : decode cX1_draw 41 = .ok (.iaload, 1) := by decide +kernel
theorem dX1_draw_42 : decode cX1_draw 42 = .ok (.invokevirtual 40, 3) := by decide +kernel
theorem dX1_draw_45 : decode cX1_draw 45 = .ok (.aload_n 1, 1) := by decide +kernel
theorem dX1_draw_46 : decode cX1_draw 46 = .ok (.aload_n 0, 1) := by decide +kernel
theorem dX1_draw_47 : decode cX1_draw 47 = .ok (.getfield 18, 3) := by decide +kernel
theorem dX1_draw_50 : decode cX1_draw 50 = .ok (.iload_n 2, 1) := by decide +kernel
theorem dX1_draw_51 : decode cX1_draw 51 = .ok (.iaload, 1) := by decide +kernel
theorem dX1_draw_52 : decode cX1_draw 52 = .ok (.aload_n 0, 1) := by decide +kernel
theorem dX1_draw_53 : decode cX1_draw 53 = .ok (.getfield 15, 3) := by decide +kernel
theorem dX1_draw_56 : decode cX1_draw 56 = .ok (.iload_n 2, 1) := by decide +kernel
theorem dX1_draw_57 : decode cX1_draw 57 = .ok (.iaload, 1) := by decide +kernel
theorem dX1_draw_58 : decode cX1_draw 58 = .ok (.aload_n 0, 1) := by decide +kernel
theorem dX1_draw_59 : decode cX1_draw 59 = .ok (.getfield 21, 3) := by decide +kernel
theorem dX1_draw_62 : decode cX1_draw 62 = .ok (.iload_n 2, 1) := by decide +kernel
theorem dX1_draw_63 : decode cX1_draw 63 = .ok (.iaload, 1) := by decide +kernel
theorem dX1_draw_64 : decode cX1_draw 64 = .ok (.invokevirtual 40, 3) := by decide +kernel
theorem dX1_draw_67 : decode cX1_draw 67 = .ok (.iinc 2 1, 3) := by decide +kernel
theorem dX1_draw_70 : decode cX1_draw 70 = .ok (.goto (-64), 3) := by decide +kernel
theorem dX1_draw_73 : decode cX1_draw 73 = .ok (.return_, 1) := by decide +kernel
set_option maxRecDepth 20000 in
theorem ggX1_joinedPairs_X1_groupOf : GoodIn wsX1_joinedPairs wsX1_groupOf := goodIn_r _ [6, 7, 8, 9, 10, 18, 19, 20, 21, 22, 23, 24] (by decide +kernel) (by decide +kernel)
set_option maxRecDepth 20000 in
theorem gX1_joinedPairs_X1_groupOf : GoodIn wsX1_joinedPairs (wsV RX1 44 RX1 yX1_groupOf wsX1_groupOf) := goodIn_app (goodIn_of _ (by decide +kernel)) ggX1_joinedPairs_X1_groupOf
set_option maxRecDepth 20000 in
theorem ggX1_joinedPairs_J6_bitCount_0f7a4 : GoodIn wsX1_joinedPairs wsJ6_bitCount_0f7a4 := goodIn_r _ [14, 15, 16, 17] (by decide +kernel) (by decide +kernel)
set_option maxRecDepth 20000 in
theorem gX1_joinedPairs_J6_bitCount_0f7a4 : GoodIn wsX1_joinedPairs (va_wsS RX1 48 yJ6_bitCount_0f7a4 wsJ6_bitCount_0f7a4) := goodIn_app (goodIn_of _ (by decide +kernel)) ggX1_joinedPairs_J6_bitCount_0f7a4
theorem dX1_joinedPairs_0 : decode cX1_joinedPairs 0 = .ok (.iconst 0, 1) := by decide +kernel
theorem dX1_joinedPairs_1 : decode cX1_joinedPairs 1 = .ok (.istore_n 2, 1) := by decide +kernel
theorem dX1_joinedPairs_2 : decode cX1_joinedPairs 2 = .ok (.iconst 0, 1) := by decide +kernel
theorem dX1_joinedPairs_3 : decode cX1_joinedPairs 3 = .ok (.istore_n 3, 1) := by decide +kernel
theorem dX1_joinedPairs_4 : decode cX1_joinedPairs 4 = .ok (.iconst 0, 1) := by decide +kernel
theorem dX1_joinedPairs_5 : decode cX1_joinedPairs 5 = .ok (.istore 4, 2) := by decide +kernel
theorem dX1_joinedPairs_7 : decode cX1_joinedPairs 7 = .ok (.iload 4, 2) := by decide +kernel
theorem dX1_joinedPairs_9 : decode cX1_joinedPairs 9 = .ok (.aload_n 0, 1) := by decide +kernel
theorem dX1_joinedPairs_10 : decode cX1_joinedPairs 10 = .ok (.getfield 28, 3) := by decide +kernel
theorem dX1_joinedPairs_13 : decode cX1_joinedPairs 13 = .ok (.if_icmp .ge 49, 3) := by decide +kernel
theorem dX1_joinedPairs_16 : decode cX1_joinedPairs 16 = .ok (.iload_n 3, 1) := by decide +kernel
theorem dX1_joinedPairs_17 : decode cX1_joinedPairs 17 = .ok (.iload 4, 2) := by decide +kernel
theorem dX1_joinedPairs_19 : decode cX1_joinedPairs 19 = .ok (.ishr, 1) := by decide +kernel
theorem dX1_joinedPairs_20 : decode cX1_joinedPairs 20 = .ok (.iconst 1, 1) := by decide +kernel
theorem dX1_joinedPairs_21 : decode cX1_joinedPairs 21 = .ok (.iand, 1) := by decide +kernel
theorem dX1_joinedPairs_22 : decode cX1_joinedPairs 22 = .ok (.ifCond .ne 34, 3) := by decide +kernel
theorem dX1_joinedPairs_25 : decode cX1_joinedPairs 25 = .ok (.aload_n 0, 1) := by decide +kernel
theorem dX1_joinedPairs_26 : decode cX1_joinedPairs 26 = .ok (.iload 4, 2) := by decide +kernel
theorem dX1_joinedPairs_28 : decode cX1_joinedPairs 28 = .ok (.iload_n 1, 1) := by decide +kernel
theorem dX1_joinedPairs_29 : decode cX1_joinedPairs 29 = .ok (.invokevirtual 44, 3) := by decide +kernel
theorem dX1_joinedPairs_32 : decode cX1_joinedPairs 32 = .ok (.istore 5, 2) := by decide +kernel
theorem dX1_joinedPairs_34 : decode cX1_joinedPairs 34 = .ok (.iload 5, 2) := by decide +kernel
theorem dX1_joinedPairs_36 : decode cX1_joinedPairs 36 = .ok (.invokestatic 48, 3) := by decide +kernel
theorem dX1_joinedPairs_39 : decode cX1_joinedPairs 39 = .ok (.istore 6, 2) := by decide +kernel
theorem dX1_joinedPairs_41 : decode cX1_joinedPairs 41 = .ok (.iload_n 2, 1) := by decide +kernel
theorem dX1_joinedPairs_42 : decode cX1_joinedPairs 42 = .ok (.iload 6, 2) := by decide +kernel
theorem dX1_joinedPairs_44 : decode cX1_joinedPairs 44 = .ok (.iload 6, 2) := by decide +kernel
theorem dX1_joinedPairs_46 : decode cX1_joinedPairs 46 = .ok (.iconst 1, 1) := by decide +kernel
theorem dX1_joinedPairs_47 : decode cX1_joinedPairs 47 = .ok (.isub, 1) := by decide +kernel
theorem dX1_joinedPairs_48 : decode cX1_joinedPairs 48 = .ok (.imul, 1) := by decide +kernel
theorem dX1_joinedPairs_49 : decode cX1_joinedPairs 49 = .ok (.iadd, 1) := by decide +kernel
theorem dX1_joinedPairs_50 : decode cX1_joinedPairs 50 = .ok (.istore_n 2, 1) := by decide +kernel
theorem dX1_joinedPairs_51 : decode cX1_joinedPairs 51 = .ok (.iload_n 3, 1) := by decide +kernel
theorem dX1_joinedPairs_52 : decode cX1_joinedPairs 52 = .ok (.iload 5, 2) := by decide +kernel
theorem dX1_joinedPairs_54 : decode cX1_joinedPairs 54 = .ok (.ior, 1) := by decide +kernel
theorem dX1_joinedPairs_55 : decode cX1_joinedPairs 55 = .ok (.istore_n 3, 1) := by decide +kernel
theorem dX1_joinedPairs_56 : decode cX1_joinedPairs 56 = .ok (.iinc 4 1, 3) := by decide +kernel
theorem dX1_joinedPairs_59 : decode cX1_joinedPairs 59 = .ok (.goto (-52), 3) := by decide +kernel
theorem dX1_joinedPairs_62 : decode cX1_joinedPairs 62 = .ok (.iload_n 2, 1) := by decide +kernel
theorem dX1_joinedPairs_63 : decode cX1_joinedPairs 63 = .ok (.ireturn, 1) := by decide +kernel
theorem dX1_groupOf_0 : decode cX1_groupOf 0 = .ok (.iconst 1, 1) := by decide +kernel
theorem dX1_groupOf_1 : decode cX1_groupOf 1 = .ok (.iload_n 1, 1) := by decide +kernel
theorem dX1_groupOf_2 : decode cX1_groupOf 2 = .ok (.ishl, 1) := by decide +kernel
theorem dX1_groupOf_3 : decode cX1_groupOf 3 = .ok (.istore_n 3, 1) := by decide +kernel
theorem dX1_groupOf_4 : decode cX1_groupOf 4 = .ok (.iconst 1, 1) := by decide +kernel
theorem dX1_groupOf_5 : decode cX1_groupOf 5 = .ok (.istore 4, 2) := by decide +kernel
theorem dX1_groupOf_7 : decode cX1_groupOf 7 = .ok (.iconst 0, 1) := by decide +kernel
theorem dX1_groupOf_8 : decode cX1_groupOf 8 = .ok (.istore 5, 2) := by decide +kernel
theorem dX1_groupOf_10 : decode cX1_groupOf 10 = .ok (.iload 5, 2) := by decide +kernel
theorem dX1_groupOf_12 : decode cX1_groupOf 12 = .ok (.bipush 10, 2) := by decide +kernel
theorem dX1_groupOf_14 : decode cX1_groupOf 14 = .ok (.if_icmp .ge 97, 3) := by decide +kernel
theorem dX1_groupOf_17 : decode cX1_groupOf 17 = .ok (.iload 4, 2) := by decide +kernel
theorem dX1_groupOf_19 : decode cX1_groupOf 19 = .ok (.ifCond .eq 92, 3) := by decide +kernel
theorem dX1_groupOf_22 : decode cX1_groupOf 22 = .ok (.iload_n 3, 1) := by decide +kernel
theorem dX1_groupOf_23 : decode cX1_groupOf 23 = .ok (.istore 6, 2) := by decide +kernel
theorem dX1_groupOf_25 : decode cX1_groupOf 25 = .ok (.iconst 0, 1) := by decide +kernel
theorem dX1_groupOf_26 : decode cX1_groupOf 26 = .ok (.istore 7, 2) := by decide +kernel
theorem dX1_groupOf_28 : decode cX1_groupOf 28 = .ok (.iload 7, 2) := by decide +kernel
theorem dX1_groupOf_30 : decode cX1_groupOf 30 = .ok (.aload_n 0, 1) := by decide +kernel
theorem dX1_groupOf_31 : decode cX1_groupOf 31 = .ok (.getfield 32, 3) := by decide +kernel
theorem dX1_groupOf_34 : decode cX1_groupOf 34 = .ok (.if_icmp .ge 58, 3) := by decide +kernel
theorem dX1_groupOf_37 : decode cX1_groupOf 37 = .ok (.iconst 1, 1) := by decide +kernel
theorem dX1_groupOf_38 : decode cX1_groupOf 38 = .ok (.aload_n 0, 1) := by decide +kernel
theorem dX1_groupOf_39 : decode cX1_groupOf 39 = .ok (.getfield 15, 3) := by decide +kernel
theorem dX1_groupOf_42 : decode cX1_groupOf 42 = .ok (.iload 7, 2) := by decide +kernel
theorem dX1_groupOf_44 : decode cX1_groupOf 44 = .ok (.iaload, 1) := by decide +kernel
theorem dX1_groupOf_45 : decode cX1_groupOf 45 = .ok (.ishl, 1) := by decide +kernel
theorem dX1_groupOf_46 : decode cX1_groupOf 46 = .ok (.iconst 1, 1) := by decide +kernel
theorem dX1_groupOf_47 : decode cX1_groupOf 47 = .ok (.aload_n 0, 1) := by decide +kernel
theorem dX1_groupOf_48 : decode cX1_groupOf 48 = .ok (.getfield 18, 3) := by decide +kernel
theorem dX1_groupOf_51 : decode cX1_groupOf 51 = .ok (.iload 7, 2) := by decide +kernel
theorem dX1_groupOf_53 : decode cX1_groupOf 53 = .ok (.iaload, 1) := by decide +kernel
theorem dX1_groupOf_54 : decode cX1_groupOf 54 = .ok (.ishl, 1) := by decide +kernel
theorem dX1_groupOf_55 : decode cX1_groupOf 55 = .ok (.ior, 1) := by decide +kernel
theorem dX1_groupOf_56 : decode cX1_groupOf 56 = .ok (.istore 8, 2) := by decide +kernel
theorem dX1_groupOf_58 : decode cX1_groupOf 58 = .ok (.aload_n 0, 1) := by decide +kernel
theorem dX1_groupOf_59 : decode cX1_groupOf 59 = .ok (.getfield 24, 3) := by decide +kernel
theorem dX1_groupOf_62 : decode cX1_groupOf 62 = .ok (.iload 7, 2) := by decide +kernel
theorem dX1_groupOf_64 : decode cX1_groupOf 64 = .ok (.baload, 1) := by decide +kernel
theorem dX1_groupOf_65 : decode cX1_groupOf 65 = .ok (.ifCond .eq 21, 3) := by decide +kernel
theorem dX1_groupOf_68 : decode cX1_groupOf 68 = .ok (.iload 7, 2) := by decide +kernel
theorem dX1_groupOf_70 : decode cX1_groupOf 70 = .ok (.iload_n 2, 1) := by decide +kernel
theorem dX1_groupOf_71 : decode cX1_groupOf 71 = .ok (.if_icmp .eq 15, 3) := by decide +kernel
theorem dX1_groupOf_74 : decode cX1_groupOf 74 = .ok (.iload_n 3, 1) := by decide +kernel
theorem dX1_groupOf_75 : decode cX1_groupOf 75 = .ok (.iload 8, 2) := by decide +kernel
theorem dX1_groupOf_77 : decode cX1_groupOf 77 = .ok (.iand, 1) := by decide +kernel
theorem dX1_groupOf_78 : decode cX1_groupOf 78 = .ok (.ifCond .eq 8, 3) := by decide +kernel
theorem dX1_groupOf_81 : decode cX1_groupOf 81 = .ok (.iload_n 3, 1) := by decide +kernel
theorem dX1_groupOf_82 : decode cX1_groupOf 82 = .ok (.iload 8, 2) := by decide +kernel
theorem dX1_groupOf_84 : decode cX1_groupOf 84 = .ok (.ior, 1) := by decide +kernel
theorem dX1_groupOf_85 : decode cX1_groupOf 85 = .ok (.istore_n 3, 1) := by decide +kernel
theorem dX1_groupOf_86 : decode cX1_groupOf 86 = .ok (.iinc 7 1, 3) := by decide +kernel
theorem dX1_groupOf_89 : decode cX1_groupOf 89 = .ok (.goto (-61), 3) := by decide +kernel
theorem dX1_groupOf_92 : decode cX1_groupOf 92 = .ok (.iload_n 3, 1) := by decide +kernel
theorem dX1_groupOf_93 : decode cX1_groupOf 93 = .ok (.iload 6, 2) := by decide +kernel
theorem dX1_groupOf_95 : decode cX1_groupOf 95 = .ok (.if_icmp .eq 7, 3) := by decide +kernel
theorem dX1_groupOf_98 : decode cX1_groupOf 98 = .ok (.iconst 1, 1) := by decide +kernel
theorem dX1_groupOf_99 : decode cX1_groupOf 99 = .ok (.goto 4, 3) := by decide +kernel
theorem dX1_groupOf_102 : decode cX1_groupOf 102 = .ok (.iconst 0, 1) := by decide +kernel
theorem dX1_groupOf_103 : decode cX1_groupOf 103 = .ok (.istore 4, 2) := by decide +kernel
theorem dX1_groupOf_105 : decode cX1_groupOf 105 = .ok (.iinc 5 1, 3) := by decide +kernel
theorem dX1_groupOf_108 : decode cX1_groupOf 108 = .ok (.goto (-98), 3) := by decide +kernel
theorem dX1_groupOf_111 : decode cX1_groupOf 111 = .ok (.iload_n 3, 1) := by decide +kernel
theorem dX1_groupOf_112 : decode cX1_groupOf 112 = .ok (.ireturn, 1) := by decide +kernel
set_option maxRecDepth 20000 in
theorem ggX2_init_X0_init : GoodIn wsX2_init wsX0_init := goodIn_r _ [19, 20, 2, 3, 8, 21, 22, 23, 24, 25, 26, 27] (by decide +kernel) (by decide +kernel)
set_option maxRecDepth 20000 in
theorem gX2_init_X0_init_n11 : GoodIn wsX2_init (wsX0_init) := ggX2_init_X0_init
theorem dX2_init_0 : decode cX2_init 0 = .ok (.aload_n 0, 1) := by decide +kernel
theorem dX2_init_1 : decode cX2_init 1 = .ok (.invokespecial 3, 3) := by decide +kernel
theorem dX2_init_4 : decode cX2_init 4 = .ok (.aload_n 0, 1) := by decide +kernel
theorem dX2_init_5 : decode cX2_init 5 = .ok (.new 9, 3) := by decide +kernel
theorem dX2_init_8 : decode cX2_init 8 = .ok (.dup, 1) := by decide +kernel
theorem dX2_init_9 : decode cX2_init 9 = .ok (.invokespecial 11, 3) := by decide +kernel
theorem dX2_init_12 : decode cX2_init 12 = .ok (.putfield 12, 3) := by decide +kernel
theorem dX2_init_15 : decode cX2_init 15 = .ok (.aload_n 0, 1) := by decide +kernel
theorem dX2_init_16 : decode cX2_init 16 = .ok (.bipush 10, 2) := by decide +kernel
theorem dX2_init_18 : decode cX2_init 18 = .ok (.newarray .int, 2) := by decide +kernel
theorem dX2_init_20 : decode cX2_init 20 = .ok (.putfield 18, 3) := by decide +kernel
theorem dX2_init_23 : decode cX2_init 23 = .ok (.aload_n 0, 1) := by decide +kernel
theorem dX2_init_24 : decode cX2_init 24 = .ok (.bipush 10, 2) := by decide +kernel
theorem dX2_init_26 : decode cX2_init 26 = .ok (.bipush 10, 2) := by decide +kernel
theorem dX2_init_28 : decode cX2_init 28 = .ok (.multianewarray 22 2, 4) := by decide +kernel
theorem dX2_init_32 : decode cX2_init 32 = .ok (.putfield 24, 3) := by decide +kernel
theorem dX2_init_35 : decode cX2_init 35 = .ok (.aload_n 0, 1) := by decide +kernel
theorem dX2_init_36 : decode cX2_init 36 = .ok (.bipush 10, 2) := by decide +kernel
theorem dX2_init_38 : decode cX2_init 38 = .ok (.newarray .boolean, 2) := by decide +kernel
theorem dX2_init_40 : decode cX2_init 40 = .ok (.putfield 27, 3) := by decide +kernel
theorem dX2_init_43 : decode cX2_init 43 = .ok (.aload_n 0, 1) := by decide +kernel
theorem dX2_init_44 : decode cX2_init 44 = .ok (.bipush 100, 2) := by decide +kernel
theorem dX2_init_46 : decode cX2_init 46 = .ok (.anewarray 31, 3) := by decide +kernel
theorem dX2_init_49 : decode cX2_init 49 = .ok (.putfield 33, 3) := by decide +kernel
theorem dX2_init_52 : decode cX2_init 52 = .ok (.aload_n 0, 1) := by decide +kernel
theorem dX2_init_53 : decode cX2_init 53 = .ok (.bipush 100, 2) := by decide +kernel
theorem dX2_init_55 : decode cX2_init 55 = .ok (.anewarray 31, 3) := by decide +kernel
theorem dX2_init_58 : decode cX2_init 58 = .ok (.putfield 37, 3) := by decide +kernel
theorem dX2_init_61 : decode cX2_init 61 = .ok (.aload_n 0, 1) := by decide +kernel
theorem dX2_init_62 : decode cX2_init 62 = .ok (.aload_n 1, 1) := by decide +kernel
theorem dX2_init_63 : decode cX2_init 63 = .ok (.putfield 40, 3) := by decide +kernel
theorem dX2_init_66 : decode cX2_init 66 = .ok (.return_, 1) := by decide +kernel
set_option maxRecDepth 20000 in
theorem ggX2_copy_X2_forgetWays : GoodIn wsX2_copy wsX2_forgetWays := goodIn_r _ [8, 9, 10, 11, 12, 13, 14, 15, 16, 17] (by decide +kernel) (by decide +kernel)
set_option maxRecDepth 20000 in
theorem gX2_copy_X2_forgetWays : GoodIn wsX2_copy (wsV RX2 48 RX2 yX2_forgetWays wsX2_forgetWays) := goodIn_app (goodIn_of _ (by decide +kernel)) ggX2_copy_X2_forgetWays
theorem dX2_copy_0 : decode cX2_copy 0 = .ok (.aload_n 0, 1) := by decide +kernel
theorem dX2_copy_1 : decode cX2_copy 1 = .ok (.aload_n 1, 1) := by decide +kernel
theorem dX2_copy_2 : decode cX2_copy 2 = .ok (.getfield 44, 3) := by decide +kernel
theorem dX2_copy_5 : decode cX2_copy 5 = .ok (.putfield 44, 3) := by decide +kernel
theorem dX2_copy_8 : decode cX2_copy 8 = .ok (.iconst 0, 1) := by decide +kernel
theorem dX2_copy_9 : decode cX2_copy 9 = .ok (.istore_n 2, 1) := by decide +kernel
theorem dX2_copy_10 : decode cX2_copy 10 = .ok (.iload_n 2, 1) := by decide +kernel
theorem dX2_copy_11 : decode cX2_copy 11 = .ok (.bipush 10, 2) := by decide +kernel
theorem dX2_copy_13 : decode cX2_copy 13 = .ok (.if_icmp .ge 21, 3) := by decide +kernel
theorem dX2_copy_16 : decode cX2_copy 16 = .ok (.aload_n 0, 1) := by decide +kernel
theorem dX2_copy_17 : decode cX2_copy 17 = .ok (.getfield 18, 3) := by decide +kernel
theorem dX2_copy_20 : decode cX2_copy 20 = .ok (.iload_n 2, 1) := by decide +kernel
theorem dX2_copy_21 : decode cX2_copy 21 = .ok (.aload_n 1, 1) := by decide +kernel
theorem dX2_copy_22 : decode cX2_copy 22 = .ok (.getfield 18, 3) := by decide +kernel
theorem dX2_copy_25 : decode cX2_copy 25 = .ok (.iload_n 2, 1) := by decide +kernel
theorem dX2_copy_26 : decode cX2_copy 26 = .ok (.iaload, 1) := by decide +kernel
theorem dX2_copy_27 : decode cX2_copy 27 = .ok (.iastore, 1) := by decide +kernel
theorem dX2_copy_28 : decode cX2_copy 28 = .ok (.iinc 2 1, 3) := by decide +kernel
theorem dX2_copy_31 : decode cX2_copy 31 = .ok (.goto (-21), 3) := by decide +kernel
theorem dX2_copy_34 : decode cX2_copy 34 = .ok (.iconst 0, 1) := by decide +kernel
theorem dX2_copy_35 : decode cX2_copy 35 = .ok (.istore_n 2, 1) := by decide +kernel
theorem dX2_copy_36 : decode cX2_copy 36 = .ok (.iload_n 2, 1) := by decide +kernel
theorem dX2_copy_37 : decode cX2_copy 37 = .ok (.aload_n 0, 1) := by decide +kernel
theorem dX2_copy_38 : decode cX2_copy 38 = .ok (.getfield 33, 3) := by decide +kernel
theorem dX2_copy_41 : decode cX2_copy 41 = .ok (.arraylength, 1) := by decide +kernel
theorem dX2_copy_42 : decode cX2_copy 42 = .ok (.if_icmp .ge 21, 3) := by decide +kernel
theorem dX2_copy_45 : decode cX2_copy 45 = .ok (.aload_n 0, 1) := by decide +kernel
theorem dX2_copy_46 : decode cX2_copy 46 = .ok (.getfield 33, 3) := by decide +kernel
theorem dX2_copy_49 : decode cX2_copy 49 = .ok (.iload_n 2, 1) := by decide +kernel
theorem dX2_copy_50 : decode cX2_copy 50 = .ok (.aload_n 1, 1) := by decide +kernel
theorem dX2_copy_51 : decode cX2_copy 51 = .ok (.getfield 33, 3) := by decide +kernel
theorem dX2_copy_54 : decode cX2_copy 54 = .ok (.iload_n 2, 1) := by decide +kernel
theorem dX2_copy_55 : decode cX2_copy 55 = .ok (.aaload, 1) := by decide +kernel
theorem dX2_copy_56 : decode cX2_copy 56 = .ok (.aastore, 1) := by decide +kernel
theorem dX2_copy_57 : decode cX2_copy 57 = .ok (.iinc 2 1, 3) := by decide +kernel
theorem dX2_copy_60 : decode cX2_copy 60 = .ok (.goto (-24), 3) := by decide +kernel
theorem dX2_copy_63 : decode cX2_copy 63 = .ok (.aload_n 0, 1) := by decide +kernel
theorem dX2_copy_64 : decode cX2_copy 64 = .ok (.invokevirtual 48, 3) := by decide +kernel
theorem dX2_copy_67 : decode cX2_copy 67 = .ok (.return_, 1) := by decide +kernel
theorem dX2_minute_0 : decode cX2_minute 0 = .ok (.aload_n 0, 1) := by decide +kernel
theorem dX2_minute_1 : decode cX2_minute 1 = .ok (.getfield 44, 3) := by decide +kernel
theorem dX2_minute_4 : decode cX2_minute 4 = .ok (.ireturn, 1) := by decide +kernel
theorem dX2_wroteInAll_0 : decode cX2_wroteInAll 0 = .ok (.aload_n 0, 1) := by decide +kernel
theorem dX2_wroteInAll_1 : decode cX2_wroteInAll 1 = .ok (.getfield 18, 3) := by decide +kernel
theorem dX2_wroteInAll_4 : decode cX2_wroteInAll 4 = .ok (.iload_n 1, 1) := by decide +kernel
theorem dX2_wroteInAll_5 : decode cX2_wroteInAll 5 = .ok (.iaload, 1) := by decide +kernel
theorem dX2_wroteInAll_6 : decode cX2_wroteInAll 6 = .ok (.ireturn, 1) := by decide +kernel
set_option maxRecDepth 20000 in
theorem ggX2_held_X2_slot : GoodIn wsX2_held wsX2_slot := goodIn_r _ [5] (by decide +kernel) (by decide +kernel)
set_option maxRecDepth 20000 in
theorem gX2_held_X2_slot : GoodIn wsX2_held (va_wsS RX2 51 yX2_slot wsX2_slot) := goodIn_app (goodIn_of _ (by decide +kernel)) ggX2_held_X2_slot
theorem dX2_held_0 : decode cX2_held 0 = .ok (.aload_n 0, 1) := by decide +kernel
theorem dX2_held_1 : decode cX2_held 1 = .ok (.getfield 33, 3) := by decide +kernel
theorem dX2_held_4 : decode cX2_held 4 = .ok (.iload_n 1, 1) := by decide +kernel
theorem dX2_held_5 : decode cX2_held 5 = .ok (.iload_n 2, 1) := by decide +kernel
theorem dX2_held_6 : decode cX2_held 6 = .ok (.invokestatic 51, 3) := by decide +kernel
theorem dX2_held_9 : decode cX2_held 9 = .ok (.aaload, 1) := by decide +kernel
theorem dX2_held_10 : decode cX2_held 10 = .ok (.areturn, 1) := by decide +kernel
set_option maxRecDepth 20000 in
theorem ggX2_burnAll_X2_sheetsOf : GoodIn wsX2_burnAll wsX2_sheetsOf := goodIn_r _ [6, 1, 7, 8, 5, 9, 15, 16, 17, 18, 19, 20, 21, 22] (by decide +kernel) (by decide +kernel)
set_option maxRecDepth 20000 in
theorem gX2_burnAll_X2_sheetsOf : GoodIn wsX2_burnAll (wsV RX2 55 RX2 yX2_sheetsOf wsX2_sheetsOf) := goodIn_app (goodIn_of _ (by decide +kernel)) ggX2_burnAll_X2_sheetsOf
set_option maxRecDepth 20000 in
theorem ggX2_burnAll_X2_slot : GoodIn wsX2_burnAll wsX2_slot := goodIn_r _ [9] (by decide +kernel) (by decide +kernel)
set_option maxRecDepth 20000 in
theorem gX2_burnAll_X2_slot : GoodIn wsX2_burnAll (va_wsS RX2 51 yX2_slot wsX2_slot) := goodIn_app (goodIn_of _ (by decide +kernel)) ggX2_burnAll_X2_slot
set_option maxRecDepth 20000 in
theorem ggX2_burnAll_X2_forgetWays : GoodIn wsX2_burnAll wsX2_forgetWays := goodIn_r _ [13, 14, 15, 16, 17, 18, 19, 20, 21, 22] (by decide +kernel) (by decide +kernel)
set_option maxRecDepth 20000 in
theorem gX2_burnAll_X2_forgetWays : GoodIn wsX2_burnAll (wsV RX2 48 RX2 yX2_forgetWays wsX2_forgetWays) := goodIn_app (goodIn_of _ (by decide +kernel)) ggX2_burnAll_X2_forgetWays
theorem dX2_burnAll_0 : decode cX2_burnAll 0 = .ok (.aload_n 0, 1) := by decide +kernel
theorem dX2_burnAll_1 : decode cX2_burnAll 1 = .ok (.iload_n 1, 1) := by decide +kernel
theorem dX2_burnAll_2 : decode cX2_burnAll 2 = .ok (.invokevirtual 55, 3) := by decide +kernel
theorem dX2_burnAll_5 : decode cX2_burnAll 5 = .ok (.istore_n 2, 1) := by decide +kernel
theorem dX2_burnAll_6 : decode cX2_burnAll 6 = .ok (.iconst 0, 1) := by decide +kernel
theorem dX2_burnAll_7 : decode cX2_burnAll 7 = .ok (.istore_n 3, 1) := by decide +kernel
theorem dX2_burnAll_8 : decode cX2_burnAll 8 = .ok (.iload_n 3, 1) := by decide +kernel
theorem dX2_burnAll_9 : decode cX2_burnAll 9 = .ok (.bipush 10, 2) := by decide +kernel
theorem dX2_burnAll_11 : decode cX2_burnAll 11 = .ok (.if_icmp .ge 20, 3) := by decide +kernel
theorem dX2_burnAll_14 : decode cX2_burnAll 14 = .ok (.aload_n 0, 1) := by decide +kernel
theorem dX2_burnAll_15 : decode cX2_burnAll 15 = .ok (.getfield 33, 3) := by decide +kernel
theorem dX2_burnAll_18 : decode cX2_burnAll 18 = .ok (.iload_n 1, 1) := by decide +kernel
theorem dX2_burnAll_19 : decode cX2_burnAll 19 = .ok (.iload_n 3, 1) := by decide +kernel
theorem dX2_burnAll_20 : decode cX2_burnAll 20 = .ok (.invokestatic 51, 3) := by decide +kernel
theorem dX2_burnAll_23 : decode cX2_burnAll 23 = .ok (.aconst_null, 1) := by decide +kernel
theorem dX2_burnAll_24 : decode cX2_burnAll 24 = .ok (.aastore, 1) := by decide +kernel
theorem dX2_burnAll_25 : decode cX2_burnAll 25 = .ok (.iinc 3 1, 3) := by decide +kernel
theorem dX2_burnAll_28 : decode cX2_burnAll 28 = .ok (.goto (-20), 3) := by decide +kernel
theorem dX2_burnAll_31 : decode cX2_burnAll 31 = .ok (.aload_n 0, 1) := by decide +kernel
theorem dX2_burnAll_32 : decode cX2_burnAll 32 = .ok (.invokevirtual 48, 3) := by decide +kernel
theorem dX2_burnAll_35 : decode cX2_burnAll 35 = .ok (.iload_n 2, 1) := by decide +kernel
theorem dX2_burnAll_36 : decode cX2_burnAll 36 = .ok (.ireturn, 1) := by decide +kernel
set_option maxRecDepth 20000 in
theorem ggX2_sheetsOf_X2_slot : GoodIn wsX2_sheetsOf wsX2_slot := goodIn_r _ [5] (by decide +kernel) (by decide +kernel)
set_option maxRecDepth 20000 in
theorem gX2_sheetsOf_X2_slot : GoodIn wsX2_sheetsOf (va_wsS RX2 51 yX2_slot wsX2_slot) := goodIn_app (goodIn_of _ (by decide +kernel)) ggX2_sheetsOf_X2_slot
theorem dX2_sheetsOf_0 : decode cX2_sheetsOf 0 = .ok (.iconst 0, 1) := by decide +kernel
theorem dX2_sheetsOf_1 : decode cX2_sheetsOf 1 = .ok (.istore_n 2, 1) := by decide +kernel
theorem dX2_sheetsOf_2 : decode cX2_sheetsOf 2 = .ok (.iconst 0, 1) := by decide +kernel
theorem dX2_sheetsOf_3 : decode cX2_sheetsOf 3 = .ok (.istore_n 3, 1) := by decide +kernel
theorem dX2_sheetsOf_4 : decode cX2_sheetsOf 4 = .ok (.iload_n 3, 1) := by decide +kernel
theorem dX2_sheetsOf_5 : decode cX2_sheetsOf 5 = .ok (.bipush 10, 2) := by decide +kernel
theorem dX2_sheetsOf_7 : decode cX2_sheetsOf 7 = .ok (.if_icmp .ge 25, 3) := by decide +kernel
theorem dX2_sheetsOf_10 : decode cX2_sheetsOf 10 = .ok (.aload_n 0, 1) := by decide +kernel
theorem dX2_sheetsOf_11 : decode cX2_sheetsOf 11 = .ok (.getfield 33, 3) := by decide +kernel
theorem dX2_sheetsOf_14 : decode cX2_sheetsOf 14 = .ok (.iload_n 1, 1) := by decide +kernel
theorem dX2_sheetsOf_15 : decode cX2_sheetsOf 15 = .ok (.iload_n 3, 1) := by decide +kernel
theorem dX2_sheetsOf_16 : decode cX2_sheetsOf 16 = .ok (.invokestatic 51, 3) := by decide +kernel
theorem dX2_sheetsOf_19 : decode cX2_sheetsOf 19 = .ok (.aaload, 1) := by decide +kernel
theorem dX2_sheetsOf_20 : decode cX2_sheetsOf 20 = .ok (.ifnull 6, 3) := by decide +kernel
theorem dX2_sheetsOf_23 : decode cX2_sheetsOf 23 = .ok (.iinc 2 1, 3) := by decide +kernel
theorem dX2_sheetsOf_26 : decode cX2_sheetsOf 26 = .ok (.iinc 3 1, 3) := by decide +kernel
theorem dX2_sheetsOf_29 : decode cX2_sheetsOf 29 = .ok (.goto (-25), 3) := by decide +kernel
theorem dX2_sheetsOf_32 : decode cX2_sheetsOf 32 = .ok (.iload_n 2, 1) := by decide +kernel
theorem dX2_sheetsOf_33 : decode cX2_sheetsOf 33 = .ok (.ireturn, 1) := by decide +kernel
set_option maxRecDepth 20000 in
theorem ggX2_sheets_X1_huts : GoodIn wsX2_sheets wsX1_huts := goodIn_r _ [6, 7, 25, 26, 27, 28, 29, 30, 31] (by decide +kernel) (by decide +kernel)
set_option maxRecDepth 20000 in
theorem gX2_sheets_X1_huts : GoodIn wsX2_sheets (wsV RX2 59 RX1 yX1_huts wsX1_huts) := goodIn_app (goodIn_of _ (by decide +kernel)) ggX2_sheets_X1_huts
set_option maxRecDepth 20000 in
theorem ggX2_sheets_X2_sheetsOf : GoodIn wsX2_sheets wsX2_sheetsOf := goodIn_r _ [12, 13, 14, 15, 11, 16, 17, 18, 19, 20, 21, 22, 23, 24] (by decide +kernel) (by decide +kernel)
set_option maxRecDepth 20000 in
theorem gX2_sheets_X2_sheetsOf : GoodIn wsX2_sheets (wsV RX2 55 RX2 yX2_sheetsOf wsX2_sheetsOf) := goodIn_app (goodIn_of _ (by decide +kernel)) ggX2_sheets_X2_sheetsOf
theorem dX2_sheets_0 : decode cX2_sheets 0 = .ok (.iconst 0, 1) := by decide +kernel
theorem dX2_sheets_1 : decode cX2_sheets 1 = .ok (.istore_n 1, 1) := by decide +kernel
theorem dX2_sheets_2 : decode cX2_sheets 2 = .ok (.iconst 0, 1) := by decide +kernel
theorem dX2_sheets_3 : decode cX2_sheets 3 = .ok (.istore_n 2, 1) := by decide +kernel
theorem dX2_sheets_4 : decode cX2_sheets 4 = .ok (.iload_n 2, 1) := by decide +kernel
theorem dX2_sheets_5 : decode cX2_sheets 5 = .ok (.aload_n 0, 1) := by decide +kernel
theorem dX2_sheets_6 : decode cX2_sheets 6 = .ok (.getfield 40, 3) := by decide +kernel
theorem dX2_sheets_9 : decode cX2_sheets 9 = .ok (.invokevirtual 59, 3) := by decide +kernel
theorem dX2_sheets_12 : decode cX2_sheets 12 = .ok (.if_icmp .ge 17, 3) := by decide +kernel
theorem dX2_sheets_15 : decode cX2_sheets 15 = .ok (.iload_n 1, 1) := by decide +kernel
theorem dX2_sheets_16 : decode cX2_sheets 16 = .ok (.aload_n 0, 1) := by decide +kernel
theorem dX2_sheets_17 : decode cX2_sheets 17 = .ok (.iload_n 2, 1) := by decide +kernel
theorem dX2_sheets_18 : decode cX2_sheets 18 = .ok (.invokevirtual 55, 3) := by decide +kernel
theorem dX2_sheets_21 : decode cX2_sheets 21 = .ok (.iadd, 1) := by decide +kernel
theorem dX2_sheets_22 : decode cX2_sheets 22 = .ok (.istore_n 1, 1) := by decide +kernel
theorem dX2_sheets_23 : decode cX2_sheets 23 = .ok (.iinc 2 1, 3) := by decide +kernel
theorem dX2_sheets_26 : decode cX2_sheets 26 = .ok (.goto (-22), 3) := by decide +kernel
theorem dX2_sheets_29 : decode cX2_sheets 29 = .ok (.iload_n 1, 1) := by decide +kernel
theorem dX2_sheets_30 : decode cX2_sheets 30 = .ok (.ireturn, 1) := by decide +kernel
set_option maxRecDepth 20000 in
theorem ggX2_ages_X3_age : GoodIn wsX2_ages wsX3_age := goodIn_r _ [7, 8, 17, 18, 19] (by decide +kernel) (by decide +kernel)
set_option maxRecDepth 20000 in
theorem gX2_ages_X3_age : GoodIn wsX2_ages (wsV RX2 65 RX3 yX3_age wsX3_age) := goodIn_app (goodIn_of _ (by decide +kernel)) ggX2_ages_X3_age
theorem dX2_ages_0 : decode cX2_ages 0 = .ok (.iconst 0, 1) := by decide +kernel
theorem dX2_ages_1 : decode cX2_ages 1 = .ok (.istore_n 1, 1) := by decide +kernel
theorem dX2_ages_2 : decode cX2_ages 2 = .ok (.iconst 0, 1) := by decide +kernel
theorem dX2_ages_3 : decode cX2_ages 3 = .ok (.istore_n 2, 1) := by decide +kernel
theorem dX2_ages_4 : decode cX2_ages 4 = .ok (.iload_n 2, 1) := by decide +kernel
theorem dX2_ages_5 : decode cX2_ages 5 = .ok (.aload_n 0, 1) := by decide +kernel
theorem dX2_ages_6 : decode cX2_ages 6 = .ok (.getfield 33, 3) := by decide +kernel
theorem dX2_ages_9 : decode cX2_ages 9 = .ok (.arraylength, 1) := by decide +kernel
theorem dX2_ages_10 : decode cX2_ages 10 = .ok (.if_icmp .ge 31, 3) := by decide +kernel
theorem dX2_ages_13 : decode cX2_ages 13 = .ok (.aload_n 0, 1) := by decide +kernel
theorem dX2_ages_14 : decode cX2_ages 14 = .ok (.getfield 33, 3) := by decide +kernel
theorem dX2_ages_17 : decode cX2_ages 17 = .ok (.iload_n 2, 1) := by decide +kernel
theorem dX2_ages_18 : decode cX2_ages 18 = .ok (.aaload, 1) := by decide +kernel
theorem dX2_ages_19 : decode cX2_ages 19 = .ok (.astore_n 3, 1) := by decide +kernel
theorem dX2_ages_20 : decode cX2_ages 20 = .ok (.aload_n 3, 1) := by decide +kernel
theorem dX2_ages_21 : decode cX2_ages 21 = .ok (.ifnull 14, 3) := by decide +kernel
theorem dX2_ages_24 : decode cX2_ages 24 = .ok (.iload_n 1, 1) := by decide +kernel
theorem dX2_ages_25 : decode cX2_ages 25 = .ok (.aload_n 3, 1) := by decide +kernel
theorem dX2_ages_26 : decode cX2_ages 26 = .ok (.aload_n 0, 1) := by decide +kernel
theorem dX2_ages_27 : decode cX2_ages 27 = .ok (.getfield 44, 3) := by decide +kernel
theorem dX2_ages_30 : decode cX2_ages 30 = .ok (.invokevirtual 65, 3) := by decide +kernel
theorem dX2_ages_33 : decode cX2_ages 33 = .ok (.iadd, 1) := by decide +kernel
theorem dX2_ages_34 : decode cX2_ages 34 = .ok (.istore_n 1, 1) := by decide +kernel
theorem dX2_ages_35 : decode cX2_ages 35 = .ok (.iinc 2 1, 3) := by decide +kernel
theorem dX2_ages_38 : decode cX2_ages 38 = .ok (.goto (-34), 3) := by decide +kernel
theorem dX2_ages_41 : decode cX2_ages 41 = .ok (.iload_n 1, 1) := by decide +kernel
theorem dX2_ages_42 : decode cX2_ages 42 = .ok (.ireturn, 1) := by decide +kernel
set_option maxRecDepth 20000 in
theorem ggX2_passMinutes_X2_writeSheets : GoodIn wsX2_passMinutes wsX2_writeSheets := goodIn_r _ [6, 7, 8, 9, 10, 11, 12, 1, 13, 14, 15, 16, 17, 18, 19, 20, 21, 5, 22, 23, 24, 25, 26, 27, 28, 29, 30, 31, 32, 33, 34, 35, 36, 37, 38, 39, 40, 41, 42, 43, 44, 45, 46, 47, 48, 49, 50, 51, 52, 53, 54, 55, 56, 101, 102, 103, 104, 105, 106, 107, 108, 109, 110, 111, 112, 113, 114, 115, 116, 117, 118] (by decide +kernel) (by decide +kernel)
set_option maxRecDepth 20000 in
theorem gX2_passMinutes_X2_writeSheets : GoodIn wsX2_passMinutes (wsV RX2 68 RX2 yX2_writeSheets wsX2_writeSheets) := goodIn_app (goodIn_of _ (by decide +kernel)) ggX2_passMinutes_X2_writeSheets
set_option maxRecDepth 20000 in
theorem ggX2_passMinutes_X2_carrySheets : GoodIn wsX2_passMinutes wsX2_carrySheets := goodIn_r _ [60, 9, 61, 7, 62, 37, 38, 16, 39, 40, 63, 64, 65, 66, 47, 67, 68, 69, 70, 45, 71, 72, 73, 74, 46, 75, 76, 77, 5, 78, 13, 14, 15, 17, 18, 23, 24, 25, 79, 80, 81, 82, 83, 84, 85, 86, 87, 88, 89, 90, 12, 91, 56, 101, 102, 103, 104, 105, 106, 107, 108, 112, 113, 114, 115, 116, 117, 118, 109, 110, 111] (by decide +kernel) (by decide +kernel)
set_option maxRecDepth 20000 in
theorem gX2_passMinutes_X2_carrySheets : GoodIn wsX2_passMinutes (wsV RX2 71 RX2 yX2_carrySheets wsX2_carrySheets) := goodIn_app (goodIn_of _ (by decide +kernel)) ggX2_passMinutes_X2_carrySheets
set_option maxRecDepth 20000 in
theorem ggX2_passMinutes_X2_throwOldAway : GoodIn wsX2_passMinutes wsX2_throwOldAway := goodIn_r _ [95, 9, 1, 26, 27, 28, 12, 29, 30, 101, 102, 103, 104, 105, 106, 107, 108, 109, 110, 111] (by decide +kernel) (by decide +kernel)
set_option maxRecDepth 20000 in
theorem gX2_passMinutes_X2_throwOldAway : GoodIn wsX2_passMinutes (wsV RX2 74 RX2 yX2_throwOldAway wsX2_throwOldAway) := goodIn_app (goodIn_of _ (by decide +kernel)) ggX2_passMinutes_X2_throwOldAway
set_option maxRecDepth 20000 in
theorem ggX2_passMinutes_X2_forgetWays : GoodIn wsX2_passMinutes wsX2_forgetWays := goodIn_r _ [99, 100, 101, 102, 103, 104, 105, 106, 107, 108] (by decide +kernel) (by decide +kernel)
set_option maxRecDepth 20000 in
theorem gX2_passMinutes_X2_forgetWays : GoodIn wsX2_passMinutes (wsV RX2 48 RX2 yX2_forgetWays wsX2_forgetWays) := goodIn_app (goodIn_of _ (by decide +kernel)) ggX2_passMinutes_X2_forgetWays
theorem dX2_passMinutes_0 : decode cX2_passMinutes 0 = .ok (.iconst 0, 1) := by decide +kernel
theorem dX2_passMinutes_1 : decode cX2_passMinutes 1 = .ok (.istore_n 2, 1) := by decide +kernel
theorem dX2_passMinutes_2 : decode cX2_passMinutes 2 = .ok (.iconst 0, 1) := by decide +kernel
theorem dX2_passMinutes_3 : decode cX2_passMinutes 3 = .ok (.istore_n 3, 1) := by decide +kernel
theorem dX2_passMinutes_4 : decode cX2_passMinutes 4 = .ok (.iload_n 3, 1) := by decide +kernel
theorem dX2_passMinutes_5 : decode cX2_passMinutes 5 = .ok (.iload_n 1, 1) := by decide +kernel
theorem dX2_passMinutes_6 : decode cX2_passMinutes 6 = .ok (.if_icmp .ge 34, 3) := by decide +kernel
theorem dX2_passMinutes_9 : decode cX2_passMinutes 9 = .ok (.iload_n 2, 1) := by decide +kernel
theorem dX2_passMinutes_10 : decode cX2_passMinutes 10 = .ok (.aload_n 0, 1) := by decide +kernel
theorem dX2_passMinutes_11 : decode cX2_passMinutes 11 = .ok (.invokevirtual 68, 3) := by decide +kernel
theorem dX2_passMinutes_14 : decode cX2_passMinutes 14 = .ok (.iadd, 1) := by decide +kernel
theorem dX2_passMinutes_15 : decode cX2_passMinutes 15 = .ok (.istore_n 2, 1) := by decide +kernel
theorem dX2_passMinutes_16 : decode cX2_passMinutes 16 = .ok (.aload_n 0, 1) := by decide +kernel
theorem dX2_passMinutes_17 : decode cX2_passMinutes 17 = .ok (.invokevirtual 71, 3) := by decide +kernel
theorem dX2_passMinutes_20 : decode cX2_passMinutes 20 = .ok (.aload_n 0, 1) := by decide +kernel
theorem dX2_passMinutes_21 : decode cX2_passMinutes 21 = .ok (.dup, 1) := by decide +kernel
theorem dX2_passMinutes_22 : decode cX2_passMinutes 22 = .ok (.getfield 44, 3) := by decide +kernel
theorem dX2_passMinutes_25 : decode cX2_passMinutes 25 = .ok (.iconst 1, 1) := by decide +kernel
theorem dX2_passMinutes_26 : decode cX2_passMinutes 26 = .ok (.iadd, 1) := by decide +kernel
theorem dX2_passMinutes_27 : decode cX2_passMinutes 27 = .ok (.putfield 44, 3) := by decide +kernel
theorem dX2_passMinutes_30 : decode cX2_passMinutes 30 = .ok (.aload_n 0, 1) := by decide +kernel
theorem dX2_passMinutes_31 : decode cX2_passMinutes 31 = .ok (.invokevirtual 74, 3) := by decide +kernel
theorem dX2_passMinutes_34 : decode cX2_passMinutes 34 = .ok (.iinc 3 1, 3) := by decide +kernel
theorem dX2_passMinutes_37 : decode cX2_passMinutes 37 = .ok (.goto (-33), 3) := by decide +kernel
theorem dX2_passMinutes_40 : decode cX2_passMinutes 40 = .ok (.aload_n 0, 1) := by decide +kernel
theorem dX2_passMinutes_41 : decode cX2_passMinutes 41 = .ok (.invokevirtual 48, 3) := by decide +kernel
theorem dX2_passMinutes_44 : decode cX2_passMinutes 44 = .ok (.iload_n 2, 1) := by decide +kernel
theorem dX2_passMinutes_45 : decode cX2_passMinutes 45 = .ok (.ireturn, 1) := by decide +kernel
set_option maxRecDepth 20000 in
theorem ggX2_writeSheets_X1_huts : GoodIn wsX2_writeSheets wsX1_huts := goodIn_r _ [12, 13, 64, 65, 66, 67, 68, 69, 70] (by decide +kernel) (by decide +kernel)
set_option maxRecDepth 20000 in
theorem gX2_writeSheets_X1_huts : GoodIn wsX2_writeSheets (wsV RX2 59 RX1 yX1_huts wsX1_huts) := goodIn_app (goodIn_of _ (by decide +kernel)) ggX2_writeSheets_X1_huts
set_option maxRecDepth 20000 in
theorem ggX2_writeSheets_X2_mustWrite : GoodIn wsX2_writeSheets wsX2_mustWrite := goodIn_r _ [18, 3, 7, 1, 19, 20, 17, 21, 22, 23, 24, 6, 25, 26, 27, 28, 29, 30, 31, 32, 33, 34, 11, 35, 36, 37, 38, 39, 40, 41, 42, 43, 44, 53, 54, 55, 56, 57, 58, 59, 60, 61, 62, 63, 64, 65, 66, 67, 68, 69, 70] (by decide +kernel) (by decide +kernel)
set_option maxRecDepth 20000 in
theorem gX2_writeSheets_X2_mustWrite : GoodIn wsX2_writeSheets (wsV RX2 77 RX2 yX2_mustWrite wsX2_mustWrite) := goodIn_app (goodIn_of _ (by decide +kernel)) ggX2_writeSheets_X2_mustWrite
set_option maxRecDepth 20000 in
theorem ggX2_writeSheets_X2_slot : GoodIn wsX2_writeSheets wsX2_slot := goodIn_r _ [21] (by decide +kernel) (by decide +kernel)
set_option maxRecDepth 20000 in
theorem gX2_writeSheets_X2_slot : GoodIn wsX2_writeSheets (va_wsS RX2 51 yX2_slot wsX2_slot) := goodIn_app (goodIn_of _ (by decide +kernel)) ggX2_writeSheets_X2_slot
set_option maxRecDepth 20000 in
theorem ggX2_writeSheets_X3_init : GoodIn wsX2_writeSheets wsX3_init := goodIn_r _ [47, 48, 49, 50, 51, 31, 52, 26, 32, 33, 34, 11, 35, 36, 37, 38, 39, 40, 41, 42, 43, 44, 61, 62, 63, 64, 65, 66, 67, 68, 69, 70] (by decide +kernel) (by decide +kernel)
set_option maxRecDepth 20000 in
theorem gX2_writeSheets_X3_init : GoodIn wsX2_writeSheets (wsX3_init) := ggX2_writeSheets_X3_init
theorem dX2_writeSheets_0 : decode cX2_writeSheets 0 = .ok (.iconst 0, 1) := by decide +kernel
theorem dX2_writeSheets_1 : decode cX2_writeSheets 1 = .ok (.istore_n 1, 1) := by decide +kernel
theorem dX2_writeSheets_2 : decode cX2_writeSheets 2 = .ok (.iconst 0, 1) := by decide +kernel
theorem dX2_writeSheets_3 : decode cX2_writeSheets 3 = .ok (.istore_n 2, 1) := by decide +kernel
theorem dX2_writeSheets_4 : decode cX2_writeSheets 4 = .ok (.iload_n 2, 1) := by decide +kernel
theorem dX2_writeSheets_5 : decode cX2_writeSheets 5 = .ok (.aload_n 0, 1) := by decide +kernel
theorem dX2_writeSheets_6 : decode cX2_writeSheets 6 = .ok (.getfield 40, 3) := by decide +kernel
theorem dX2_writeSheets_9 : decode cX2_writeSheets 9 = .ok (.invokevirtual 59, 3) := by decide +kernel
theorem dX2_writeSheets_12 : decode cX2_writeSheets 12 = .ok (.if_icmp .ge 62, 3) := by decide +kernel
theorem dX2_writeSheets_15 : decode cX2_writeSheets 15 = .ok (.aload_n 0, 1) := by decide +kernel
theorem dX2_writeSheets_16 : decode cX2_writeSheets 16 = .ok (.iload_n 2, 1) := by decide +kernel
theorem dX2_writeSheets_17 : decode cX2_writeSheets 17 = .ok (.invokevirtual 77, 3) := by decide +kernel
theorem dX2_writeSheets_20 : decode cX2_writeSheets 20 = .ok (.ifCond .eq 48, 3) := by decide +kernel
theorem dX2_writeSheets_23 : decode cX2_writeSheets 23 = .ok (.aload_n 0, 1) := by decide +kernel
theorem dX2_writeSheets_24 : decode cX2_writeSheets 24 = .ok (.getfield 18, 3) := by decide +kernel
theorem dX2_writeSheets_27 : decode cX2_writeSheets 27 = .ok (.iload_n 2, 1) := by decide +kernel
theorem dX2_writeSheets_28 : decode cX2_writeSheets 28 = .ok (.dup2, 1) := by decide +kernel
theorem dX2_writeSheets_29 : decode cX2_writeSheets 29 = .ok (.iaload, 1) := by decide +kernel
theorem dX2_writeSheets_30 : decode cX2_writeSheets 30 = .ok (.iconst 1, 1) := by decide +kernel
theorem dX2_writeSheets_31 : decode cX2_writeSheets 31 = .ok (.iadd, 1) := by decide +kernel
theorem dX2_writeSheets_32 : decode cX2_writeSheets 32 = .ok (.iastore, 1) := by decide +kernel
theorem dX2_writeSheets_33 : decode cX2_writeSheets 33 = .ok (.aload_n 0, 1) := by decide +kernel
theorem dX2_writeSheets_34 : decode cX2_writeSheets 34 = .ok (.getfield 33, 3) := by decide +kernel
theorem dX2_writeSheets_37 : decode cX2_writeSheets 37 = .ok (.iload_n 2, 1) := by decide +kernel
theorem dX2_writeSheets_38 : decode cX2_writeSheets 38 = .ok (.iload_n 2, 1) := by decide +kernel
theorem dX2_writeSheets_39 : decode cX2_writeSheets 39 = .ok (.invokestatic 51, 3) := by decide +kernel
theorem dX2_writeSheets_42 : decode cX2_writeSheets 42 = .ok (.new 31, 3) := by decide +kernel
theorem dX2_writeSheets_45 : decode cX2_writeSheets 45 = .ok (.dup, 1) := by decide +kernel
theorem dX2_writeSheets_46 : decode cX2_writeSheets 46 = .ok (.aload_n 0, 1) := by decide +kernel
theorem dX2_writeSheets_47 : decode cX2_writeSheets 47 = .ok (.getfield 18, 3) := by decide +kernel
theorem dX2_writeSheets_50 : decode cX2_writeSheets 50 = .ok (.iload_n 2, 1) := by decide +kernel
theorem dX2_writeSheets_51 : decode cX2_writeSheets 51 = .ok (.iaload, 1) := by decide +kernel
theorem dX2_writeSheets_52 : decode cX2_writeSheets 52 = .ok (.aload_n 0, 1) := by decide +kernel
theorem dX2_writeSheets_53 : decode cX2_writeSheets 53 = .ok (.getfield 44, 3) := by decide +kernel
theorem dX2_writeSheets_56 : decode cX2_writeSheets 56 = .ok (.aload_n 0, 1) := by decide +kernel
theorem dX2_writeSheets_57 : decode cX2_writeSheets 57 = .ok (.getfield 40, 3) := by decide +kernel
theorem dX2_writeSheets_60 : decode cX2_writeSheets 60 = .ok (.iload_n 2, 1) := by decide +kernel
theorem dX2_writeSheets_61 : decode cX2_writeSheets 61 = .ok (.invokespecial 81, 3) := by decide +kernel
theorem dX2_writeSheets_64 : decode cX2_writeSheets 64 = .ok (.aastore, 1) := by decide +kernel
theorem dX2_writeSheets_65 : decode cX2_writeSheets 65 = .ok (.iinc 1 1, 3) := by decide +kernel
theorem dX2_writeSheets_68 : decode cX2_writeSheets 68 = .ok (.iinc 2 1, 3) := by decide +kernel
theorem dX2_writeSheets_71 : decode cX2_writeSheets 71 = .ok (.goto (-67), 3) := by decide +kernel
theorem dX2_writeSheets_74 : decode cX2_writeSheets 74 = .ok (.iload_n 1, 1) := by decide +kernel
theorem dX2_writeSheets_75 : decode cX2_writeSheets 75 = .ok (.ireturn, 1) := by decide +kernel
set_option maxRecDepth 20000 in
theorem ggX2_mustWrite_X2_slot : GoodIn wsX2_mustWrite wsX2_slot := goodIn_r _ [7] (by decide +kernel) (by decide +kernel)
set_option maxRecDepth 20000 in
theorem gX2_mustWrite_X2_slot : GoodIn wsX2_mustWrite (va_wsS RX2 51 yX2_slot wsX2_slot) := goodIn_app (goodIn_of _ (by decide +kernel)) ggX2_mustWrite_X2_slot
set_option maxRecDepth 20000 in
theorem ggX2_mustWrite_X3_age : GoodIn wsX2_mustWrite wsX3_age := goodIn_r _ [12, 13, 41, 42, 43] (by decide +kernel) (by decide +kernel)
set_option maxRecDepth 20000 in
theorem gX2_mustWrite_X3_age : GoodIn wsX2_mustWrite (wsV RX2 65 RX3 yX3_age wsX3_age) := goodIn_app (goodIn_of _ (by decide +kernel)) ggX2_mustWrite_X3_age
set_option maxRecDepth 20000 in
theorem ggX2_mustWrite_X3_tellsAsNow : GoodIn wsX2_mustWrite wsX3_tellsAsNow := goodIn_r _ [17, 18, 19, 20, 21, 22, 23, 24, 25, 26, 27, 28, 29, 30, 31, 32, 41, 42, 43, 44, 45, 46, 47, 48, 49, 50] (by decide +kernel) (by decide +kernel)
set_option maxRecDepth 20000 in
theorem gX2_mustWrite_X3_tellsAsNow : GoodIn wsX2_mustWrite (wsV RX2 84 RX3 yX3_tellsAsNow wsX3_tellsAsNow) := goodIn_app (goodIn_of _ (by decide +kernel)) ggX2_mustWrite_X3_tellsAsNow
theorem dX2_mustWrite_0 : decode cX2_mustWrite 0 = .ok (.aload_n 0, 1) := by decide +kernel
theorem dX2_mustWrite_1 : decode cX2_mustWrite 1 = .ok (.getfield 33, 3) := by decide +kernel
theorem dX2_mustWrite_4 : decode cX2_mustWrite 4 = .ok (.iload_n 1, 1) := by decide +kernel
theorem dX2_mustWrite_5 : decode cX2_mustWrite 5 = .ok (.iload_n 1, 1) := by decide +kernel
theorem dX2_mustWrite_6 : decode cX2_mustWrite 6 = .ok (.invokestatic 51, 3) := by decide +kernel
theorem dX2_mustWrite_9 : decode cX2_mustWrite 9 = .ok (.aaload, 1) := by decide +kernel
theorem dX2_mustWrite_10 : decode cX2_mustWrite 10 = .ok (.astore_n 2, 1) := by decide +kernel
theorem dX2_mustWrite_11 : decode cX2_mustWrite 11 = .ok (.aload_n 2, 1) := by decide +kernel
theorem dX2_mustWrite_12 : decode cX2_mustWrite 12 = .ok (.ifnull 28, 3) := by decide +kernel
theorem dX2_mustWrite_15 : decode cX2_mustWrite 15 = .ok (.aload_n 2, 1) := by decide +kernel
theorem dX2_mustWrite_16 : decode cX2_mustWrite 16 = .ok (.aload_n 0, 1) := by decide +kernel
theorem dX2_mustWrite_17 : decode cX2_mustWrite 17 = .ok (.getfield 44, 3) := by decide +kernel
theorem dX2_mustWrite_20 : decode cX2_mustWrite 20 = .ok (.invokevirtual 65, 3) := by decide +kernel
theorem dX2_mustWrite_23 : decode cX2_mustWrite 23 = .ok (.bipush 20, 2) := by decide +kernel
theorem dX2_mustWrite_25 : decode cX2_mustWrite 25 = .ok (.if_icmp .ge 15, 3) := by decide +kernel
theorem dX2_mustWrite_28 : decode cX2_mustWrite 28 = .ok (.aload_n 2, 1) := by decide +kernel
theorem dX2_mustWrite_29 : decode cX2_mustWrite 29 = .ok (.aload_n 0, 1) := by decide +kernel
theorem dX2_mustWrite_30 : decode cX2_mustWrite 30 = .ok (.getfield 40, 3) := by decide +kernel
theorem dX2_mustWrite_33 : decode cX2_mustWrite 33 = .ok (.iload_n 1, 1) := by decide +kernel
theorem dX2_mustWrite_34 : decode cX2_mustWrite 34 = .ok (.invokevirtual 84, 3) := by decide +kernel
theorem dX2_mustWrite_37 : decode cX2_mustWrite 37 = .ok (.ifCond .ne 7, 3) := by decide +kernel
theorem dX2_mustWrite_40 : decode cX2_mustWrite 40 = .ok (.iconst 1, 1) := by decide +kernel
theorem dX2_mustWrite_41 : decode cX2_mustWrite 41 = .ok (.goto 4, 3) := by decide +kernel
theorem dX2_mustWrite_44 : decode cX2_mustWrite 44 = .ok (.iconst 0, 1) := by decide +kernel
theorem dX2_mustWrite_45 : decode cX2_mustWrite 45 = .ok (.ireturn, 1) := by decide +kernel
set_option maxRecDepth 20000 in
theorem ggX2_carrySheets_X1_passes : GoodIn wsX2_carrySheets wsX1_passes := goodIn_r _ [8, 9, 61, 62, 63, 64, 65, 66, 67] (by decide +kernel) (by decide +kernel)
set_option maxRecDepth 20000 in
theorem gX2_carrySheets_X1_passes : GoodIn wsX2_carrySheets (wsV RX2 88 RX1 yX1_passes wsX1_passes) := goodIn_app (goodIn_of _ (by decide +kernel)) ggX2_carrySheets_X1_passes
set_option maxRecDepth 20000 in
theorem ggX2_carrySheets_X1_isOpen : GoodIn wsX2_carrySheets wsX1_isOpen := goodIn_r _ [13, 14, 61, 62, 63, 64, 65, 66, 67] (by decide +kernel) (by decide +kernel)
set_option maxRecDepth 20000 in
theorem gX2_carrySheets_X1_isOpen : GoodIn wsX2_carrySheets (wsV RX2 91 RX1 yX1_isOpen wsX1_isOpen) := goodIn_app (goodIn_of _ (by decide +kernel)) ggX2_carrySheets_X1_isOpen
set_option maxRecDepth 20000 in
theorem ggX2_carrySheets_X1_first : GoodIn wsX2_carrySheets wsX1_first := goodIn_r _ [18, 19, 61, 62, 63, 64, 65, 66, 67] (by decide +kernel) (by decide +kernel)
set_option maxRecDepth 20000 in
theorem gX2_carrySheets_X1_first : GoodIn wsX2_carrySheets (wsV RX2 94 RX1 yX1_first wsX1_first) := goodIn_app (goodIn_of _ (by decide +kernel)) ggX2_carrySheets_X1_first
set_option maxRecDepth 20000 in
theorem ggX2_carrySheets_X1_second : GoodIn wsX2_carrySheets wsX1_second := goodIn_r _ [23, 24, 61, 62, 63, 64, 65, 66, 67] (by decide +kernel) (by decide +kernel)
set_option maxRecDepth 20000 in
theorem gX2_carrySheets_X1_second : GoodIn wsX2_carrySheets (wsV RX2 97 RX1 yX1_second wsX1_second) := goodIn_app (goodIn_of _ (by decide +kernel)) ggX2_carrySheets_X1_second
set_option maxRecDepth 20000 in
theorem ggX2_carrySheets_X2_carry : GoodIn wsX2_carrySheets wsX2_carry := goodIn_r _ [29, 3, 1, 2, 30, 31, 32, 7, 33, 34, 35, 36, 28, 37, 38, 39, 40, 41, 42, 43, 44, 45, 46, 47, 48, 49, 50, 51, 52, 53, 54, 55, 56, 57, 58, 59, 60, 61, 62, 63, 64, 65, 66, 67, 68, 69, 70] (by decide +kernel) (by decide +kernel)
set_option maxRecDepth 20000 in
theorem gX2_carrySheets_X2_carry : GoodIn wsX2_carrySheets (wsV RX2 100 RX2 yX2_carry wsX2_carry) := goodIn_app (goodIn_of _ (by decide +kernel)) ggX2_carrySheets_X2_carry
theorem dX2_carrySheets_0 : decode cX2_carrySheets 0 = .ok (.iconst 0, 1) := by decide +kernel
theorem dX2_carrySheets_1 : decode cX2_carrySheets 1 = .ok (.istore_n 1, 1) := by decide +kernel
theorem dX2_carrySheets_2 : decode cX2_carrySheets 2 = .ok (.iload_n 1, 1) := by decide +kernel
theorem dX2_carrySheets_3 : decode cX2_carrySheets 3 = .ok (.aload_n 0, 1) := by decide +kernel
theorem dX2_carrySheets_4 : decode cX2_carrySheets 4 = .ok (.getfield 33, 3) := by decide +kernel
theorem dX2_carrySheets_7 : decode cX2_carrySheets 7 = .ok (.arraylength, 1) := by decide +kernel
theorem dX2_carrySheets_8 : decode cX2_carrySheets 8 = .ok (.if_icmp .ge 21, 3) := by decide +kernel
theorem dX2_carrySheets_11 : decode cX2_carrySheets 11 = .ok (.aload_n 0, 1) := by decide +kernel
theorem dX2_carrySheets_12 : decode cX2_carrySheets 12 = .ok (.getfield 37, 3) := by decide +kernel
theorem dX2_carrySheets_15 : decode cX2_carrySheets 15 = .ok (.iload_n 1, 1) := by decide +kernel
theorem dX2_carrySheets_16 : decode cX2_carrySheets 16 = .ok (.aload_n 0, 1) := by decide +kernel
theorem dX2_carrySheets_17 : decode cX2_carrySheets 17 = .ok (.getfield 33, 3) := by decide +kernel
theorem dX2_carrySheets_20 : decode cX2_carrySheets 20 = .ok (.iload_n 1, 1) := by decide +kernel
theorem dX2_carrySheets_21 : decode cX2_carrySheets 21 = .ok (.aaload, 1) := by decide +kernel
theorem dX2_carrySheets_22 : decode cX2_carrySheets 22 = .ok (.aastore, 1) := by decide +kernel
theorem dX2_carrySheets_23 : decode cX2_carrySheets 23 = .ok (.iinc 1 1, 3) := by decide +kernel
theorem dX2_carrySheets_26 : decode cX2_carrySheets 26 = .ok (.goto (-24), 3) := by decide +kernel
theorem dX2_carrySheets_29 : decode cX2_carrySheets 29 = .ok (.iconst 0, 1) := by decide +kernel
theorem dX2_carrySheets_30 : decode cX2_carrySheets 30 = .ok (.istore_n 1, 1) := by decide +kernel
theorem dX2_carrySheets_31 : decode cX2_carrySheets 31 = .ok (.iload_n 1, 1) := by decide +kernel
theorem dX2_carrySheets_32 : decode cX2_carrySheets 32 = .ok (.aload_n 0, 1) := by decide +kernel
theorem dX2_carrySheets_33 : decode cX2_carrySheets 33 = .ok (.getfield 40, 3) := by decide +kernel
theorem dX2_carrySheets_36 : decode cX2_carrySheets 36 = .ok (.invokevirtual 88, 3) := by decide +kernel
theorem dX2_carrySheets_39 : decode cX2_carrySheets 39 = .ok (.if_icmp .ge 60, 3) := by decide +kernel
theorem dX2_carrySheets_42 : decode cX2_carrySheets 42 = .ok (.aload_n 0, 1) := by decide +kernel
theorem dX2_carrySheets_43 : decode cX2_carrySheets 43 = .ok (.getfield 40, 3) := by decide +kernel
theorem dX2_carrySheets_46 : decode cX2_carrySheets 46 = .ok (.iload_n 1, 1) := by decide +kernel
theorem dX2_carrySheets_47 : decode cX2_carrySheets 47 = .ok (.invokevirtual 91, 3) := by decide +kernel
theorem dX2_carrySheets_50 : decode cX2_carrySheets 50 = .ok (.ifCond .eq 43, 3) := by decide +kernel
theorem dX2_carrySheets_53 : decode cX2_carrySheets 53 = .ok (.aload_n 0, 1) := by decide +kernel
theorem dX2_carrySheets_54 : decode cX2_carrySheets 54 = .ok (.aload_n 0, 1) := by decide +kernel
theorem dX2_carrySheets_55 : decode cX2_carrySheets 55 = .ok (.getfield 40, 3) := by decide +kernel
theorem dX2_carrySheets_58 : decode cX2_carrySheets 58 = .ok (.iload_n 1, 1) := by decide +kernel
theorem dX2_carrySheets_59 : decode cX2_carrySheets 59 = .ok (.invokevirtual 94, 3) := by decide +kernel
theorem dX2_carrySheets_62 : decode cX2_carrySheets 62 = .ok (.aload_n 0, 1) := by decide +kernel
theorem dX2_carrySheets_63 : decode cX2_carrySheets 63 = .ok (.getfield 40, 3) := by decide +kernel
theorem dX2_carrySheets_66 : decode cX2_carrySheets 66 = .ok (.iload_n 1, 1) := by decide +kernel
theorem dX2_carrySheets_67 : decode cX2_carrySheets 67 = .ok (.invokevirtual 97, 3) := by decide +kernel
theorem dX2_carrySheets_70 : decode cX2_carrySheets 70 = .ok (.invokevirtual 100, 3) := by decide +kernel
theorem dX2_carrySheets_73 : decode cX2_carrySheets 73 = .ok (.aload_n 0, 1) := by decide +kernel
theorem dX2_carrySheets_74 : decode cX2_carrySheets 74 = .ok (.aload_n 0, 1) := by decide +kernel
theorem dX2_carrySheets_75 : decode cX2_carrySheets 75 = .ok (.getfield 40, 3) := by decide +kernel
theorem dX2_carrySheets_78 : decode cX2_carrySheets 78 = .ok (.iload_n 1, 1) := by decide +kernel
theorem dX2_carrySheets_79 : decode cX2_carrySheets 79 = .ok (.invokevirtual 97, 3) := by decide +kernel
theorem dX2_carrySheets_82 : decode cX2_carrySheets 82 = .ok (.aload_n 0, 1) := by decide +kernel
theorem dX2_carrySheets_83 : decode cX2_carrySheets 83 = .ok (.getfield 40, 3) := by decide +kernel
theorem dX2_carrySheets_86 : decode cX2_carrySheets 86 = .ok (.iload_n 1, 1) := by decide +kernel
theorem dX2_carrySheets_87 : decode cX2_carrySheets 87 = .ok (.invokevirtual 94, 3) := by decide +kernel
theorem dX2_carrySheets_90 : decode cX2_carrySheets 90 = .ok (.invokevirtual 100, 3) := by decide +kernel
theorem dX2_carrySheets_93 : decode cX2_carrySheets 93 = .ok (.iinc 1 1, 3) := by decide +kernel
theorem dX2_carrySheets_96 : decode cX2_carrySheets 96 = .ok (.goto (-65), 3) := by decide +kernel
theorem dX2_carrySheets_99 : decode cX2_carrySheets 99 = .ok (.aload_n 0, 1) := by decide +kernel
theorem dX2_carrySheets_100 : decode cX2_carrySheets 100 = .ok (.getfield 33, 3) := by decide +kernel
theorem dX2_carrySheets_103 : decode cX2_carrySheets 103 = .ok (.astore_n 1, 1) := by decide +kernel
theorem dX2_carrySheets_104 : decode cX2_carrySheets 104 = .ok (.aload_n 0, 1) := by decide +kernel
theorem dX2_carrySheets_105 : decode cX2_carrySheets 105 = .ok (.aload_n 0, 1) := by decide +kernel
theorem dX2_carrySheets_106 : decode cX2_carrySheets 106 = .ok (.getfield 37, 3) := by decide +kernel
theorem dX2_carrySheets_109 : decode cX2_carrySheets 109 = .ok (.putfield 33, 3) := by decide +kernel
theorem dX2_carrySheets_112 : decode cX2_carrySheets 112 = .ok (.aload_n 0, 1) := by decide +kernel
theorem dX2_carrySheets_113 : decode cX2_carrySheets 113 = .ok (.aload_n 1, 1) := by decide +kernel
theorem dX2_carrySheets_114 : decode cX2_carrySheets 114 = .ok (.putfield 37, 3) := by decide +kernel
theorem dX2_carrySheets_117 : decode cX2_carrySheets 117 = .ok (.return_, 1) := by decide +kernel
set_option maxRecDepth 20000 in
theorem ggX2_carry_X1_huts : GoodIn wsX2_carry wsX1_huts := goodIn_r _ [8, 9, 37, 38, 39, 40, 41, 42, 43] (by decide +kernel) (by decide +kernel)
set_option maxRecDepth 20000 in
theorem gX2_carry_X1_huts : GoodIn wsX2_carry (wsV RX2 59 RX1 yX1_huts wsX1_huts) := goodIn_app (goodIn_of _ (by decide +kernel)) ggX2_carry_X1_huts
set_option maxRecDepth 20000 in
theorem ggX2_carry_X2_slot : GoodIn wsX2_carry wsX2_slot := goodIn_r _ [13] (by decide +kernel) (by decide +kernel)
set_option maxRecDepth 20000 in
theorem gX2_carry_X2_slot : GoodIn wsX2_carry (va_wsS RX2 51 yX2_slot wsX2_slot) := goodIn_app (goodIn_of _ (by decide +kernel)) ggX2_carry_X2_slot
set_option maxRecDepth 20000 in
theorem ggX2_carry_X1_takesIn : GoodIn wsX2_carry wsX1_takesIn := goodIn_r _ [17, 18, 37, 38, 39, 40, 41, 42, 43] (by decide +kernel) (by decide +kernel)
set_option maxRecDepth 20000 in
theorem gX2_carry_X1_takesIn : GoodIn wsX2_carry (wsV RX2 104 RX1 yX1_takesIn wsX1_takesIn) := goodIn_app (goodIn_of _ (by decide +kernel)) ggX2_carry_X1_takesIn
set_option maxRecDepth 20000 in
theorem ggX2_carry_X2_isNewer : GoodIn wsX2_carry wsX2_isNewer := goodIn_r _ [22, 23, 24, 25, 26, 27, 28, 44, 45, 46] (by decide +kernel) (by decide +kernel)
set_option maxRecDepth 20000 in
theorem gX2_carry_X2_isNewer : GoodIn wsX2_carry (wsV RX2 108 RX2 yX2_isNewer wsX2_isNewer) := goodIn_app (goodIn_of _ (by decide +kernel)) ggX2_carry_X2_isNewer
theorem dX2_carry_0 : decode cX2_carry 0 = .ok (.iconst 0, 1) := by decide +kernel
theorem dX2_carry_1 : decode cX2_carry 1 = .ok (.istore_n 3, 1) := by decide +kernel
theorem dX2_carry_2 : decode cX2_carry 2 = .ok (.iload_n 3, 1) := by decide +kernel
theorem dX2_carry_3 : decode cX2_carry 3 = .ok (.aload_n 0, 1) := by decide +kernel
theorem dX2_carry_4 : decode cX2_carry 4 = .ok (.getfield 40, 3) := by decide +kernel
theorem dX2_carry_7 : decode cX2_carry 7 = .ok (.invokevirtual 59, 3) := by decide +kernel
theorem dX2_carry_10 : decode cX2_carry 10 = .ok (.if_icmp .ge 74, 3) := by decide +kernel
theorem dX2_carry_13 : decode cX2_carry 13 = .ok (.aload_n 0, 1) := by decide +kernel
theorem dX2_carry_14 : decode cX2_carry 14 = .ok (.getfield 33, 3) := by decide +kernel
theorem dX2_carry_17 : decode cX2_carry 17 = .ok (.iload_n 1, 1) := by decide +kernel
theorem dX2_carry_18 : decode cX2_carry 18 = .ok (.iload_n 3, 1) := by decide +kernel
theorem dX2_carry_19 : decode cX2_carry 19 = .ok (.invokestatic 51, 3) := by decide +kernel
theorem dX2_carry_22 : decode cX2_carry 22 = .ok (.aaload, 1) := by decide +kernel
theorem dX2_carry_23 : decode cX2_carry 23 = .ok (.astore 4, 2) := by decide +kernel
theorem dX2_carry_25 : decode cX2_carry 25 = .ok (.aload 4, 2) := by decide +kernel
theorem dX2_carry_27 : decode cX2_carry 27 = .ok (.ifnull 51, 3) := by decide +kernel
theorem dX2_carry_30 : decode cX2_carry 30 = .ok (.iload_n 3, 1) := by decide +kernel
theorem dX2_carry_31 : decode cX2_carry 31 = .ok (.iload_n 2, 1) := by decide +kernel
theorem dX2_carry_32 : decode cX2_carry 32 = .ok (.if_icmp .eq 46, 3) := by decide +kernel
theorem dX2_carry_35 : decode cX2_carry 35 = .ok (.aload_n 0, 1) := by decide +kernel
theorem dX2_carry_36 : decode cX2_carry 36 = .ok (.getfield 40, 3) := by decide +kernel
theorem dX2_carry_39 : decode cX2_carry 39 = .ok (.iload_n 2, 1) := by decide +kernel
theorem dX2_carry_40 : decode cX2_carry 40 = .ok (.iload_n 3, 1) := by decide +kernel
theorem dX2_carry_41 : decode cX2_carry 41 = .ok (.invokevirtual 104, 3) := by decide +kernel
theorem dX2_carry_44 : decode cX2_carry 44 = .ok (.ifCond .eq 34, 3) := by decide +kernel
theorem dX2_carry_47 : decode cX2_carry 47 = .ok (.aload_n 0, 1) := by decide +kernel
theorem dX2_carry_48 : decode cX2_carry 48 = .ok (.aload 4, 2) := by decide +kernel
theorem dX2_carry_50 : decode cX2_carry 50 = .ok (.aload_n 0, 1) := by decide +kernel
theorem dX2_carry_51 : decode cX2_carry 51 = .ok (.getfield 37, 3) := by decide +kernel
theorem dX2_carry_54 : decode cX2_carry 54 = .ok (.iload_n 2, 1) := by decide +kernel
theorem dX2_carry_55 : decode cX2_carry 55 = .ok (.iload_n 3, 1) := by decide +kernel
theorem dX2_carry_56 : decode cX2_carry 56 = .ok (.invokestatic 51, 3) := by decide +kernel
theorem dX2_carry_59 : decode cX2_carry 59 = .ok (.aaload, 1) := by decide +kernel
theorem dX2_carry_60 : decode cX2_carry 60 = .ok (.invokevirtual 108, 3) := by decide +kernel
theorem dX2_carry_63 : decode cX2_carry 63 = .ok (.ifCond .eq 15, 3) := by decide +kernel
theorem dX2_carry_66 : decode cX2_carry 66 = .ok (.aload_n 0, 1) := by decide +kernel
theorem dX2_carry_67 : decode cX2_carry 67 = .ok (.getfield 37, 3) := by decide +kernel
theorem dX2_carry_70 : decode cX2_carry 70 = .ok (.iload_n 2, 1) := by decide +kernel
theorem dX2_carry_71 : decode cX2_carry 71 = .ok (.iload_n 3, 1) := by decide +kernel
theorem dX2_carry_72 : decode cX2_carry 72 = .ok (.invokestatic 51, 3) := by decide +kernel
theorem dX2_carry_75 : decode cX2_carry 75 = .ok (.aload 4, 2) := by decide +kernel
theorem dX2_carry_77 : decode cX2_carry 77 = .ok (.aastore, 1) := by decide +kernel
theorem dX2_carry_78 : decode cX2_carry 78 = .ok (.iinc 3 1, 3) := by decide +kernel
theorem dX2_carry_81 : decode cX2_carry 81 = .ok (.goto (-79), 3) := by decide +kernel
theorem dX2_carry_84 : decode cX2_carry 84 = .ok (.return_, 1) := by decide +kernel
set_option maxRecDepth 20000 in
theorem ggX2_isNewer_X3_number : GoodIn wsX2_isNewer wsX3_number := goodIn_r _ [5, 6, 7, 8, 9] (by decide +kernel) (by decide +kernel)
set_option maxRecDepth 20000 in
theorem gX2_isNewer_X3_number : GoodIn wsX2_isNewer (wsV RX2 112 RX3 yX3_number wsX3_number) := goodIn_app (goodIn_of _ (by decide +kernel)) ggX2_isNewer_X3_number
theorem dX2_isNewer_0 : decode cX2_isNewer 0 = .ok (.aload_n 2, 1) := by decide +kernel
theorem dX2_isNewer_1 : decode cX2_isNewer 1 = .ok (.ifnull 14, 3) := by decide +kernel
theorem dX2_isNewer_4 : decode cX2_isNewer 4 = .ok (.aload_n 1, 1) := by decide +kernel
theorem dX2_isNewer_5 : decode cX2_isNewer 5 = .ok (.invokevirtual 112, 3) := by decide +kernel
theorem dX2_isNewer_8 : decode cX2_isNewer 8 = .ok (.aload_n 2, 1) := by decide +kernel
theorem dX2_isNewer_9 : decode cX2_isNewer 9 = .ok (.invokevirtual 112, 3) := by decide +kernel
theorem dX2_isNewer_12 : decode cX2_isNewer 12 = .ok (.if_icmp .le 7, 3) := by decide +kernel
theorem dX2_isNewer_15 : decode cX2_isNewer 15 = .ok (.iconst 1, 1) := by decide +kernel
theorem dX2_isNewer_16 : decode cX2_isNewer 16 = .ok (.goto 4, 3) := by decide +kernel
theorem dX2_isNewer_19 : decode cX2_isNewer 19 = .ok (.iconst 0, 1) := by decide +kernel
theorem dX2_isNewer_20 : decode cX2_isNewer 20 = .ok (.ireturn, 1) := by decide +kernel
set_option maxRecDepth 20000 in
theorem ggX2_throwOldAway_X3_age : GoodIn wsX2_throwOldAway wsX3_age := goodIn_r _ [7, 8, 17, 18, 19] (by decide +kernel) (by decide +kernel)
set_option maxRecDepth 20000 in
theorem gX2_throwOldAway_X3_age : GoodIn wsX2_throwOldAway (wsV RX2 65 RX3 yX3_age wsX3_age) := goodIn_app (goodIn_of _ (by decide +kernel)) ggX2_throwOldAway_X3_age
theorem dX2_throwOldAway_0 : decode cX2_throwOldAway 0 = .ok (.iconst 0, 1) := by decide +kernel
theorem dX2_throwOldAway_1 : decode cX2_throwOldAway 1 = .ok (.istore_n 1, 1) := by decide +kernel
theorem dX2_throwOldAway_2 : decode cX2_throwOldAway 2 = .ok (.iload_n 1, 1) := by decide +kernel
theorem dX2_throwOldAway_3 : decode cX2_throwOldAway 3 = .ok (.aload_n 0, 1) := by decide +kernel
theorem dX2_throwOldAway_4 : decode cX2_throwOldAway 4 = .ok (.getfield 33, 3) := by decide +kernel
theorem dX2_throwOldAway_7 : decode cX2_throwOldAway 7 = .ok (.arraylength, 1) := by decide +kernel
theorem dX2_throwOldAway_8 : decode cX2_throwOldAway 8 = .ok (.if_icmp .ge 40, 3) := by decide +kernel
theorem dX2_throwOldAway_11 : decode cX2_throwOldAway 11 = .ok (.aload_n 0, 1) := by decide +kernel
theorem dX2_throwOldAway_12 : decode cX2_throwOldAway 12 = .ok (.getfield 33, 3) := by decide +kernel
theorem dX2_throwOldAway_15 : decode cX2_throwOldAway 15 = .ok (.iload_n 1, 1) := by decide +kernel
theorem dX2_throwOldAway_16 : decode cX2_throwOldAway 16 = .ok (.aaload, 1) := by decide +kernel
theorem dX2_throwOldAway_17 : decode cX2_throwOldAway 17 = .ok (.astore_n 2, 1) := by decide +kernel
theorem dX2_throwOldAway_18 : decode cX2_throwOldAway 18 = .ok (.aload_n 2, 1) := by decide +kernel
theorem dX2_throwOldAway_19 : decode cX2_throwOldAway 19 = .ok (.ifnull 23, 3) := by decide +kernel
theorem dX2_throwOldAway_22 : decode cX2_throwOldAway 22 = .ok (.aload_n 2, 1) := by decide +kernel
theorem dX2_throwOldAway_23 : decode cX2_throwOldAway 23 = .ok (.aload_n 0, 1) := by decide +kernel
theorem dX2_throwOldAway_24 : decode cX2_throwOldAway 24 = .ok (.getfield 44, 3) := by decide +kernel
theorem dX2_throwOldAway_27 : decode cX2_throwOldAway 27 = .ok (.invokevirtual 65, 3) := by decide +kernel
theorem dX2_throwOldAway_30 : decode cX2_throwOldAway 30 = .ok (.bipush 30, 2) := by decide +kernel
theorem dX2_throwOldAway_32 : decode cX2_throwOldAway 32 = .ok (.if_icmp .le 10, 3) := by decide +kernel
theorem dX2_throwOldAway_35 : decode cX2_throwOldAway 35 = .ok (.aload_n 0, 1) := by decide +kernel
theorem dX2_throwOldAway_36 : decode cX2_throwOldAway 36 = .ok (.getfield 33, 3) := by decide +kernel
theorem dX2_throwOldAway_39 : decode cX2_throwOldAway 39 = .ok (.iload_n 1, 1) := by decide +kernel
theorem dX2_throwOldAway_40 : decode cX2_throwOldAway 40 = .ok (.aconst_null, 1) := by decide +kernel
theorem dX2_throwOldAway_41 : decode cX2_throwOldAway 41 = .ok (.aastore, 1) := by decide +kernel
theorem dX2_throwOldAway_42 : decode cX2_throwOldAway 42 = .ok (.iinc 1 1, 3) := by decide +kernel
theorem dX2_throwOldAway_45 : decode cX2_throwOldAway 45 = .ok (.goto (-43), 3) := by decide +kernel
theorem dX2_throwOldAway_48 : decode cX2_throwOldAway 48 = .ok (.return_, 1) := by decide +kernel
set_option maxRecDepth 20000 in
theorem ggX2_takesForOpen_X1_first : GoodIn wsX2_takesForOpen wsX1_first := goodIn_r _ [7, 8, 32, 33, 34, 35, 36, 37, 38] (by decide +kernel) (by decide +kernel)
set_option maxRecDepth 20000 in
theorem gX2_takesForOpen_X1_first : GoodIn wsX2_takesForOpen (wsV RX2 94 RX1 yX1_first wsX1_first) := goodIn_app (goodIn_of _ (by decide +kernel)) ggX2_takesForOpen_X1_first
set_option maxRecDepth 20000 in
theorem ggX2_takesForOpen_X2_slot : GoodIn wsX2_takesForOpen wsX2_slot := goodIn_r _ [12] (by decide +kernel) (by decide +kernel)
set_option maxRecDepth 20000 in
theorem gX2_takesForOpen_X2_slot : GoodIn wsX2_takesForOpen (va_wsS RX2 51 yX2_slot wsX2_slot) := goodIn_app (goodIn_of _ (by decide +kernel)) ggX2_takesForOpen_X2_slot
set_option maxRecDepth 20000 in
theorem ggX2_takesForOpen_X1_second : GoodIn wsX2_takesForOpen wsX1_second := goodIn_r _ [16, 17, 32, 33, 34, 35, 36, 37, 38] (by decide +kernel) (by decide +kernel)
set_option maxRecDepth 20000 in
theorem gX2_takesForOpen_X1_second : GoodIn wsX2_takesForOpen (wsV RX2 97 RX1 yX1_second wsX1_second) := goodIn_app (goodIn_of _ (by decide +kernel)) ggX2_takesForOpen_X1_second
set_option maxRecDepth 20000 in
theorem ggX2_takesForOpen_X3_tells : GoodIn wsX2_takesForOpen wsX3_tells := goodIn_r _ [22, 23, 39, 40, 41] (by decide +kernel) (by decide +kernel)
set_option maxRecDepth 20000 in
theorem gX2_takesForOpen_X3_tells : GoodIn wsX2_takesForOpen (wsV RX2 115 RX3 yX3_tells wsX3_tells) := goodIn_app (goodIn_of _ (by decide +kernel)) ggX2_takesForOpen_X3_tells
theorem dX2_takesForOpen_0 : decode cX2_takesForOpen 0 = .ok (.aload_n 0, 1) := by decide +kernel
theorem dX2_takesForOpen_1 : decode cX2_takesForOpen 1 = .ok (.getfield 33, 3) := by decide +kernel
theorem dX2_takesForOpen_4 : decode cX2_takesForOpen 4 = .ok (.iload_n 1, 1) := by decide +kernel
theorem dX2_takesForOpen_5 : decode cX2_takesForOpen 5 = .ok (.aload_n 0, 1) := by decide +kernel
theorem dX2_takesForOpen_6 : decode cX2_takesForOpen 6 = .ok (.getfield 40, 3) := by decide +kernel
theorem dX2_takesForOpen_9 : decode cX2_takesForOpen 9 = .ok (.iload_n 2, 1) := by decide +kernel
theorem dX2_takesForOpen_10 : decode cX2_takesForOpen 10 = .ok (.invokevirtual 94, 3) := by decide +kernel
theorem dX2_takesForOpen_13 : decode cX2_takesForOpen 13 = .ok (.invokestatic 51, 3) := by decide +kernel
theorem dX2_takesForOpen_16 : decode cX2_takesForOpen 16 = .ok (.aaload, 1) := by decide +kernel
theorem dX2_takesForOpen_17 : decode cX2_takesForOpen 17 = .ok (.astore_n 3, 1) := by decide +kernel
theorem dX2_takesForOpen_18 : decode cX2_takesForOpen 18 = .ok (.aload_n 0, 1) := by decide +kernel
theorem dX2_takesForOpen_19 : decode cX2_takesForOpen 19 = .ok (.getfield 33, 3) := by decide +kernel
theorem dX2_takesForOpen_22 : decode cX2_takesForOpen 22 = .ok (.iload_n 1, 1) := by decide +kernel
theorem dX2_takesForOpen_23 : decode cX2_takesForOpen 23 = .ok (.aload_n 0, 1) := by decide +kernel
theorem dX2_takesForOpen_24 : decode cX2_takesForOpen 24 = .ok (.getfield 40, 3) := by decide +kernel
theorem dX2_takesForOpen_27 : decode cX2_takesForOpen 27 = .ok (.iload_n 2, 1) := by decide +kernel
theorem dX2_takesForOpen_28 : decode cX2_takesForOpen 28 = .ok (.invokevirtual 97, 3) := by decide +kernel
theorem dX2_takesForOpen_31 : decode cX2_takesForOpen 31 = .ok (.invokestatic 51, 3) := by decide +kernel
theorem dX2_takesForOpen_34 : decode cX2_takesForOpen 34 = .ok (.aaload, 1) := by decide +kernel
theorem dX2_takesForOpen_35 : decode cX2_takesForOpen 35 = .ok (.astore 4, 2) := by decide +kernel
theorem dX2_takesForOpen_37 : decode cX2_takesForOpen 37 = .ok (.aload_n 3, 1) := by decide +kernel
theorem dX2_takesForOpen_38 : decode cX2_takesForOpen 38 = .ok (.ifnull 29, 3) := by decide +kernel
theorem dX2_takesForOpen_41 : decode cX2_takesForOpen 41 = .ok (.aload 4, 2) := by decide +kernel
theorem dX2_takesForOpen_43 : decode cX2_takesForOpen 43 = .ok (.ifnull 24, 3) := by decide +kernel
theorem dX2_takesForOpen_46 : decode cX2_takesForOpen 46 = .ok (.aload_n 3, 1) := by decide +kernel
theorem dX2_takesForOpen_47 : decode cX2_takesForOpen 47 = .ok (.iload_n 2, 1) := by decide +kernel
theorem dX2_takesForOpen_48 : decode cX2_takesForOpen 48 = .ok (.invokevirtual 115, 3) := by decide +kernel
theorem dX2_takesForOpen_51 : decode cX2_takesForOpen 51 = .ok (.ifCond .eq 16, 3) := by decide +kernel
theorem dX2_takesForOpen_54 : decode cX2_takesForOpen 54 = .ok (.aload 4, 2) := by decide +kernel
theorem dX2_takesForOpen_56 : decode cX2_takesForOpen 56 = .ok (.iload_n 2, 1) := by decide +kernel
theorem dX2_takesForOpen_57 : decode cX2_takesForOpen 57 = .ok (.invokevirtual 115, 3) := by decide +kernel
theorem dX2_takesForOpen_60 : decode cX2_takesForOpen 60 = .ok (.ifCond .eq 7, 3) := by decide +kernel
theorem dX2_takesForOpen_63 : decode cX2_takesForOpen 63 = .ok (.iconst 1, 1) := by decide +kernel
theorem dX2_takesForOpen_64 : decode cX2_takesForOpen 64 = .ok (.goto 4, 3) := by decide +kernel
theorem dX2_takesForOpen_67 : decode cX2_takesForOpen 67 = .ok (.iconst 0, 1) := by decide +kernel
theorem dX2_takesForOpen_68 : decode cX2_takesForOpen 68 = .ok (.ireturn, 1) := by decide +kernel
set_option maxRecDepth 20000 in
theorem ggX2_takersForOpen_X1_huts : GoodIn wsX2_takersForOpen wsX1_huts := goodIn_r _ [6, 7, 41, 42, 43, 44, 45, 46, 47] (by decide +kernel) (by decide +kernel)
set_option maxRecDepth 20000 in
theorem gX2_takersForOpen_X1_huts : GoodIn wsX2_takersForOpen (wsV RX2 59 RX1 yX1_huts wsX1_huts) := goodIn_app (goodIn_of _ (by decide +kernel)) ggX2_takersForOpen_X1_huts
set_option maxRecDepth 20000 in
theorem ggX2_takersForOpen_X2_takesForOpen : GoodIn wsX2_takersForOpen wsX2_takesForOpen := goodIn_r _ [12, 13, 1, 14, 15, 16, 5, 17, 18, 19, 20, 11, 21, 22, 23, 24, 25, 26, 27, 28, 29, 30, 31, 32, 33, 34, 35, 36, 37, 38, 39, 40, 41, 42, 43, 44, 45, 46, 47, 48, 49, 50] (by decide +kernel) (by decide +kernel)
set_option maxRecDepth 20000 in
theorem gX2_takersForOpen_X2_takesForOpen : GoodIn wsX2_takersForOpen (wsV RX2 118 RX2 yX2_takesForOpen wsX2_takesForOpen) := goodIn_app (goodIn_of _ (by decide +kernel)) ggX2_takersForOpen_X2_takesForOpen
theorem dX2_takersForOpen_0 : decode cX2_takersForOpen 0 = .ok (.iconst 0, 1) := by decide +kernel
theorem dX2_takersForOpen_1 : decode cX2_takersForOpen 1 = .ok (.istore_n 2, 1) := by decide +kernel
theorem dX2_takersForOpen_2 : decode cX2_takersForOpen 2 = .ok (.iconst 0, 1) := by decide +kernel
theorem dX2_takersForOpen_3 : decode cX2_takersForOpen 3 = .ok (.istore_n 3, 1) := by decide +kernel
theorem dX2_takersForOpen_4 : decode cX2_takersForOpen 4 = .ok (.iload_n 3, 1) := by decide +kernel
theorem dX2_takersForOpen_5 : decode cX2_takersForOpen 5 = .ok (.aload_n 0, 1) := by decide +kernel
theorem dX2_takersForOpen_6 : decode cX2_takersForOpen 6 = .ok (.getfield 40, 3) := by decide +kernel
theorem dX2_takersForOpen_9 : decode cX2_takersForOpen 9 = .ok (.invokevirtual 59, 3) := by decide +kernel
theorem dX2_takersForOpen_12 : decode cX2_takersForOpen 12 = .ok (.if_icmp .ge 21, 3) := by decide +kernel
theorem dX2_takersForOpen_15 : decode cX2_takersForOpen 15 = .ok (.aload_n 0, 1) := by decide +kernel
theorem dX2_takersForOpen_16 : decode cX2_takersForOpen 16 = .ok (.iload_n 3, 1) := by decide +kernel
theorem dX2_takersForOpen_17 : decode cX2_takersForOpen 17 = .ok (.iload_n 1, 1) := by decide +kernel
theorem dX2_takersForOpen_18 : decode cX2_takersForOpen 18 = .ok (.invokevirtual 118, 3) := by decide +kernel
theorem dX2_takersForOpen_21 : decode cX2_takersForOpen 21 = .ok (.ifCond .eq 6, 3) := by decide +kernel
theorem dX2_takersForOpen_24 : decode cX2_takersForOpen 24 = .ok (.iinc 2 1, 3) := by decide +kernel
theorem dX2_takersForOpen_27 : decode cX2_takersForOpen 27 = .ok (.iinc 3 1, 3) := by decide +kernel
theorem dX2_takersForOpen_30 : decode cX2_takersForOpen 30 = .ok (.goto (-26), 3) := by decide +kernel
theorem dX2_takersForOpen_33 : decode cX2_takersForOpen 33 = .ok (.iload_n 2, 1) := by decide +kernel
theorem dX2_takersForOpen_34 : decode cX2_takersForOpen 34 = .ok (.ireturn, 1) := by decide +kernel
set_option maxRecDepth 20000 in
theorem ggX2_knownWay_X2_findWays : GoodIn wsX2_knownWay wsX2_findWays := goodIn_r _ [7, 8, 9, 10, 2, 1, 11, 12, 13, 14, 15, 16, 17, 18, 19, 20, 21, 22, 23, 24, 25, 26, 27, 28, 29, 30, 31, 32, 33, 34, 6, 35, 36, 37, 38, 39, 40, 41, 42, 43, 44, 45, 46, 47, 48, 49, 50, 51, 52, 53, 54, 55, 56, 57, 58, 59, 60, 61, 62, 63, 64, 65, 66, 67, 68, 69, 70, 71, 72, 73, 74, 75, 76, 77, 78, 79] (by decide +kernel) (by decide +kernel)
set_option maxRecDepth 20000 in
theorem gX2_knownWay_X2_findWays : GoodIn wsX2_knownWay (wsV RX2 121 RX2 yX2_findWays wsX2_findWays) := goodIn_app (goodIn_of _ (by decide +kernel)) ggX2_knownWay_X2_findWays
theorem dX2_knownWay_0 : decode cX2_knownWay 0 = .ok (.aload_n 0, 1) := by decide +kernel
theorem dX2_knownWay_1 : decode cX2_knownWay 1 = .ok (.getfield 27, 3) := by decide +kernel
theorem dX2_knownWay_4 : decode cX2_knownWay 4 = .ok (.iload_n 1, 1) := by decide +kernel
theorem dX2_knownWay_5 : decode cX2_knownWay 5 = .ok (.baload, 1) := by decide +kernel
theorem dX2_knownWay_6 : decode cX2_knownWay 6 = .ok (.ifCond .ne 8, 3) := by decide +kernel
theorem dX2_knownWay_9 : decode cX2_knownWay 9 = .ok (.aload_n 0, 1) := by decide +kernel
theorem dX2_knownWay_10 : decode cX2_knownWay 10 = .ok (.iload_n 1, 1) := by decide +kernel
theorem dX2_knownWay_11 : decode cX2_knownWay 11 = .ok (.invokevirtual 121, 3) := by decide +kernel
theorem dX2_knownWay_14 : decode cX2_knownWay 14 = .ok (.aload_n 0, 1) := by decide +kernel
theorem dX2_knownWay_15 : decode cX2_knownWay 15 = .ok (.getfield 24, 3) := by decide +kernel
theorem dX2_knownWay_18 : decode cX2_knownWay 18 = .ok (.iload_n 1, 1) := by decide +kernel
theorem dX2_knownWay_19 : decode cX2_knownWay 19 = .ok (.aaload, 1) := by decide +kernel
theorem dX2_knownWay_20 : decode cX2_knownWay 20 = .ok (.iload_n 2, 1) := by decide +kernel
theorem dX2_knownWay_21 : decode cX2_knownWay 21 = .ok (.iaload, 1) := by decide +kernel
theorem dX2_knownWay_22 : decode cX2_knownWay 22 = .ok (.ireturn, 1) := by decide +kernel
set_option maxRecDepth 20000 in
theorem ggX2_findWays_X0_clear : GoodIn wsX2_findWays wsX0_clear := goodIn_r _ [10, 11, 62, 63, 64, 65] (by decide +kernel) (by decide +kernel)
set_option maxRecDepth 20000 in
theorem gX2_findWays_X0_clear : GoodIn wsX2_findWays (wsV RX2 125 RX0 yX0_clear wsX0_clear) := goodIn_app (goodIn_of _ (by decide +kernel)) ggX2_findWays_X0_clear
set_option maxRecDepth 20000 in
theorem ggX2_findWays_X1_passes : GoodIn wsX2_findWays wsX1_passes := goodIn_r _ [16, 17, 66, 67, 68, 69, 70, 71, 72] (by decide +kernel) (by decide +kernel)
set_option maxRecDepth 20000 in
theorem gX2_findWays_X1_passes : GoodIn wsX2_findWays (wsV RX2 88 RX1 yX1_passes wsX1_passes) := goodIn_app (goodIn_of _ (by decide +kernel)) ggX2_findWays_X1_passes
set_option maxRecDepth 20000 in
theorem ggX2_findWays_X1_first : GoodIn wsX2_findWays wsX1_first := goodIn_r _ [21, 22, 66, 67, 68, 69, 70, 71, 72] (by decide +kernel) (by decide +kernel)
set_option maxRecDepth 20000 in
theorem gX2_findWays_X1_first : GoodIn wsX2_findWays (wsV RX2 94 RX1 yX1_first wsX1_first) := goodIn_app (goodIn_of _ (by decide +kernel)) ggX2_findWays_X1_first
set_option maxRecDepth 20000 in
theorem ggX2_findWays_X1_second : GoodIn wsX2_findWays wsX1_second := goodIn_r _ [26, 27, 66, 67, 68, 69, 70, 71, 72] (by decide +kernel) (by decide +kernel)
set_option maxRecDepth 20000 in
theorem gX2_findWays_X1_second : GoodIn wsX2_findWays (wsV RX2 97 RX1 yX1_second wsX1_second) := goodIn_app (goodIn_of _ (by decide +kernel)) ggX2_findWays_X1_second
set_option maxRecDepth 20000 in
theorem ggX2_findWays_X2_slot : GoodIn wsX2_findWays wsX2_slot := goodIn_r _ [31] (by decide +kernel) (by decide +kernel)
set_option maxRecDepth 20000 in
theorem gX2_findWays_X2_slot : GoodIn wsX2_findWays (va_wsS RX2 51 yX2_slot wsX2_slot) := goodIn_app (goodIn_of _ (by decide +kernel)) ggX2_findWays_X2_slot
set_option maxRecDepth 20000 in
theorem ggX2_findWays_X3_tells : GoodIn wsX2_findWays wsX3_tells := goodIn_r _ [36, 37, 73, 74, 75] (by decide +kernel) (by decide +kernel)
set_option maxRecDepth 20000 in
theorem gX2_findWays_X3_tells : GoodIn wsX2_findWays (wsV RX2 115 RX3 yX3_tells wsX3_tells) := goodIn_app (goodIn_of _ (by decide +kernel)) ggX2_findWays_X3_tells
set_option maxRecDepth 20000 in
theorem ggX2_findWays_X3_length : GoodIn wsX2_findWays wsX3_length := goodIn_r _ [41, 37, 73, 74, 75] (by decide +kernel) (by decide +kernel)
set_option maxRecDepth 20000 in
theorem gX2_findWays_X3_length : GoodIn wsX2_findWays (wsV RX2 128 RX3 yX3_length wsX3_length) := goodIn_app (goodIn_of _ (by decide +kernel)) ggX2_findWays_X3_length
set_option maxRecDepth 20000 in
theorem ggX2_findWays_X0_addStep : GoodIn wsX2_findWays wsX0_addStep := goodIn_r _ [45, 11, 46, 47, 48, 62, 63, 64, 65] (by decide +kernel) (by decide +kernel)
set_option maxRecDepth 20000 in
theorem gX2_findWays_X0_addStep : GoodIn wsX2_findWays (wsV RX2 131 RX0 yX0_addStep wsX0_addStep) := goodIn_app (goodIn_of _ (by decide +kernel)) ggX2_findWays_X0_addStep
set_option maxRecDepth 20000 in
theorem ggX2_findWays_X0_search : GoodIn wsX2_findWays wsX0_search := goodIn_r _ [52, 53, 11, 46, 48, 47, 62, 63, 64, 65] (by decide +kernel) (by decide +kernel)
set_option maxRecDepth 20000 in
theorem gX2_findWays_X0_search : GoodIn wsX2_findWays (wsV RX2 135 RX0 yX0_search wsX0_search) := goodIn_app (goodIn_of _ (by decide +kernel)) ggX2_findWays_X0_search
theorem dX2_findWays_0 : decode cX2_findWays 0 = .ok (.aload_n 0, 1) := by decide +kernel
theorem dX2_findWays_1 : decode cX2_findWays 1 = .ok (.getfield 12, 3) := by decide +kernel
theorem dX2_findWays_4 : decode cX2_findWays 4 = .ok (.invokevirtual 125, 3) := by decide +kernel
theorem dX2_findWays_7 : decode cX2_findWays 7 = .ok (.iconst 0, 1) := by decide +kernel
theorem dX2_findWays_8 : decode cX2_findWays 8 = .ok (.istore_n 2, 1) := by decide +kernel
theorem dX2_findWays_9 : decode cX2_findWays 9 = .ok (.iload_n 2, 1) := by decide +kernel
theorem dX2_findWays_10 : decode cX2_findWays 10 = .ok (.aload_n 0, 1) := by decide +kernel
theorem dX2_findWays_11 : decode cX2_findWays 11 = .ok (.getfield 40, 3) := by decide +kernel
theorem dX2_findWays_14 : decode cX2_findWays 14 = .ok (.invokevirtual 88, 3) := by decide +kernel
theorem dX2_findWays_17 : decode cX2_findWays 17 = .ok (.if_icmp .ge 113, 3) := by decide +kernel
theorem dX2_findWays_20 : decode cX2_findWays 20 = .ok (.aload_n 0, 1) := by decide +kernel
theorem dX2_findWays_21 : decode cX2_findWays 21 = .ok (.getfield 40, 3) := by decide +kernel
theorem dX2_findWays_24 : decode cX2_findWays 24 = .ok (.iload_n 2, 1) := by decide +kernel
theorem dX2_findWays_25 : decode cX2_findWays 25 = .ok (.invokevirtual 94, 3) := by decide +kernel
theorem dX2_findWays_28 : decode cX2_findWays 28 = .ok (.istore_n 3, 1) := by decide +kernel
theorem dX2_findWays_29 : decode cX2_findWays 29 = .ok (.aload_n 0, 1) := by decide +kernel
theorem dX2_findWays_30 : decode cX2_findWays 30 = .ok (.getfield 40, 3) := by decide +kernel
theorem dX2_findWays_33 : decode cX2_findWays 33 = .ok (.iload_n 2, 1) := by decide +kernel
theorem dX2_findWays_34 : decode cX2_findWays 34 = .ok (.invokevirtual 97, 3) := by decide +kernel
theorem dX2_findWays_37 : decode cX2_findWays 37 = .ok (.istore 4, 2) := by decide +kernel
theorem dX2_findWays_39 : decode cX2_findWays 39 = .ok (.aload_n 0, 1) := by decide +kernel
theorem dX2_findWays_40 : decode cX2_findWays 40 = .ok (.getfield 33, 3) := by decide +kernel
theorem dX2_findWays_43 : decode cX2_findWays 43 = .ok (.iload_n 1, 1) := by decide +kernel
theorem dX2_findWays_44 : decode cX2_findWays 44 = .ok (.iload_n 3, 1) := by decide +kernel
theorem dX2_findWays_45 : decode cX2_findWays 45 = .ok (.invokestatic 51, 3) := by decide +kernel
theorem dX2_findWays_48 : decode cX2_findWays 48 = .ok (.aaload, 1) := by decide +kernel
theorem dX2_findWays_49 : decode cX2_findWays 49 = .ok (.astore 5, 2) := by decide +kernel
theorem dX2_findWays_51 : decode cX2_findWays 51 = .ok (.aload_n 0, 1) := by decide +kernel
theorem dX2_findWays_52 : decode cX2_findWays 52 = .ok (.getfield 33, 3) := by decide +kernel
theorem dX2_findWays_55 : decode cX2_findWays 55 = .ok (.iload_n 1, 1) := by decide +kernel
theorem dX2_findWays_56 : decode cX2_findWays 56 = .ok (.iload 4, 2) := by decide +kernel
theorem dX2_findWays_58 : decode cX2_findWays 58 = .ok (.invokestatic 51, 3) := by decide +kernel
theorem dX2_findWays_61 : decode cX2_findWays 61 = .ok (.aaload, 1) := by decide +kernel
theorem dX2_findWays_62 : decode cX2_findWays 62 = .ok (.astore 6, 2) := by decide +kernel
theorem dX2_findWays_64 : decode cX2_findWays 64 = .ok (.aload 5, 2) := by decide +kernel
theorem dX2_findWays_66 : decode cX2_findWays 66 = .ok (.ifnull 58, 3) := by decide +kernel
theorem dX2_findWays_69 : decode cX2_findWays 69 = .ok (.aload 6, 2) := by decide +kernel
theorem dX2_findWays_71 : decode cX2_findWays 71 = .ok (.ifnull 53, 3) := by decide +kernel
theorem dX2_findWays_74 : decode cX2_findWays 74 = .ok (.aload 5, 2) := by decide +kernel
theorem dX2_findWays_76 : decode cX2_findWays 76 = .ok (.iload_n 2, 1) := by decide +kernel
theorem dX2_findWays_77 : decode cX2_findWays 77 = .ok (.invokevirtual 115, 3) := by decide +kernel
theorem dX2_findWays_80 : decode cX2_findWays 80 = .ok (.ifCond .eq 44, 3) := by decide +kernel
theorem dX2_findWays_83 : decode cX2_findWays 83 = .ok (.aload 6, 2) := by decide +kernel
theorem dX2_findWays_85 : decode cX2_findWays 85 = .ok (.iload_n 2, 1) := by decide +kernel
theorem dX2_findWays_86 : decode cX2_findWays 86 = .ok (.invokevirtual 115, 3) := by decide +kernel
theorem dX2_findWays_89 : decode cX2_findWays 89 = .ok (.ifCond .eq 35, 3) := by decide +kernel
theorem dX2_findWays_92 : decode cX2_findWays 92 = .ok (.aload_n 0, 1) := by decide +kernel
theorem dX2_findWays_93 : decode cX2_findWays 93 = .ok (.getfield 12, 3) := by decide +kernel
theorem dX2_findWays_96 : decode cX2_findWays 96 = .ok (.iload_n 3, 1) := by decide +kernel
theorem dX2_findWays_97 : decode cX2_findWays 97 = .ok (.iload 4, 2) := by decide +kernel
theorem dX2_findWays_99 : decode cX2_findWays 99 = .ok (.aload 5, 2) := by decide +kernel
theorem dX2_findWays_101 : decode cX2_findWays 101 = .ok (.iload_n 2, 1) := by decide +kernel
theorem dX2_findWays_102 : decode cX2_findWays 102 = .ok (.invokevirtual 128, 3) := by decide +kernel
theorem dX2_findWays_105 : decode cX2_findWays 105 = .ok (.invokevirtual 131, 3) := by decide +kernel
theorem dX2_findWays_108 : decode cX2_findWays 108 = .ok (.aload_n 0, 1) := by decide +kernel
theorem dX2_findWays_109 : decode cX2_findWays 109 = .ok (.getfield 12, 3) := by decide +kernel
theorem dX2_findWays_112 : decode cX2_findWays 112 = .ok (.iload 4, 2) := by decide +kernel
theorem dX2_findWays_114 : decode cX2_findWays 114 = .ok (.iload_n 3, 1) := by decide +kernel
theorem dX2_findWays_115 : decode cX2_findWays 115 = .ok (.aload 6, 2) := by decide +kernel
theorem dX2_findWays_117 : decode cX2_findWays 117 = .ok (.iload_n 2, 1) := by decide +kernel
theorem dX2_findWays_118 : decode cX2_findWays 118 = .ok (.invokevirtual 128, 3) := by decide +kernel
theorem dX2_findWays_121 : decode cX2_findWays 121 = .ok (.invokevirtual 131, 3) := by decide +kernel
theorem dX2_findWays_124 : decode cX2_findWays 124 = .ok (.iinc 2 1, 3) := by decide +kernel
theorem dX2_findWays_127 : decode cX2_findWays 127 = .ok (.goto (-118), 3) := by decide +kernel
theorem dX2_findWays_130 : decode cX2_findWays 130 = .ok (.aload_n 0, 1) := by decide +kernel
theorem dX2_findWays_131 : decode cX2_findWays 131 = .ok (.getfield 12, 3) := by decide +kernel
theorem dX2_findWays_134 : decode cX2_findWays 134 = .ok (.iload_n 1, 1) := by decide +kernel
theorem dX2_findWays_135 : decode cX2_findWays 135 = .ok (.aload_n 0, 1) := by decide +kernel
theorem dX2_findWays_136 : decode cX2_findWays 136 = .ok (.getfield 24, 3) := by decide +kernel
theorem dX2_findWays_139 : decode cX2_findWays 139 = .ok (.iload_n 1, 1) := by decide +kernel
theorem dX2_findWays_140 : decode cX2_findWays 140 = .ok (.aaload, 1) := by decide +kernel
theorem dX2_findWays_141 : decode cX2_findWays 141 = .ok (.invokevirtual 135, 3) := by decide +kernel
theorem dX2_findWays_144 : decode cX2_findWays 144 = .ok (.aload_n 0, 1) := by decide +kernel
theorem dX2_findWays_145 : decode cX2_findWays 145 = .ok (.getfield 27, 3) := by decide +kernel
theorem dX2_findWays_148 : decode cX2_findWays 148 = .ok (.iload_n 1, 1) := by decide +kernel
theorem dX2_findWays_149 : decode cX2_findWays 149 = .ok (.iconst 1, 1) := by decide +kernel
theorem dX2_findWays_150 : decode cX2_findWays 150 = .ok (.bastore, 1) := by decide +kernel
theorem dX2_findWays_151 : decode cX2_findWays 151 = .ok (.return_, 1) := by decide +kernel
theorem dX2_forgetWays_0 : decode cX2_forgetWays 0 = .ok (.iconst 0, 1) := by decide +kernel
theorem dX2_forgetWays_1 : decode cX2_forgetWays 1 = .ok (.istore_n 1, 1) := by decide +kernel
theorem dX2_forgetWays_2 : decode cX2_forgetWays 2 = .ok (.iload_n 1, 1) := by decide +kernel
theorem dX2_forgetWays_3 : decode cX2_forgetWays 3 = .ok (.bipush 10, 2) := by decide +kernel
theorem dX2_forgetWays_5 : decode cX2_forgetWays 5 = .ok (.if_icmp .ge 16, 3) := by decide +kernel
theorem dX2_forgetWays_8 : decode cX2_forgetWays 8 = .ok (.aload_n 0, 1) := by decide +kernel
theorem dX2_forgetWays_9 : decode cX2_forgetWays 9 = .ok (.getfield 27, 3) := by decide +kernel
theorem dX2_forgetWays_12 : decode cX2_forgetWays 12 = .ok (.iload_n 1, 1) := by decide +kernel
theorem dX2_forgetWays_13 : decode cX2_forgetWays 13 = .ok (.iconst 0, 1) := by decide +kernel
theorem dX2_forgetWays_14 : decode cX2_forgetWays 14 = .ok (.bastore, 1) := by decide +kernel
theorem dX2_forgetWays_15 : decode cX2_forgetWays 15 = .ok (.iinc 1 1, 3) := by decide +kernel
theorem dX2_forgetWays_18 : decode cX2_forgetWays 18 = .ok (.goto (-16), 3) := by decide +kernel
theorem dX2_forgetWays_21 : decode cX2_forgetWays 21 = .ok (.return_, 1) := by decide +kernel
set_option maxRecDepth 20000 in
theorem ggX2_knownHuts_X1_huts : GoodIn wsX2_knownHuts wsX1_huts := goodIn_r _ [7, 8, 76, 77, 78, 79, 80, 81, 82] (by decide +kernel) (by decide +kernel)
set_option maxRecDepth 20000 in
theorem gX2_knownHuts_X1_huts : GoodIn wsX2_knownHuts (wsV RX2 59 RX1 yX1_huts wsX1_huts) := goodIn_app (goodIn_of _ (by decide +kernel)) ggX2_knownHuts_X1_huts
set_option maxRecDepth 20000 in
theorem ggX2_knownHuts_X2_knownWay : GoodIn wsX2_knownHuts wsX2_knownWay := goodIn_r _ [13, 14, 15, 16, 17, 18, 12, 19, 20, 1, 21, 22, 23, 24, 25, 26, 27, 28, 29, 30, 6, 31, 32, 33, 34, 35, 36, 37, 38, 39, 40, 41, 42, 43, 44, 45, 46, 47, 48, 49, 50, 51, 52, 53, 54, 55, 56, 57, 58, 59, 60, 61, 62, 63, 64, 65, 66, 67, 68, 69, 70, 71, 72, 73, 74, 75, 83, 84, 85, 86, 76, 77, 78, 79, 80, 81, 82, 87, 88, 89] (by decide +kernel) (by decide +kernel)
set_option maxRecDepth 20000 in
theorem gX2_knownHuts_X2_knownWay : GoodIn wsX2_knownHuts (wsV RX2 139 RX2 yX2_knownWay wsX2_knownWay) := goodIn_app (goodIn_of _ (by decide +kernel)) ggX2_knownHuts_X2_knownWay
theorem dX2_knownHuts_0 : decode cX2_knownHuts 0 = .ok (.iconst 0, 1) := by decide +kernel
theorem dX2_knownHuts_1 : decode cX2_knownHuts 1 = .ok (.istore_n 2, 1) := by decide +kernel
theorem dX2_knownHuts_2 : decode cX2_knownHuts 2 = .ok (.iconst 0, 1) := by decide +kernel
theorem dX2_knownHuts_3 : decode cX2_knownHuts 3 = .ok (.istore_n 3, 1) := by decide +kernel
theorem dX2_knownHuts_4 : decode cX2_knownHuts 4 = .ok (.iload_n 3, 1) := by decide +kernel
theorem dX2_knownHuts_5 : decode cX2_knownHuts 5 = .ok (.aload_n 0, 1) := by decide +kernel
theorem dX2_knownHuts_6 : decode cX2_knownHuts 6 = .ok (.getfield 40, 3) := by decide +kernel
theorem dX2_knownHuts_9 : decode cX2_knownHuts 9 = .ok (.invokevirtual 59, 3) := by decide +kernel
theorem dX2_knownHuts_12 : decode cX2_knownHuts 12 = .ok (.if_icmp .ge 23, 3) := by decide +kernel
theorem dX2_knownHuts_15 : decode cX2_knownHuts 15 = .ok (.aload_n 0, 1) := by decide +kernel
theorem dX2_knownHuts_16 : decode cX2_knownHuts 16 = .ok (.iload_n 1, 1) := by decide +kernel
theorem dX2_knownHuts_17 : decode cX2_knownHuts 17 = .ok (.iload_n 3, 1) := by decide +kernel
theorem dX2_knownHuts_18 : decode cX2_knownHuts 18 = .ok (.invokevirtual 139, 3) := by decide +kernel
theorem dX2_knownHuts_21 : decode cX2_knownHuts 21 = .ok (.ldc 142, 2) := by decide +kernel
theorem dX2_knownHuts_23 : decode cX2_knownHuts 23 = .ok (.if_icmp .eq 6, 3) := by decide +kernel
theorem dX2_knownHuts_26 : decode cX2_knownHuts 26 = .ok (.iinc 2 1, 3) := by decide +kernel
theorem dX2_knownHuts_29 : decode cX2_knownHuts 29 = .ok (.iinc 3 1, 3) := by decide +kernel
theorem dX2_knownHuts_32 : decode cX2_knownHuts 32 = .ok (.goto (-28), 3) := by decide +kernel
theorem dX2_knownHuts_35 : decode cX2_knownHuts 35 = .ok (.iload_n 2, 1) := by decide +kernel
theorem dX2_knownHuts_36 : decode cX2_knownHuts 36 = .ok (.ireturn, 1) := by decide +kernel
set_option maxRecDepth 20000 in
theorem ggX2_letter_X2_knownWay : GoodIn wsX2_letter wsX2_knownWay := goodIn_r _ [7, 8, 9, 10, 11, 12, 6, 13, 14, 2, 15, 16, 17, 18, 19, 20, 21, 22, 23, 24, 25, 26, 27, 28, 29, 30, 31, 32, 33, 34, 35, 36, 37, 38, 39, 40, 41, 42, 43, 44, 45, 46, 47, 48, 49, 50, 51, 52, 53, 54, 55, 56, 57, 58, 59, 60, 61, 62, 68, 69, 70, 71, 72, 73, 74, 75, 76, 77, 78, 79, 80, 81, 82, 83, 84, 85, 86, 87, 88, 89] (by decide +kernel) (by decide +kernel)
set_option maxRecDepth 20000 in
theorem gX2_letter_X2_knownWay : GoodIn wsX2_letter (wsV RX2 139 RX2 yX2_knownWay wsX2_knownWay) := goodIn_app (goodIn_of _ (by decide +kernel)) ggX2_letter_X2_knownWay
set_option maxRecDepth 20000 in
theorem ggX2_letter_X1_isStep : GoodIn wsX2_letter wsX1_isStep := goodIn_r _ [66, 27, 32, 37, 67, 80, 81, 82, 83, 84, 85, 86] (by decide +kernel) (by decide +kernel)
set_option maxRecDepth 20000 in
theorem gX2_letter_X1_isStep : GoodIn wsX2_letter (wsV RX2 143 RX1 yX1_isStep wsX1_isStep) := goodIn_app (goodIn_of _ (by decide +kernel)) ggX2_letter_X1_isStep
theorem dX2_letter_0 : decode cX2_letter 0 = .ok (.iload_n 1, 1) := by decide +kernel
theorem dX2_letter_1 : decode cX2_letter 1 = .ok (.istore_n 3, 1) := by decide +kernel
theorem dX2_letter_2 : decode cX2_letter 2 = .ok (.iconst 0, 1) := by decide +kernel
theorem dX2_letter_3 : decode cX2_letter 3 = .ok (.istore 4, 2) := by decide +kernel
theorem dX2_letter_5 : decode cX2_letter 5 = .ok (.iload 4, 2) := by decide +kernel
theorem dX2_letter_7 : decode cX2_letter 7 = .ok (.bipush 20, 2) := by decide +kernel
theorem dX2_letter_9 : decode cX2_letter 9 = .ok (.if_icmp .gt 56, 3) := by decide +kernel
theorem dX2_letter_12 : decode cX2_letter 12 = .ok (.iload_n 3, 1) := by decide +kernel
theorem dX2_letter_13 : decode cX2_letter 13 = .ok (.iload_n 2, 1) := by decide +kernel
theorem dX2_letter_14 : decode cX2_letter 14 = .ok (.if_icmp .ne 6, 3) := by decide +kernel
theorem dX2_letter_17 : decode cX2_letter 17 = .ok (.iload 4, 2) := by decide +kernel
theorem dX2_letter_19 : decode cX2_letter 19 = .ok (.ireturn, 1) := by decide +kernel
theorem dX2_letter_20 : decode cX2_letter 20 = .ok (.aload_n 0, 1) := by decide +kernel
theorem dX2_letter_21 : decode cX2_letter 21 = .ok (.iload_n 3, 1) := by decide +kernel
theorem dX2_letter_22 : decode cX2_letter 22 = .ok (.iload_n 2, 1) := by decide +kernel
theorem dX2_letter_23 : decode cX2_letter 23 = .ok (.invokevirtual 139, 3) := by decide +kernel
theorem dX2_letter_26 : decode cX2_letter 26 = .ok (.istore 5, 2) := by decide +kernel
theorem dX2_letter_28 : decode cX2_letter 28 = .ok (.iload 5, 2) := by decide +kernel
theorem dX2_letter_30 : decode cX2_letter 30 = .ok (.ldc 142, 2) := by decide +kernel
theorem dX2_letter_32 : decode cX2_letter 32 = .ok (.if_icmp .eq 19, 3) := by decide +kernel
theorem dX2_letter_35 : decode cX2_letter 35 = .ok (.aload_n 0, 1) := by decide +kernel
theorem dX2_letter_36 : decode cX2_letter 36 = .ok (.getfield 40, 3) := by decide +kernel
theorem dX2_letter_39 : decode cX2_letter 39 = .ok (.iload_n 3, 1) := by decide +kernel
theorem dX2_letter_40 : decode cX2_letter 40 = .ok (.iload 5, 2) := by decide +kernel
theorem dX2_letter_42 : decode cX2_letter 42 = .ok (.bipush 16, 2) := by decide +kernel
theorem dX2_letter_44 : decode cX2_letter 44 = .ok (.irem, 1) := by decide +kernel
theorem dX2_letter_45 : decode cX2_letter 45 = .ok (.invokevirtual 143, 3) := by decide +kernel
theorem dX2_letter_48 : decode cX2_letter 48 = .ok (.ifCond .ne 5, 3) := by decide +kernel
theorem dX2_letter_51 : decode cX2_letter 51 = .ok (.iconst (-1), 1) := by decide +kernel
theorem dX2_letter_52 : decode cX2_letter 52 = .ok (.ireturn, 1) := by decide +kernel
theorem dX2_letter_53 : decode cX2_letter 53 = .ok (.iload 5, 2) := by decide +kernel
theorem dX2_letter_55 : decode cX2_letter 55 = .ok (.bipush 16, 2) := by decide +kernel
theorem dX2_letter_57 : decode cX2_letter 57 = .ok (.irem, 1) := by decide +kernel
theorem dX2_letter_58 : decode cX2_letter 58 = .ok (.istore_n 3, 1) := by decide +kernel
theorem dX2_letter_59 : decode cX2_letter 59 = .ok (.iinc 4 1, 3) := by decide +kernel
theorem dX2_letter_62 : decode cX2_letter 62 = .ok (.goto (-57), 3) := by decide +kernel
theorem dX2_letter_65 : decode cX2_letter 65 = .ok (.iconst (-1), 1) := by decide +kernel
theorem dX2_letter_66 : decode cX2_letter 66 = .ok (.ireturn, 1) := by decide +kernel
set_option maxRecDepth 20000 in
theorem ggX2_reachedHuts_X1_huts : GoodIn wsX2_reachedHuts wsX1_huts := goodIn_r _ [6, 7, 85, 86, 87, 88, 89, 90, 91] (by decide +kernel) (by decide +kernel)
set_option maxRecDepth 20000 in
theorem gX2_reachedHuts_X1_huts : GoodIn wsX2_reachedHuts (wsV RX2 59 RX1 yX1_huts wsX1_huts) := goodIn_app (goodIn_of _ (by decide +kernel)) ggX2_reachedHuts_X1_huts
set_option maxRecDepth 20000 in
theorem ggX2_reachedHuts_X2_letter : GoodIn wsX2_reachedHuts wsX2_letter := goodIn_r _ [12, 13, 1, 14, 15, 16, 11, 17, 18, 19, 20, 21, 22, 23, 24, 25, 26, 27, 28, 29, 30, 31, 32, 33, 34, 5, 35, 36, 37, 38, 39, 40, 41, 42, 43, 44, 45, 46, 47, 48, 49, 50, 51, 52, 53, 54, 55, 56, 57, 58, 59, 60, 61, 62, 63, 64, 65, 66, 67, 68, 69, 70, 71, 72, 73, 74, 75, 76, 77, 78, 79, 80, 81, 82, 83, 84, 92, 93, 94, 95, 85, 86, 87, 88, 89, 90, 91, 96, 97, 98] (by decide +kernel) (by decide +kernel)
set_option maxRecDepth 20000 in
theorem gX2_reachedHuts_X2_letter : GoodIn wsX2_reachedHuts (wsV RX2 146 RX2 yX2_letter wsX2_letter) := goodIn_app (goodIn_of _ (by decide +kernel)) ggX2_reachedHuts_X2_letter
theorem dX2_reachedHuts_0 : decode cX2_reachedHuts 0 = .ok (.iconst 0, 1) := by decide +kernel
theorem dX2_reachedHuts_1 : decode cX2_reachedHuts 1 = .ok (.istore_n 2, 1) := by decide +kernel
theorem dX2_reachedHuts_2 : decode cX2_reachedHuts 2 = .ok (.iconst 0, 1) := by decide +kernel
theorem dX2_reachedHuts_3 : decode cX2_reachedHuts 3 = .ok (.istore_n 3, 1) := by decide +kernel
theorem dX2_reachedHuts_4 : decode cX2_reachedHuts 4 = .ok (.iload_n 3, 1) := by decide +kernel
theorem dX2_reachedHuts_5 : decode cX2_reachedHuts 5 = .ok (.aload_n 0, 1) := by decide +kernel
theorem dX2_reachedHuts_6 : decode cX2_reachedHuts 6 = .ok (.getfield 40, 3) := by decide +kernel
theorem dX2_reachedHuts_9 : decode cX2_reachedHuts 9 = .ok (.invokevirtual 59, 3) := by decide +kernel
theorem dX2_reachedHuts_12 : decode cX2_reachedHuts 12 = .ok (.if_icmp .ge 21, 3) := by decide +kernel
theorem dX2_reachedHuts_15 : decode cX2_reachedHuts 15 = .ok (.aload_n 0, 1) := by decide +kernel
theorem dX2_reachedHuts_16 : decode cX2_reachedHuts 16 = .ok (.iload_n 1, 1) := by decide +kernel
theorem dX2_reachedHuts_17 : decode cX2_reachedHuts 17 = .ok (.iload_n 3, 1) := by decide +kernel
theorem dX2_reachedHuts_18 : decode cX2_reachedHuts 18 = .ok (.invokevirtual 146, 3) := by decide +kernel
theorem dX2_reachedHuts_21 : decode cX2_reachedHuts 21 = .ok (.ifCond .lt 6, 3) := by decide +kernel
theorem dX2_reachedHuts_24 : decode cX2_reachedHuts 24 = .ok (.iinc 2 1, 3) := by decide +kernel
theorem dX2_reachedHuts_27 : decode cX2_reachedHuts 27 = .ok (.iinc 3 1, 3) := by decide +kernel
theorem dX2_reachedHuts_30 : decode cX2_reachedHuts 30 = .ok (.goto (-26), 3) := by decide +kernel
theorem dX2_reachedHuts_33 : decode cX2_reachedHuts 33 = .ok (.iload_n 2, 1) := by decide +kernel
theorem dX2_reachedHuts_34 : decode cX2_reachedHuts 34 = .ok (.ireturn, 1) := by decide +kernel
set_option maxRecDepth 20000 in
theorem ggX2_reachedPairs_X1_huts : GoodIn wsX2_reachedPairs wsX1_huts := goodIn_r _ [6, 7, 85, 86, 87, 88, 89, 90, 91] (by decide +kernel) (by decide +kernel)
set_option maxRecDepth 20000 in
theorem gX2_reachedPairs_X1_huts : GoodIn wsX2_reachedPairs (wsV RX2 59 RX1 yX1_huts wsX1_huts) := goodIn_app (goodIn_of _ (by decide +kernel)) ggX2_reachedPairs_X1_huts
set_option maxRecDepth 20000 in
theorem ggX2_reachedPairs_X2_letter : GoodIn wsX2_reachedPairs wsX2_letter := goodIn_r _ [12, 13, 1, 14, 15, 16, 11, 17, 18, 19, 20, 21, 22, 23, 24, 25, 26, 27, 28, 29, 30, 31, 32, 33, 34, 5, 35, 36, 37, 38, 39, 40, 41, 42, 43, 44, 45, 46, 47, 48, 49, 50, 51, 52, 53, 54, 55, 56, 57, 58, 59, 60, 61, 62, 63, 64, 65, 66, 67, 68, 69, 70, 71, 72, 73, 74, 75, 76, 77, 78, 79, 80, 81, 82, 83, 84, 92, 93, 94, 95, 85, 86, 87, 88, 89, 90, 91, 96, 97, 98] (by decide +kernel) (by decide +kernel)
set_option maxRecDepth 20000 in
theorem gX2_reachedPairs_X2_letter : GoodIn wsX2_reachedPairs (wsV RX2 146 RX2 yX2_letter wsX2_letter) := goodIn_app (goodIn_of _ (by decide +kernel)) ggX2_reachedPairs_X2_letter
theorem dX2_reachedPairs_0 : decode cX2_reachedPairs 0 = .ok (.iconst 0, 1) := by decide +kernel
theorem dX2_reachedPairs_1 : decode cX2_reachedPairs 1 = .ok (.istore_n 1, 1) := by decide +kernel
theorem dX2_reachedPairs_2 : decode cX2_reachedPairs 2 = .ok (.iconst 0, 1) := by decide +kernel
theorem dX2_reachedPairs_3 : decode cX2_reachedPairs 3 = .ok (.istore_n 2, 1) := by decide +kernel
theorem dX2_reachedPairs_4 : decode cX2_reachedPairs 4 = .ok (.iload_n 2, 1) := by decide +kernel
theorem dX2_reachedPairs_5 : decode cX2_reachedPairs 5 = .ok (.aload_n 0, 1) := by decide +kernel
theorem dX2_reachedPairs_6 : decode cX2_reachedPairs 6 = .ok (.getfield 40, 3) := by decide +kernel
theorem dX2_reachedPairs_9 : decode cX2_reachedPairs 9 = .ok (.invokevirtual 59, 3) := by decide +kernel
theorem dX2_reachedPairs_12 : decode cX2_reachedPairs 12 = .ok (.if_icmp .ge 45, 3) := by decide +kernel
theorem dX2_reachedPairs_15 : decode cX2_reachedPairs 15 = .ok (.iconst 0, 1) := by decide +kernel
theorem dX2_reachedPairs_16 : decode cX2_reachedPairs 16 = .ok (.istore_n 3, 1) := by decide +kernel
theorem dX2_reachedPairs_17 : decode cX2_reachedPairs 17 = .ok (.iload_n 3, 1) := by decide +kernel
theorem dX2_reachedPairs_18 : decode cX2_reachedPairs 18 = .ok (.aload_n 0, 1) := by decide +kernel
theorem dX2_reachedPairs_19 : decode cX2_reachedPairs 19 = .ok (.getfield 40, 3) := by decide +kernel
theorem dX2_reachedPairs_22 : decode cX2_reachedPairs 22 = .ok (.invokevirtual 59, 3) := by decide +kernel
theorem dX2_reachedPairs_25 : decode cX2_reachedPairs 25 = .ok (.if_icmp .ge 26, 3) := by decide +kernel
theorem dX2_reachedPairs_28 : decode cX2_reachedPairs 28 = .ok (.iload_n 2, 1) := by decide +kernel
theorem dX2_reachedPairs_29 : decode cX2_reachedPairs 29 = .ok (.iload_n 3, 1) := by decide +kernel
theorem dX2_reachedPairs_30 : decode cX2_reachedPairs 30 = .ok (.if_icmp .eq 15, 3) := by decide +kernel
theorem dX2_reachedPairs_33 : decode cX2_reachedPairs 33 = .ok (.aload_n 0, 1) := by decide +kernel
theorem dX2_reachedPairs_34 : decode cX2_reachedPairs 34 = .ok (.iload_n 2, 1) := by decide +kernel
theorem dX2_reachedPairs_35 : decode cX2_reachedPairs 35 = .ok (.iload_n 3, 1) := by decide +kernel
theorem dX2_reachedPairs_36 : decode cX2_reachedPairs 36 = .ok (.invokevirtual 146, 3) := by decide +kernel
theorem dX2_reachedPairs_39 : decode cX2_reachedPairs 39 = .ok (.ifCond .lt 6, 3) := by decide +kernel
theorem dX2_reachedPairs_42 : decode cX2_reachedPairs 42 = .ok (.iinc 1 1, 3) := by decide +kernel
theorem dX2_reachedPairs_45 : decode cX2_reachedPairs 45 = .ok (.iinc 3 1, 3) := by decide +kernel
theorem dX2_reachedPairs_48 : decode cX2_reachedPairs 48 = .ok (.goto (-31), 3) := by decide +kernel
theorem dX2_reachedPairs_51 : decode cX2_reachedPairs 51 = .ok (.iinc 2 1, 3) := by decide +kernel
theorem dX2_reachedPairs_54 : decode cX2_reachedPairs 54 = .ok (.goto (-50), 3) := by decide +kernel
theorem dX2_reachedPairs_57 : decode cX2_reachedPairs 57 = .ok (.iload_n 1, 1) := by decide +kernel
theorem dX2_reachedPairs_58 : decode cX2_reachedPairs 58 = .ok (.ireturn, 1) := by decide +kernel
theorem dX2_slot_0 : decode cX2_slot 0 = .ok (.iload_n 0, 1) := by decide +kernel
theorem dX2_slot_1 : decode cX2_slot 1 = .ok (.bipush 10, 2) := by decide +kernel
theorem dX2_slot_3 : decode cX2_slot 3 = .ok (.imul, 1) := by decide +kernel
theorem dX2_slot_4 : decode cX2_slot 4 = .ok (.iload_n 1, 1) := by decide +kernel
theorem dX2_slot_5 : decode cX2_slot 5 = .ok (.iadd, 1) := by decide +kernel
theorem dX2_slot_6 : decode cX2_slot 6 = .ok (.ireturn, 1) := by decide +kernel
set_option maxRecDepth 20000 in
theorem ggX3_init_X1_passes : GoodIn wsX3_init wsX1_passes := goodIn_r _ [12, 13, 25, 26, 27, 28, 29, 30, 31] (by decide +kernel) (by decide +kernel)
set_option maxRecDepth 20000 in
theorem gX3_init_X1_passes : GoodIn wsX3_init (wsV RX3 22 RX1 yX1_passes wsX1_passes) := goodIn_app (goodIn_of _ (by decide +kernel)) ggX3_init_X1_passes
set_option maxRecDepth 20000 in
theorem ggX3_init_X1_tellsNow : GoodIn wsX3_init wsX1_tellsNow := goodIn_r _ [17, 18, 19, 20, 21, 25, 26, 27, 28, 29, 30, 31] (by decide +kernel) (by decide +kernel)
set_option maxRecDepth 20000 in
theorem gX3_init_X1_tellsNow : GoodIn wsX3_init (wsV RX3 28 RX1 yX1_tellsNow wsX1_tellsNow) := goodIn_app (goodIn_of _ (by decide +kernel)) ggX3_init_X1_tellsNow
theorem dX3_init_0 : decode cX3_init 0 = .ok (.aload_n 0, 1) := by decide +kernel
theorem dX3_init_1 : decode cX3_init 1 = .ok (.invokespecial 3, 3) := by decide +kernel
theorem dX3_init_4 : decode cX3_init 4 = .ok (.aload_n 0, 1) := by decide +kernel
theorem dX3_init_5 : decode cX3_init 5 = .ok (.bipush 20, 2) := by decide +kernel
theorem dX3_init_7 : decode cX3_init 7 = .ok (.newarray .int, 2) := by decide +kernel
theorem dX3_init_9 : decode cX3_init 9 = .ok (.putfield 9, 3) := by decide +kernel
theorem dX3_init_12 : decode cX3_init 12 = .ok (.aload_n 0, 1) := by decide +kernel
theorem dX3_init_13 : decode cX3_init 13 = .ok (.iload_n 1, 1) := by decide +kernel
theorem dX3_init_14 : decode cX3_init 14 = .ok (.putfield 15, 3) := by decide +kernel
theorem dX3_init_17 : decode cX3_init 17 = .ok (.aload_n 0, 1) := by decide +kernel
theorem dX3_init_18 : decode cX3_init 18 = .ok (.iload_n 2, 1) := by decide +kernel
theorem dX3_init_19 : decode cX3_init 19 = .ok (.putfield 19, 3) := by decide +kernel
theorem dX3_init_22 : decode cX3_init 22 = .ok (.iconst 0, 1) := by decide +kernel
theorem dX3_init_23 : decode cX3_init 23 = .ok (.istore 5, 2) := by decide +kernel
theorem dX3_init_25 : decode cX3_init 25 = .ok (.iload 5, 2) := by decide +kernel
theorem dX3_init_27 : decode cX3_init 27 = .ok (.aload_n 3, 1) := by decide +kernel
theorem dX3_init_28 : decode cX3_init 28 = .ok (.invokevirtual 22, 3) := by decide +kernel
theorem dX3_init_31 : decode cX3_init 31 = .ok (.if_icmp .ge 24, 3) := by decide +kernel
theorem dX3_init_34 : decode cX3_init 34 = .ok (.aload_n 0, 1) := by decide +kernel
theorem dX3_init_35 : decode cX3_init 35 = .ok (.getfield 9, 3) := by decide +kernel
theorem dX3_init_38 : decode cX3_init 38 = .ok (.iload 5, 2) := by decide +kernel
theorem dX3_init_40 : decode cX3_init 40 = .ok (.aload_n 3, 1) := by decide +kernel
theorem dX3_init_41 : decode cX3_init 41 = .ok (.iload 4, 2) := by decide +kernel
theorem dX3_init_43 : decode cX3_init 43 = .ok (.iload 5, 2) := by decide +kernel
theorem dX3_init_45 : decode cX3_init 45 = .ok (.invokevirtual 28, 3) := by decide +kernel
theorem dX3_init_48 : decode cX3_init 48 = .ok (.iastore, 1) := by decide +kernel
theorem dX3_init_49 : decode cX3_init 49 = .ok (.iinc 5 1, 3) := by decide +kernel
theorem dX3_init_52 : decode cX3_init 52 = .ok (.goto (-27), 3) := by decide +kernel
theorem dX3_init_55 : decode cX3_init 55 = .ok (.return_, 1) := by decide +kernel
theorem dX3_number_0 : decode cX3_number 0 = .ok (.aload_n 0, 1) := by decide +kernel
theorem dX3_number_1 : decode cX3_number 1 = .ok (.getfield 15, 3) := by decide +kernel
theorem dX3_number_4 : decode cX3_number 4 = .ok (.ireturn, 1) := by decide +kernel
theorem dX3_age_0 : decode cX3_age 0 = .ok (.iload_n 1, 1) := by decide +kernel
theorem dX3_age_1 : decode cX3_age 1 = .ok (.aload_n 0, 1) := by decide +kernel
theorem dX3_age_2 : decode cX3_age 2 = .ok (.getfield 19, 3) := by decide +kernel
theorem dX3_age_5 : decode cX3_age 5 = .ok (.isub, 1) := by decide +kernel
theorem dX3_age_6 : decode cX3_age 6 = .ok (.ireturn, 1) := by decide +kernel
theorem dX3_length_0 : decode cX3_length 0 = .ok (.aload_n 0, 1) := by decide +kernel
theorem dX3_length_1 : decode cX3_length 1 = .ok (.getfield 9, 3) := by decide +kernel
theorem dX3_length_4 : decode cX3_length 4 = .ok (.iload_n 1, 1) := by decide +kernel
theorem dX3_length_5 : decode cX3_length 5 = .ok (.iaload, 1) := by decide +kernel
theorem dX3_length_6 : decode cX3_length 6 = .ok (.ireturn, 1) := by decide +kernel
theorem dX3_tells_0 : decode cX3_tells 0 = .ok (.aload_n 0, 1) := by decide +kernel
theorem dX3_tells_1 : decode cX3_tells 1 = .ok (.getfield 9, 3) := by decide +kernel
theorem dX3_tells_4 : decode cX3_tells 4 = .ok (.iload_n 1, 1) := by decide +kernel
theorem dX3_tells_5 : decode cX3_tells 5 = .ok (.iaload, 1) := by decide +kernel
theorem dX3_tells_6 : decode cX3_tells 6 = .ok (.ifCond .le 7, 3) := by decide +kernel
theorem dX3_tells_9 : decode cX3_tells 9 = .ok (.iconst 1, 1) := by decide +kernel
theorem dX3_tells_10 : decode cX3_tells 10 = .ok (.goto 4, 3) := by decide +kernel
theorem dX3_tells_13 : decode cX3_tells 13 = .ok (.iconst 0, 1) := by decide +kernel
theorem dX3_tells_14 : decode cX3_tells 14 = .ok (.ireturn, 1) := by decide +kernel
set_option maxRecDepth 20000 in
theorem ggX3_passesTold_X3_tells : GoodIn wsX3_passesTold wsX3_tells := goodIn_r _ [6, 1, 7, 8, 9] (by decide +kernel) (by decide +kernel)
set_option maxRecDepth 20000 in
theorem gX3_passesTold_X3_tells : GoodIn wsX3_passesTold (wsV RX3 32 RX3 yX3_tells wsX3_tells) := goodIn_app (goodIn_of _ (by decide +kernel)) ggX3_passesTold_X3_tells
theorem dX3_passesTold_0 : decode cX3_passesTold 0 = .ok (.iconst 0, 1) := by decide +kernel
theorem dX3_passesTold_1 : decode cX3_passesTold 1 = .ok (.istore_n 1, 1) := by decide +kernel
theorem dX3_passesTold_2 : decode cX3_passesTold 2 = .ok (.iconst 0, 1) := by decide +kernel
theorem dX3_passesTold_3 : decode cX3_passesTold 3 = .ok (.istore_n 2, 1) := by decide +kernel
theorem dX3_passesTold_4 : decode cX3_passesTold 4 = .ok (.iload_n 2, 1) := by decide +kernel
theorem dX3_passesTold_5 : decode cX3_passesTold 5 = .ok (.aload_n 0, 1) := by decide +kernel
theorem dX3_passesTold_6 : decode cX3_passesTold 6 = .ok (.getfield 9, 3) := by decide +kernel
theorem dX3_passesTold_9 : decode cX3_passesTold 9 = .ok (.arraylength, 1) := by decide +kernel
theorem dX3_passesTold_10 : decode cX3_passesTold 10 = .ok (.if_icmp .ge 20, 3) := by decide +kernel
theorem dX3_passesTold_13 : decode cX3_passesTold 13 = .ok (.aload_n 0, 1) := by decide +kernel
theorem dX3_passesTold_14 : decode cX3_passesTold 14 = .ok (.iload_n 2, 1) := by decide +kernel
theorem dX3_passesTold_15 : decode cX3_passesTold 15 = .ok (.invokevirtual 32, 3) := by decide +kernel
theorem dX3_passesTold_18 : decode cX3_passesTold 18 = .ok (.ifCond .eq 6, 3) := by decide +kernel
theorem dX3_passesTold_21 : decode cX3_passesTold 21 = .ok (.iinc 1 1, 3) := by decide +kernel
theorem dX3_passesTold_24 : decode cX3_passesTold 24 = .ok (.iinc 2 1, 3) := by decide +kernel
theorem dX3_passesTold_27 : decode cX3_passesTold 27 = .ok (.goto (-23), 3) := by decide +kernel
theorem dX3_passesTold_30 : decode cX3_passesTold 30 = .ok (.iload_n 1, 1) := by decide +kernel
theorem dX3_passesTold_31 : decode cX3_passesTold 31 = .ok (.ireturn, 1) := by decide +kernel
set_option maxRecDepth 20000 in
theorem ggX3_tellsAsNow_X1_passes : GoodIn wsX3_tellsAsNow wsX1_passes := goodIn_r _ [6, 7, 19, 20, 21, 22, 23, 24, 25] (by decide +kernel) (by decide +kernel)
set_option maxRecDepth 20000 in
theorem gX3_tellsAsNow_X1_passes : GoodIn wsX3_tellsAsNow (wsV RX3 22 RX1 yX1_passes wsX1_passes) := goodIn_app (goodIn_of _ (by decide +kernel)) ggX3_tellsAsNow_X1_passes
set_option maxRecDepth 20000 in
theorem ggX3_tellsAsNow_X1_tellsNow : GoodIn wsX3_tellsAsNow wsX1_tellsNow := goodIn_r _ [11, 12, 13, 14, 15, 19, 20, 21, 22, 23, 24, 25] (by decide +kernel) (by decide +kernel)
set_option maxRecDepth 20000 in
theorem gX3_tellsAsNow_X1_tellsNow : GoodIn wsX3_tellsAsNow (wsV RX3 28 RX1 yX1_tellsNow wsX1_tellsNow) := goodIn_app (goodIn_of _ (by decide +kernel)) ggX3_tellsAsNow_X1_tellsNow
theorem dX3_tellsAsNow_0 : decode cX3_tellsAsNow 0 = .ok (.iconst 0, 1) := by decide +kernel
theorem dX3_tellsAsNow_1 : decode cX3_tellsAsNow 1 = .ok (.istore_n 3, 1) := by decide +kernel
theorem dX3_tellsAsNow_2 : decode cX3_tellsAsNow 2 = .ok (.iload_n 3, 1) := by decide +kernel
theorem dX3_tellsAsNow_3 : decode cX3_tellsAsNow 3 = .ok (.aload_n 1, 1) := by decide +kernel
theorem dX3_tellsAsNow_4 : decode cX3_tellsAsNow 4 = .ok (.invokevirtual 22, 3) := by decide +kernel
theorem dX3_tellsAsNow_7 : decode cX3_tellsAsNow 7 = .ok (.if_icmp .ge 26, 3) := by decide +kernel
theorem dX3_tellsAsNow_10 : decode cX3_tellsAsNow 10 = .ok (.aload_n 0, 1) := by decide +kernel
theorem dX3_tellsAsNow_11 : decode cX3_tellsAsNow 11 = .ok (.getfield 9, 3) := by decide +kernel
theorem dX3_tellsAsNow_14 : decode cX3_tellsAsNow 14 = .ok (.iload_n 3, 1) := by decide +kernel
theorem dX3_tellsAsNow_15 : decode cX3_tellsAsNow 15 = .ok (.iaload, 1) := by decide +kernel
theorem dX3_tellsAsNow_16 : decode cX3_tellsAsNow 16 = .ok (.aload_n 1, 1) := by decide +kernel
theorem dX3_tellsAsNow_17 : decode cX3_tellsAsNow 17 = .ok (.iload_n 2, 1) := by decide +kernel
theorem dX3_tellsAsNow_18 : decode cX3_tellsAsNow 18 = .ok (.iload_n 3, 1) := by decide +kernel
theorem dX3_tellsAsNow_19 : decode cX3_tellsAsNow 19 = .ok (.invokevirtual 28, 3) := by decide +kernel
theorem dX3_tellsAsNow_22 : decode cX3_tellsAsNow 22 = .ok (.if_icmp .eq 5, 3) := by decide +kernel
theorem dX3_tellsAsNow_25 : decode cX3_tellsAsNow 25 = .ok (.iconst 0, 1) := by decide +kernel
theorem dX3_tellsAsNow_26 : decode cX3_tellsAsNow 26 = .ok (.ireturn, 1) := by decide +kernel
theorem dX3_tellsAsNow_27 : decode cX3_tellsAsNow 27 = .ok (.iinc 3 1, 3) := by decide +kernel
theorem dX3_tellsAsNow_30 : decode cX3_tellsAsNow 30 = .ok (.goto (-28), 3) := by decide +kernel
theorem dX3_tellsAsNow_33 : decode cX3_tellsAsNow 33 = .ok (.iconst 1, 1) := by decide +kernel
theorem dX3_tellsAsNow_34 : decode cX3_tellsAsNow 34 = .ok (.ireturn, 1) := by decide +kernel
set_option maxRecDepth 20000 in
theorem ggX4_init_X1_init : GoodIn wsX4_init wsX1_init := goodIn_r _ [20, 21, 2, 3, 17, 22, 23, 24, 25, 26, 27, 48, 49, 50, 51, 52, 53, 54] (by decide +kernel) (by decide +kernel)
set_option maxRecDepth 20000 in
theorem gX4_init_X1_init_n9 : GoodIn wsX4_init (wsX1_init) := ggX4_init_X1_init
set_option maxRecDepth 20000 in
theorem ggX4_init_X2_init : GoodIn wsX4_init wsX2_init := goodIn_r _ [30, 31, 2, 3, 32, 14, 15, 33, 17, 34, 35, 36, 26, 37, 38, 39, 40, 41, 42, 43, 44, 45, 46, 47, 68, 69, 70, 71, 60, 61, 62, 63, 64, 65, 66, 67] (by decide +kernel) (by decide +kernel)
set_option maxRecDepth 20000 in
theorem gX4_init_X2_init : GoodIn wsX4_init (wsX2_init) := ggX4_init_X2_init
set_option maxRecDepth 20000 in
theorem ggX4_init_X0_init : GoodIn wsX4_init wsX0_init := goodIn_r _ [43, 44, 2, 3, 17, 45, 46, 47, 68, 69, 70, 71] (by decide +kernel) (by decide +kernel)
set_option maxRecDepth 20000 in
theorem gX4_init_X0_init_n30 : GoodIn wsX4_init (wsX0_init) := ggX4_init_X0_init
theorem dX4_init_0 : decode cX4_init 0 = .ok (.aload_n 0, 1) := by decide +kernel
theorem dX4_init_1 : decode cX4_init 1 = .ok (.invokespecial 1, 3) := by decide +kernel
theorem dX4_init_4 : decode cX4_init 4 = .ok (.aload_n 0, 1) := by decide +kernel
theorem dX4_init_5 : decode cX4_init 5 = .ok (.new 7, 3) := by decide +kernel
theorem dX4_init_8 : decode cX4_init 8 = .ok (.dup, 1) := by decide +kernel
theorem dX4_init_9 : decode cX4_init 9 = .ok (.invokespecial 9, 3) := by decide +kernel
theorem dX4_init_12 : decode cX4_init 12 = .ok (.putfield 10, 3) := by decide +kernel
theorem dX4_init_15 : decode cX4_init 15 = .ok (.aload_n 0, 1) := by decide +kernel
theorem dX4_init_16 : decode cX4_init 16 = .ok (.new 16, 3) := by decide +kernel
theorem dX4_init_19 : decode cX4_init 19 = .ok (.dup, 1) := by decide +kernel
theorem dX4_init_20 : decode cX4_init 20 = .ok (.aload_n 0, 1) := by decide +kernel
theorem dX4_init_21 : decode cX4_init 21 = .ok (.getfield 10, 3) := by decide +kernel
theorem dX4_init_24 : decode cX4_init 24 = .ok (.invokespecial 18, 3) := by decide +kernel
theorem dX4_init_27 : decode cX4_init 27 = .ok (.putfield 21, 3) := by decide +kernel
theorem dX4_init_30 : decode cX4_init 30 = .ok (.aload_n 0, 1) := by decide +kernel
theorem dX4_init_31 : decode cX4_init 31 = .ok (.new 16, 3) := by decide +kernel
theorem dX4_init_34 : decode cX4_init 34 = .ok (.dup, 1) := by decide +kernel
theorem dX4_init_35 : decode cX4_init 35 = .ok (.aload_n 0, 1) := by decide +kernel
theorem dX4_init_36 : decode cX4_init 36 = .ok (.getfield 10, 3) := by decide +kernel
theorem dX4_init_39 : decode cX4_init 39 = .ok (.invokespecial 18, 3) := by decide +kernel
theorem dX4_init_42 : decode cX4_init 42 = .ok (.putfield 25, 3) := by decide +kernel
theorem dX4_init_45 : decode cX4_init 45 = .ok (.aload_n 0, 1) := by decide +kernel
theorem dX4_init_46 : decode cX4_init 46 = .ok (.new 28, 3) := by decide +kernel
theorem dX4_init_49 : decode cX4_init 49 = .ok (.dup, 1) := by decide +kernel
theorem dX4_init_50 : decode cX4_init 50 = .ok (.invokespecial 30, 3) := by decide +kernel
theorem dX4_init_53 : decode cX4_init 53 = .ok (.putfield 31, 3) := by decide +kernel
theorem dX4_init_56 : decode cX4_init 56 = .ok (.aload_n 0, 1) := by decide +kernel
theorem dX4_init_57 : decode cX4_init 57 = .ok (.bipush 10, 2) := by decide +kernel
theorem dX4_init_59 : decode cX4_init 59 = .ok (.newarray .int, 2) := by decide +kernel
theorem dX4_init_61 : decode cX4_init 61 = .ok (.putfield 35, 3) := by decide +kernel
theorem dX4_init_64 : decode cX4_init 64 = .ok (.return_, 1) := by decide +kernel
set_option maxRecDepth 20000 in
theorem ggX4_hut_X1_huts : GoodIn wsX4_hut wsX1_huts := goodIn_r _ [10, 11, 22, 23, 24, 25, 26, 27, 28] (by decide +kernel) (by decide +kernel)
set_option maxRecDepth 20000 in
theorem gX4_hut_X1_huts : GoodIn wsX4_hut (wsV RX4 46 RX1 yX1_huts wsX1_huts) := goodIn_app (goodIn_of _ (by decide +kernel)) ggX4_hut_X1_huts
set_option maxRecDepth 20000 in
theorem ggX4_hut_X1_addHut : GoodIn wsX4_hut wsX1_addHut := goodIn_r _ [15, 11, 16, 22, 23, 24, 25, 26, 27, 28] (by decide +kernel) (by decide +kernel)
set_option maxRecDepth 20000 in
theorem gX4_hut_X1_addHut : GoodIn wsX4_hut (wsV RX4 55 RX1 yX1_addHut wsX1_addHut) := goodIn_app (goodIn_of _ (by decide +kernel)) ggX4_hut_X1_addHut
theorem dX4_hut_0 : decode cX4_hut 0 = .ok (.iload_n 1, 1) := by decide +kernel
theorem dX4_hut_1 : decode cX4_hut 1 = .ok (.ifCond .lt 8, 3) := by decide +kernel
theorem dX4_hut_4 : decode cX4_hut 4 = .ok (.iload_n 1, 1) := by decide +kernel
theorem dX4_hut_5 : decode cX4_hut 5 = .ok (.iconst 3, 1) := by decide +kernel
theorem dX4_hut_6 : decode cX4_hut 6 = .ok (.if_icmp .le 13, 3) := by decide +kernel
theorem dX4_hut_9 : decode cX4_hut 9 = .ok (.new 39, 3) := by decide +kernel
theorem dX4_hut_12 : decode cX4_hut 12 = .ok (.dup, 1) := by decide +kernel
theorem dX4_hut_13 : decode cX4_hut 13 = .ok (.ldc 41, 2) := by decide +kernel
theorem dX4_hut_15 : decode cX4_hut 15 = .ok (.invokespecial 43, 3) := by decide +kernel
theorem dX4_hut_18 : decode cX4_hut 18 = .ok (.athrow, 1) := by decide +kernel
theorem dX4_hut_19 : decode cX4_hut 19 = .ok (.aload_n 0, 1) := by decide +kernel
theorem dX4_hut_20 : decode cX4_hut 20 = .ok (.getfield 10, 3) := by decide +kernel
theorem dX4_hut_23 : decode cX4_hut 23 = .ok (.invokevirtual 46, 3) := by decide +kernel
theorem dX4_hut_26 : decode cX4_hut 26 = .ok (.bipush 10, 2) := by decide +kernel
theorem dX4_hut_28 : decode cX4_hut 28 = .ok (.if_icmp .lt 13, 3) := by decide +kernel
theorem dX4_hut_31 : decode cX4_hut 31 = .ok (.new 50, 3) := by decide +kernel
theorem dX4_hut_34 : decode cX4_hut 34 = .ok (.dup, 1) := by decide +kernel
theorem dX4_hut_35 : decode cX4_hut 35 = .ok (.ldc 52, 2) := by decide +kernel
theorem dX4_hut_37 : decode cX4_hut 37 = .ok (.invokespecial 54, 3) := by decide +kernel
theorem dX4_hut_40 : decode cX4_hut 40 = .ok (.athrow, 1) := by decide +kernel
theorem dX4_hut_41 : decode cX4_hut 41 = .ok (.aload_n 0, 1) := by decide +kernel
theorem dX4_hut_42 : decode cX4_hut 42 = .ok (.getfield 10, 3) := by decide +kernel
theorem dX4_hut_45 : decode cX4_hut 45 = .ok (.iload_n 1, 1) := by decide +kernel
theorem dX4_hut_46 : decode cX4_hut 46 = .ok (.invokevirtual 55, 3) := by decide +kernel
theorem dX4_hut_49 : decode cX4_hut 49 = .ok (.ireturn, 1) := by decide +kernel
set_option maxRecDepth 20000 in
theorem ggX4_pass_X4_checkHut : GoodIn wsX4_pass wsX4_checkHut := goodIn_ca (goodIn_r _ [10, 11, 12, 5, 13, 14, 15, 16, 17, 18, 36, 37, 38, 39, 40, 41, 42, 43, 44, 45, 46, 47] (by decide +kernel) (by decide +kernel)) (goodIn_sub (fun _ h => List.mem_cons_of_mem _ (List.mem_append_right _ h)) (by decide +kernel))
set_option maxRecDepth 20000 in
theorem gX4_pass_X4_checkHut : GoodIn wsX4_pass (wsV RX4 59 RX4 yX4_checkHut wsX4_checkHut) := goodIn_app (goodIn_of _ (by decide +kernel)) ggX4_pass_X4_checkHut
set_option maxRecDepth 20000 in
theorem ggX4_pass_X4_checkLength : GoodIn wsX4_pass wsX4_checkLength := goodIn_ca (goodIn_r _ [22, 1, 2] (by decide +kernel) (by decide +kernel)) (goodIn_sub (fun _ h => List.mem_cons_of_mem _ (List.mem_append_left _ (List.mem_append_left _ (List.mem_append_right _ h)))) (by decide +kernel))
set_option maxRecDepth 20000 in
theorem gX4_pass_X4_checkLength : GoodIn wsX4_pass (wsV RX4 65 RX4 yX4_checkLength wsX4_checkLength) := goodIn_app (goodIn_of _ (by decide +kernel)) ggX4_pass_X4_checkLength
set_option maxRecDepth 20000 in
theorem ggX4_pass_X1_passes : GoodIn wsX4_pass wsX1_passes := goodIn_r _ [26, 27, 41, 42, 43, 44, 45, 46, 47] (by decide +kernel) (by decide +kernel)
set_option maxRecDepth 20000 in
theorem gX4_pass_X1_passes : GoodIn wsX4_pass (wsV RX4 68 RX1 yX1_passes wsX1_passes) := goodIn_app (goodIn_of _ (by decide +kernel)) ggX4_pass_X1_passes
set_option maxRecDepth 20000 in
theorem ggX4_pass_X1_addPass : GoodIn wsX4_pass wsX1_addPass := goodIn_r _ [31, 27, 32, 33, 34, 35, 41, 42, 43, 44, 45, 46, 47] (by decide +kernel) (by decide +kernel)
set_option maxRecDepth 20000 in
theorem gX4_pass_X1_addPass : GoodIn wsX4_pass (wsV RX4 73 RX1 yX1_addPass wsX1_addPass) := goodIn_app (goodIn_of _ (by decide +kernel)) ggX4_pass_X1_addPass
theorem dX4_pass_0 : decode cX4_pass 0 = .ok (.aload_n 0, 1) := by decide +kernel
theorem dX4_pass_1 : decode cX4_pass 1 = .ok (.iload_n 1, 1) := by decide +kernel
theorem dX4_pass_2 : decode cX4_pass 2 = .ok (.invokevirtual 59, 3) := by decide +kernel
theorem dX4_pass_5 : decode cX4_pass 5 = .ok (.aload_n 0, 1) := by decide +kernel
theorem dX4_pass_6 : decode cX4_pass 6 = .ok (.iload_n 2, 1) := by decide +kernel
theorem dX4_pass_7 : decode cX4_pass 7 = .ok (.invokevirtual 59, 3) := by decide +kernel
theorem dX4_pass_10 : decode cX4_pass 10 = .ok (.iload_n 1, 1) := by decide +kernel
theorem dX4_pass_11 : decode cX4_pass 11 = .ok (.iload_n 2, 1) := by decide +kernel
theorem dX4_pass_12 : decode cX4_pass 12 = .ok (.if_icmp .ne 13, 3) := by decide +kernel
theorem dX4_pass_15 : decode cX4_pass 15 = .ok (.new 39, 3) := by decide +kernel
theorem dX4_pass_18 : decode cX4_pass 18 = .ok (.dup, 1) := by decide +kernel
theorem dX4_pass_19 : decode cX4_pass 19 = .ok (.ldc 63, 2) := by decide +kernel
theorem dX4_pass_21 : decode cX4_pass 21 = .ok (.invokespecial 43, 3) := by decide +kernel
theorem dX4_pass_24 : decode cX4_pass 24 = .ok (.athrow, 1) := by decide +kernel
theorem dX4_pass_25 : decode cX4_pass 25 = .ok (.aload_n 0, 1) := by decide +kernel
theorem dX4_pass_26 : decode cX4_pass 26 = .ok (.iload_n 3, 1) := by decide +kernel
theorem dX4_pass_27 : decode cX4_pass 27 = .ok (.invokevirtual 65, 3) := by decide +kernel
theorem dX4_pass_30 : decode cX4_pass 30 = .ok (.aload_n 0, 1) := by decide +kernel
theorem dX4_pass_31 : decode cX4_pass 31 = .ok (.getfield 10, 3) := by decide +kernel
theorem dX4_pass_34 : decode cX4_pass 34 = .ok (.invokevirtual 68, 3) := by decide +kernel
theorem dX4_pass_37 : decode cX4_pass 37 = .ok (.bipush 20, 2) := by decide +kernel
theorem dX4_pass_39 : decode cX4_pass 39 = .ok (.if_icmp .lt 13, 3) := by decide +kernel
theorem dX4_pass_42 : decode cX4_pass 42 = .ok (.new 50, 3) := by decide +kernel
theorem dX4_pass_45 : decode cX4_pass 45 = .ok (.dup, 1) := by decide +kernel
theorem dX4_pass_46 : decode cX4_pass 46 = .ok (.ldc 71, 2) := by decide +kernel
theorem dX4_pass_48 : decode cX4_pass 48 = .ok (.invokespecial 54, 3) := by decide +kernel
theorem dX4_pass_51 : decode cX4_pass 51 = .ok (.athrow, 1) := by decide +kernel
theorem dX4_pass_52 : decode cX4_pass 52 = .ok (.aload_n 0, 1) := by decide +kernel
theorem dX4_pass_53 : decode cX4_pass 53 = .ok (.getfield 10, 3) := by decide +kernel
theorem dX4_pass_56 : decode cX4_pass 56 = .ok (.iload_n 1, 1) := by decide +kernel
theorem dX4_pass_57 : decode cX4_pass 57 = .ok (.iload_n 2, 1) := by decide +kernel
theorem dX4_pass_58 : decode cX4_pass 58 = .ok (.iload_n 3, 1) := by decide +kernel
theorem dX4_pass_59 : decode cX4_pass 59 = .ok (.invokevirtual 73, 3) := by decide +kernel
theorem dX4_pass_62 : decode cX4_pass 62 = .ok (.ireturn, 1) := by decide +kernel
set_option maxRecDepth 20000 in
theorem ggX4_setLength_X4_checkPass : GoodIn wsX4_setLength wsX4_checkPass := goodIn_ca (goodIn_r _ [6, 7, 8, 1, 9, 10, 11, 12, 13, 14, 26, 27, 28, 29, 30, 31, 32, 33, 34, 35, 36, 37] (by decide +kernel) (by decide +kernel)) (goodIn_sub (fun _ h => List.mem_cons_of_mem _ (List.mem_append_left _ (List.mem_append_right _ h))) (by decide +kernel))
set_option maxRecDepth 20000 in
theorem gX4_setLength_X4_checkPass : GoodIn wsX4_setLength (wsV RX4 77 RX4 yX4_checkPass wsX4_checkPass) := goodIn_app (goodIn_of _ (by decide +kernel)) ggX4_setLength_X4_checkPass
set_option maxRecDepth 20000 in
theorem ggX4_setLength_X4_checkLength : GoodIn wsX4_setLength wsX4_checkLength := goodIn_ca (goodIn_r _ [18, 19, 20] (by decide +kernel) (by decide +kernel)) (goodIn_sub (fun _ h => List.mem_cons_of_mem _ (List.mem_append_right _ h)) (by decide +kernel))
set_option maxRecDepth 20000 in
theorem gX4_setLength_X4_checkLength : GoodIn wsX4_setLength (wsV RX4 65 RX4 yX4_checkLength wsX4_checkLength) := goodIn_app (goodIn_of _ (by decide +kernel)) ggX4_setLength_X4_checkLength
set_option maxRecDepth 20000 in
theorem ggX4_setLength_X1_changeLength : GoodIn wsX4_setLength wsX1_changeLength := goodIn_r _ [24, 25, 31, 32, 33, 34, 35, 36, 37] (by decide +kernel) (by decide +kernel)
set_option maxRecDepth 20000 in
theorem gX4_setLength_X1_changeLength : GoodIn wsX4_setLength (wsV RX4 80 RX1 yX1_changeLength wsX1_changeLength) := goodIn_app (goodIn_of _ (by decide +kernel)) ggX4_setLength_X1_changeLength
theorem dX4_setLength_0 : decode cX4_setLength 0 = .ok (.aload_n 0, 1) := by decide +kernel
theorem dX4_setLength_1 : decode cX4_setLength 1 = .ok (.iload_n 1, 1) := by decide +kernel
theorem dX4_setLength_2 : decode cX4_setLength 2 = .ok (.invokevirtual 77, 3) := by decide +kernel
theorem dX4_setLength_5 : decode cX4_setLength 5 = .ok (.aload_n 0, 1) := by decide +kernel
theorem dX4_setLength_6 : decode cX4_setLength 6 = .ok (.iload_n 2, 1) := by decide +kernel
theorem dX4_setLength_7 : decode cX4_setLength 7 = .ok (.invokevirtual 65, 3) := by decide +kernel
theorem dX4_setLength_10 : decode cX4_setLength 10 = .ok (.aload_n 0, 1) := by decide +kernel
theorem dX4_setLength_11 : decode cX4_setLength 11 = .ok (.getfield 10, 3) := by decide +kernel
theorem dX4_setLength_14 : decode cX4_setLength 14 = .ok (.iload_n 1, 1) := by decide +kernel
theorem dX4_setLength_15 : decode cX4_setLength 15 = .ok (.iload_n 2, 1) := by decide +kernel
theorem dX4_setLength_16 : decode cX4_setLength 16 = .ok (.invokevirtual 80, 3) := by decide +kernel
theorem dX4_setLength_19 : decode cX4_setLength 19 = .ok (.ireturn, 1) := by decide +kernel
set_option maxRecDepth 20000 in
theorem ggX4_setOpen_X4_checkPass : GoodIn wsX4_setOpen wsX4_checkPass := goodIn_ca (goodIn_r _ [6, 7, 8, 1, 9, 10, 11, 12, 13, 14, 20, 21, 22, 23, 24, 25, 26, 27, 28, 29, 30, 31] (by decide +kernel) (by decide +kernel)) (goodIn_sub (fun _ h => List.mem_cons_of_mem _ (List.mem_append_right _ h)) (by decide +kernel))
set_option maxRecDepth 20000 in
theorem gX4_setOpen_X4_checkPass : GoodIn wsX4_setOpen (wsV RX4 77 RX4 yX4_checkPass wsX4_checkPass) := goodIn_app (goodIn_of _ (by decide +kernel)) ggX4_setOpen_X4_checkPass
set_option maxRecDepth 20000 in
theorem ggX4_setOpen_X1_changeOpen : GoodIn wsX4_setOpen wsX1_changeOpen := goodIn_r _ [18, 19, 25, 26, 27, 28, 29, 30, 31] (by decide +kernel) (by decide +kernel)
set_option maxRecDepth 20000 in
theorem gX4_setOpen_X1_changeOpen : GoodIn wsX4_setOpen (wsV RX4 84 RX1 yX1_changeOpen wsX1_changeOpen) := goodIn_app (goodIn_of _ (by decide +kernel)) ggX4_setOpen_X1_changeOpen
theorem dX4_setOpen_0 : decode cX4_setOpen 0 = .ok (.aload_n 0, 1) := by decide +kernel
theorem dX4_setOpen_1 : decode cX4_setOpen 1 = .ok (.iload_n 1, 1) := by decide +kernel
theorem dX4_setOpen_2 : decode cX4_setOpen 2 = .ok (.invokevirtual 77, 3) := by decide +kernel
theorem dX4_setOpen_5 : decode cX4_setOpen 5 = .ok (.aload_n 0, 1) := by decide +kernel
theorem dX4_setOpen_6 : decode cX4_setOpen 6 = .ok (.getfield 10, 3) := by decide +kernel
theorem dX4_setOpen_9 : decode cX4_setOpen 9 = .ok (.iload_n 1, 1) := by decide +kernel
theorem dX4_setOpen_10 : decode cX4_setOpen 10 = .ok (.iload_n 2, 1) := by decide +kernel
theorem dX4_setOpen_11 : decode cX4_setOpen 11 = .ok (.invokevirtual 84, 3) := by decide +kernel
theorem dX4_setOpen_14 : decode cX4_setOpen 14 = .ok (.ireturn, 1) := by decide +kernel
set_option maxRecDepth 20000 in
theorem ggX4_burn_X4_checkHut : GoodIn wsX4_burn wsX4_checkHut := goodIn_ca (goodIn_r _ [6, 7, 8, 9, 10, 11, 12, 13, 14, 15, 34, 35, 36, 37, 38, 39, 40, 41, 42, 43, 44, 45] (by decide +kernel) (by decide +kernel)) (goodIn_sub (fun _ h => List.mem_cons_of_mem _ (List.mem_append_right _ h)) (by decide +kernel))
set_option maxRecDepth 20000 in
theorem gX4_burn_X4_checkHut : GoodIn wsX4_burn (wsV RX4 59 RX4 yX4_checkHut wsX4_checkHut) := goodIn_app (goodIn_of _ (by decide +kernel)) ggX4_burn_X4_checkHut
set_option maxRecDepth 20000 in
theorem ggX4_burn_X2_burnAll : GoodIn wsX4_burn wsX2_burnAll := goodIn_r _ [20, 21, 22, 23, 24, 19, 25, 26, 27, 28, 29, 30, 31, 32, 33, 46, 47, 48, 49, 50, 51, 52, 53] (by decide +kernel) (by decide +kernel)
set_option maxRecDepth 20000 in
theorem gX4_burn_X2_burnAll : GoodIn wsX4_burn (wsV RX4 88 RX2 yX2_burnAll wsX2_burnAll) := goodIn_app (goodIn_of _ (by decide +kernel)) ggX4_burn_X2_burnAll
theorem dX4_burn_0 : decode cX4_burn 0 = .ok (.aload_n 0, 1) := by decide +kernel
theorem dX4_burn_1 : decode cX4_burn 1 = .ok (.iload_n 1, 1) := by decide +kernel
theorem dX4_burn_2 : decode cX4_burn 2 = .ok (.invokevirtual 59, 3) := by decide +kernel
theorem dX4_burn_5 : decode cX4_burn 5 = .ok (.aload_n 0, 1) := by decide +kernel
theorem dX4_burn_6 : decode cX4_burn 6 = .ok (.getfield 21, 3) := by decide +kernel
theorem dX4_burn_9 : decode cX4_burn 9 = .ok (.iload_n 1, 1) := by decide +kernel
theorem dX4_burn_10 : decode cX4_burn 10 = .ok (.invokevirtual 88, 3) := by decide +kernel
theorem dX4_burn_13 : decode cX4_burn 13 = .ok (.ireturn, 1) := by decide +kernel
set_option maxRecDepth 20000 in
theorem ggX4_sheet_X4_checkHut : GoodIn wsX4_sheet wsX4_checkHut := goodIn_ca (goodIn_r _ [6, 7, 8, 9, 10, 11, 12, 13, 14, 15, 54, 55, 56, 57, 58, 59, 60, 61, 62, 63, 64, 65] (by decide +kernel) (by decide +kernel)) (goodIn_sub (fun _ h => List.mem_cons_of_mem _ (List.mem_append_right _ h)) (by decide +kernel))
set_option maxRecDepth 20000 in
theorem gX4_sheet_X4_checkHut : GoodIn wsX4_sheet (wsV RX4 59 RX4 yX4_checkHut wsX4_checkHut) := goodIn_app (goodIn_of _ (by decide +kernel)) ggX4_sheet_X4_checkHut
set_option maxRecDepth 20000 in
theorem ggX4_sheet_X4_checkWhat : GoodIn wsX4_sheet wsX4_checkWhat := goodIn_ca (goodIn_r _ [19, 7, 8] (by decide +kernel) (by decide +kernel)) (goodIn_sub (fun _ h => List.mem_cons_of_mem _ (List.mem_append_right _ h)) (by decide +kernel))
set_option maxRecDepth 20000 in
theorem gX4_sheet_X4_checkWhat : GoodIn wsX4_sheet (wsV RX4 91 RX4 yX4_checkWhat wsX4_checkWhat) := goodIn_app (goodIn_of _ (by decide +kernel)) ggX4_sheet_X4_checkWhat
set_option maxRecDepth 20000 in
theorem ggX4_sheet_X2_held : GoodIn wsX4_sheet wsX2_held := goodIn_r _ [24, 25, 26, 27, 23, 28, 66, 67, 68, 69, 70, 71, 72, 73] (by decide +kernel) (by decide +kernel)
set_option maxRecDepth 20000 in
theorem gX4_sheet_X2_held : GoodIn wsX4_sheet (wsV RX4 95 RX2 yX2_held wsX2_held) := goodIn_app (goodIn_of _ (by decide +kernel)) ggX4_sheet_X2_held
set_option maxRecDepth 20000 in
theorem ggX4_sheet_X3_number : GoodIn wsX4_sheet wsX3_number := goodIn_r _ [33, 34, 74, 75, 76] (by decide +kernel) (by decide +kernel)
set_option maxRecDepth 20000 in
theorem gX4_sheet_X3_number : GoodIn wsX4_sheet (wsV RX4 99 RX3 yX3_number wsX3_number) := goodIn_app (goodIn_of _ (by decide +kernel)) ggX4_sheet_X3_number
set_option maxRecDepth 20000 in
theorem ggX4_sheet_X2_minute : GoodIn wsX4_sheet wsX2_minute := goodIn_r _ [38, 39, 66, 67, 68, 69, 70, 71, 72, 73] (by decide +kernel) (by decide +kernel)
set_option maxRecDepth 20000 in
theorem gX4_sheet_X2_minute : GoodIn wsX4_sheet (wsV RX4 104 RX2 yX2_minute wsX2_minute) := goodIn_app (goodIn_of _ (by decide +kernel)) ggX4_sheet_X2_minute
set_option maxRecDepth 20000 in
theorem ggX4_sheet_X3_age : GoodIn wsX4_sheet wsX3_age := goodIn_r _ [43, 44, 74, 75, 76] (by decide +kernel) (by decide +kernel)
set_option maxRecDepth 20000 in
theorem gX4_sheet_X3_age : GoodIn wsX4_sheet (wsV RX4 107 RX3 yX3_age wsX3_age) := goodIn_app (goodIn_of _ (by decide +kernel)) ggX4_sheet_X3_age
set_option maxRecDepth 20000 in
theorem ggX4_sheet_X3_passesTold : GoodIn wsX4_sheet wsX3_passesTold := goodIn_r _ [48, 49, 50, 51, 52, 32, 53, 74, 75, 76] (by decide +kernel) (by decide +kernel)
set_option maxRecDepth 20000 in
theorem gX4_sheet_X3_passesTold : GoodIn wsX4_sheet (wsV RX4 110 RX3 yX3_passesTold wsX3_passesTold) := goodIn_app (goodIn_of _ (by decide +kernel)) ggX4_sheet_X3_passesTold
theorem dX4_sheet_0 : decode cX4_sheet 0 = .ok (.aload_n 0, 1) := by decide +kernel
theorem dX4_sheet_1 : decode cX4_sheet 1 = .ok (.iload_n 1, 1) := by decide +kernel
theorem dX4_sheet_2 : decode cX4_sheet 2 = .ok (.invokevirtual 59, 3) := by decide +kernel
theorem dX4_sheet_5 : decode cX4_sheet 5 = .ok (.aload_n 0, 1) := by decide +kernel
theorem dX4_sheet_6 : decode cX4_sheet 6 = .ok (.iload_n 2, 1) := by decide +kernel
theorem dX4_sheet_7 : decode cX4_sheet 7 = .ok (.invokevirtual 59, 3) := by decide +kernel
theorem dX4_sheet_10 : decode cX4_sheet 10 = .ok (.aload_n 0, 1) := by decide +kernel
theorem dX4_sheet_11 : decode cX4_sheet 11 = .ok (.iload_n 3, 1) := by decide +kernel
theorem dX4_sheet_12 : decode cX4_sheet 12 = .ok (.iconst 2, 1) := by decide +kernel
theorem dX4_sheet_13 : decode cX4_sheet 13 = .ok (.invokevirtual 91, 3) := by decide +kernel
theorem dX4_sheet_16 : decode cX4_sheet 16 = .ok (.aload_n 0, 1) := by decide +kernel
theorem dX4_sheet_17 : decode cX4_sheet 17 = .ok (.getfield 21, 3) := by decide +kernel
theorem dX4_sheet_20 : decode cX4_sheet 20 = .ok (.iload_n 1, 1) := by decide +kernel
theorem dX4_sheet_21 : decode cX4_sheet 21 = .ok (.iload_n 2, 1) := by decide +kernel
theorem dX4_sheet_22 : decode cX4_sheet 22 = .ok (.invokevirtual 95, 3) := by decide +kernel
theorem dX4_sheet_25 : decode cX4_sheet 25 = .ok (.astore 4, 2) := by decide +kernel
theorem dX4_sheet_27 : decode cX4_sheet 27 = .ok (.aload 4, 2) := by decide +kernel
theorem dX4_sheet_29 : decode cX4_sheet 29 = .ok (.ifnonnull 5, 3) := by decide +kernel
theorem dX4_sheet_32 : decode cX4_sheet 32 = .ok (.iconst (-1), 1) := by decide +kernel
theorem dX4_sheet_33 : decode cX4_sheet 33 = .ok (.ireturn, 1) := by decide +kernel
theorem dX4_sheet_34 : decode cX4_sheet 34 = .ok (.iload_n 3, 1) := by decide +kernel
theorem dX4_sheet_35 : decode cX4_sheet 35 = .ok (.lookupswitch 44 #[(0, 25), (1, 31)], 25) := by decide +kernel
theorem dX4_sheet_60 : decode cX4_sheet 60 = .ok (.aload 4, 2) := by decide +kernel
theorem dX4_sheet_62 : decode cX4_sheet 62 = .ok (.invokevirtual 99, 3) := by decide +kernel
theorem dX4_sheet_65 : decode cX4_sheet 65 = .ok (.ireturn, 1) := by decide +kernel
theorem dX4_sheet_66 : decode cX4_sheet 66 = .ok (.aload 4, 2) := by decide +kernel
theorem dX4_sheet_68 : decode cX4_sheet 68 = .ok (.aload_n 0, 1) := by decide +kernel
theorem dX4_sheet_69 : decode cX4_sheet 69 = .ok (.getfield 21, 3) := by decide +kernel
theorem dX4_sheet_72 : decode cX4_sheet 72 = .ok (.invokevirtual 104, 3) := by decide +kernel
theorem dX4_sheet_75 : decode cX4_sheet 75 = .ok (.invokevirtual 107, 3) := by decide +kernel
theorem dX4_sheet_78 : decode cX4_sheet 78 = .ok (.ireturn, 1) := by decide +kernel
theorem dX4_sheet_79 : decode cX4_sheet 79 = .ok (.aload 4, 2) := by decide +kernel
theorem dX4_sheet_81 : decode cX4_sheet 81 = .ok (.invokevirtual 110, 3) := by decide +kernel
theorem dX4_sheet_84 : decode cX4_sheet 84 = .ok (.ireturn, 1) := by decide +kernel
set_option maxRecDepth 20000 in
theorem ggX4_way_X4_checkHut : GoodIn wsX4_way wsX4_checkHut := goodIn_ca (goodIn_r _ [7, 8, 9, 10, 11, 12, 13, 14, 15, 16, 81, 82, 83, 84, 85, 86, 87, 88, 89, 90, 91, 92] (by decide +kernel) (by decide +kernel)) (goodIn_sub (fun _ h => List.mem_cons_of_mem _ (List.mem_append_right _ h)) (by decide +kernel))
set_option maxRecDepth 20000 in
theorem gX4_way_X4_checkHut : GoodIn wsX4_way (wsV RX4 59 RX4 yX4_checkHut wsX4_checkHut) := goodIn_app (goodIn_of _ (by decide +kernel)) ggX4_way_X4_checkHut
set_option maxRecDepth 20000 in
theorem ggX4_way_X4_checkWhat : GoodIn wsX4_way wsX4_checkWhat := goodIn_ca (goodIn_r _ [20, 8, 9] (by decide +kernel) (by decide +kernel)) (goodIn_sub (fun _ h => List.mem_cons_of_mem _ (List.mem_append_right _ h)) (by decide +kernel))
set_option maxRecDepth 20000 in
theorem gX4_way_X4_checkWhat : GoodIn wsX4_way (wsV RX4 91 RX4 yX4_checkWhat wsX4_checkWhat) := goodIn_app (goodIn_of _ (by decide +kernel)) ggX4_way_X4_checkWhat
set_option maxRecDepth 20000 in
theorem ggX4_way_X2_knownWay : GoodIn wsX4_way wsX2_knownWay := goodIn_r _ [25, 26, 27, 28, 29, 30, 24, 31, 32, 33, 34, 35, 36, 37, 38, 39, 40, 41, 42, 43, 14, 44, 45, 46, 47, 48, 49, 50, 51, 52, 53, 54, 55, 56, 57, 58, 59, 60, 61, 62, 63, 64, 65, 66, 67, 68, 69, 70, 71, 72, 73, 74, 75, 76, 77, 78, 79, 80, 93, 94, 95, 96, 97, 98, 99, 100, 101, 102, 103, 104, 86, 87, 88, 89, 90, 91, 92, 105, 106, 107] (by decide +kernel) (by decide +kernel)
set_option maxRecDepth 20000 in
theorem gX4_way_X2_knownWay : GoodIn wsX4_way (wsV RX4 113 RX2 yX2_knownWay wsX2_knownWay) := goodIn_app (goodIn_of _ (by decide +kernel)) ggX4_way_X2_knownWay
theorem dX4_way_0 : decode cX4_way 0 = .ok (.aload_n 0, 1) := by decide +kernel
theorem dX4_way_1 : decode cX4_way 1 = .ok (.iload_n 1, 1) := by decide +kernel
theorem dX4_way_2 : decode cX4_way 2 = .ok (.invokevirtual 59, 3) := by decide +kernel
theorem dX4_way_5 : decode cX4_way 5 = .ok (.aload_n 0, 1) := by decide +kernel
theorem dX4_way_6 : decode cX4_way 6 = .ok (.iload_n 2, 1) := by decide +kernel
theorem dX4_way_7 : decode cX4_way 7 = .ok (.invokevirtual 59, 3) := by decide +kernel
theorem dX4_way_10 : decode cX4_way 10 = .ok (.aload_n 0, 1) := by decide +kernel
theorem dX4_way_11 : decode cX4_way 11 = .ok (.iload_n 3, 1) := by decide +kernel
theorem dX4_way_12 : decode cX4_way 12 = .ok (.iconst 2, 1) := by decide +kernel
theorem dX4_way_13 : decode cX4_way 13 = .ok (.invokevirtual 91, 3) := by decide +kernel
theorem dX4_way_16 : decode cX4_way 16 = .ok (.aload_n 0, 1) := by decide +kernel
theorem dX4_way_17 : decode cX4_way 17 = .ok (.getfield 21, 3) := by decide +kernel
theorem dX4_way_20 : decode cX4_way 20 = .ok (.iload_n 1, 1) := by decide +kernel
theorem dX4_way_21 : decode cX4_way 21 = .ok (.iload_n 2, 1) := by decide +kernel
theorem dX4_way_22 : decode cX4_way 22 = .ok (.invokevirtual 113, 3) := by decide +kernel
theorem dX4_way_25 : decode cX4_way 25 = .ok (.istore 4, 2) := by decide +kernel
theorem dX4_way_27 : decode cX4_way 27 = .ok (.iload 4, 2) := by decide +kernel
theorem dX4_way_29 : decode cX4_way 29 = .ok (.ldc 116, 2) := by decide +kernel
theorem dX4_way_31 : decode cX4_way 31 = .ok (.if_icmp .ne 5, 3) := by decide +kernel
theorem dX4_way_34 : decode cX4_way 34 = .ok (.iconst (-1), 1) := by decide +kernel
theorem dX4_way_35 : decode cX4_way 35 = .ok (.ireturn, 1) := by decide +kernel
theorem dX4_way_36 : decode cX4_way 36 = .ok (.iload_n 3, 1) := by decide +kernel
theorem dX4_way_37 : decode cX4_way 37 = .ok (.lookupswitch 44 #[(0, 27), (1, 34)], 27) := by decide +kernel
theorem dX4_way_64 : decode cX4_way 64 = .ok (.iload 4, 2) := by decide +kernel
theorem dX4_way_66 : decode cX4_way 66 = .ok (.sipush 256, 3) := by decide +kernel
theorem dX4_way_69 : decode cX4_way 69 = .ok (.idiv, 1) := by decide +kernel
theorem dX4_way_70 : decode cX4_way 70 = .ok (.ireturn, 1) := by decide +kernel
theorem dX4_way_71 : decode cX4_way 71 = .ok (.iload 4, 2) := by decide +kernel
theorem dX4_way_73 : decode cX4_way 73 = .ok (.sipush 256, 3) := by decide +kernel
theorem dX4_way_76 : decode cX4_way 76 = .ok (.irem, 1) := by decide +kernel
theorem dX4_way_77 : decode cX4_way 77 = .ok (.bipush 16, 2) := by decide +kernel
theorem dX4_way_79 : decode cX4_way 79 = .ok (.idiv, 1) := by decide +kernel
theorem dX4_way_80 : decode cX4_way 80 = .ok (.ireturn, 1) := by decide +kernel
theorem dX4_way_81 : decode cX4_way 81 = .ok (.iload 4, 2) := by decide +kernel
theorem dX4_way_83 : decode cX4_way 83 = .ok (.bipush 16, 2) := by decide +kernel
theorem dX4_way_85 : decode cX4_way 85 = .ok (.irem, 1) := by decide +kernel
theorem dX4_way_86 : decode cX4_way 86 = .ok (.ireturn, 1) := by decide +kernel
set_option maxRecDepth 20000 in
theorem ggX4_post_X4_checkHut : GoodIn wsX4_post wsX4_checkHut := goodIn_ca (goodIn_r _ [6, 7, 8, 9, 10, 11, 12, 13, 14, 15, 86, 87, 88, 89, 90, 91, 92, 93, 94, 95, 96, 97] (by decide +kernel) (by decide +kernel)) (goodIn_sub (fun _ h => List.mem_cons_of_mem _ (List.mem_append_right _ h)) (by decide +kernel))
set_option maxRecDepth 20000 in
theorem gX4_post_X4_checkHut : GoodIn wsX4_post (wsV RX4 59 RX4 yX4_checkHut wsX4_checkHut) := goodIn_app (goodIn_of _ (by decide +kernel)) ggX4_post_X4_checkHut
set_option maxRecDepth 20000 in
theorem ggX4_post_X2_letter : GoodIn wsX4_post wsX2_letter := goodIn_r _ [20, 21, 22, 23, 24, 25, 19, 26, 27, 28, 29, 30, 31, 32, 33, 34, 35, 36, 37, 38, 39, 40, 41, 42, 43, 13, 44, 45, 46, 47, 48, 49, 50, 51, 52, 53, 54, 55, 56, 57, 58, 59, 60, 61, 62, 63, 64, 65, 66, 67, 68, 69, 70, 71, 72, 73, 74, 75, 76, 77, 78, 79, 80, 81, 82, 83, 84, 85, 98, 99, 100, 101, 102, 103, 104, 105, 106, 107, 108, 109, 91, 92, 93, 94, 95, 96, 97, 110, 111, 112] (by decide +kernel) (by decide +kernel)
set_option maxRecDepth 20000 in
theorem gX4_post_X2_letter : GoodIn wsX4_post (wsV RX4 117 RX2 yX2_letter wsX2_letter) := goodIn_app (goodIn_of _ (by decide +kernel)) ggX4_post_X2_letter
theorem dX4_post_0 : decode cX4_post 0 = .ok (.aload_n 0, 1) := by decide +kernel
theorem dX4_post_1 : decode cX4_post 1 = .ok (.iload_n 1, 1) := by decide +kernel
theorem dX4_post_2 : decode cX4_post 2 = .ok (.invokevirtual 59, 3) := by decide +kernel
theorem dX4_post_5 : decode cX4_post 5 = .ok (.aload_n 0, 1) := by decide +kernel
theorem dX4_post_6 : decode cX4_post 6 = .ok (.iload_n 2, 1) := by decide +kernel
theorem dX4_post_7 : decode cX4_post 7 = .ok (.invokevirtual 59, 3) := by decide +kernel
theorem dX4_post_10 : decode cX4_post 10 = .ok (.aload_n 0, 1) := by decide +kernel
theorem dX4_post_11 : decode cX4_post 11 = .ok (.getfield 21, 3) := by decide +kernel
theorem dX4_post_14 : decode cX4_post 14 = .ok (.iload_n 1, 1) := by decide +kernel
theorem dX4_post_15 : decode cX4_post 15 = .ok (.iload_n 2, 1) := by decide +kernel
theorem dX4_post_16 : decode cX4_post 16 = .ok (.invokevirtual 117, 3) := by decide +kernel
theorem dX4_post_19 : decode cX4_post 19 = .ok (.ireturn, 1) := by decide +kernel
set_option maxRecDepth 20000 in
theorem ggX4_truth_X4_checkHut : GoodIn wsX4_truth wsX4_checkHut := goodIn_ca (goodIn_r _ [9, 10, 11, 1, 12, 13, 14, 15, 16, 17, 45, 46, 47, 48, 49, 50, 51, 52, 53, 54, 55, 56] (by decide +kernel) (by decide +kernel)) (goodIn_sub (fun _ h => List.mem_cons_of_mem _ (List.mem_append_right _ h)) (by decide +kernel))
set_option maxRecDepth 20000 in
theorem gX4_truth_X4_checkHut : GoodIn wsX4_truth (wsV RX4 59 RX4 yX4_checkHut wsX4_checkHut) := goodIn_app (goodIn_of _ (by decide +kernel)) ggX4_truth_X4_checkHut
set_option maxRecDepth 20000 in
theorem ggX4_truth_X1_draw : GoodIn wsX4_truth wsX1_draw := goodIn_r _ [21, 22, 23, 24, 25, 26, 27, 28, 29, 30, 31, 32, 33, 34, 35, 36, 37, 38, 39, 50, 51, 52, 53, 54, 55, 56, 57, 58, 59, 60] (by decide +kernel) (by decide +kernel)
set_option maxRecDepth 20000 in
theorem gX4_truth_X1_draw : GoodIn wsX4_truth (wsV RX4 120 RX1 yX1_draw wsX1_draw) := goodIn_app (goodIn_of _ (by decide +kernel)) ggX4_truth_X1_draw
set_option maxRecDepth 20000 in
theorem ggX4_truth_X0_search : GoodIn wsX4_truth wsX0_search := goodIn_r _ [43, 44, 32, 37, 39, 38, 57, 58, 59, 60] (by decide +kernel) (by decide +kernel)
set_option maxRecDepth 20000 in
theorem gX4_truth_X0_search : GoodIn wsX4_truth (wsV RX4 124 RX0 yX0_search wsX0_search) := goodIn_app (goodIn_of _ (by decide +kernel)) ggX4_truth_X0_search
theorem dX4_truth_0 : decode cX4_truth 0 = .ok (.aload_n 0, 1) := by decide +kernel
theorem dX4_truth_1 : decode cX4_truth 1 = .ok (.iload_n 1, 1) := by decide +kernel
theorem dX4_truth_2 : decode cX4_truth 2 = .ok (.invokevirtual 59, 3) := by decide +kernel
theorem dX4_truth_5 : decode cX4_truth 5 = .ok (.aload_n 0, 1) := by decide +kernel
theorem dX4_truth_6 : decode cX4_truth 6 = .ok (.iload_n 2, 1) := by decide +kernel
theorem dX4_truth_7 : decode cX4_truth 7 = .ok (.invokevirtual 59, 3) := by decide +kernel
theorem dX4_truth_10 : decode cX4_truth 10 = .ok (.aload_n 0, 1) := by decide +kernel
theorem dX4_truth_11 : decode cX4_truth 11 = .ok (.getfield 10, 3) := by decide +kernel
theorem dX4_truth_14 : decode cX4_truth 14 = .ok (.aload_n 0, 1) := by decide +kernel
theorem dX4_truth_15 : decode cX4_truth 15 = .ok (.getfield 31, 3) := by decide +kernel
theorem dX4_truth_18 : decode cX4_truth 18 = .ok (.invokevirtual 120, 3) := by decide +kernel
theorem dX4_truth_21 : decode cX4_truth 21 = .ok (.aload_n 0, 1) := by decide +kernel
theorem dX4_truth_22 : decode cX4_truth 22 = .ok (.getfield 31, 3) := by decide +kernel
theorem dX4_truth_25 : decode cX4_truth 25 = .ok (.iload_n 1, 1) := by decide +kernel
theorem dX4_truth_26 : decode cX4_truth 26 = .ok (.aload_n 0, 1) := by decide +kernel
theorem dX4_truth_27 : decode cX4_truth 27 = .ok (.getfield 35, 3) := by decide +kernel
theorem dX4_truth_30 : decode cX4_truth 30 = .ok (.invokevirtual 124, 3) := by decide +kernel
theorem dX4_truth_33 : decode cX4_truth 33 = .ok (.aload_n 0, 1) := by decide +kernel
theorem dX4_truth_34 : decode cX4_truth 34 = .ok (.getfield 35, 3) := by decide +kernel
theorem dX4_truth_37 : decode cX4_truth 37 = .ok (.iload_n 2, 1) := by decide +kernel
theorem dX4_truth_38 : decode cX4_truth 38 = .ok (.iaload, 1) := by decide +kernel
theorem dX4_truth_39 : decode cX4_truth 39 = .ok (.istore_n 3, 1) := by decide +kernel
theorem dX4_truth_40 : decode cX4_truth 40 = .ok (.iload_n 3, 1) := by decide +kernel
theorem dX4_truth_41 : decode cX4_truth 41 = .ok (.ldc 116, 2) := by decide +kernel
theorem dX4_truth_43 : decode cX4_truth 43 = .ok (.if_icmp .ne 7, 3) := by decide +kernel
theorem dX4_truth_46 : decode cX4_truth 46 = .ok (.iconst (-1), 1) := by decide +kernel
theorem dX4_truth_47 : decode cX4_truth 47 = .ok (.goto 8, 3) := by decide +kernel
theorem dX4_truth_50 : decode cX4_truth 50 = .ok (.iload_n 3, 1) := by decide +kernel
theorem dX4_truth_51 : decode cX4_truth 51 = .ok (.sipush 256, 3) := by decide +kernel
theorem dX4_truth_54 : decode cX4_truth 54 = .ok (.idiv, 1) := by decide +kernel
theorem dX4_truth_55 : decode cX4_truth 55 = .ok (.ireturn, 1) := by decide +kernel
set_option maxRecDepth 20000 in
theorem ggX4_about_X4_checkPass : GoodIn wsX4_about wsX4_checkPass := goodIn_ca (goodIn_r _ [9, 1, 2, 3, 10, 11, 12, 13, 14, 15, 63, 64, 65, 66, 67, 68, 69, 70, 71, 72, 73, 74] (by decide +kernel) (by decide +kernel)) (goodIn_sub (fun _ h => List.mem_cons_of_mem _ (List.mem_append_right _ h)) (by decide +kernel))
set_option maxRecDepth 20000 in
theorem gX4_about_X4_checkPass : GoodIn wsX4_about (wsV RX4 77 RX4 yX4_checkPass wsX4_checkPass) := goodIn_app (goodIn_of _ (by decide +kernel)) ggX4_about_X4_checkPass
set_option maxRecDepth 20000 in
theorem ggX4_about_X1_first : GoodIn wsX4_about wsX1_first := goodIn_r _ [19, 20, 68, 69, 70, 71, 72, 73, 74] (by decide +kernel) (by decide +kernel)
set_option maxRecDepth 20000 in
theorem gX4_about_X1_first : GoodIn wsX4_about (wsV RX4 128 RX1 yX1_first wsX1_first) := goodIn_app (goodIn_of _ (by decide +kernel)) ggX4_about_X1_first
set_option maxRecDepth 20000 in
theorem ggX4_about_X1_second : GoodIn wsX4_about wsX1_second := goodIn_r _ [24, 25, 68, 69, 70, 71, 72, 73, 74] (by decide +kernel) (by decide +kernel)
set_option maxRecDepth 20000 in
theorem gX4_about_X1_second : GoodIn wsX4_about (wsV RX4 131 RX1 yX1_second wsX1_second) := goodIn_app (goodIn_of _ (by decide +kernel)) ggX4_about_X1_second
set_option maxRecDepth 20000 in
theorem ggX4_about_X1_length : GoodIn wsX4_about wsX1_length := goodIn_r _ [29, 30, 68, 69, 70, 71, 72, 73, 74] (by decide +kernel) (by decide +kernel)
set_option maxRecDepth 20000 in
theorem gX4_about_X1_length : GoodIn wsX4_about (wsV RX4 134 RX1 yX1_length wsX1_length) := goodIn_app (goodIn_of _ (by decide +kernel)) ggX4_about_X1_length
set_option maxRecDepth 20000 in
theorem ggX4_about_X1_isOpen : GoodIn wsX4_about wsX1_isOpen := goodIn_r _ [34, 35, 68, 69, 70, 71, 72, 73, 74] (by decide +kernel) (by decide +kernel)
set_option maxRecDepth 20000 in
theorem gX4_about_X1_isOpen : GoodIn wsX4_about (wsV RX4 137 RX1 yX1_isOpen wsX1_isOpen) := goodIn_app (goodIn_of _ (by decide +kernel)) ggX4_about_X1_isOpen
set_option maxRecDepth 20000 in
theorem ggX4_about_X2_takersForOpen : GoodIn wsX4_about wsX2_takersForOpen := goodIn_r _ [40, 41, 42, 43, 44, 13, 45, 46, 47, 48, 49, 39, 50, 51, 52, 17, 18, 19, 20, 53, 54, 55, 56, 22, 23, 24, 25, 57, 58, 59, 60, 61, 62, 75, 76, 77, 78, 79, 80, 81, 82, 68, 69, 70, 71, 72, 73, 74, 83, 84, 85] (by decide +kernel) (by decide +kernel)
set_option maxRecDepth 20000 in
theorem gX4_about_X2_takersForOpen : GoodIn wsX4_about (wsV RX4 141 RX2 yX2_takersForOpen wsX2_takersForOpen) := goodIn_app (goodIn_of _ (by decide +kernel)) ggX4_about_X2_takersForOpen
theorem dX4_about_0 : decode cX4_about 0 = .ok (.aload_n 0, 1) := by decide +kernel
theorem dX4_about_1 : decode cX4_about 1 = .ok (.iload_n 1, 1) := by decide +kernel
theorem dX4_about_2 : decode cX4_about 2 = .ok (.invokevirtual 77, 3) := by decide +kernel
theorem dX4_about_5 : decode cX4_about 5 = .ok (.iload_n 2, 1) := by decide +kernel
theorem dX4_about_6 : decode cX4_about 6 = .ok (.tableswitch 87 0 4 #[34, 43, 52, 61, 78], 34) := by decide +kernel
theorem dX4_about_40 : decode cX4_about 40 = .ok (.aload_n 0, 1) := by decide +kernel
theorem dX4_about_41 : decode cX4_about 41 = .ok (.getfield 10, 3) := by decide +kernel
theorem dX4_about_44 : decode cX4_about 44 = .ok (.iload_n 1, 1) := by decide +kernel
theorem dX4_about_45 : decode cX4_about 45 = .ok (.invokevirtual 128, 3) := by decide +kernel
theorem dX4_about_48 : decode cX4_about 48 = .ok (.ireturn, 1) := by decide +kernel
theorem dX4_about_49 : decode cX4_about 49 = .ok (.aload_n 0, 1) := by decide +kernel
theorem dX4_about_50 : decode cX4_about 50 = .ok (.getfield 10, 3) := by decide +kernel
theorem dX4_about_53 : decode cX4_about 53 = .ok (.iload_n 1, 1) := by decide +kernel
theorem dX4_about_54 : decode cX4_about 54 = .ok (.invokevirtual 131, 3) := by decide +kernel
theorem dX4_about_57 : decode cX4_about 57 = .ok (.ireturn, 1) := by decide +kernel
theorem dX4_about_58 : decode cX4_about 58 = .ok (.aload_n 0, 1) := by decide +kernel
theorem dX4_about_59 : decode cX4_about 59 = .ok (.getfield 10, 3) := by decide +kernel
theorem dX4_about_62 : decode cX4_about 62 = .ok (.iload_n 1, 1) := by decide +kernel
theorem dX4_about_63 : decode cX4_about 63 = .ok (.invokevirtual 134, 3) := by decide +kernel
theorem dX4_about_66 : decode cX4_about 66 = .ok (.ireturn, 1) := by decide +kernel
theorem dX4_about_67 : decode cX4_about 67 = .ok (.aload_n 0, 1) := by decide +kernel
theorem dX4_about_68 : decode cX4_about 68 = .ok (.getfield 10, 3) := by decide +kernel
theorem dX4_about_71 : decode cX4_about 71 = .ok (.iload_n 1, 1) := by decide +kernel
theorem dX4_about_72 : decode cX4_about 72 = .ok (.invokevirtual 137, 3) := by decide +kernel
theorem dX4_about_75 : decode cX4_about 75 = .ok (.ifCond .eq 7, 3) := by decide +kernel
theorem dX4_about_78 : decode cX4_about 78 = .ok (.iconst 1, 1) := by decide +kernel
theorem dX4_about_79 : decode cX4_about 79 = .ok (.goto 4, 3) := by decide +kernel
theorem dX4_about_82 : decode cX4_about 82 = .ok (.iconst 0, 1) := by decide +kernel
theorem dX4_about_83 : decode cX4_about 83 = .ok (.ireturn, 1) := by decide +kernel
theorem dX4_about_84 : decode cX4_about 84 = .ok (.aload_n 0, 1) := by decide +kernel
theorem dX4_about_85 : decode cX4_about 85 = .ok (.getfield 21, 3) := by decide +kernel
theorem dX4_about_88 : decode cX4_about 88 = .ok (.iload_n 1, 1) := by decide +kernel
theorem dX4_about_89 : decode cX4_about 89 = .ok (.invokevirtual 141, 3) := by decide +kernel
theorem dX4_about_92 : decode cX4_about 92 = .ok (.ireturn, 1) := by decide +kernel
theorem dX4_about_93 : decode cX4_about 93 = .ok (.new 144, 3) := by decide +kernel
theorem dX4_about_96 : decode cX4_about 96 = .ok (.dup, 1) := by decide +kernel
theorem dX4_about_97 : decode cX4_about 97 = .ok (.ldc 146, 2) := by decide +kernel
theorem dX4_about_99 : decode cX4_about 99 = .ok (.invokespecial 148, 3) := by decide +kernel
theorem dX4_about_102 : decode cX4_about 102 = .ok (.athrow, 1) := by decide +kernel
set_option maxRecDepth 20000 in
theorem ggX4_told_X4_checkHut : GoodIn wsX4_told wsX4_checkHut := goodIn_ca (goodIn_r _ [9, 1, 2, 3, 10, 11, 12, 13, 14, 15, 109, 110, 111, 112, 113, 114, 115, 116, 117, 118, 119, 120] (by decide +kernel) (by decide +kernel)) (goodIn_sub (fun _ h => List.mem_cons_of_mem _ (List.mem_append_right _ h)) (by decide +kernel))
set_option maxRecDepth 20000 in
theorem gX4_told_X4_checkHut : GoodIn wsX4_told (wsV RX4 59 RX4 yX4_checkHut wsX4_checkHut) := goodIn_app (goodIn_of _ (by decide +kernel)) ggX4_told_X4_checkHut
set_option maxRecDepth 20000 in
theorem ggX4_told_X1_area : GoodIn wsX4_told wsX1_area := goodIn_r _ [19, 20, 114, 115, 116, 117, 118, 119, 120] (by decide +kernel) (by decide +kernel)
set_option maxRecDepth 20000 in
theorem gX4_told_X1_area : GoodIn wsX4_told (wsV RX4 149 RX1 yX1_area wsX1_area) := goodIn_app (goodIn_of _ (by decide +kernel)) ggX4_told_X1_area
set_option maxRecDepth 20000 in
theorem ggX4_told_X2_sheetsOf : GoodIn wsX4_told wsX2_sheetsOf := goodIn_r _ [25, 26, 27, 28, 24, 29, 121, 122, 123, 124, 125, 126, 127, 128] (by decide +kernel) (by decide +kernel)
set_option maxRecDepth 20000 in
theorem gX4_told_X2_sheetsOf : GoodIn wsX4_told (wsV RX4 152 RX2 yX2_sheetsOf wsX2_sheetsOf) := goodIn_app (goodIn_of _ (by decide +kernel)) ggX4_told_X2_sheetsOf
set_option maxRecDepth 20000 in
theorem ggX4_told_X2_wroteInAll : GoodIn wsX4_told wsX2_wroteInAll := goodIn_r _ [33, 34, 121, 122, 123, 124, 125, 126, 127, 128] (by decide +kernel) (by decide +kernel)
set_option maxRecDepth 20000 in
theorem gX4_told_X2_wroteInAll : GoodIn wsX4_told (wsV RX4 155 RX2 yX2_wroteInAll wsX2_wroteInAll) := goodIn_app (goodIn_of _ (by decide +kernel)) ggX4_told_X2_wroteInAll
set_option maxRecDepth 20000 in
theorem ggX4_told_X2_knownHuts : GoodIn wsX4_told wsX2_knownHuts := goodIn_r _ [38, 39, 40, 41, 11, 12, 13, 14, 15, 42, 43, 44, 24, 45, 46, 47, 48, 49, 50, 51, 52, 26, 53, 54, 55, 56, 57, 58, 59, 60, 61, 62, 63, 64, 65, 66, 67, 68, 69, 70, 71, 72, 73, 27, 28, 29, 74, 75, 76, 77, 78, 79, 80, 81, 82, 83, 84, 85, 86, 87, 88, 89, 90, 91, 92, 93, 94, 95, 121, 122, 123, 124, 125, 126, 127, 128, 114, 115, 116, 117, 118, 119, 120, 129, 130, 131, 132, 133, 134, 135] (by decide +kernel) (by decide +kernel)
set_option maxRecDepth 20000 in
theorem gX4_told_X2_knownHuts : GoodIn wsX4_told (wsV RX4 158 RX2 yX2_knownHuts wsX2_knownHuts) := goodIn_app (goodIn_of _ (by decide +kernel)) ggX4_told_X2_knownHuts
set_option maxRecDepth 20000 in
theorem ggX4_told_X2_reachedHuts : GoodIn wsX4_told wsX2_reachedHuts := goodIn_r _ [99, 39, 41, 11, 12, 13, 14, 15, 100, 101, 102, 24, 103, 40, 42, 43, 44, 45, 46, 47, 48, 49, 50, 51, 52, 26, 53, 54, 55, 56, 57, 58, 59, 60, 61, 62, 63, 64, 65, 66, 67, 68, 69, 70, 71, 72, 73, 27, 28, 29, 74, 75, 76, 77, 78, 79, 80, 81, 82, 83, 84, 85, 86, 87, 88, 89, 90, 91, 92, 93, 94, 95, 104, 105, 106, 107, 108, 121, 122, 123, 124, 125, 126, 127, 128, 114, 115, 116, 117, 118, 119, 120, 129, 130, 131, 132, 133, 134, 135] (by decide +kernel) (by decide +kernel)
set_option maxRecDepth 20000 in
theorem gX4_told_X2_reachedHuts : GoodIn wsX4_told (wsV RX4 161 RX2 yX2_reachedHuts wsX2_reachedHuts) := goodIn_app (goodIn_of _ (by decide +kernel)) ggX4_told_X2_reachedHuts
theorem dX4_told_0 : decode cX4_told 0 = .ok (.aload_n 0, 1) := by decide +kernel
theorem dX4_told_1 : decode cX4_told 1 = .ok (.iload_n 1, 1) := by decide +kernel
theorem dX4_told_2 : decode cX4_told 2 = .ok (.invokevirtual 59, 3) := by decide +kernel
theorem dX4_told_5 : decode cX4_told 5 = .ok (.iload_n 2, 1) := by decide +kernel
theorem dX4_told_6 : decode cX4_told 6 = .ok (.tableswitch 79 0 4 #[34, 43, 52, 61, 70], 34) := by decide +kernel
theorem dX4_told_40 : decode cX4_told 40 = .ok (.aload_n 0, 1) := by decide +kernel
theorem dX4_told_41 : decode cX4_told 41 = .ok (.getfield 10, 3) := by decide +kernel
theorem dX4_told_44 : decode cX4_told 44 = .ok (.iload_n 1, 1) := by decide +kernel
theorem dX4_told_45 : decode cX4_told 45 = .ok (.invokevirtual 149, 3) := by decide +kernel
theorem dX4_told_48 : decode cX4_told 48 = .ok (.ireturn, 1) := by decide +kernel
theorem dX4_told_49 : decode cX4_told 49 = .ok (.aload_n 0, 1) := by decide +kernel
theorem dX4_told_50 : decode cX4_told 50 = .ok (.getfield 21, 3) := by decide +kernel
theorem dX4_told_53 : decode cX4_told 53 = .ok (.iload_n 1, 1) := by decide +kernel
theorem dX4_told_54 : decode cX4_told 54 = .ok (.invokevirtual 152, 3) := by decide +kernel
theorem dX4_told_57 : decode cX4_told 57 = .ok (.ireturn, 1) := by decide +kernel
theorem dX4_told_58 : decode cX4_told 58 = .ok (.aload_n 0, 1) := by decide +kernel
theorem dX4_told_59 : decode cX4_told 59 = .ok (.getfield 21, 3) := by decide +kernel
theorem dX4_told_62 : decode cX4_told 62 = .ok (.iload_n 1, 1) := by decide +kernel
theorem dX4_told_63 : decode cX4_told 63 = .ok (.invokevirtual 155, 3) := by decide +kernel
theorem dX4_told_66 : decode cX4_told 66 = .ok (.ireturn, 1) := by decide +kernel
theorem dX4_told_67 : decode cX4_told 67 = .ok (.aload_n 0, 1) := by decide +kernel
theorem dX4_told_68 : decode cX4_told 68 = .ok (.getfield 21, 3) := by decide +kernel
theorem dX4_told_71 : decode cX4_told 71 = .ok (.iload_n 1, 1) := by decide +kernel
theorem dX4_told_72 : decode cX4_told 72 = .ok (.invokevirtual 158, 3) := by decide +kernel
theorem dX4_told_75 : decode cX4_told 75 = .ok (.ireturn, 1) := by decide +kernel
theorem dX4_told_76 : decode cX4_told 76 = .ok (.aload_n 0, 1) := by decide +kernel
theorem dX4_told_77 : decode cX4_told 77 = .ok (.getfield 21, 3) := by decide +kernel
theorem dX4_told_80 : decode cX4_told 80 = .ok (.iload_n 1, 1) := by decide +kernel
theorem dX4_told_81 : decode cX4_told 81 = .ok (.invokevirtual 161, 3) := by decide +kernel
theorem dX4_told_84 : decode cX4_told 84 = .ok (.ireturn, 1) := by decide +kernel
theorem dX4_told_85 : decode cX4_told 85 = .ok (.new 144, 3) := by decide +kernel
theorem dX4_told_88 : decode cX4_told 88 = .ok (.dup, 1) := by decide +kernel
theorem dX4_told_89 : decode cX4_told 89 = .ok (.ldc 146, 2) := by decide +kernel
theorem dX4_told_91 : decode cX4_told 91 = .ok (.invokespecial 148, 3) := by decide +kernel
theorem dX4_told_94 : decode cX4_told 94 = .ok (.athrow, 1) := by decide +kernel
set_option maxRecDepth 20000 in
theorem ggX4_count_X2_minute : GoodIn wsX4_count wsX2_minute := goodIn_r _ [9, 10, 124, 125, 126, 127, 128, 129, 130, 131] (by decide +kernel) (by decide +kernel)
set_option maxRecDepth 20000 in
theorem gX4_count_X2_minute : GoodIn wsX4_count (wsV RX4 104 RX2 yX2_minute wsX2_minute) := goodIn_app (goodIn_of _ (by decide +kernel)) ggX4_count_X2_minute
set_option maxRecDepth 20000 in
theorem ggX4_count_X1_huts : GoodIn wsX4_count wsX1_huts := goodIn_r _ [15, 16, 132, 133, 134, 135, 136, 137, 138] (by decide +kernel) (by decide +kernel)
set_option maxRecDepth 20000 in
theorem gX4_count_X1_huts : GoodIn wsX4_count (wsV RX4 46 RX1 yX1_huts wsX1_huts) := goodIn_app (goodIn_of _ (by decide +kernel)) ggX4_count_X1_huts
set_option maxRecDepth 20000 in
theorem ggX4_count_X1_passes : GoodIn wsX4_count wsX1_passes := goodIn_r _ [20, 21, 132, 133, 134, 135, 136, 137, 138] (by decide +kernel) (by decide +kernel)
set_option maxRecDepth 20000 in
theorem gX4_count_X1_passes : GoodIn wsX4_count (wsV RX4 68 RX1 yX1_passes wsX1_passes) := goodIn_app (goodIn_of _ (by decide +kernel)) ggX4_count_X1_passes
set_option maxRecDepth 20000 in
theorem ggX4_count_X1_openPasses : GoodIn wsX4_count wsX1_openPasses := goodIn_r _ [25, 21, 26, 132, 133, 134, 135, 136, 137, 138] (by decide +kernel) (by decide +kernel)
set_option maxRecDepth 20000 in
theorem gX4_count_X1_openPasses : GoodIn wsX4_count (wsV RX4 164 RX1 yX1_openPasses wsX1_openPasses) := goodIn_app (goodIn_of _ (by decide +kernel)) ggX4_count_X1_openPasses
set_option maxRecDepth 20000 in
theorem ggX4_count_X2_sheets : GoodIn wsX4_count wsX2_sheets := goodIn_r _ [30, 31, 32, 12, 13, 14, 15, 16, 33, 34, 35, 8, 36, 37, 38, 39, 40, 124, 125, 126, 127, 128, 129, 130, 131, 132, 133, 134, 135, 136, 137, 138] (by decide +kernel) (by decide +kernel)
set_option maxRecDepth 20000 in
theorem gX4_count_X2_sheets : GoodIn wsX4_count (wsV RX4 167 RX2 yX2_sheets wsX2_sheets) := goodIn_app (goodIn_of _ (by decide +kernel)) ggX4_count_X2_sheets
set_option maxRecDepth 20000 in
theorem ggX4_count_X2_reachedPairs : GoodIn wsX4_count wsX2_reachedPairs := goodIn_r _ [44, 31, 32, 12, 13, 14, 15, 16, 45, 46, 47, 8, 48, 49, 50, 51, 52, 53, 54, 55, 56, 57, 58, 59, 60, 37, 61, 62, 63, 64, 65, 66, 67, 18, 19, 20, 21, 68, 69, 70, 71, 72, 73, 74, 75, 76, 77, 38, 39, 40, 78, 79, 80, 81, 82, 83, 84, 85, 86, 87, 88, 89, 90, 91, 92, 93, 94, 95, 96, 97, 98, 99, 100, 101, 102, 103, 26, 124, 125, 126, 127, 128, 129, 130, 131, 132, 133, 134, 135, 136, 137, 138, 139, 140, 141, 142, 143, 144, 145] (by decide +kernel) (by decide +kernel)
set_option maxRecDepth 20000 in
theorem gX4_count_X2_reachedPairs : GoodIn wsX4_count (wsV RX4 170 RX2 yX2_reachedPairs wsX2_reachedPairs) := goodIn_app (goodIn_of _ (by decide +kernel)) ggX4_count_X2_reachedPairs
set_option maxRecDepth 20000 in
theorem ggX4_count_X1_joinedPairs : GoodIn wsX4_count wsX1_joinedPairs := goodIn_r _ [107, 16, 108, 109, 110, 14, 111, 21, 72, 77, 26, 112, 113, 114, 115, 116, 117, 118, 132, 133, 134, 135, 136, 137, 138] (by decide +kernel) (by decide +kernel)
set_option maxRecDepth 20000 in
theorem gX4_count_X1_joinedPairs : GoodIn wsX4_count (wsV RX4 173 RX1 yX1_joinedPairs wsX1_joinedPairs) := goodIn_app (goodIn_of _ (by decide +kernel)) ggX4_count_X1_joinedPairs
theorem dX4_count_0 : decode cX4_count 0 = .ok (.iload_n 1, 1) := by decide +kernel
theorem dX4_count_1 : decode cX4_count 1 = .ok (.tableswitch 100 0 6 #[43, 51, 59, 67, 75, 83, 91], 43) := by decide +kernel
theorem dX4_count_44 : decode cX4_count 44 = .ok (.aload_n 0, 1) := by decide +kernel
theorem dX4_count_45 : decode cX4_count 45 = .ok (.getfield 21, 3) := by decide +kernel
theorem dX4_count_48 : decode cX4_count 48 = .ok (.invokevirtual 104, 3) := by decide +kernel
theorem dX4_count_51 : decode cX4_count 51 = .ok (.ireturn, 1) := by decide +kernel
theorem dX4_count_52 : decode cX4_count 52 = .ok (.aload_n 0, 1) := by decide +kernel
theorem dX4_count_53 : decode cX4_count 53 = .ok (.getfield 10, 3) := by decide +kernel
theorem dX4_count_56 : decode cX4_count 56 = .ok (.invokevirtual 46, 3) := by decide +kernel
theorem dX4_count_59 : decode cX4_count 59 = .ok (.ireturn, 1) := by decide +kernel
theorem dX4_count_60 : decode cX4_count 60 = .ok (.aload_n 0, 1) := by decide +kernel
theorem dX4_count_61 : decode cX4_count 61 = .ok (.getfield 10, 3) := by decide +kernel
theorem dX4_count_64 : decode cX4_count 64 = .ok (.invokevirtual 68, 3) := by decide +kernel
theorem dX4_count_67 : decode cX4_count 67 = .ok (.ireturn, 1) := by decide +kernel
theorem dX4_count_68 : decode cX4_count 68 = .ok (.aload_n 0, 1) := by decide +kernel
theorem dX4_count_69 : decode cX4_count 69 = .ok (.getfield 10, 3) := by decide +kernel
theorem dX4_count_72 : decode cX4_count 72 = .ok (.invokevirtual 164, 3) := by decide +kernel
theorem dX4_count_75 : decode cX4_count 75 = .ok (.ireturn, 1) := by decide +kernel
theorem dX4_count_76 : decode cX4_count 76 = .ok (.aload_n 0, 1) := by decide +kernel
theorem dX4_count_77 : decode cX4_count 77 = .ok (.getfield 21, 3) := by decide +kernel
theorem dX4_count_80 : decode cX4_count 80 = .ok (.invokevirtual 167, 3) := by decide +kernel
theorem dX4_count_83 : decode cX4_count 83 = .ok (.ireturn, 1) := by decide +kernel
theorem dX4_count_84 : decode cX4_count 84 = .ok (.aload_n 0, 1) := by decide +kernel
theorem dX4_count_85 : decode cX4_count 85 = .ok (.getfield 21, 3) := by decide +kernel
theorem dX4_count_88 : decode cX4_count 88 = .ok (.invokevirtual 170, 3) := by decide +kernel
theorem dX4_count_91 : decode cX4_count 91 = .ok (.ireturn, 1) := by decide +kernel
theorem dX4_count_92 : decode cX4_count 92 = .ok (.aload_n 0, 1) := by decide +kernel
theorem dX4_count_93 : decode cX4_count 93 = .ok (.getfield 10, 3) := by decide +kernel
theorem dX4_count_96 : decode cX4_count 96 = .ok (.iconst (-1), 1) := by decide +kernel
theorem dX4_count_97 : decode cX4_count 97 = .ok (.invokevirtual 173, 3) := by decide +kernel
theorem dX4_count_100 : decode cX4_count 100 = .ok (.ireturn, 1) := by decide +kernel
theorem dX4_count_101 : decode cX4_count 101 = .ok (.new 144, 3) := by decide +kernel
theorem dX4_count_104 : decode cX4_count 104 = .ok (.dup, 1) := by decide +kernel
theorem dX4_count_105 : decode cX4_count 105 = .ok (.ldc 176, 2) := by decide +kernel
theorem dX4_count_107 : decode cX4_count 107 = .ok (.invokespecial 148, 3) := by decide +kernel
theorem dX4_count_110 : decode cX4_count 110 = .ok (.athrow, 1) := by decide +kernel
set_option maxRecDepth 20000 in
theorem ggX4_go_X4_checkMinutes : GoodIn wsX4_go wsX4_checkMinutes := goodIn_ca (goodIn_r _ [6, 7, 8] (by decide +kernel) (by decide +kernel)) (goodIn_sub (fun _ h => List.mem_cons_of_mem _ (List.mem_append_right _ h)) (by decide +kernel))
set_option maxRecDepth 20000 in
theorem gX4_go_X4_checkMinutes : GoodIn wsX4_go (wsV RX4 178 RX4 yX4_checkMinutes wsX4_checkMinutes) := goodIn_app (goodIn_of _ (by decide +kernel)) ggX4_go_X4_checkMinutes
set_option maxRecDepth 20000 in
theorem ggX4_go_X2_passMinutes : GoodIn wsX4_go wsX2_passMinutes := goodIn_r _ [13, 14, 15, 16, 17, 12, 18, 19, 20, 21, 22, 23, 24, 25, 26, 27, 28, 29, 30, 31, 32, 33, 34, 35, 36, 37, 38, 39, 40, 41, 42, 43, 44, 45, 46, 47, 48, 49, 50, 51, 52, 53, 54, 55, 56, 57, 58, 59, 60, 61, 62, 63, 64, 65, 66, 67, 68, 69, 70, 71, 72, 73, 74, 75, 76, 77, 78, 79, 80, 81, 82, 83, 84, 85, 86, 87, 88, 89, 90, 91, 92, 93, 94, 95, 96, 97, 98, 99, 100, 101, 102, 103, 104, 105, 106, 107, 108, 109, 110, 111, 112, 118, 119, 120, 121, 122, 123, 124, 125, 126, 127, 128, 129, 130, 131, 132, 133, 134, 135] (by decide +kernel) (by decide +kernel)
set_option maxRecDepth 20000 in
theorem gX4_go_X2_passMinutes : GoodIn wsX4_go (wsV RX4 181 RX2 yX2_passMinutes wsX2_passMinutes) := goodIn_app (goodIn_of _ (by decide +kernel)) ggX4_go_X2_passMinutes
theorem dX4_go_0 : decode cX4_go 0 = .ok (.aload_n 0, 1) := by decide +kernel
theorem dX4_go_1 : decode cX4_go 1 = .ok (.iload_n 1, 1) := by decide +kernel
theorem dX4_go_2 : decode cX4_go 2 = .ok (.invokevirtual 178, 3) := by decide +kernel
theorem dX4_go_5 : decode cX4_go 5 = .ok (.aload_n 0, 1) := by decide +kernel
theorem dX4_go_6 : decode cX4_go 6 = .ok (.getfield 21, 3) := by decide +kernel
theorem dX4_go_9 : decode cX4_go 9 = .ok (.iload_n 1, 1) := by decide +kernel
theorem dX4_go_10 : decode cX4_go 10 = .ok (.invokevirtual 181, 3) := by decide +kernel
theorem dX4_go_13 : decode cX4_go 13 = .ok (.ireturn, 1) := by decide +kernel
set_option maxRecDepth 20000 in
theorem ggX4_foresee_X4_checkMinutes : GoodIn wsX4_foresee wsX4_checkMinutes := goodIn_ca (goodIn_r _ [9, 10, 11] (by decide +kernel) (by decide +kernel)) (goodIn_sub (fun _ h => List.mem_cons_of_mem _ (List.mem_append_right _ h)) (by decide +kernel))
set_option maxRecDepth 20000 in
theorem gX4_foresee_X4_checkMinutes : GoodIn wsX4_foresee (wsV RX4 178 RX4 yX4_checkMinutes wsX4_checkMinutes) := goodIn_app (goodIn_of _ (by decide +kernel)) ggX4_foresee_X4_checkMinutes
set_option maxRecDepth 20000 in
theorem ggX4_foresee_X2_copy : GoodIn wsX4_foresee wsX2_copy := goodIn_r _ [16, 17, 18, 19, 20, 21, 22, 15, 23, 24, 182, 183, 184, 185, 186, 187, 188, 189] (by decide +kernel) (by decide +kernel)
set_option maxRecDepth 20000 in
theorem gX4_foresee_X2_copy : GoodIn wsX4_foresee (wsV RX4 186 RX2 yX2_copy wsX2_copy) := goodIn_app (goodIn_of _ (by decide +kernel)) ggX4_foresee_X2_copy
set_option maxRecDepth 20000 in
theorem ggX4_foresee_X2_passMinutes : GoodIn wsX4_foresee wsX2_passMinutes := goodIn_r _ [28, 17, 29, 30, 31, 15, 32, 33, 18, 19, 34, 35, 36, 37, 38, 39, 40, 41, 42, 43, 44, 45, 46, 47, 48, 49, 50, 51, 52, 53, 54, 55, 56, 57, 58, 59, 60, 61, 62, 63, 64, 65, 66, 67, 68, 69, 70, 71, 72, 73, 74, 75, 76, 77, 78, 79, 80, 81, 82, 83, 84, 85, 86, 87, 88, 89, 90, 91, 92, 93, 94, 95, 96, 97, 98, 99, 100, 101, 102, 103, 104, 105, 106, 107, 108, 109, 110, 111, 112, 113, 114, 115, 116, 117, 118, 119, 20, 21, 22, 23, 24, 182, 183, 184, 185, 186, 187, 188, 189, 190, 191, 192, 193, 194, 195, 196, 197, 198, 199] (by decide +kernel) (by decide +kernel)
set_option maxRecDepth 20000 in
theorem gX4_foresee_X2_passMinutes : GoodIn wsX4_foresee (wsV RX4 181 RX2 yX2_passMinutes wsX2_passMinutes) := goodIn_app (goodIn_of _ (by decide +kernel)) ggX4_foresee_X2_passMinutes
set_option maxRecDepth 20000 in
theorem ggX4_foresee_X2_sheets : GoodIn wsX4_foresee wsX2_sheets := goodIn_r _ [123, 33, 37, 38, 39, 40, 41, 42, 124, 125, 126, 15, 127, 19, 47, 48, 49, 182, 183, 184, 185, 186, 187, 188, 189, 193, 194, 195, 196, 197, 198, 199] (by decide +kernel) (by decide +kernel)
set_option maxRecDepth 20000 in
theorem gX4_foresee_X2_sheets : GoodIn wsX4_foresee (wsV RX4 167 RX2 yX2_sheets wsX2_sheets) := goodIn_app (goodIn_of _ (by decide +kernel)) ggX4_foresee_X2_sheets
set_option maxRecDepth 20000 in
theorem ggX4_foresee_X2_reachedPairs : GoodIn wsX4_foresee wsX2_reachedPairs := goodIn_r _ [131, 33, 37, 38, 39, 40, 41, 42, 132, 133, 134, 15, 135, 136, 137, 138, 139, 140, 24, 141, 142, 143, 144, 145, 146, 19, 147, 148, 149, 150, 151, 152, 86, 61, 62, 63, 64, 91, 92, 93, 94, 69, 95, 96, 97, 98, 70, 47, 48, 49, 153, 154, 155, 36, 156, 59, 157, 158, 159, 160, 161, 162, 163, 164, 165, 166, 167, 168, 169, 170, 171, 172, 173, 174, 175, 176, 71, 182, 183, 184, 185, 186, 187, 188, 189, 193, 194, 195, 196, 197, 198, 199, 200, 201, 202, 203, 190, 191, 192] (by decide +kernel) (by decide +kernel)
set_option maxRecDepth 20000 in
theorem gX4_foresee_X2_reachedPairs : GoodIn wsX4_foresee (wsV RX4 170 RX2 yX2_reachedPairs wsX2_reachedPairs) := goodIn_app (goodIn_of _ (by decide +kernel)) ggX4_foresee_X2_reachedPairs
theorem dX4_foresee_0 : decode cX4_foresee 0 = .ok (.aload_n 0, 1) := by decide +kernel
theorem dX4_foresee_1 : decode cX4_foresee 1 = .ok (.iload_n 1, 1) := by decide +kernel
theorem dX4_foresee_2 : decode cX4_foresee 2 = .ok (.invokevirtual 178, 3) := by decide +kernel
theorem dX4_foresee_5 : decode cX4_foresee 5 = .ok (.iload_n 2, 1) := by decide +kernel
theorem dX4_foresee_6 : decode cX4_foresee 6 = .ok (.iconst 4, 1) := by decide +kernel
theorem dX4_foresee_7 : decode cX4_foresee 7 = .ok (.if_icmp .eq 18, 3) := by decide +kernel
theorem dX4_foresee_10 : decode cX4_foresee 10 = .ok (.iload_n 2, 1) := by decide +kernel
theorem dX4_foresee_11 : decode cX4_foresee 11 = .ok (.iconst 5, 1) := by decide +kernel
theorem dX4_foresee_12 : decode cX4_foresee 12 = .ok (.if_icmp .eq 13, 3) := by decide +kernel
theorem dX4_foresee_15 : decode cX4_foresee 15 = .ok (.new 144, 3) := by decide +kernel
theorem dX4_foresee_18 : decode cX4_foresee 18 = .ok (.dup, 1) := by decide +kernel
theorem dX4_foresee_19 : decode cX4_foresee 19 = .ok (.ldc 184, 2) := by decide +kernel
theorem dX4_foresee_21 : decode cX4_foresee 21 = .ok (.invokespecial 148, 3) := by decide +kernel
theorem dX4_foresee_24 : decode cX4_foresee 24 = .ok (.athrow, 1) := by decide +kernel
theorem dX4_foresee_25 : decode cX4_foresee 25 = .ok (.aload_n 0, 1) := by decide +kernel
theorem dX4_foresee_26 : decode cX4_foresee 26 = .ok (.getfield 25, 3) := by decide +kernel
theorem dX4_foresee_29 : decode cX4_foresee 29 = .ok (.aload_n 0, 1) := by decide +kernel
theorem dX4_foresee_30 : decode cX4_foresee 30 = .ok (.getfield 21, 3) := by decide +kernel
theorem dX4_foresee_33 : decode cX4_foresee 33 = .ok (.invokevirtual 186, 3) := by decide +kernel
theorem dX4_foresee_36 : decode cX4_foresee 36 = .ok (.aload_n 0, 1) := by decide +kernel
theorem dX4_foresee_37 : decode cX4_foresee 37 = .ok (.getfield 25, 3) := by decide +kernel
theorem dX4_foresee_40 : decode cX4_foresee 40 = .ok (.iload_n 1, 1) := by decide +kernel
theorem dX4_foresee_41 : decode cX4_foresee 41 = .ok (.invokevirtual 181, 3) := by decide +kernel
theorem dX4_foresee_44 : decode cX4_foresee 44 = .ok (.pop, 1) := by decide +kernel
theorem dX4_foresee_45 : decode cX4_foresee 45 = .ok (.iload_n 2, 1) := by decide +kernel
theorem dX4_foresee_46 : decode cX4_foresee 46 = .ok (.iconst 4, 1) := by decide +kernel
theorem dX4_foresee_47 : decode cX4_foresee 47 = .ok (.if_icmp .ne 13, 3) := by decide +kernel
theorem dX4_foresee_50 : decode cX4_foresee 50 = .ok (.aload_n 0, 1) := by decide +kernel
theorem dX4_foresee_51 : decode cX4_foresee 51 = .ok (.getfield 25, 3) := by decide +kernel
theorem dX4_foresee_54 : decode cX4_foresee 54 = .ok (.invokevirtual 167, 3) := by decide +kernel
theorem dX4_foresee_57 : decode cX4_foresee 57 = .ok (.goto 10, 3) := by decide +kernel
theorem dX4_foresee_60 : decode cX4_foresee 60 = .ok (.aload_n 0, 1) := by decide +kernel
theorem dX4_foresee_61 : decode cX4_foresee 61 = .ok (.getfield 25, 3) := by decide +kernel
theorem dX4_foresee_64 : decode cX4_foresee 64 = .ok (.invokevirtual 170, 3) := by decide +kernel
theorem dX4_foresee_67 : decode cX4_foresee 67 = .ok (.ireturn, 1) := by decide +kernel
set_option maxRecDepth 20000 in
theorem ggX4_settles_X1_joinedPairs : GoodIn wsX4_settles wsX1_joinedPairs := goodIn_r _ [8, 9, 10, 11, 12, 7, 13, 14, 15, 16, 17, 18, 19, 20, 21, 22, 23, 24, 181, 182, 183, 184, 185, 186, 187] (by decide +kernel) (by decide +kernel)
set_option maxRecDepth 20000 in
theorem gX4_settles_X1_joinedPairs : GoodIn wsX4_settles (wsV RX4 173 RX1 yX1_joinedPairs wsX1_joinedPairs) := goodIn_app (goodIn_of _ (by decide +kernel)) ggX4_settles_X1_joinedPairs
set_option maxRecDepth 20000 in
theorem ggX4_settles_X2_reachedPairs : GoodIn wsX4_settles wsX2_reachedPairs := goodIn_r _ [29, 30, 31, 32, 33, 7, 34, 9, 35, 36, 37, 28, 38, 39, 40, 41, 42, 43, 44, 45, 46, 47, 48, 49, 50, 51, 52, 53, 54, 55, 56, 57, 58, 59, 60, 61, 14, 62, 63, 64, 65, 15, 66, 67, 68, 69, 16, 70, 71, 72, 73, 74, 75, 76, 77, 78, 79, 80, 81, 82, 83, 84, 85, 86, 87, 88, 89, 90, 91, 92, 93, 94, 95, 96, 97, 98, 17, 188, 189, 190, 191, 192, 193, 194, 195, 181, 182, 183, 184, 185, 186, 187, 196, 197, 198, 199, 200, 201, 202] (by decide +kernel) (by decide +kernel)
set_option maxRecDepth 20000 in
theorem gX4_settles_X2_reachedPairs : GoodIn wsX4_settles (wsV RX4 170 RX2 yX2_reachedPairs wsX2_reachedPairs) := goodIn_app (goodIn_of _ (by decide +kernel)) ggX4_settles_X2_reachedPairs
set_option maxRecDepth 20000 in
theorem ggX4_settles_X2_copy : GoodIn wsX4_settles wsX2_copy := goodIn_r _ [102, 103, 104, 51, 105, 106, 107, 28, 108, 44, 188, 189, 190, 191, 192, 193, 194, 195] (by decide +kernel) (by decide +kernel)
set_option maxRecDepth 20000 in
theorem gX4_settles_X2_copy : GoodIn wsX4_settles (wsV RX4 186 RX2 yX2_copy wsX2_copy) := goodIn_app (goodIn_of _ (by decide +kernel)) ggX4_settles_X2_copy
set_option maxRecDepth 20000 in
theorem ggX4_settles_X2_passMinutes : GoodIn wsX4_settles wsX2_passMinutes := goodIn_r _ [112, 103, 113, 114, 115, 28, 116, 30, 104, 51, 117, 118, 76, 31, 32, 33, 7, 34, 9, 119, 120, 121, 122, 70, 71, 72, 123, 124, 125, 126, 127, 128, 129, 130, 131, 78, 132, 59, 60, 61, 14, 133, 134, 135, 136, 15, 16, 17, 137, 138, 139, 140, 141, 142, 143, 144, 145, 146, 147, 148, 149, 150, 58, 151, 152, 153, 154, 62, 63, 64, 65, 66, 67, 68, 69, 155, 156, 157, 158, 159, 160, 161, 162, 163, 164, 165, 166, 167, 168, 169, 170, 171, 172, 173, 174, 175, 105, 106, 107, 108, 44, 188, 189, 190, 191, 192, 193, 194, 195, 200, 201, 202, 181, 182, 183, 184, 185, 186, 187] (by decide +kernel) (by decide +kernel)
set_option maxRecDepth 20000 in
theorem gX4_settles_X2_passMinutes : GoodIn wsX4_settles (wsV RX4 181 RX2 yX2_passMinutes wsX2_passMinutes) := goodIn_app (goodIn_of _ (by decide +kernel)) ggX4_settles_X2_passMinutes
theorem dX4_settles_0 : decode cX4_settles 0 = .ok (.aload_n 0, 1) := by decide +kernel
theorem dX4_settles_1 : decode cX4_settles 1 = .ok (.getfield 10, 3) := by decide +kernel
theorem dX4_settles_4 : decode cX4_settles 4 = .ok (.iconst (-1), 1) := by decide +kernel
theorem dX4_settles_5 : decode cX4_settles 5 = .ok (.invokevirtual 173, 3) := by decide +kernel
theorem dX4_settles_8 : decode cX4_settles 8 = .ok (.istore_n 1, 1) := by decide +kernel
theorem dX4_settles_9 : decode cX4_settles 9 = .ok (.aload_n 0, 1) := by decide +kernel
theorem dX4_settles_10 : decode cX4_settles 10 = .ok (.getfield 21, 3) := by decide +kernel
theorem dX4_settles_13 : decode cX4_settles 13 = .ok (.invokevirtual 170, 3) := by decide +kernel
theorem dX4_settles_16 : decode cX4_settles 16 = .ok (.iload_n 1, 1) := by decide +kernel
theorem dX4_settles_17 : decode cX4_settles 17 = .ok (.if_icmp .ne 5, 3) := by decide +kernel
theorem dX4_settles_20 : decode cX4_settles 20 = .ok (.iconst 0, 1) := by decide +kernel
theorem dX4_settles_21 : decode cX4_settles 21 = .ok (.ireturn, 1) := by decide +kernel
theorem dX4_settles_22 : decode cX4_settles 22 = .ok (.aload_n 0, 1) := by decide +kernel
theorem dX4_settles_23 : decode cX4_settles 23 = .ok (.getfield 25, 3) := by decide +kernel
theorem dX4_settles_26 : decode cX4_settles 26 = .ok (.aload_n 0, 1) := by decide +kernel
theorem dX4_settles_27 : decode cX4_settles 27 = .ok (.getfield 21, 3) := by decide +kernel
theorem dX4_settles_30 : decode cX4_settles 30 = .ok (.invokevirtual 186, 3) := by decide +kernel
theorem dX4_settles_33 : decode cX4_settles 33 = .ok (.iconst 1, 1) := by decide +kernel
theorem dX4_settles_34 : decode cX4_settles 34 = .ok (.istore_n 2, 1) := by decide +kernel
theorem dX4_settles_35 : decode cX4_settles 35 = .ok (.iload_n 2, 1) := by decide +kernel
theorem dX4_settles_36 : decode cX4_settles 36 = .ok (.bipush 40, 2) := by decide +kernel
theorem dX4_settles_38 : decode cX4_settles 38 = .ok (.if_icmp .gt 31, 3) := by decide +kernel
theorem dX4_settles_41 : decode cX4_settles 41 = .ok (.aload_n 0, 1) := by decide +kernel
theorem dX4_settles_42 : decode cX4_settles 42 = .ok (.getfield 25, 3) := by decide +kernel
theorem dX4_settles_45 : decode cX4_settles 45 = .ok (.iconst 1, 1) := by decide +kernel
theorem dX4_settles_46 : decode cX4_settles 46 = .ok (.invokevirtual 181, 3) := by decide +kernel
theorem dX4_settles_49 : decode cX4_settles 49 = .ok (.pop, 1) := by decide +kernel
theorem dX4_settles_50 : decode cX4_settles 50 = .ok (.aload_n 0, 1) := by decide +kernel
theorem dX4_settles_51 : decode cX4_settles 51 = .ok (.getfield 25, 3) := by decide +kernel
theorem dX4_settles_54 : decode cX4_settles 54 = .ok (.invokevirtual 170, 3) := by decide +kernel
theorem dX4_settles_57 : decode cX4_settles 57 = .ok (.iload_n 1, 1) := by decide +kernel
theorem dX4_settles_58 : decode cX4_settles 58 = .ok (.if_icmp .ne 5, 3) := by decide +kernel
theorem dX4_settles_61 : decode cX4_settles 61 = .ok (.iload_n 2, 1) := by decide +kernel
theorem dX4_settles_62 : decode cX4_settles 62 = .ok (.ireturn, 1) := by decide +kernel
theorem dX4_settles_63 : decode cX4_settles 63 = .ok (.iinc 2 1, 3) := by decide +kernel
theorem dX4_settles_66 : decode cX4_settles 66 = .ok (.goto (-31), 3) := by decide +kernel
theorem dX4_settles_69 : decode cX4_settles 69 = .ok (.iconst (-1), 1) := by decide +kernel
theorem dX4_settles_70 : decode cX4_settles 70 = .ok (.ireturn, 1) := by decide +kernel
set_option maxRecDepth 20000 in
theorem ggX4_advise_X1_passes : GoodIn wsX4_advise wsX1_passes := goodIn_r _ [6, 7, 36, 37, 38, 39, 40, 41, 42] (by decide +kernel) (by decide +kernel)
set_option maxRecDepth 20000 in
theorem gX4_advise_X1_passes : GoodIn wsX4_advise (wsV RX4 68 RX1 yX1_passes wsX1_passes) := goodIn_app (goodIn_of _ (by decide +kernel)) ggX4_advise_X1_passes
set_option maxRecDepth 20000 in
theorem ggX4_advise_X1_isOpen : GoodIn wsX4_advise wsX1_isOpen := goodIn_r _ [11, 12, 36, 37, 38, 39, 40, 41, 42] (by decide +kernel) (by decide +kernel)
set_option maxRecDepth 20000 in
theorem gX4_advise_X1_isOpen : GoodIn wsX4_advise (wsV RX4 137 RX1 yX1_isOpen wsX1_isOpen) := goodIn_app (goodIn_of _ (by decide +kernel)) ggX4_advise_X1_isOpen
set_option maxRecDepth 20000 in
theorem ggX4_advise_X1_joinedPairs : GoodIn wsX4_advise wsX1_joinedPairs := goodIn_r _ [16, 17, 18, 19, 20, 5, 21, 7, 22, 23, 12, 24, 25, 26, 27, 28, 29, 30, 36, 37, 38, 39, 40, 41, 42] (by decide +kernel) (by decide +kernel)
set_option maxRecDepth 20000 in
theorem gX4_advise_X1_joinedPairs : GoodIn wsX4_advise (wsV RX4 173 RX1 yX1_joinedPairs wsX1_joinedPairs) := goodIn_app (goodIn_of _ (by decide +kernel)) ggX4_advise_X1_joinedPairs
theorem dX4_advise_0 : decode cX4_advise 0 = .ok (.iconst (-1), 1) := by decide +kernel
theorem dX4_advise_1 : decode cX4_advise 1 = .ok (.istore_n 1, 1) := by decide +kernel
theorem dX4_advise_2 : decode cX4_advise 2 = .ok (.iconst 0, 1) := by decide +kernel
theorem dX4_advise_3 : decode cX4_advise 3 = .ok (.istore_n 2, 1) := by decide +kernel
theorem dX4_advise_4 : decode cX4_advise 4 = .ok (.iconst 0, 1) := by decide +kernel
theorem dX4_advise_5 : decode cX4_advise 5 = .ok (.istore_n 3, 1) := by decide +kernel
theorem dX4_advise_6 : decode cX4_advise 6 = .ok (.iload_n 3, 1) := by decide +kernel
theorem dX4_advise_7 : decode cX4_advise 7 = .ok (.aload_n 0, 1) := by decide +kernel
theorem dX4_advise_8 : decode cX4_advise 8 = .ok (.getfield 10, 3) := by decide +kernel
theorem dX4_advise_11 : decode cX4_advise 11 = .ok (.invokevirtual 68, 3) := by decide +kernel
theorem dX4_advise_14 : decode cX4_advise 14 = .ok (.if_icmp .ge 46, 3) := by decide +kernel
theorem dX4_advise_17 : decode cX4_advise 17 = .ok (.aload_n 0, 1) := by decide +kernel
theorem dX4_advise_18 : decode cX4_advise 18 = .ok (.getfield 10, 3) := by decide +kernel
theorem dX4_advise_21 : decode cX4_advise 21 = .ok (.iload_n 3, 1) := by decide +kernel
theorem dX4_advise_22 : decode cX4_advise 22 = .ok (.invokevirtual 137, 3) := by decide +kernel
theorem dX4_advise_25 : decode cX4_advise 25 = .ok (.ifCond .eq 29, 3) := by decide +kernel
theorem dX4_advise_28 : decode cX4_advise 28 = .ok (.aload_n 0, 1) := by decide +kernel
theorem dX4_advise_29 : decode cX4_advise 29 = .ok (.getfield 10, 3) := by decide +kernel
theorem dX4_advise_32 : decode cX4_advise 32 = .ok (.iload_n 3, 1) := by decide +kernel
theorem dX4_advise_33 : decode cX4_advise 33 = .ok (.invokevirtual 173, 3) := by decide +kernel
theorem dX4_advise_36 : decode cX4_advise 36 = .ok (.istore 4, 2) := by decide +kernel
theorem dX4_advise_38 : decode cX4_advise 38 = .ok (.iload_n 1, 1) := by decide +kernel
theorem dX4_advise_39 : decode cX4_advise 39 = .ok (.iconst (-1), 1) := by decide +kernel
theorem dX4_advise_40 : decode cX4_advise 40 = .ok (.if_icmp .eq 9, 3) := by decide +kernel
theorem dX4_advise_43 : decode cX4_advise 43 = .ok (.iload 4, 2) := by decide +kernel
theorem dX4_advise_45 : decode cX4_advise 45 = .ok (.iload_n 2, 1) := by decide +kernel
theorem dX4_advise_46 : decode cX4_advise 46 = .ok (.if_icmp .ge 8, 3) := by decide +kernel
theorem dX4_advise_49 : decode cX4_advise 49 = .ok (.iload_n 3, 1) := by decide +kernel
theorem dX4_advise_50 : decode cX4_advise 50 = .ok (.istore_n 1, 1) := by decide +kernel
theorem dX4_advise_51 : decode cX4_advise 51 = .ok (.iload 4, 2) := by decide +kernel
theorem dX4_advise_53 : decode cX4_advise 53 = .ok (.istore_n 2, 1) := by decide +kernel
theorem dX4_advise_54 : decode cX4_advise 54 = .ok (.iinc 3 1, 3) := by decide +kernel
theorem dX4_advise_57 : decode cX4_advise 57 = .ok (.goto (-51), 3) := by decide +kernel
theorem dX4_advise_60 : decode cX4_advise 60 = .ok (.iload_n 1, 1) := by decide +kernel
theorem dX4_advise_61 : decode cX4_advise 61 = .ok (.ireturn, 1) := by decide +kernel
set_option maxRecDepth 20000 in
theorem ggX4_mean_X2_sheets : GoodIn wsX4_mean wsX2_sheets := goodIn_r _ [6, 7, 8, 9, 10, 11, 12, 13, 14, 15, 16, 5, 17, 18, 19, 20, 21, 38, 39, 40, 41, 42, 43, 44, 45, 46, 47, 48, 49, 50, 51, 52] (by decide +kernel) (by decide +kernel)
set_option maxRecDepth 20000 in
theorem gX4_mean_X2_sheets : GoodIn wsX4_mean (wsV RX4 167 RX2 yX2_sheets wsX2_sheets) := goodIn_app (goodIn_of _ (by decide +kernel)) ggX4_mean_X2_sheets
set_option maxRecDepth 20000 in
theorem ggX4_mean_X2_ages : GoodIn wsX4_mean wsX2_ages := goodIn_r _ [25, 18, 26, 27, 28, 29, 30, 31, 32, 38, 39, 40, 41, 42, 43, 44, 45, 53, 54, 55] (by decide +kernel) (by decide +kernel)
set_option maxRecDepth 20000 in
theorem gX4_mean_X2_ages : GoodIn wsX4_mean (wsV RX4 190 RX2 yX2_ages wsX2_ages) := goodIn_app (goodIn_of _ (by decide +kernel)) ggX4_mean_X2_ages
theorem dX4_mean_0 : decode cX4_mean 0 = .ok (.aload_n 0, 1) := by decide +kernel
theorem dX4_mean_1 : decode cX4_mean 1 = .ok (.getfield 21, 3) := by decide +kernel
theorem dX4_mean_4 : decode cX4_mean 4 = .ok (.invokevirtual 167, 3) := by decide +kernel
theorem dX4_mean_7 : decode cX4_mean 7 = .ok (.istore_n 1, 1) := by decide +kernel
theorem dX4_mean_8 : decode cX4_mean 8 = .ok (.iload_n 1, 1) := by decide +kernel
theorem dX4_mean_9 : decode cX4_mean 9 = .ok (.ifCond .ne 5, 3) := by decide +kernel
theorem dX4_mean_12 : decode cX4_mean 12 = .ok (.dconst 0, 1) := by decide +kernel
theorem dX4_mean_13 : decode cX4_mean 13 = .ok (.dreturn, 1) := by decide +kernel
theorem dX4_mean_14 : decode cX4_mean 14 = .ok (.aload_n 0, 1) := by decide +kernel
theorem dX4_mean_15 : decode cX4_mean 15 = .ok (.getfield 21, 3) := by decide +kernel
theorem dX4_mean_18 : decode cX4_mean 18 = .ok (.invokevirtual 190, 3) := by decide +kernel
theorem dX4_mean_21 : decode cX4_mean 21 = .ok (.i2d, 1) := by decide +kernel
theorem dX4_mean_22 : decode cX4_mean 22 = .ok (.iload_n 1, 1) := by decide +kernel
theorem dX4_mean_23 : decode cX4_mean 23 = .ok (.i2d, 1) := by decide +kernel
theorem dX4_mean_24 : decode cX4_mean 24 = .ok (.ddiv, 1) := by decide +kernel
theorem dX4_mean_25 : decode cX4_mean 25 = .ok (.dreturn, 1) := by decide +kernel
set_option maxRecDepth 20000 in
theorem ggX4_digest_X4_count : GoodIn wsX4_digest wsX4_count := goodIn_ca (goodIn_r _ [8, 9, 10, 11, 3, 12, 13, 14, 15, 16, 17, 18, 19, 20, 21, 22, 23, 24, 25, 26, 27, 28, 29, 30, 31, 32, 33, 34, 35, 36, 37, 38, 39, 40, 41, 42, 43, 44, 45, 46, 47, 48, 49, 50, 51, 52, 53, 54, 55, 56, 57, 58, 59, 60, 61, 62, 63, 64, 65, 66, 67, 68, 69, 70, 71, 72, 73, 74, 75, 76, 77, 78, 79, 80, 81, 82, 83, 84, 85, 86, 87, 88, 89, 90, 91, 92, 93, 94, 95, 96, 97, 98, 99, 100, 101, 102, 103, 104, 105, 106, 107, 108, 109, 110, 111, 112, 113, 114, 115, 116, 117, 118, 119, 120, 121, 122, 123, 124, 125, 217, 218, 219, 220, 221, 222, 223, 224, 225, 226, 227, 228, 229, 230, 231, 232, 233, 234, 235, 236, 237, 238, 239, 240, 241, 242, 243] (by decide +kernel) (by decide +kernel)) (goodIn_sub (fun _ h => List.mem_cons_of_mem _ (List.mem_append_right _ h)) (by decide +kernel))
set_option maxRecDepth 20000 in
theorem gX4_digest_X4_count : GoodIn wsX4_digest (wsV RX4 197 RX4 yX4_count wsX4_count) := goodIn_app (goodIn_of _ (by decide +kernel)) ggX4_digest_X4_count
set_option maxRecDepth 20000 in
theorem ggX4_digest_X1_huts : GoodIn wsX4_digest wsX1_huts := goodIn_r _ [22, 23, 230, 231, 232, 233, 234, 235, 236] (by decide +kernel) (by decide +kernel)
set_option maxRecDepth 20000 in
theorem gX4_digest_X1_huts : GoodIn wsX4_digest (wsV RX4 46 RX1 yX1_huts wsX1_huts) := goodIn_app (goodIn_of _ (by decide +kernel)) ggX4_digest_X1_huts
set_option maxRecDepth 20000 in
theorem ggX4_digest_X4_told : GoodIn wsX4_digest wsX4_told := goodIn_ca (goodIn_r _ [129, 9, 10, 3, 11, 130, 131, 132, 7, 133, 18, 19, 20, 21, 22, 23, 134, 135, 136, 137, 138, 139, 41, 42, 15, 43, 44, 45, 46, 47, 140, 141, 142, 143, 144, 145, 146, 147, 148, 38, 56, 39, 57, 58, 59, 60, 61, 62, 63, 64, 65, 66, 67, 68, 69, 70, 71, 72, 73, 74, 25, 26, 27, 28, 75, 76, 77, 78, 79, 80, 81, 82, 83, 84, 85, 86, 87, 88, 89, 90, 91, 92, 93, 94, 95, 96, 97, 98, 99, 100, 101, 102, 103, 104, 105, 106, 149, 150, 151, 152, 52, 53, 54, 55, 107, 108, 109, 110, 33, 217, 218, 219, 220, 221, 230, 231, 232, 233, 234, 235, 236, 222, 223, 224, 225, 226, 227, 228, 229, 237, 238, 239, 240, 241, 242, 243] (by decide +kernel) (by decide +kernel)) (goodIn_sub (fun _ h => List.mem_cons_of_mem _ (List.mem_append_right _ h)) (by decide +kernel))
set_option maxRecDepth 20000 in
theorem gX4_digest_X4_told : GoodIn wsX4_digest (wsV RX4 200 RX4 yX4_told wsX4_told) := goodIn_app (goodIn_of _ (by decide +kernel)) ggX4_digest_X4_told
set_option maxRecDepth 20000 in
theorem ggX4_digest_X1_passes : GoodIn wsX4_digest wsX1_passes := goodIn_r _ [27, 28, 230, 231, 232, 233, 234, 235, 236] (by decide +kernel) (by decide +kernel)
set_option maxRecDepth 20000 in
theorem gX4_digest_X1_passes : GoodIn wsX4_digest (wsV RX4 68 RX1 yX1_passes wsX1_passes) := goodIn_app (goodIn_of _ (by decide +kernel)) ggX4_digest_X1_passes
set_option maxRecDepth 20000 in
theorem ggX4_digest_X4_about : GoodIn wsX4_digest wsX4_about := goodIn_ca (goodIn_r _ [156, 9, 10, 3, 11, 157, 158, 159, 7, 160, 24, 25, 26, 21, 27, 28, 161, 76, 77, 78, 79, 162, 81, 82, 83, 84, 163, 164, 165, 166, 167, 168, 169, 170, 171, 33, 172, 173, 174, 15, 175, 38, 39, 19, 20, 22, 23, 176, 177, 178, 179, 44, 75, 45, 46, 47, 80, 85, 86, 87, 88, 89, 90, 217, 218, 219, 220, 221, 230, 231, 232, 233, 234, 235, 236, 222, 223, 224, 225, 226, 227, 228, 229, 241, 242, 243] (by decide +kernel) (by decide +kernel)) (goodIn_sub (fun _ h => List.mem_cons_of_mem _ (List.mem_append_right _ h)) (by decide +kernel))
set_option maxRecDepth 20000 in
theorem gX4_digest_X4_about : GoodIn wsX4_digest (wsV RX4 203 RX4 yX4_about wsX4_about) := goodIn_app (goodIn_of _ (by decide +kernel)) ggX4_digest_X4_about
set_option maxRecDepth 20000 in
theorem ggX4_digest_X4_digestOfPair : GoodIn wsX4_digest wsX4_digestOfPair := goodIn_ca (goodIn_r _ [183, 2, 184, 185, 186, 7, 187, 11, 130, 131, 132, 133, 9, 10, 3, 18, 19, 20, 21, 22, 23, 188, 189, 190, 191, 192, 193, 194, 15, 195, 44, 45, 46, 47, 196, 197, 198, 88, 199, 200, 12, 13, 14, 16, 17, 201, 202, 203, 204, 205, 206, 207, 208, 209, 90, 210, 86, 87, 89, 211, 212, 213, 214, 215, 216, 58, 59, 60, 61, 62, 63, 64, 65, 66, 67, 38, 68, 69, 70, 71, 72, 73, 74, 25, 26, 27, 28, 75, 76, 77, 78, 79, 80, 81, 82, 83, 84, 85, 91, 92, 93, 94, 95, 96, 97, 98, 99, 100, 101, 102, 103, 104, 105, 106, 217, 218, 219, 220, 221, 230, 231, 232, 233, 234, 235, 236, 222, 223, 224, 225, 226, 227, 228, 229, 241, 242, 243, 237, 238, 239, 240] (by decide +kernel) (by decide +kernel)) (goodIn_sub (fun _ h => List.mem_cons_of_mem _ (List.mem_append_right _ h)) (by decide +kernel))
set_option maxRecDepth 20000 in
theorem gX4_digest_X4_digestOfPair : GoodIn wsX4_digest (wsV RX4 206 RX4 yX4_digestOfPair wsX4_digestOfPair) := goodIn_app (goodIn_of _ (by decide +kernel)) ggX4_digest_X4_digestOfPair
theorem dX4_digest_0 : decode cX4_digest 0 = .ok (.ldc2_w 193, 3) := by decide +kernel
theorem dX4_digest_3 : decode cX4_digest 3 = .ok (.lstore_n 1, 1) := by decide +kernel
theorem dX4_digest_4 : decode cX4_digest 4 = .ok (.iconst 0, 1) := by decide +kernel
theorem dX4_digest_5 : decode cX4_digest 5 = .ok (.istore_n 3, 1) := by decide +kernel
theorem dX4_digest_6 : decode cX4_digest 6 = .ok (.iload_n 3, 1) := by decide +kernel
theorem dX4_digest_7 : decode cX4_digest 7 = .ok (.bipush 6, 2) := by decide +kernel
theorem dX4_digest_9 : decode cX4_digest 9 = .ok (.if_icmp .gt 22, 3) := by decide +kernel
theorem dX4_digest_12 : decode cX4_digest 12 = .ok (.lload_n 1, 1) := by decide +kernel
theorem dX4_digest_13 : decode cX4_digest 13 = .ok (.ldc2_w 195, 3) := by decide +kernel
theorem dX4_digest_16 : decode cX4_digest 16 = .ok (.lmul, 1) := by decide +kernel
theorem dX4_digest_17 : decode cX4_digest 17 = .ok (.aload_n 0, 1) := by decide +kernel
theorem dX4_digest_18 : decode cX4_digest 18 = .ok (.iload_n 3, 1) := by decide +kernel
theorem dX4_digest_19 : decode cX4_digest 19 = .ok (.invokevirtual 197, 3) := by decide +kernel
theorem dX4_digest_22 : decode cX4_digest 22 = .ok (.i2l, 1) := by decide +kernel
theorem dX4_digest_23 : decode cX4_digest 23 = .ok (.ladd, 1) := by decide +kernel
theorem dX4_digest_24 : decode cX4_digest 24 = .ok (.lstore_n 1, 1) := by decide +kernel
theorem dX4_digest_25 : decode cX4_digest 25 = .ok (.iinc 3 1, 3) := by decide +kernel
theorem dX4_digest_28 : decode cX4_digest 28 = .ok (.goto (-22), 3) := by decide +kernel
theorem dX4_digest_31 : decode cX4_digest 31 = .ok (.iconst 0, 1) := by decide +kernel
theorem dX4_digest_32 : decode cX4_digest 32 = .ok (.istore_n 3, 1) := by decide +kernel
theorem dX4_digest_33 : decode cX4_digest 33 = .ok (.iload_n 3, 1) := by decide +kernel
theorem dX4_digest_34 : decode cX4_digest 34 = .ok (.aload_n 0, 1) := by decide +kernel
theorem dX4_digest_35 : decode cX4_digest 35 = .ok (.getfield 10, 3) := by decide +kernel
theorem dX4_digest_38 : decode cX4_digest 38 = .ok (.invokevirtual 46, 3) := by decide +kernel
theorem dX4_digest_41 : decode cX4_digest 41 = .ok (.if_icmp .ge 39, 3) := by decide +kernel
theorem dX4_digest_44 : decode cX4_digest 44 = .ok (.iconst 0, 1) := by decide +kernel
theorem dX4_digest_45 : decode cX4_digest 45 = .ok (.istore 4, 2) := by decide +kernel
theorem dX4_digest_47 : decode cX4_digest 47 = .ok (.iload 4, 2) := by decide +kernel
theorem dX4_digest_49 : decode cX4_digest 49 = .ok (.iconst 4, 1) := by decide +kernel
theorem dX4_digest_50 : decode cX4_digest 50 = .ok (.if_icmp .gt 24, 3) := by decide +kernel
theorem dX4_digest_53 : decode cX4_digest 53 = .ok (.lload_n 1, 1) := by decide +kernel
theorem dX4_digest_54 : decode cX4_digest 54 = .ok (.ldc2_w 195, 3) := by decide +kernel
theorem dX4_digest_57 : decode cX4_digest 57 = .ok (.lmul, 1) := by decide +kernel
theorem dX4_digest_58 : decode cX4_digest 58 = .ok (.aload_n 0, 1) := by decide +kernel
theorem dX4_digest_59 : decode cX4_digest 59 = .ok (.iload_n 3, 1) := by decide +kernel
theorem dX4_digest_60 : decode cX4_digest 60 = .ok (.iload 4, 2) := by decide +kernel
theorem dX4_digest_62 : decode cX4_digest 62 = .ok (.invokevirtual 200, 3) := by decide +kernel
theorem dX4_digest_65 : decode cX4_digest 65 = .ok (.i2l, 1) := by decide +kernel
theorem dX4_digest_66 : decode cX4_digest 66 = .ok (.ladd, 1) := by decide +kernel
theorem dX4_digest_67 : decode cX4_digest 67 = .ok (.lstore_n 1, 1) := by decide +kernel
theorem dX4_digest_68 : decode cX4_digest 68 = .ok (.iinc 4 1, 3) := by decide +kernel
theorem dX4_digest_71 : decode cX4_digest 71 = .ok (.goto (-24), 3) := by decide +kernel
theorem dX4_digest_74 : decode cX4_digest 74 = .ok (.iinc 3 1, 3) := by decide +kernel
theorem dX4_digest_77 : decode cX4_digest 77 = .ok (.goto (-44), 3) := by decide +kernel
theorem dX4_digest_80 : decode cX4_digest 80 = .ok (.iconst 0, 1) := by decide +kernel
theorem dX4_digest_81 : decode cX4_digest 81 = .ok (.istore_n 3, 1) := by decide +kernel
theorem dX4_digest_82 : decode cX4_digest 82 = .ok (.iload_n 3, 1) := by decide +kernel
theorem dX4_digest_83 : decode cX4_digest 83 = .ok (.aload_n 0, 1) := by decide +kernel
theorem dX4_digest_84 : decode cX4_digest 84 = .ok (.getfield 10, 3) := by decide +kernel
theorem dX4_digest_87 : decode cX4_digest 87 = .ok (.invokevirtual 68, 3) := by decide +kernel
theorem dX4_digest_90 : decode cX4_digest 90 = .ok (.if_icmp .ge 39, 3) := by decide +kernel
theorem dX4_digest_93 : decode cX4_digest 93 = .ok (.iconst 0, 1) := by decide +kernel
theorem dX4_digest_94 : decode cX4_digest 94 = .ok (.istore 4, 2) := by decide +kernel
theorem dX4_digest_96 : decode cX4_digest 96 = .ok (.iload 4, 2) := by decide +kernel
theorem dX4_digest_98 : decode cX4_digest 98 = .ok (.iconst 4, 1) := by decide +kernel
theorem dX4_digest_99 : decode cX4_digest 99 = .ok (.if_icmp .gt 24, 3) := by decide +kernel
theorem dX4_digest_102 : decode cX4_digest 102 = .ok (.lload_n 1, 1) := by decide +kernel
theorem dX4_digest_103 : decode cX4_digest 103 = .ok (.ldc2_w 195, 3) := by decide +kernel
theorem dX4_digest_106 : decode cX4_digest 106 = .ok (.lmul, 1) := by decide +kernel
theorem dX4_digest_107 : decode cX4_digest 107 = .ok (.aload_n 0, 1) := by decide +kernel
theorem dX4_digest_108 : decode cX4_digest 108 = .ok (.iload_n 3, 1) := by decide +kernel
theorem dX4_digest_109 : decode cX4_digest 109 = .ok (.iload 4, 2) := by decide +kernel
theorem dX4_digest_111 : decode cX4_digest 111 = .ok (.invokevirtual 203, 3) := by decide +kernel
theorem dX4_digest_114 : decode cX4_digest 114 = .ok (.i2l, 1) := by decide +kernel
theorem dX4_digest_115 : decode cX4_digest 115 = .ok (.ladd, 1) := by decide +kernel
theorem dX4_digest_116 : decode cX4_digest 116 = .ok (.lstore_n 1, 1) := by decide +kernel
theorem dX4_digest_117 : decode cX4_digest 117 = .ok (.iinc 4 1, 3) := by decide +kernel
theorem dX4_digest_120 : decode cX4_digest 120 = .ok (.goto (-24), 3) := by decide +kernel
theorem dX4_digest_123 : decode cX4_digest 123 = .ok (.iinc 3 1, 3) := by decide +kernel
theorem dX4_digest_126 : decode cX4_digest 126 = .ok (.goto (-44), 3) := by decide +kernel
theorem dX4_digest_129 : decode cX4_digest 129 = .ok (.iconst 0, 1) := by decide +kernel
theorem dX4_digest_130 : decode cX4_digest 130 = .ok (.istore_n 3, 1) := by decide +kernel
theorem dX4_digest_131 : decode cX4_digest 131 = .ok (.iload_n 3, 1) := by decide +kernel
theorem dX4_digest_132 : decode cX4_digest 132 = .ok (.aload_n 0, 1) := by decide +kernel
theorem dX4_digest_133 : decode cX4_digest 133 = .ok (.getfield 10, 3) := by decide +kernel
theorem dX4_digest_136 : decode cX4_digest 136 = .ok (.invokevirtual 46, 3) := by decide +kernel
theorem dX4_digest_139 : decode cX4_digest 139 = .ok (.if_icmp .ge 39, 3) := by decide +kernel
theorem dX4_digest_142 : decode cX4_digest 142 = .ok (.iconst 0, 1) := by decide +kernel
theorem dX4_digest_143 : decode cX4_digest 143 = .ok (.istore 4, 2) := by decide +kernel
theorem dX4_digest_145 : decode cX4_digest 145 = .ok (.iload 4, 2) := by decide +kernel
theorem dX4_digest_147 : decode cX4_digest 147 = .ok (.aload_n 0, 1) := by decide +kernel
theorem dX4_digest_148 : decode cX4_digest 148 = .ok (.getfield 10, 3) := by decide +kernel
theorem dX4_digest_151 : decode cX4_digest 151 = .ok (.invokevirtual 46, 3) := by decide +kernel
theorem dX4_digest_154 : decode cX4_digest 154 = .ok (.if_icmp .ge 18, 3) := by decide +kernel
theorem dX4_digest_157 : decode cX4_digest 157 = .ok (.aload_n 0, 1) := by decide +kernel
theorem dX4_digest_158 : decode cX4_digest 158 = .ok (.lload_n 1, 1) := by decide +kernel
theorem dX4_digest_159 : decode cX4_digest 159 = .ok (.iload_n 3, 1) := by decide +kernel
theorem dX4_digest_160 : decode cX4_digest 160 = .ok (.iload 4, 2) := by decide +kernel
theorem dX4_digest_162 : decode cX4_digest 162 = .ok (.invokevirtual 206, 3) := by decide +kernel
theorem dX4_digest_165 : decode cX4_digest 165 = .ok (.lstore_n 1, 1) := by decide +kernel
theorem dX4_digest_166 : decode cX4_digest 166 = .ok (.iinc 4 1, 3) := by decide +kernel
theorem dX4_digest_169 : decode cX4_digest 169 = .ok (.goto (-24), 3) := by decide +kernel
theorem dX4_digest_172 : decode cX4_digest 172 = .ok (.iinc 3 1, 3) := by decide +kernel
theorem dX4_digest_175 : decode cX4_digest 175 = .ok (.goto (-44), 3) := by decide +kernel
theorem dX4_digest_178 : decode cX4_digest 178 = .ok (.lload_n 1, 1) := by decide +kernel
theorem dX4_digest_179 : decode cX4_digest 179 = .ok (.lreturn, 1) := by decide +kernel
set_option maxRecDepth 20000 in
theorem ggX4_digestOfPair_X4_sheet : GoodIn wsX4_digestOfPair wsX4_sheet := goodIn_ca (goodIn_r _ [6, 7, 8, 9, 10, 5, 11, 12, 13, 14, 15, 16, 17, 18, 19, 20, 21, 22, 23, 24, 25, 26, 27, 28, 29, 30, 31, 32, 33, 34, 35, 36, 37, 38, 39, 40, 41, 42, 43, 44, 45, 46, 47, 48, 49, 50, 51, 52, 53, 54, 55, 56, 57, 58, 114, 115, 116, 117, 118, 119, 120, 121, 122, 123, 124, 125, 126, 127, 128, 129, 130, 131, 132, 133, 134, 135, 136] (by decide +kernel) (by decide +kernel)) (goodIn_sub (fun _ h => List.mem_cons_of_mem _ (List.mem_append_right _ h)) (by decide +kernel))
set_option maxRecDepth 20000 in
theorem gX4_digestOfPair_X4_sheet : GoodIn wsX4_digestOfPair (wsV RX4 210 RX4 yX4_sheet wsX4_sheet) := goodIn_app (goodIn_of _ (by decide +kernel)) ggX4_digestOfPair_X4_sheet
set_option maxRecDepth 20000 in
theorem ggX4_digestOfPair_X4_way : GoodIn wsX4_digestOfPair wsX4_way := goodIn_ca (goodIn_r _ [62, 7, 63, 8, 9, 10, 5, 11, 12, 13, 14, 15, 16, 17, 18, 19, 20, 21, 22, 23, 24, 64, 65, 66, 28, 67, 68, 69, 70, 71, 72, 73, 74, 75, 30, 76, 77, 78, 79, 80, 81, 82, 83, 84, 85, 86, 87, 88, 89, 90, 91, 92, 93, 94, 95, 96, 31, 32, 33, 97, 56, 57, 37, 58, 54, 98, 99, 100, 101, 102, 103, 104, 105, 106, 107, 108, 109, 110, 111, 112, 113, 114, 115, 116, 117, 118, 119, 120, 121, 122, 123, 124, 125, 126, 127, 128, 129, 130, 131, 132, 133, 137, 138, 139, 140, 134, 135, 136] (by decide +kernel) (by decide +kernel)) (goodIn_sub (fun _ h => List.mem_cons_of_mem _ (List.mem_append_right _ h)) (by decide +kernel))
set_option maxRecDepth 20000 in
theorem gX4_digestOfPair_X4_way : GoodIn wsX4_digestOfPair (wsV RX4 213 RX4 yX4_way wsX4_way) := goodIn_app (goodIn_of _ (by decide +kernel)) ggX4_digestOfPair_X4_way
theorem dX4_digestOfPair_0 : decode cX4_digestOfPair 0 = .ok (.lload_n 1, 1) := by decide +kernel
theorem dX4_digestOfPair_1 : decode cX4_digestOfPair 1 = .ok (.lstore 5, 2) := by decide +kernel
theorem dX4_digestOfPair_3 : decode cX4_digestOfPair 3 = .ok (.iconst 0, 1) := by decide +kernel
theorem dX4_digestOfPair_4 : decode cX4_digestOfPair 4 = .ok (.istore 7, 2) := by decide +kernel
theorem dX4_digestOfPair_6 : decode cX4_digestOfPair 6 = .ok (.iload 7, 2) := by decide +kernel
theorem dX4_digestOfPair_8 : decode cX4_digestOfPair 8 = .ok (.iconst 2, 1) := by decide +kernel
theorem dX4_digestOfPair_9 : decode cX4_digestOfPair 9 = .ok (.if_icmp .gt 28, 3) := by decide +kernel
theorem dX4_digestOfPair_12 : decode cX4_digestOfPair 12 = .ok (.lload 5, 2) := by decide +kernel
theorem dX4_digestOfPair_14 : decode cX4_digestOfPair 14 = .ok (.ldc2_w 195, 3) := by decide +kernel
theorem dX4_digestOfPair_17 : decode cX4_digestOfPair 17 = .ok (.lmul, 1) := by decide +kernel
theorem dX4_digestOfPair_18 : decode cX4_digestOfPair 18 = .ok (.aload_n 0, 1) := by decide +kernel
theorem dX4_digestOfPair_19 : decode cX4_digestOfPair 19 = .ok (.iload_n 3, 1) := by decide +kernel
theorem dX4_digestOfPair_20 : decode cX4_digestOfPair 20 = .ok (.iload 4, 2) := by decide +kernel
theorem dX4_digestOfPair_22 : decode cX4_digestOfPair 22 = .ok (.iload 7, 2) := by decide +kernel
theorem dX4_digestOfPair_24 : decode cX4_digestOfPair 24 = .ok (.invokevirtual 210, 3) := by decide +kernel
theorem dX4_digestOfPair_27 : decode cX4_digestOfPair 27 = .ok (.i2l, 1) := by decide +kernel
theorem dX4_digestOfPair_28 : decode cX4_digestOfPair 28 = .ok (.ladd, 1) := by decide +kernel
theorem dX4_digestOfPair_29 : decode cX4_digestOfPair 29 = .ok (.lstore 5, 2) := by decide +kernel
theorem dX4_digestOfPair_31 : decode cX4_digestOfPair 31 = .ok (.iinc 7 1, 3) := by decide +kernel
theorem dX4_digestOfPair_34 : decode cX4_digestOfPair 34 = .ok (.goto (-28), 3) := by decide +kernel
theorem dX4_digestOfPair_37 : decode cX4_digestOfPair 37 = .ok (.iconst 0, 1) := by decide +kernel
theorem dX4_digestOfPair_38 : decode cX4_digestOfPair 38 = .ok (.istore 7, 2) := by decide +kernel
theorem dX4_digestOfPair_40 : decode cX4_digestOfPair 40 = .ok (.iload 7, 2) := by decide +kernel
theorem dX4_digestOfPair_42 : decode cX4_digestOfPair 42 = .ok (.iconst 2, 1) := by decide +kernel
theorem dX4_digestOfPair_43 : decode cX4_digestOfPair 43 = .ok (.if_icmp .gt 28, 3) := by decide +kernel
theorem dX4_digestOfPair_46 : decode cX4_digestOfPair 46 = .ok (.lload 5, 2) := by decide +kernel
theorem dX4_digestOfPair_48 : decode cX4_digestOfPair 48 = .ok (.ldc2_w 195, 3) := by decide +kernel
theorem dX4_digestOfPair_51 : decode cX4_digestOfPair 51 = .ok (.lmul, 1) := by decide +kernel
theorem dX4_digestOfPair_52 : decode cX4_digestOfPair 52 = .ok (.aload_n 0, 1) := by decide +kernel
theorem dX4_digestOfPair_53 : decode cX4_digestOfPair 53 = .ok (.iload_n 3, 1) := by decide +kernel
theorem dX4_digestOfPair_54 : decode cX4_digestOfPair 54 = .ok (.iload 4, 2) := by decide +kernel
theorem dX4_digestOfPair_56 : decode cX4_digestOfPair 56 = .ok (.iload 7, 2) := by decide +kernel
theorem dX4_digestOfPair_58 : decode cX4_digestOfPair 58 = .ok (.invokevirtual 213, 3) := by decide +kernel
theorem dX4_digestOfPair_61 : decode cX4_digestOfPair 61 = .ok (.i2l, 1) := by decide +kernel
theorem dX4_digestOfPair_62 : decode cX4_digestOfPair 62 = .ok (.ladd, 1) := by decide +kernel
theorem dX4_digestOfPair_63 : decode cX4_digestOfPair 63 = .ok (.lstore 5, 2) := by decide +kernel
theorem dX4_digestOfPair_65 : decode cX4_digestOfPair 65 = .ok (.iinc 7 1, 3) := by decide +kernel
theorem dX4_digestOfPair_68 : decode cX4_digestOfPair 68 = .ok (.goto (-28), 3) := by decide +kernel
theorem dX4_digestOfPair_71 : decode cX4_digestOfPair 71 = .ok (.lload 5, 2) := by decide +kernel
theorem dX4_digestOfPair_73 : decode cX4_digestOfPair 73 = .ok (.lreturn, 1) := by decide +kernel
set_option maxRecDepth 20000 in
theorem ggX4_checkHut_X1_huts : GoodIn wsX4_checkHut wsX1_huts := goodIn_r _ [8, 9, 15, 16, 17, 18, 19, 20, 21] (by decide +kernel) (by decide +kernel)
set_option maxRecDepth 20000 in
theorem gX4_checkHut_X1_huts : GoodIn wsX4_checkHut (wsV RX4 46 RX1 yX1_huts wsX1_huts) := goodIn_app (goodIn_of _ (by decide +kernel)) ggX4_checkHut_X1_huts
theorem dX4_checkHut_0 : decode cX4_checkHut 0 = .ok (.iload_n 1, 1) := by decide +kernel
theorem dX4_checkHut_1 : decode cX4_checkHut 1 = .ok (.ifCond .lt 14, 3) := by decide +kernel
theorem dX4_checkHut_4 : decode cX4_checkHut 4 = .ok (.iload_n 1, 1) := by decide +kernel
theorem dX4_checkHut_5 : decode cX4_checkHut 5 = .ok (.aload_n 0, 1) := by decide +kernel
theorem dX4_checkHut_6 : decode cX4_checkHut 6 = .ok (.getfield 10, 3) := by decide +kernel
theorem dX4_checkHut_9 : decode cX4_checkHut 9 = .ok (.invokevirtual 46, 3) := by decide +kernel
theorem dX4_checkHut_12 : decode cX4_checkHut 12 = .ok (.if_icmp .lt 13, 3) := by decide +kernel
theorem dX4_checkHut_15 : decode cX4_checkHut 15 = .ok (.new 144, 3) := by decide +kernel
theorem dX4_checkHut_18 : decode cX4_checkHut 18 = .ok (.dup, 1) := by decide +kernel
theorem dX4_checkHut_19 : decode cX4_checkHut 19 = .ok (.ldc 216, 2) := by decide +kernel
theorem dX4_checkHut_21 : decode cX4_checkHut 21 = .ok (.invokespecial 148, 3) := by decide +kernel
theorem dX4_checkHut_24 : decode cX4_checkHut 24 = .ok (.athrow, 1) := by decide +kernel
theorem dX4_checkHut_25 : decode cX4_checkHut 25 = .ok (.return_, 1) := by decide +kernel
set_option maxRecDepth 20000 in
theorem ggX4_checkPass_X1_passes : GoodIn wsX4_checkPass wsX1_passes := goodIn_r _ [8, 9, 15, 16, 17, 18, 19, 20, 21] (by decide +kernel) (by decide +kernel)
set_option maxRecDepth 20000 in
theorem gX4_checkPass_X1_passes : GoodIn wsX4_checkPass (wsV RX4 68 RX1 yX1_passes wsX1_passes) := goodIn_app (goodIn_of _ (by decide +kernel)) ggX4_checkPass_X1_passes
theorem dX4_checkPass_0 : decode cX4_checkPass 0 = .ok (.iload_n 1, 1) := by decide +kernel
theorem dX4_checkPass_1 : decode cX4_checkPass 1 = .ok (.ifCond .lt 14, 3) := by decide +kernel
theorem dX4_checkPass_4 : decode cX4_checkPass 4 = .ok (.iload_n 1, 1) := by decide +kernel
theorem dX4_checkPass_5 : decode cX4_checkPass 5 = .ok (.aload_n 0, 1) := by decide +kernel
theorem dX4_checkPass_6 : decode cX4_checkPass 6 = .ok (.getfield 10, 3) := by decide +kernel
theorem dX4_checkPass_9 : decode cX4_checkPass 9 = .ok (.invokevirtual 68, 3) := by decide +kernel
theorem dX4_checkPass_12 : decode cX4_checkPass 12 = .ok (.if_icmp .lt 13, 3) := by decide +kernel
theorem dX4_checkPass_15 : decode cX4_checkPass 15 = .ok (.new 144, 3) := by decide +kernel
theorem dX4_checkPass_18 : decode cX4_checkPass 18 = .ok (.dup, 1) := by decide +kernel
theorem dX4_checkPass_19 : decode cX4_checkPass 19 = .ok (.ldc 218, 2) := by decide +kernel
theorem dX4_checkPass_21 : decode cX4_checkPass 21 = .ok (.invokespecial 148, 3) := by decide +kernel
theorem dX4_checkPass_24 : decode cX4_checkPass 24 = .ok (.athrow, 1) := by decide +kernel
theorem dX4_checkPass_25 : decode cX4_checkPass 25 = .ok (.return_, 1) := by decide +kernel
theorem dX4_checkWhat_0 : decode cX4_checkWhat 0 = .ok (.iload_n 1, 1) := by decide +kernel
theorem dX4_checkWhat_1 : decode cX4_checkWhat 1 = .ok (.ifCond .lt 8, 3) := by decide +kernel
theorem dX4_checkWhat_4 : decode cX4_checkWhat 4 = .ok (.iload_n 1, 1) := by decide +kernel
theorem dX4_checkWhat_5 : decode cX4_checkWhat 5 = .ok (.iload_n 2, 1) := by decide +kernel
theorem dX4_checkWhat_6 : decode cX4_checkWhat 6 = .ok (.if_icmp .le 13, 3) := by decide +kernel
theorem dX4_checkWhat_9 : decode cX4_checkWhat 9 = .ok (.new 144, 3) := by decide +kernel
theorem dX4_checkWhat_12 : decode cX4_checkWhat 12 = .ok (.dup, 1) := by decide +kernel
theorem dX4_checkWhat_13 : decode cX4_checkWhat 13 = .ok (.ldc 220, 2) := by decide +kernel
theorem dX4_checkWhat_15 : decode cX4_checkWhat 15 = .ok (.invokespecial 148, 3) := by decide +kernel
theorem dX4_checkWhat_18 : decode cX4_checkWhat 18 = .ok (.athrow, 1) := by decide +kernel
theorem dX4_checkWhat_19 : decode cX4_checkWhat 19 = .ok (.return_, 1) := by decide +kernel
theorem dX4_checkLength_0 : decode cX4_checkLength 0 = .ok (.iload_n 1, 1) := by decide +kernel
theorem dX4_checkLength_1 : decode cX4_checkLength 1 = .ok (.iconst 1, 1) := by decide +kernel
theorem dX4_checkLength_2 : decode cX4_checkLength 2 = .ok (.if_icmp .lt 9, 3) := by decide +kernel
theorem dX4_checkLength_5 : decode cX4_checkLength 5 = .ok (.iload_n 1, 1) := by decide +kernel
theorem dX4_checkLength_6 : decode cX4_checkLength 6 = .ok (.bipush 99, 2) := by decide +kernel
theorem dX4_checkLength_8 : decode cX4_checkLength 8 = .ok (.if_icmp .le 13, 3) := by decide +kernel
theorem dX4_checkLength_11 : decode cX4_checkLength 11 = .ok (.new 39, 3) := by decide +kernel
theorem dX4_checkLength_14 : decode cX4_checkLength 14 = .ok (.dup, 1) := by decide +kernel
theorem dX4_checkLength_15 : decode cX4_checkLength 15 = .ok (.ldc 222, 2) := by decide +kernel
theorem dX4_checkLength_17 : decode cX4_checkLength 17 = .ok (.invokespecial 43, 3) := by decide +kernel
theorem dX4_checkLength_20 : decode cX4_checkLength 20 = .ok (.athrow, 1) := by decide +kernel
theorem dX4_checkLength_21 : decode cX4_checkLength 21 = .ok (.return_, 1) := by decide +kernel
theorem dX4_checkMinutes_0 : decode cX4_checkMinutes 0 = .ok (.iload_n 1, 1) := by decide +kernel
theorem dX4_checkMinutes_1 : decode cX4_checkMinutes 1 = .ok (.iconst 1, 1) := by decide +kernel
theorem dX4_checkMinutes_2 : decode cX4_checkMinutes 2 = .ok (.if_icmp .lt 9, 3) := by decide +kernel
theorem dX4_checkMinutes_5 : decode cX4_checkMinutes 5 = .ok (.iload_n 1, 1) := by decide +kernel
theorem dX4_checkMinutes_6 : decode cX4_checkMinutes 6 = .ok (.bipush 60, 2) := by decide +kernel
theorem dX4_checkMinutes_8 : decode cX4_checkMinutes 8 = .ok (.if_icmp .le 13, 3) := by decide +kernel
theorem dX4_checkMinutes_11 : decode cX4_checkMinutes 11 = .ok (.new 39, 3) := by decide +kernel
theorem dX4_checkMinutes_14 : decode cX4_checkMinutes 14 = .ok (.dup, 1) := by decide +kernel
theorem dX4_checkMinutes_15 : decode cX4_checkMinutes 15 = .ok (.ldc 224, 2) := by decide +kernel
theorem dX4_checkMinutes_17 : decode cX4_checkMinutes 17 = .ok (.invokespecial 43, 3) := by decide +kernel
theorem dX4_checkMinutes_20 : decode cX4_checkMinutes 20 = .ok (.athrow, 1) := by decide +kernel
theorem dX4_checkMinutes_21 : decode cX4_checkMinutes 21 = .ok (.return_, 1) := by decide +kernel
theorem dX5_init_0 : decode cX5_init 0 = .ok (.aload_n 0, 1) := by decide +kernel
theorem dX5_init_1 : decode cX5_init 1 = .ok (.invokespecial 3, 3) := by decide +kernel
theorem dX5_init_4 : decode cX5_init 4 = .ok (.aload_n 0, 1) := by decide +kernel
theorem dX5_init_5 : decode cX5_init 5 = .ok (.iconst 0, 1) := by decide +kernel
theorem dX5_init_6 : decode cX5_init 6 = .ok (.newarray .int, 2) := by decide +kernel
theorem dX5_init_8 : decode cX5_init 8 = .ok (.putfield 9, 3) := by decide +kernel
theorem dX5_init_11 : decode cX5_init 11 = .ok (.aload_n 0, 1) := by decide +kernel
theorem dX5_init_12 : decode cX5_init 12 = .ok (.iconst 0, 1) := by decide +kernel
theorem dX5_init_13 : decode cX5_init 13 = .ok (.newarray .int, 2) := by decide +kernel
theorem dX5_init_15 : decode cX5_init 15 = .ok (.putfield 15, 3) := by decide +kernel
theorem dX5_init_18 : decode cX5_init 18 = .ok (.aload_n 0, 1) := by decide +kernel
theorem dX5_init_19 : decode cX5_init 19 = .ok (.iconst 0, 1) := by decide +kernel
theorem dX5_init_20 : decode cX5_init 20 = .ok (.anewarray 18, 3) := by decide +kernel
theorem dX5_init_23 : decode cX5_init 23 = .ok (.putfield 20, 3) := by decide +kernel
theorem dX5_init_26 : decode cX5_init 26 = .ok (.aload_n 0, 1) := by decide +kernel
theorem dX5_init_27 : decode cX5_init 27 = .ok (.iconst 0, 1) := by decide +kernel
theorem dX5_init_28 : decode cX5_init 28 = .ok (.anewarray 24, 3) := by decide +kernel
theorem dX5_init_31 : decode cX5_init 31 = .ok (.putfield 25, 3) := by decide +kernel
theorem dX5_init_34 : decode cX5_init 34 = .ok (.return_, 1) := by decide +kernel
theorem dX5_longer_0 : decode cX5_longer 0 = .ok (.aload_n 0, 1) := by decide +kernel
theorem dX5_longer_1 : decode cX5_longer 1 = .ok (.arraylength, 1) := by decide +kernel
theorem dX5_longer_2 : decode cX5_longer 2 = .ok (.iconst 1, 1) := by decide +kernel
theorem dX5_longer_3 : decode cX5_longer 3 = .ok (.iadd, 1) := by decide +kernel
theorem dX5_longer_4 : decode cX5_longer 4 = .ok (.newarray .int, 2) := by decide +kernel
theorem dX5_longer_6 : decode cX5_longer 6 = .ok (.astore_n 2, 1) := by decide +kernel
theorem dX5_longer_7 : decode cX5_longer 7 = .ok (.iconst 0, 1) := by decide +kernel
theorem dX5_longer_8 : decode cX5_longer 8 = .ok (.istore_n 3, 1) := by decide +kernel
theorem dX5_longer_9 : decode cX5_longer 9 = .ok (.iload_n 3, 1) := by decide +kernel
theorem dX5_longer_10 : decode cX5_longer 10 = .ok (.aload_n 0, 1) := by decide +kernel
theorem dX5_longer_11 : decode cX5_longer 11 = .ok (.arraylength, 1) := by decide +kernel
theorem dX5_longer_12 : decode cX5_longer 12 = .ok (.if_icmp .ge 15, 3) := by decide +kernel
theorem dX5_longer_15 : decode cX5_longer 15 = .ok (.aload_n 2, 1) := by decide +kernel
theorem dX5_longer_16 : decode cX5_longer 16 = .ok (.iload_n 3, 1) := by decide +kernel
theorem dX5_longer_17 : decode cX5_longer 17 = .ok (.aload_n 0, 1) := by decide +kernel
theorem dX5_longer_18 : decode cX5_longer 18 = .ok (.iload_n 3, 1) := by decide +kernel
theorem dX5_longer_19 : decode cX5_longer 19 = .ok (.iaload, 1) := by decide +kernel
theorem dX5_longer_20 : decode cX5_longer 20 = .ok (.iastore, 1) := by decide +kernel
theorem dX5_longer_21 : decode cX5_longer 21 = .ok (.iinc 3 1, 3) := by decide +kernel
theorem dX5_longer_24 : decode cX5_longer 24 = .ok (.goto (-15), 3) := by decide +kernel
theorem dX5_longer_27 : decode cX5_longer 27 = .ok (.aload_n 2, 1) := by decide +kernel
theorem dX5_longer_28 : decode cX5_longer 28 = .ok (.aload_n 0, 1) := by decide +kernel
theorem dX5_longer_29 : decode cX5_longer 29 = .ok (.arraylength, 1) := by decide +kernel
theorem dX5_longer_30 : decode cX5_longer 30 = .ok (.iload_n 1, 1) := by decide +kernel
theorem dX5_longer_31 : decode cX5_longer 31 = .ok (.iastore, 1) := by decide +kernel
theorem dX5_longer_32 : decode cX5_longer 32 = .ok (.aload_n 2, 1) := by decide +kernel
theorem dX5_longer_33 : decode cX5_longer 33 = .ok (.areturn, 1) := by decide +kernel
set_option maxRecDepth 20000 in
theorem ggX5_hut_X5_longer : GoodIn wsX5_hut wsX5_longer := goodIn_r _ [7, 8] (by decide +kernel) (by decide +kernel)
set_option maxRecDepth 20000 in
theorem gX5_hut_X5_longer : GoodIn wsX5_hut (va_wsS RX5 37 yX5_longer wsX5_longer) := goodIn_app (goodIn_of _ (by decide +kernel)) ggX5_hut_X5_longer
theorem dX5_hut_0 : decode cX5_hut 0 = .ok (.aload_n 0, 1) := by decide +kernel
theorem dX5_hut_1 : decode cX5_hut 1 = .ok (.aload_n 0, 1) := by decide +kernel
theorem dX5_hut_2 : decode cX5_hut 2 = .ok (.getfield 9, 3) := by decide +kernel
theorem dX5_hut_5 : decode cX5_hut 5 = .ok (.iload_n 1, 1) := by decide +kernel
theorem dX5_hut_6 : decode cX5_hut 6 = .ok (.invokestatic 37, 3) := by decide +kernel
theorem dX5_hut_9 : decode cX5_hut 9 = .ok (.putfield 9, 3) := by decide +kernel
theorem dX5_hut_12 : decode cX5_hut 12 = .ok (.aload_n 0, 1) := by decide +kernel
theorem dX5_hut_13 : decode cX5_hut 13 = .ok (.aload_n 0, 1) := by decide +kernel
theorem dX5_hut_14 : decode cX5_hut 14 = .ok (.getfield 15, 3) := by decide +kernel
theorem dX5_hut_17 : decode cX5_hut 17 = .ok (.iconst 0, 1) := by decide +kernel
theorem dX5_hut_18 : decode cX5_hut 18 = .ok (.invokestatic 37, 3) := by decide +kernel
theorem dX5_hut_21 : decode cX5_hut 21 = .ok (.putfield 15, 3) := by decide +kernel
theorem dX5_hut_24 : decode cX5_hut 24 = .ok (.aload_n 0, 1) := by decide +kernel
theorem dX5_hut_25 : decode cX5_hut 25 = .ok (.getfield 9, 3) := by decide +kernel
theorem dX5_hut_28 : decode cX5_hut 28 = .ok (.arraylength, 1) := by decide +kernel
theorem dX5_hut_29 : decode cX5_hut 29 = .ok (.istore_n 2, 1) := by decide +kernel
theorem dX5_hut_30 : decode cX5_hut 30 = .ok (.iload_n 2, 1) := by decide +kernel
theorem dX5_hut_31 : decode cX5_hut 31 = .ok (.iload_n 2, 1) := by decide +kernel
theorem dX5_hut_32 : decode cX5_hut 32 = .ok (.iconst 0, 1) := by decide +kernel
theorem dX5_hut_33 : decode cX5_hut 33 = .ok (.multianewarray 41 3, 4) := by decide +kernel
theorem dX5_hut_37 : decode cX5_hut 37 = .ok (.astore_n 3, 1) := by decide +kernel
theorem dX5_hut_38 : decode cX5_hut 38 = .ok (.iconst 0, 1) := by decide +kernel
theorem dX5_hut_39 : decode cX5_hut 39 = .ok (.istore 4, 2) := by decide +kernel
theorem dX5_hut_41 : decode cX5_hut 41 = .ok (.iload 4, 2) := by decide +kernel
theorem dX5_hut_43 : decode cX5_hut 43 = .ok (.iconst 1, 1) := by decide +kernel
theorem dX5_hut_44 : decode cX5_hut 44 = .ok (.iadd, 1) := by decide +kernel
theorem dX5_hut_45 : decode cX5_hut 45 = .ok (.iload_n 2, 1) := by decide +kernel
theorem dX5_hut_46 : decode cX5_hut 46 = .ok (.if_icmp .ge 43, 3) := by decide +kernel
theorem dX5_hut_49 : decode cX5_hut 49 = .ok (.iconst 0, 1) := by decide +kernel
theorem dX5_hut_50 : decode cX5_hut 50 = .ok (.istore 5, 2) := by decide +kernel
theorem dX5_hut_52 : decode cX5_hut 52 = .ok (.iload 5, 2) := by decide +kernel
theorem dX5_hut_54 : decode cX5_hut 54 = .ok (.iconst 1, 1) := by decide +kernel
theorem dX5_hut_55 : decode cX5_hut 55 = .ok (.iadd, 1) := by decide +kernel
theorem dX5_hut_56 : decode cX5_hut 56 = .ok (.iload_n 2, 1) := by decide +kernel
theorem dX5_hut_57 : decode cX5_hut 57 = .ok (.if_icmp .ge 26, 3) := by decide +kernel
theorem dX5_hut_60 : decode cX5_hut 60 = .ok (.aload_n 3, 1) := by decide +kernel
theorem dX5_hut_61 : decode cX5_hut 61 = .ok (.iload 4, 2) := by decide +kernel
theorem dX5_hut_63 : decode cX5_hut 63 = .ok (.aaload, 1) := by decide +kernel
theorem dX5_hut_64 : decode cX5_hut 64 = .ok (.iload 5, 2) := by decide +kernel
theorem dX5_hut_66 : decode cX5_hut 66 = .ok (.aload_n 0, 1) := by decide +kernel
theorem dX5_hut_67 : decode cX5_hut 67 = .ok (.getfield 20, 3) := by decide +kernel
theorem dX5_hut_70 : decode cX5_hut 70 = .ok (.iload 4, 2) := by decide +kernel
theorem dX5_hut_72 : decode cX5_hut 72 = .ok (.aaload, 1) := by decide +kernel
theorem dX5_hut_73 : decode cX5_hut 73 = .ok (.iload 5, 2) := by decide +kernel
theorem dX5_hut_75 : decode cX5_hut 75 = .ok (.aaload, 1) := by decide +kernel
theorem dX5_hut_76 : decode cX5_hut 76 = .ok (.aastore, 1) := by decide +kernel
theorem dX5_hut_77 : decode cX5_hut 77 = .ok (.iinc 5 1, 3) := by decide +kernel
theorem dX5_hut_80 : decode cX5_hut 80 = .ok (.goto (-28), 3) := by decide +kernel
theorem dX5_hut_83 : decode cX5_hut 83 = .ok (.iinc 4 1, 3) := by decide +kernel
theorem dX5_hut_86 : decode cX5_hut 86 = .ok (.goto (-45), 3) := by decide +kernel
theorem dX5_hut_89 : decode cX5_hut 89 = .ok (.aload_n 0, 1) := by decide +kernel
theorem dX5_hut_90 : decode cX5_hut 90 = .ok (.aload_n 3, 1) := by decide +kernel
theorem dX5_hut_91 : decode cX5_hut 91 = .ok (.putfield 20, 3) := by decide +kernel
theorem dX5_hut_94 : decode cX5_hut 94 = .ok (.return_, 1) := by decide +kernel
theorem dX5_pass_0 : decode cX5_pass 0 = .ok (.aload_n 0, 1) := by decide +kernel
theorem dX5_pass_1 : decode cX5_pass 1 = .ok (.getfield 25, 3) := by decide +kernel
theorem dX5_pass_4 : decode cX5_pass 4 = .ok (.arraylength, 1) := by decide +kernel
theorem dX5_pass_5 : decode cX5_pass 5 = .ok (.iconst 1, 1) := by decide +kernel
theorem dX5_pass_6 : decode cX5_pass 6 = .ok (.iadd, 1) := by decide +kernel
theorem dX5_pass_7 : decode cX5_pass 7 = .ok (.anewarray 24, 3) := by decide +kernel
theorem dX5_pass_10 : decode cX5_pass 10 = .ok (.astore 4, 2) := by decide +kernel
theorem dX5_pass_12 : decode cX5_pass 12 = .ok (.iconst 0, 1) := by decide +kernel
theorem dX5_pass_13 : decode cX5_pass 13 = .ok (.istore 5, 2) := by decide +kernel
theorem dX5_pass_15 : decode cX5_pass 15 = .ok (.iload 5, 2) := by decide +kernel
theorem dX5_pass_17 : decode cX5_pass 17 = .ok (.aload_n 0, 1) := by decide +kernel
theorem dX5_pass_18 : decode cX5_pass 18 = .ok (.getfield 25, 3) := by decide +kernel
theorem dX5_pass_21 : decode cX5_pass 21 = .ok (.arraylength, 1) := by decide +kernel
theorem dX5_pass_22 : decode cX5_pass 22 = .ok (.if_icmp .ge 21, 3) := by decide +kernel
theorem dX5_pass_25 : decode cX5_pass 25 = .ok (.aload 4, 2) := by decide +kernel
theorem dX5_pass_27 : decode cX5_pass 27 = .ok (.iload 5, 2) := by decide +kernel
theorem dX5_pass_29 : decode cX5_pass 29 = .ok (.aload_n 0, 1) := by decide +kernel
theorem dX5_pass_30 : decode cX5_pass 30 = .ok (.getfield 25, 3) := by decide +kernel
theorem dX5_pass_33 : decode cX5_pass 33 = .ok (.iload 5, 2) := by decide +kernel
theorem dX5_pass_35 : decode cX5_pass 35 = .ok (.aaload, 1) := by decide +kernel
theorem dX5_pass_36 : decode cX5_pass 36 = .ok (.aastore, 1) := by decide +kernel
theorem dX5_pass_37 : decode cX5_pass 37 = .ok (.iinc 5 1, 3) := by decide +kernel
theorem dX5_pass_40 : decode cX5_pass 40 = .ok (.goto (-25), 3) := by decide +kernel
theorem dX5_pass_43 : decode cX5_pass 43 = .ok (.aload 4, 2) := by decide +kernel
theorem dX5_pass_45 : decode cX5_pass 45 = .ok (.aload_n 0, 1) := by decide +kernel
theorem dX5_pass_46 : decode cX5_pass 46 = .ok (.getfield 25, 3) := by decide +kernel
theorem dX5_pass_49 : decode cX5_pass 49 = .ok (.arraylength, 1) := by decide +kernel
theorem dX5_pass_50 : decode cX5_pass 50 = .ok (.iconst 4, 1) := by decide +kernel
theorem dX5_pass_51 : decode cX5_pass 51 = .ok (.newarray .int, 2) := by decide +kernel
theorem dX5_pass_53 : decode cX5_pass 53 = .ok (.dup, 1) := by decide +kernel
theorem dX5_pass_54 : decode cX5_pass 54 = .ok (.iconst 0, 1) := by decide +kernel
theorem dX5_pass_55 : decode cX5_pass 55 = .ok (.iload_n 1, 1) := by decide +kernel
theorem dX5_pass_56 : decode cX5_pass 56 = .ok (.iastore, 1) := by decide +kernel
theorem dX5_pass_57 : decode cX5_pass 57 = .ok (.dup, 1) := by decide +kernel
theorem dX5_pass_58 : decode cX5_pass 58 = .ok (.iconst 1, 1) := by decide +kernel
theorem dX5_pass_59 : decode cX5_pass 59 = .ok (.iload_n 2, 1) := by decide +kernel
theorem dX5_pass_60 : decode cX5_pass 60 = .ok (.iastore, 1) := by decide +kernel
theorem dX5_pass_61 : decode cX5_pass 61 = .ok (.dup, 1) := by decide +kernel
theorem dX5_pass_62 : decode cX5_pass 62 = .ok (.iconst 2, 1) := by decide +kernel
theorem dX5_pass_63 : decode cX5_pass 63 = .ok (.iload_n 3, 1) := by decide +kernel
theorem dX5_pass_64 : decode cX5_pass 64 = .ok (.iastore, 1) := by decide +kernel
theorem dX5_pass_65 : decode cX5_pass 65 = .ok (.dup, 1) := by decide +kernel
theorem dX5_pass_66 : decode cX5_pass 66 = .ok (.iconst 3, 1) := by decide +kernel
theorem dX5_pass_67 : decode cX5_pass 67 = .ok (.iconst 1, 1) := by decide +kernel
theorem dX5_pass_68 : decode cX5_pass 68 = .ok (.iastore, 1) := by decide +kernel
theorem dX5_pass_69 : decode cX5_pass 69 = .ok (.aastore, 1) := by decide +kernel
theorem dX5_pass_70 : decode cX5_pass 70 = .ok (.aload_n 0, 1) := by decide +kernel
theorem dX5_pass_71 : decode cX5_pass 71 = .ok (.aload 4, 2) := by decide +kernel
theorem dX5_pass_73 : decode cX5_pass 73 = .ok (.putfield 25, 3) := by decide +kernel
theorem dX5_pass_76 : decode cX5_pass 76 = .ok (.return_, 1) := by decide +kernel
theorem dX5_due_0 : decode cX5_due 0 = .ok (.aload_n 0, 1) := by decide +kernel
theorem dX5_due_1 : decode cX5_due 1 = .ok (.getfield 25, 3) := by decide +kernel
theorem dX5_due_4 : decode cX5_due 4 = .ok (.iload_n 2, 1) := by decide +kernel
theorem dX5_due_5 : decode cX5_due 5 = .ok (.aaload, 1) := by decide +kernel
theorem dX5_due_6 : decode cX5_due 6 = .ok (.iconst 3, 1) := by decide +kernel
theorem dX5_due_7 : decode cX5_due 7 = .ok (.iaload, 1) := by decide +kernel
theorem dX5_due_8 : decode cX5_due 8 = .ok (.iconst 1, 1) := by decide +kernel
theorem dX5_due_9 : decode cX5_due 9 = .ok (.if_icmp .ne 38, 3) := by decide +kernel
theorem dX5_due_12 : decode cX5_due 12 = .ok (.aload_n 0, 1) := by decide +kernel
theorem dX5_due_13 : decode cX5_due 13 = .ok (.getfield 25, 3) := by decide +kernel
theorem dX5_due_16 : decode cX5_due 16 = .ok (.iload_n 2, 1) := by decide +kernel
theorem dX5_due_17 : decode cX5_due 17 = .ok (.aaload, 1) := by decide +kernel
theorem dX5_due_18 : decode cX5_due 18 = .ok (.iconst 0, 1) := by decide +kernel
theorem dX5_due_19 : decode cX5_due 19 = .ok (.iaload, 1) := by decide +kernel
theorem dX5_due_20 : decode cX5_due 20 = .ok (.iload_n 1, 1) := by decide +kernel
theorem dX5_due_21 : decode cX5_due 21 = .ok (.if_icmp .eq 15, 3) := by decide +kernel
theorem dX5_due_24 : decode cX5_due 24 = .ok (.aload_n 0, 1) := by decide +kernel
theorem dX5_due_25 : decode cX5_due 25 = .ok (.getfield 25, 3) := by decide +kernel
theorem dX5_due_28 : decode cX5_due 28 = .ok (.iload_n 2, 1) := by decide +kernel
theorem dX5_due_29 : decode cX5_due 29 = .ok (.aaload, 1) := by decide +kernel
theorem dX5_due_30 : decode cX5_due 30 = .ok (.iconst 1, 1) := by decide +kernel
theorem dX5_due_31 : decode cX5_due 31 = .ok (.iaload, 1) := by decide +kernel
theorem dX5_due_32 : decode cX5_due 32 = .ok (.iload_n 1, 1) := by decide +kernel
theorem dX5_due_33 : decode cX5_due 33 = .ok (.if_icmp .ne 14, 3) := by decide +kernel
theorem dX5_due_36 : decode cX5_due 36 = .ok (.aload_n 0, 1) := by decide +kernel
theorem dX5_due_37 : decode cX5_due 37 = .ok (.getfield 25, 3) := by decide +kernel
theorem dX5_due_40 : decode cX5_due 40 = .ok (.iload_n 2, 1) := by decide +kernel
theorem dX5_due_41 : decode cX5_due 41 = .ok (.aaload, 1) := by decide +kernel
theorem dX5_due_42 : decode cX5_due 42 = .ok (.iconst 2, 1) := by decide +kernel
theorem dX5_due_43 : decode cX5_due 43 = .ok (.iaload, 1) := by decide +kernel
theorem dX5_due_44 : decode cX5_due 44 = .ok (.goto 4, 3) := by decide +kernel
theorem dX5_due_47 : decode cX5_due 47 = .ok (.iconst 0, 1) := by decide +kernel
theorem dX5_due_48 : decode cX5_due 48 = .ok (.ireturn, 1) := by decide +kernel
theorem dX5_told_0 : decode cX5_told 0 = .ok (.aload_n 0, 1) := by decide +kernel
theorem dX5_told_1 : decode cX5_told 1 = .ok (.arraylength, 1) := by decide +kernel
theorem dX5_told_2 : decode cX5_told 2 = .ok (.iload_n 1, 1) := by decide +kernel
theorem dX5_told_3 : decode cX5_told 3 = .ok (.iconst 2, 1) := by decide +kernel
theorem dX5_told_4 : decode cX5_told 4 = .ok (.iadd, 1) := by decide +kernel
theorem dX5_told_5 : decode cX5_told 5 = .ok (.if_icmp .le 11, 3) := by decide +kernel
theorem dX5_told_8 : decode cX5_told 8 = .ok (.aload_n 0, 1) := by decide +kernel
theorem dX5_told_9 : decode cX5_told 9 = .ok (.iload_n 1, 1) := by decide +kernel
theorem dX5_told_10 : decode cX5_told 10 = .ok (.iconst 2, 1) := by decide +kernel
theorem dX5_told_11 : decode cX5_told 11 = .ok (.iadd, 1) := by decide +kernel
theorem dX5_told_12 : decode cX5_told 12 = .ok (.iaload, 1) := by decide +kernel
theorem dX5_told_13 : decode cX5_told 13 = .ok (.goto 4, 3) := by decide +kernel
theorem dX5_told_16 : decode cX5_told 16 = .ok (.iconst 0, 1) := by decide +kernel
theorem dX5_told_17 : decode cX5_told 17 = .ok (.ireturn, 1) := by decide +kernel
set_option maxRecDepth 20000 in
theorem ggX5_isTrue_X5_told : GoodIn wsX5_isTrue wsX5_told := goodIn_r _ [6] (by decide +kernel) (by decide +kernel)
set_option maxRecDepth 20000 in
theorem gX5_isTrue_X5_told : GoodIn wsX5_isTrue (va_wsS RX5 42 yX5_told wsX5_told) := goodIn_app (goodIn_of _ (by decide +kernel)) ggX5_isTrue_X5_told
set_option maxRecDepth 20000 in
theorem ggX5_isTrue_X5_due : GoodIn wsX5_isTrue wsX5_due := goodIn_r _ [10, 2, 11, 12, 13, 14, 15] (by decide +kernel) (by decide +kernel)
set_option maxRecDepth 20000 in
theorem gX5_isTrue_X5_due : GoodIn wsX5_isTrue (wsV RX5 46 RX5 yX5_due wsX5_due) := goodIn_app (goodIn_of _ (by decide +kernel)) ggX5_isTrue_X5_due
theorem dX5_isTrue_0 : decode cX5_isTrue 0 = .ok (.aload_n 0, 1) := by decide +kernel
theorem dX5_isTrue_1 : decode cX5_isTrue 1 = .ok (.getfield 20, 3) := by decide +kernel
theorem dX5_isTrue_4 : decode cX5_isTrue 4 = .ok (.iload_n 1, 1) := by decide +kernel
theorem dX5_isTrue_5 : decode cX5_isTrue 5 = .ok (.aaload, 1) := by decide +kernel
theorem dX5_isTrue_6 : decode cX5_isTrue 6 = .ok (.iload_n 1, 1) := by decide +kernel
theorem dX5_isTrue_7 : decode cX5_isTrue 7 = .ok (.aaload, 1) := by decide +kernel
theorem dX5_isTrue_8 : decode cX5_isTrue 8 = .ok (.astore_n 2, 1) := by decide +kernel
theorem dX5_isTrue_9 : decode cX5_isTrue 9 = .ok (.iconst 0, 1) := by decide +kernel
theorem dX5_isTrue_10 : decode cX5_isTrue 10 = .ok (.istore_n 3, 1) := by decide +kernel
theorem dX5_isTrue_11 : decode cX5_isTrue 11 = .ok (.iload_n 3, 1) := by decide +kernel
theorem dX5_isTrue_12 : decode cX5_isTrue 12 = .ok (.aload_n 0, 1) := by decide +kernel
theorem dX5_isTrue_13 : decode cX5_isTrue 13 = .ok (.getfield 25, 3) := by decide +kernel
theorem dX5_isTrue_16 : decode cX5_isTrue 16 = .ok (.arraylength, 1) := by decide +kernel
theorem dX5_isTrue_17 : decode cX5_isTrue 17 = .ok (.if_icmp .ge 25, 3) := by decide +kernel
theorem dX5_isTrue_20 : decode cX5_isTrue 20 = .ok (.aload_n 2, 1) := by decide +kernel
theorem dX5_isTrue_21 : decode cX5_isTrue 21 = .ok (.iload_n 3, 1) := by decide +kernel
theorem dX5_isTrue_22 : decode cX5_isTrue 22 = .ok (.invokestatic 42, 3) := by decide +kernel
theorem dX5_isTrue_25 : decode cX5_isTrue 25 = .ok (.aload_n 0, 1) := by decide +kernel
theorem dX5_isTrue_26 : decode cX5_isTrue 26 = .ok (.iload_n 1, 1) := by decide +kernel
theorem dX5_isTrue_27 : decode cX5_isTrue 27 = .ok (.iload_n 3, 1) := by decide +kernel
theorem dX5_isTrue_28 : decode cX5_isTrue 28 = .ok (.invokevirtual 46, 3) := by decide +kernel
theorem dX5_isTrue_31 : decode cX5_isTrue 31 = .ok (.if_icmp .eq 5, 3) := by decide +kernel
theorem dX5_isTrue_34 : decode cX5_isTrue 34 = .ok (.iconst 0, 1) := by decide +kernel
theorem dX5_isTrue_35 : decode cX5_isTrue 35 = .ok (.ireturn, 1) := by decide +kernel
theorem dX5_isTrue_36 : decode cX5_isTrue 36 = .ok (.iinc 3 1, 3) := by decide +kernel
theorem dX5_isTrue_39 : decode cX5_isTrue 39 = .ok (.goto (-28), 3) := by decide +kernel
theorem dX5_isTrue_42 : decode cX5_isTrue 42 = .ok (.iconst 1, 1) := by decide +kernel
theorem dX5_isTrue_43 : decode cX5_isTrue 43 = .ok (.ireturn, 1) := by decide +kernel
set_option maxRecDepth 20000 in
theorem ggX5_go_X5_isTrue : GoodIn wsX5_go wsX5_isTrue := goodIn_r _ [17, 2, 4, 18, 19, 16, 20, 21, 22, 23, 24, 25, 26, 27, 28, 29] (by decide +kernel) (by decide +kernel)
set_option maxRecDepth 20000 in
theorem gX5_go_X5_isTrue : GoodIn wsX5_go (wsV RX5 50 RX5 yX5_isTrue wsX5_isTrue) := goodIn_app (goodIn_of _ (by decide +kernel)) ggX5_go_X5_isTrue
set_option maxRecDepth 20000 in
theorem ggX5_go_X5_due : GoodIn wsX5_go wsX5_due := goodIn_r _ [24, 4, 25, 26, 27, 28, 29] (by decide +kernel) (by decide +kernel)
set_option maxRecDepth 20000 in
theorem gX5_go_X5_due : GoodIn wsX5_go (wsV RX5 46 RX5 yX5_due wsX5_due) := goodIn_app (goodIn_of _ (by decide +kernel)) ggX5_go_X5_due
theorem dX5_go_0 : decode cX5_go 0 = .ok (.iconst 0, 1) := by decide +kernel
theorem dX5_go_1 : decode cX5_go 1 = .ok (.istore_n 1, 1) := by decide +kernel
theorem dX5_go_2 : decode cX5_go 2 = .ok (.aload_n 0, 1) := by decide +kernel
theorem dX5_go_3 : decode cX5_go 3 = .ok (.getfield 9, 3) := by decide +kernel
theorem dX5_go_6 : decode cX5_go 6 = .ok (.arraylength, 1) := by decide +kernel
theorem dX5_go_7 : decode cX5_go 7 = .ok (.istore_n 2, 1) := by decide +kernel
theorem dX5_go_8 : decode cX5_go 8 = .ok (.iconst 0, 1) := by decide +kernel
theorem dX5_go_9 : decode cX5_go 9 = .ok (.istore_n 3, 1) := by decide +kernel
theorem dX5_go_10 : decode cX5_go 10 = .ok (.iload_n 3, 1) := by decide +kernel
theorem dX5_go_11 : decode cX5_go 11 = .ok (.iload_n 2, 1) := by decide +kernel
theorem dX5_go_12 : decode cX5_go 12 = .ok (.if_icmp .ge 122, 3) := by decide +kernel
theorem dX5_go_15 : decode cX5_go 15 = .ok (.aload_n 0, 1) := by decide +kernel
theorem dX5_go_16 : decode cX5_go 16 = .ok (.getfield 20, 3) := by decide +kernel
theorem dX5_go_19 : decode cX5_go 19 = .ok (.iload_n 3, 1) := by decide +kernel
theorem dX5_go_20 : decode cX5_go 20 = .ok (.aaload, 1) := by decide +kernel
theorem dX5_go_21 : decode cX5_go 21 = .ok (.iload_n 3, 1) := by decide +kernel
theorem dX5_go_22 : decode cX5_go 22 = .ok (.aaload, 1) := by decide +kernel
theorem dX5_go_23 : decode cX5_go 23 = .ok (.astore 4, 2) := by decide +kernel
theorem dX5_go_25 : decode cX5_go 25 = .ok (.aload 4, 2) := by decide +kernel
theorem dX5_go_27 : decode cX5_go 27 = .ok (.arraylength, 1) := by decide +kernel
theorem dX5_go_28 : decode cX5_go 28 = .ok (.ifCond .le 23, 3) := by decide +kernel
theorem dX5_go_31 : decode cX5_go 31 = .ok (.aload 4, 2) := by decide +kernel
theorem dX5_go_33 : decode cX5_go 33 = .ok (.iconst 1, 1) := by decide +kernel
theorem dX5_go_34 : decode cX5_go 34 = .ok (.iaload, 1) := by decide +kernel
theorem dX5_go_35 : decode cX5_go 35 = .ok (.bipush 20, 2) := by decide +kernel
theorem dX5_go_37 : decode cX5_go 37 = .ok (.if_icmp .ge 14, 3) := by decide +kernel
theorem dX5_go_40 : decode cX5_go 40 = .ok (.aload_n 0, 1) := by decide +kernel
theorem dX5_go_41 : decode cX5_go 41 = .ok (.iload_n 3, 1) := by decide +kernel
theorem dX5_go_42 : decode cX5_go 42 = .ok (.invokevirtual 50, 3) := by decide +kernel
theorem dX5_go_45 : decode cX5_go 45 = .ok (.ifCond .eq 6, 3) := by decide +kernel
theorem dX5_go_48 : decode cX5_go 48 = .ok (.goto 80, 3) := by decide +kernel
theorem dX5_go_51 : decode cX5_go 51 = .ok (.aload_n 0, 1) := by decide +kernel
theorem dX5_go_52 : decode cX5_go 52 = .ok (.getfield 15, 3) := by decide +kernel
theorem dX5_go_55 : decode cX5_go 55 = .ok (.iload_n 3, 1) := by decide +kernel
theorem dX5_go_56 : decode cX5_go 56 = .ok (.dup2, 1) := by decide +kernel
theorem dX5_go_57 : decode cX5_go 57 = .ok (.iaload, 1) := by decide +kernel
theorem dX5_go_58 : decode cX5_go 58 = .ok (.iconst 1, 1) := by decide +kernel
theorem dX5_go_59 : decode cX5_go 59 = .ok (.iadd, 1) := by decide +kernel
theorem dX5_go_60 : decode cX5_go 60 = .ok (.iastore, 1) := by decide +kernel
theorem dX5_go_61 : decode cX5_go 61 = .ok (.aload_n 0, 1) := by decide +kernel
theorem dX5_go_62 : decode cX5_go 62 = .ok (.getfield 25, 3) := by decide +kernel
theorem dX5_go_65 : decode cX5_go 65 = .ok (.arraylength, 1) := by decide +kernel
theorem dX5_go_66 : decode cX5_go 66 = .ok (.iconst 2, 1) := by decide +kernel
theorem dX5_go_67 : decode cX5_go 67 = .ok (.iadd, 1) := by decide +kernel
theorem dX5_go_68 : decode cX5_go 68 = .ok (.newarray .int, 2) := by decide +kernel
theorem dX5_go_70 : decode cX5_go 70 = .ok (.astore 4, 2) := by decide +kernel
theorem dX5_go_72 : decode cX5_go 72 = .ok (.aload 4, 2) := by decide +kernel
theorem dX5_go_74 : decode cX5_go 74 = .ok (.iconst 0, 1) := by decide +kernel
theorem dX5_go_75 : decode cX5_go 75 = .ok (.aload_n 0, 1) := by decide +kernel
theorem dX5_go_76 : decode cX5_go 76 = .ok (.getfield 15, 3) := by decide +kernel
theorem dX5_go_79 : decode cX5_go 79 = .ok (.iload_n 3, 1) := by decide +kernel
theorem dX5_go_80 : decode cX5_go 80 = .ok (.iaload, 1) := by decide +kernel
theorem dX5_go_81 : decode cX5_go 81 = .ok (.iastore, 1) := by decide +kernel
theorem dX5_go_82 : decode cX5_go 82 = .ok (.iconst 0, 1) := by decide +kernel
theorem dX5_go_83 : decode cX5_go 83 = .ok (.istore 5, 2) := by decide +kernel
theorem dX5_go_85 : decode cX5_go 85 = .ok (.iload 5, 2) := by decide +kernel
theorem dX5_go_87 : decode cX5_go 87 = .ok (.aload_n 0, 1) := by decide +kernel
theorem dX5_go_88 : decode cX5_go 88 = .ok (.getfield 25, 3) := by decide +kernel
theorem dX5_go_91 : decode cX5_go 91 = .ok (.arraylength, 1) := by decide +kernel
theorem dX5_go_92 : decode cX5_go 92 = .ok (.if_icmp .ge 23, 3) := by decide +kernel
theorem dX5_go_95 : decode cX5_go 95 = .ok (.aload 4, 2) := by decide +kernel
theorem dX5_go_97 : decode cX5_go 97 = .ok (.iload 5, 2) := by decide +kernel
theorem dX5_go_99 : decode cX5_go 99 = .ok (.iconst 2, 1) := by decide +kernel
theorem dX5_go_100 : decode cX5_go 100 = .ok (.iadd, 1) := by decide +kernel
theorem dX5_go_101 : decode cX5_go 101 = .ok (.aload_n 0, 1) := by decide +kernel
theorem dX5_go_102 : decode cX5_go 102 = .ok (.iload_n 3, 1) := by decide +kernel
theorem dX5_go_103 : decode cX5_go 103 = .ok (.iload 5, 2) := by decide +kernel
theorem dX5_go_105 : decode cX5_go 105 = .ok (.invokevirtual 46, 3) := by decide +kernel
theorem dX5_go_108 : decode cX5_go 108 = .ok (.iastore, 1) := by decide +kernel
theorem dX5_go_109 : decode cX5_go 109 = .ok (.iinc 5 1, 3) := by decide +kernel
theorem dX5_go_112 : decode cX5_go 112 = .ok (.goto (-27), 3) := by decide +kernel
theorem dX5_go_115 : decode cX5_go 115 = .ok (.aload_n 0, 1) := by decide +kernel
theorem dX5_go_116 : decode cX5_go 116 = .ok (.getfield 20, 3) := by decide +kernel
theorem dX5_go_119 : decode cX5_go 119 = .ok (.iload_n 3, 1) := by decide +kernel
theorem dX5_go_120 : decode cX5_go 120 = .ok (.aaload, 1) := by decide +kernel
theorem dX5_go_121 : decode cX5_go 121 = .ok (.iload_n 3, 1) := by decide +kernel
theorem dX5_go_122 : decode cX5_go 122 = .ok (.aload 4, 2) := by decide +kernel
theorem dX5_go_124 : decode cX5_go 124 = .ok (.aastore, 1) := by decide +kernel
theorem dX5_go_125 : decode cX5_go 125 = .ok (.iinc 1 1, 3) := by decide +kernel
theorem dX5_go_128 : decode cX5_go 128 = .ok (.iinc 3 1, 3) := by decide +kernel
theorem dX5_go_131 : decode cX5_go 131 = .ok (.goto (-121), 3) := by decide +kernel
theorem dX5_go_134 : decode cX5_go 134 = .ok (.iload_n 2, 1) := by decide +kernel
theorem dX5_go_135 : decode cX5_go 135 = .ok (.iload_n 2, 1) := by decide +kernel
theorem dX5_go_136 : decode cX5_go 136 = .ok (.multianewarray 41 2, 4) := by decide +kernel
theorem dX5_go_140 : decode cX5_go 140 = .ok (.astore_n 3, 1) := by decide +kernel
theorem dX5_go_141 : decode cX5_go 141 = .ok (.iconst 0, 1) := by decide +kernel
theorem dX5_go_142 : decode cX5_go 142 = .ok (.istore 4, 2) := by decide +kernel
theorem dX5_go_144 : decode cX5_go 144 = .ok (.iload 4, 2) := by decide +kernel
theorem dX5_go_146 : decode cX5_go 146 = .ok (.iload_n 2, 1) := by decide +kernel
theorem dX5_go_147 : decode cX5_go 147 = .ok (.if_icmp .ge 236, 3) := by decide +kernel
theorem dX5_go_150 : decode cX5_go 150 = .ok (.iconst 0, 1) := by decide +kernel
theorem dX5_go_151 : decode cX5_go 151 = .ok (.istore 5, 2) := by decide +kernel
theorem dX5_go_153 : decode cX5_go 153 = .ok (.iload 5, 2) := by decide +kernel
theorem dX5_go_155 : decode cX5_go 155 = .ok (.iload_n 2, 1) := by decide +kernel
theorem dX5_go_156 : decode cX5_go 156 = .ok (.if_icmp .ge 221, 3) := by decide +kernel
theorem dX5_go_159 : decode cX5_go 159 = .ok (.aload_n 0, 1) := by decide +kernel
theorem dX5_go_160 : decode cX5_go 160 = .ok (.getfield 20, 3) := by decide +kernel
theorem dX5_go_163 : decode cX5_go 163 = .ok (.iload 4, 2) := by decide +kernel
theorem dX5_go_165 : decode cX5_go 165 = .ok (.aaload, 1) := by decide +kernel
theorem dX5_go_166 : decode cX5_go 166 = .ok (.iload 5, 2) := by decide +kernel
theorem dX5_go_168 : decode cX5_go 168 = .ok (.aaload, 1) := by decide +kernel
theorem dX5_go_169 : decode cX5_go 169 = .ok (.astore 6, 2) := by decide +kernel
theorem dX5_go_171 : decode cX5_go 171 = .ok (.aload_n 0, 1) := by decide +kernel
theorem dX5_go_172 : decode cX5_go 172 = .ok (.getfield 25, 3) := by decide +kernel
theorem dX5_go_175 : decode cX5_go 175 = .ok (.astore 7, 2) := by decide +kernel
theorem dX5_go_177 : decode cX5_go 177 = .ok (.aload 7, 2) := by decide +kernel
theorem dX5_go_179 : decode cX5_go 179 = .ok (.arraylength, 1) := by decide +kernel
theorem dX5_go_180 : decode cX5_go 180 = .ok (.istore 8, 2) := by decide +kernel
theorem dX5_go_182 : decode cX5_go 182 = .ok (.iconst 0, 1) := by decide +kernel
theorem dX5_go_183 : decode cX5_go 183 = .ok (.istore 9, 2) := by decide +kernel
theorem dX5_go_185 : decode cX5_go 185 = .ok (.iload 9, 2) := by decide +kernel
theorem dX5_go_187 : decode cX5_go 187 = .ok (.iload 8, 2) := by decide +kernel
theorem dX5_go_189 : decode cX5_go 189 = .ok (.if_icmp .ge 167, 3) := by decide +kernel
theorem dX5_go_192 : decode cX5_go 192 = .ok (.aload 7, 2) := by decide +kernel
theorem dX5_go_194 : decode cX5_go 194 = .ok (.iload 9, 2) := by decide +kernel
theorem dX5_go_196 : decode cX5_go 196 = .ok (.aaload, 1) := by decide +kernel
theorem dX5_go_197 : decode cX5_go 197 = .ok (.astore 10, 2) := by decide +kernel
theorem dX5_go_199 : decode cX5_go 199 = .ok (.aload 10, 2) := by decide +kernel
theorem dX5_go_201 : decode cX5_go 201 = .ok (.iconst 3, 1) := by decide +kernel
theorem dX5_go_202 : decode cX5_go 202 = .ok (.iaload, 1) := by decide +kernel
theorem dX5_go_203 : decode cX5_go 203 = .ok (.ifCond .eq 147, 3) := by decide +kernel
theorem dX5_go_206 : decode cX5_go 206 = .ok (.aload 10, 2) := by decide +kernel
theorem dX5_go_208 : decode cX5_go 208 = .ok (.iconst 0, 1) := by decide +kernel
theorem dX5_go_209 : decode cX5_go 209 = .ok (.iaload, 1) := by decide +kernel
theorem dX5_go_210 : decode cX5_go 210 = .ok (.iload 4, 2) := by decide +kernel
theorem dX5_go_212 : decode cX5_go 212 = .ok (.if_icmp .eq 12, 3) := by decide +kernel
theorem dX5_go_215 : decode cX5_go 215 = .ok (.aload 10, 2) := by decide +kernel
theorem dX5_go_217 : decode cX5_go 217 = .ok (.iconst 1, 1) := by decide +kernel
theorem dX5_go_218 : decode cX5_go 218 = .ok (.iaload, 1) := by decide +kernel
theorem dX5_go_219 : decode cX5_go 219 = .ok (.iload 4, 2) := by decide +kernel
theorem dX5_go_221 : decode cX5_go 221 = .ok (.if_icmp .ne 129, 3) := by decide +kernel
theorem dX5_go_224 : decode cX5_go 224 = .ok (.iload 4, 2) := by decide +kernel
theorem dX5_go_226 : decode cX5_go 226 = .ok (.iload 5, 2) := by decide +kernel
theorem dX5_go_228 : decode cX5_go 228 = .ok (.if_icmp .eq 122, 3) := by decide +kernel
theorem dX5_go_231 : decode cX5_go 231 = .ok (.aload_n 0, 1) := by decide +kernel
theorem dX5_go_232 : decode cX5_go 232 = .ok (.getfield 9, 3) := by decide +kernel
theorem dX5_go_235 : decode cX5_go 235 = .ok (.iload 4, 2) := by decide +kernel
theorem dX5_go_237 : decode cX5_go 237 = .ok (.iaload, 1) := by decide +kernel
theorem dX5_go_238 : decode cX5_go 238 = .ok (.ifCond .eq 33, 3) := by decide +kernel
theorem dX5_go_241 : decode cX5_go 241 = .ok (.aload_n 0, 1) := by decide +kernel
theorem dX5_go_242 : decode cX5_go 242 = .ok (.getfield 9, 3) := by decide +kernel
theorem dX5_go_245 : decode cX5_go 245 = .ok (.iload 5, 2) := by decide +kernel
theorem dX5_go_247 : decode cX5_go 247 = .ok (.iaload, 1) := by decide +kernel
theorem dX5_go_248 : decode cX5_go 248 = .ok (.ifCond .eq 23, 3) := by decide +kernel
theorem dX5_go_251 : decode cX5_go 251 = .ok (.aload_n 0, 1) := by decide +kernel
theorem dX5_go_252 : decode cX5_go 252 = .ok (.getfield 9, 3) := by decide +kernel
theorem dX5_go_255 : decode cX5_go 255 = .ok (.iload 4, 2) := by decide +kernel
theorem dX5_go_257 : decode cX5_go 257 = .ok (.iaload, 1) := by decide +kernel
theorem dX5_go_258 : decode cX5_go 258 = .ok (.aload_n 0, 1) := by decide +kernel
theorem dX5_go_259 : decode cX5_go 259 = .ok (.getfield 9, 3) := by decide +kernel
theorem dX5_go_262 : decode cX5_go 262 = .ok (.iload 5, 2) := by decide +kernel
theorem dX5_go_264 : decode cX5_go 264 = .ok (.iaload, 1) := by decide +kernel
theorem dX5_go_265 : decode cX5_go 265 = .ok (.if_icmp .eq 6, 3) := by decide +kernel
theorem dX5_go_268 : decode cX5_go 268 = .ok (.goto 82, 3) := by decide +kernel
theorem dX5_go_271 : decode cX5_go 271 = .ok (.aload_n 0, 1) := by decide +kernel
theorem dX5_go_272 : decode cX5_go 272 = .ok (.getfield 20, 3) := by decide +kernel
theorem dX5_go_275 : decode cX5_go 275 = .ok (.aload 10, 2) := by decide +kernel
theorem dX5_go_277 : decode cX5_go 277 = .ok (.iconst 0, 1) := by decide +kernel
theorem dX5_go_278 : decode cX5_go 278 = .ok (.iaload, 1) := by decide +kernel
theorem dX5_go_279 : decode cX5_go 279 = .ok (.iload 4, 2) := by decide +kernel
theorem dX5_go_281 : decode cX5_go 281 = .ok (.if_icmp .ne 10, 3) := by decide +kernel
theorem dX5_go_284 : decode cX5_go 284 = .ok (.aload 10, 2) := by decide +kernel
theorem dX5_go_286 : decode cX5_go 286 = .ok (.iconst 1, 1) := by decide +kernel
theorem dX5_go_287 : decode cX5_go 287 = .ok (.iaload, 1) := by decide +kernel
theorem dX5_go_288 : decode cX5_go 288 = .ok (.goto 7, 3) := by decide +kernel
theorem dX5_go_291 : decode cX5_go 291 = .ok (.aload 10, 2) := by decide +kernel
theorem dX5_go_293 : decode cX5_go 293 = .ok (.iconst 0, 1) := by decide +kernel
theorem dX5_go_294 : decode cX5_go 294 = .ok (.iaload, 1) := by decide +kernel
theorem dX5_go_295 : decode cX5_go 295 = .ok (.aaload, 1) := by decide +kernel
theorem dX5_go_296 : decode cX5_go 296 = .ok (.iload 5, 2) := by decide +kernel
theorem dX5_go_298 : decode cX5_go 298 = .ok (.aaload, 1) := by decide +kernel
theorem dX5_go_299 : decode cX5_go 299 = .ok (.astore 11, 2) := by decide +kernel
theorem dX5_go_301 : decode cX5_go 301 = .ok (.aload 11, 2) := by decide +kernel
theorem dX5_go_303 : decode cX5_go 303 = .ok (.arraylength, 1) := by decide +kernel
theorem dX5_go_304 : decode cX5_go 304 = .ok (.ifCond .le 46, 3) := by decide +kernel
theorem dX5_go_307 : decode cX5_go 307 = .ok (.aload 6, 2) := by decide +kernel
theorem dX5_go_309 : decode cX5_go 309 = .ok (.arraylength, 1) := by decide +kernel
theorem dX5_go_310 : decode cX5_go 310 = .ok (.ifCond .eq 36, 3) := by decide +kernel
theorem dX5_go_313 : decode cX5_go 313 = .ok (.aload 11, 2) := by decide +kernel
theorem dX5_go_315 : decode cX5_go 315 = .ok (.iconst 0, 1) := by decide +kernel
theorem dX5_go_316 : decode cX5_go 316 = .ok (.iaload, 1) := by decide +kernel
theorem dX5_go_317 : decode cX5_go 317 = .ok (.aload 6, 2) := by decide +kernel
theorem dX5_go_319 : decode cX5_go 319 = .ok (.iconst 0, 1) := by decide +kernel
theorem dX5_go_320 : decode cX5_go 320 = .ok (.iaload, 1) := by decide +kernel
theorem dX5_go_321 : decode cX5_go 321 = .ok (.if_icmp .gt 25, 3) := by decide +kernel
theorem dX5_go_324 : decode cX5_go 324 = .ok (.aload 11, 2) := by decide +kernel
theorem dX5_go_326 : decode cX5_go 326 = .ok (.iconst 0, 1) := by decide +kernel
theorem dX5_go_327 : decode cX5_go 327 = .ok (.iaload, 1) := by decide +kernel
theorem dX5_go_328 : decode cX5_go 328 = .ok (.aload 6, 2) := by decide +kernel
theorem dX5_go_330 : decode cX5_go 330 = .ok (.iconst 0, 1) := by decide +kernel
theorem dX5_go_331 : decode cX5_go 331 = .ok (.iaload, 1) := by decide +kernel
theorem dX5_go_332 : decode cX5_go 332 = .ok (.if_icmp .ne 18, 3) := by decide +kernel
theorem dX5_go_335 : decode cX5_go 335 = .ok (.aload 11, 2) := by decide +kernel
theorem dX5_go_337 : decode cX5_go 337 = .ok (.iconst 1, 1) := by decide +kernel
theorem dX5_go_338 : decode cX5_go 338 = .ok (.iaload, 1) := by decide +kernel
theorem dX5_go_339 : decode cX5_go 339 = .ok (.aload 6, 2) := by decide +kernel
theorem dX5_go_341 : decode cX5_go 341 = .ok (.iconst 1, 1) := by decide +kernel
theorem dX5_go_342 : decode cX5_go 342 = .ok (.iaload, 1) := by decide +kernel
theorem dX5_go_343 : decode cX5_go 343 = .ok (.if_icmp .ge 7, 3) := by decide +kernel
theorem dX5_go_346 : decode cX5_go 346 = .ok (.aload 11, 2) := by decide +kernel
theorem dX5_go_348 : decode cX5_go 348 = .ok (.astore 6, 2) := by decide +kernel
theorem dX5_go_350 : decode cX5_go 350 = .ok (.iinc 9 1, 3) := by decide +kernel
theorem dX5_go_353 : decode cX5_go 353 = .ok (.goto (-168), 3) := by decide +kernel
theorem dX5_go_356 : decode cX5_go 356 = .ok (.aload_n 3, 1) := by decide +kernel
theorem dX5_go_357 : decode cX5_go 357 = .ok (.iload 4, 2) := by decide +kernel
theorem dX5_go_359 : decode cX5_go 359 = .ok (.aaload, 1) := by decide +kernel
theorem dX5_go_360 : decode cX5_go 360 = .ok (.iload 5, 2) := by decide +kernel
theorem dX5_go_362 : decode cX5_go 362 = .ok (.aload 6, 2) := by decide +kernel
theorem dX5_go_364 : decode cX5_go 364 = .ok (.invokevirtual 33, 3) := by decide +kernel
theorem dX5_go_367 : decode cX5_go 367 = .ok (.checkcast 24, 3) := by decide +kernel
theorem dX5_go_370 : decode cX5_go 370 = .ok (.aastore, 1) := by decide +kernel
theorem dX5_go_371 : decode cX5_go 371 = .ok (.iinc 5 1, 3) := by decide +kernel
theorem dX5_go_374 : decode cX5_go 374 = .ok (.goto (-221), 3) := by decide +kernel
theorem dX5_go_377 : decode cX5_go 377 = .ok (.iinc 4 1, 3) := by decide +kernel
theorem dX5_go_380 : decode cX5_go 380 = .ok (.goto (-236), 3) := by decide +kernel
theorem dX5_go_383 : decode cX5_go 383 = .ok (.iconst 0, 1) := by decide +kernel
theorem dX5_go_384 : decode cX5_go 384 = .ok (.istore 4, 2) := by decide +kernel
theorem dX5_go_386 : decode cX5_go 386 = .ok (.iload 4, 2) := by decide +kernel
theorem dX5_go_388 : decode cX5_go 388 = .ok (.iload_n 2, 1) := by decide +kernel
theorem dX5_go_389 : decode cX5_go 389 = .ok (.if_icmp .ge 75, 3) := by decide +kernel
theorem dX5_go_392 : decode cX5_go 392 = .ok (.iconst 0, 1) := by decide +kernel
theorem dX5_go_393 : decode cX5_go 393 = .ok (.istore 5, 2) := by decide +kernel
theorem dX5_go_395 : decode cX5_go 395 = .ok (.iload 5, 2) := by decide +kernel
theorem dX5_go_397 : decode cX5_go 397 = .ok (.iload_n 2, 1) := by decide +kernel
theorem dX5_go_398 : decode cX5_go 398 = .ok (.if_icmp .ge 60, 3) := by decide +kernel
theorem dX5_go_401 : decode cX5_go 401 = .ok (.aload_n 3, 1) := by decide +kernel
theorem dX5_go_402 : decode cX5_go 402 = .ok (.iload 4, 2) := by decide +kernel
theorem dX5_go_404 : decode cX5_go 404 = .ok (.aaload, 1) := by decide +kernel
theorem dX5_go_405 : decode cX5_go 405 = .ok (.iload 5, 2) := by decide +kernel
theorem dX5_go_407 : decode cX5_go 407 = .ok (.aaload, 1) := by decide +kernel
theorem dX5_go_408 : decode cX5_go 408 = .ok (.arraylength, 1) := by decide +kernel
theorem dX5_go_409 : decode cX5_go 409 = .ok (.ifCond .ne 6, 3) := by decide +kernel
theorem dX5_go_412 : decode cX5_go 412 = .ok (.goto 40, 3) := by decide +kernel
theorem dX5_go_415 : decode cX5_go 415 = .ok (.aload_n 3, 1) := by decide +kernel
theorem dX5_go_416 : decode cX5_go 416 = .ok (.iload 4, 2) := by decide +kernel
theorem dX5_go_418 : decode cX5_go 418 = .ok (.aaload, 1) := by decide +kernel
theorem dX5_go_419 : decode cX5_go 419 = .ok (.iload 5, 2) := by decide +kernel
theorem dX5_go_421 : decode cX5_go 421 = .ok (.aaload, 1) := by decide +kernel
theorem dX5_go_422 : decode cX5_go 422 = .ok (.iconst 1, 1) := by decide +kernel
theorem dX5_go_423 : decode cX5_go 423 = .ok (.dup2, 1) := by decide +kernel
theorem dX5_go_424 : decode cX5_go 424 = .ok (.iaload, 1) := by decide +kernel
theorem dX5_go_425 : decode cX5_go 425 = .ok (.iconst 1, 1) := by decide +kernel
theorem dX5_go_426 : decode cX5_go 426 = .ok (.iadd, 1) := by decide +kernel
theorem dX5_go_427 : decode cX5_go 427 = .ok (.iastore, 1) := by decide +kernel
theorem dX5_go_428 : decode cX5_go 428 = .ok (.aload_n 3, 1) := by decide +kernel
theorem dX5_go_429 : decode cX5_go 429 = .ok (.iload 4, 2) := by decide +kernel
theorem dX5_go_431 : decode cX5_go 431 = .ok (.aaload, 1) := by decide +kernel
theorem dX5_go_432 : decode cX5_go 432 = .ok (.iload 5, 2) := by decide +kernel
theorem dX5_go_434 : decode cX5_go 434 = .ok (.aaload, 1) := by decide +kernel
theorem dX5_go_435 : decode cX5_go 435 = .ok (.iconst 1, 1) := by decide +kernel
theorem dX5_go_436 : decode cX5_go 436 = .ok (.iaload, 1) := by decide +kernel
theorem dX5_go_437 : decode cX5_go 437 = .ok (.bipush 30, 2) := by decide +kernel
theorem dX5_go_439 : decode cX5_go 439 = .ok (.if_icmp .le 13, 3) := by decide +kernel
theorem dX5_go_442 : decode cX5_go 442 = .ok (.aload_n 3, 1) := by decide +kernel
theorem dX5_go_443 : decode cX5_go 443 = .ok (.iload 4, 2) := by decide +kernel
theorem dX5_go_445 : decode cX5_go 445 = .ok (.aaload, 1) := by decide +kernel
theorem dX5_go_446 : decode cX5_go 446 = .ok (.iload 5, 2) := by decide +kernel
theorem dX5_go_448 : decode cX5_go 448 = .ok (.iconst 0, 1) := by decide +kernel
theorem dX5_go_449 : decode cX5_go 449 = .ok (.newarray .int, 2) := by decide +kernel
theorem dX5_go_451 : decode cX5_go 451 = .ok (.aastore, 1) := by decide +kernel
theorem dX5_go_452 : decode cX5_go 452 = .ok (.iinc 5 1, 3) := by decide +kernel
theorem dX5_go_455 : decode cX5_go 455 = .ok (.goto (-60), 3) := by decide +kernel
theorem dX5_go_458 : decode cX5_go 458 = .ok (.iinc 4 1, 3) := by decide +kernel
theorem dX5_go_461 : decode cX5_go 461 = .ok (.goto (-75), 3) := by decide +kernel
theorem dX5_go_464 : decode cX5_go 464 = .ok (.aload_n 0, 1) := by decide +kernel
theorem dX5_go_465 : decode cX5_go 465 = .ok (.aload_n 3, 1) := by decide +kernel
theorem dX5_go_466 : decode cX5_go 466 = .ok (.putfield 20, 3) := by decide +kernel
theorem dX5_go_469 : decode cX5_go 469 = .ok (.aload_n 0, 1) := by decide +kernel
theorem dX5_go_470 : decode cX5_go 470 = .ok (.dup, 1) := by decide +kernel
theorem dX5_go_471 : decode cX5_go 471 = .ok (.getfield 29, 3) := by decide +kernel
theorem dX5_go_474 : decode cX5_go 474 = .ok (.iconst 1, 1) := by decide +kernel
theorem dX5_go_475 : decode cX5_go 475 = .ok (.iadd, 1) := by decide +kernel
theorem dX5_go_476 : decode cX5_go 476 = .ok (.putfield 29, 3) := by decide +kernel
theorem dX5_go_479 : decode cX5_go 479 = .ok (.iload_n 1, 1) := by decide +kernel
theorem dX5_go_480 : decode cX5_go 480 = .ok (.ireturn, 1) := by decide +kernel
set_option maxRecDepth 20000 in
theorem ggX5_takes_X5_told : GoodIn wsX5_takes wsX5_told := goodIn_r _ [6] (by decide +kernel) (by decide +kernel)
set_option maxRecDepth 20000 in
theorem gX5_takes_X5_told : GoodIn wsX5_takes (va_wsS RX5 42 yX5_told wsX5_told) := goodIn_app (goodIn_of _ (by decide +kernel)) ggX5_takes_X5_told
theorem dX5_takes_0 : decode cX5_takes 0 = .ok (.aload_n 0, 1) := by decide +kernel
theorem dX5_takes_1 : decode cX5_takes 1 = .ok (.getfield 20, 3) := by decide +kernel
theorem dX5_takes_4 : decode cX5_takes 4 = .ok (.iload_n 1, 1) := by decide +kernel
theorem dX5_takes_5 : decode cX5_takes 5 = .ok (.aaload, 1) := by decide +kernel
theorem dX5_takes_6 : decode cX5_takes 6 = .ok (.aload_n 0, 1) := by decide +kernel
theorem dX5_takes_7 : decode cX5_takes 7 = .ok (.getfield 25, 3) := by decide +kernel
theorem dX5_takes_10 : decode cX5_takes 10 = .ok (.iload_n 2, 1) := by decide +kernel
theorem dX5_takes_11 : decode cX5_takes 11 = .ok (.aaload, 1) := by decide +kernel
theorem dX5_takes_12 : decode cX5_takes 12 = .ok (.iconst 0, 1) := by decide +kernel
theorem dX5_takes_13 : decode cX5_takes 13 = .ok (.iaload, 1) := by decide +kernel
theorem dX5_takes_14 : decode cX5_takes 14 = .ok (.aaload, 1) := by decide +kernel
theorem dX5_takes_15 : decode cX5_takes 15 = .ok (.iload_n 2, 1) := by decide +kernel
theorem dX5_takes_16 : decode cX5_takes 16 = .ok (.invokestatic 42, 3) := by decide +kernel
theorem dX5_takes_19 : decode cX5_takes 19 = .ok (.ifCond .le 29, 3) := by decide +kernel
theorem dX5_takes_22 : decode cX5_takes 22 = .ok (.aload_n 0, 1) := by decide +kernel
theorem dX5_takes_23 : decode cX5_takes 23 = .ok (.getfield 20, 3) := by decide +kernel
theorem dX5_takes_26 : decode cX5_takes 26 = .ok (.iload_n 1, 1) := by decide +kernel
theorem dX5_takes_27 : decode cX5_takes 27 = .ok (.aaload, 1) := by decide +kernel
theorem dX5_takes_28 : decode cX5_takes 28 = .ok (.aload_n 0, 1) := by decide +kernel
theorem dX5_takes_29 : decode cX5_takes 29 = .ok (.getfield 25, 3) := by decide +kernel
theorem dX5_takes_32 : decode cX5_takes 32 = .ok (.iload_n 2, 1) := by decide +kernel
theorem dX5_takes_33 : decode cX5_takes 33 = .ok (.aaload, 1) := by decide +kernel
theorem dX5_takes_34 : decode cX5_takes 34 = .ok (.iconst 1, 1) := by decide +kernel
theorem dX5_takes_35 : decode cX5_takes 35 = .ok (.iaload, 1) := by decide +kernel
theorem dX5_takes_36 : decode cX5_takes 36 = .ok (.aaload, 1) := by decide +kernel
theorem dX5_takes_37 : decode cX5_takes 37 = .ok (.iload_n 2, 1) := by decide +kernel
theorem dX5_takes_38 : decode cX5_takes 38 = .ok (.invokestatic 42, 3) := by decide +kernel
theorem dX5_takes_41 : decode cX5_takes 41 = .ok (.ifCond .le 7, 3) := by decide +kernel
theorem dX5_takes_44 : decode cX5_takes 44 = .ok (.iconst 1, 1) := by decide +kernel
theorem dX5_takes_45 : decode cX5_takes 45 = .ok (.goto 4, 3) := by decide +kernel
theorem dX5_takes_48 : decode cX5_takes 48 = .ok (.iconst 0, 1) := by decide +kernel
theorem dX5_takes_49 : decode cX5_takes 49 = .ok (.ireturn, 1) := by decide +kernel
set_option maxRecDepth 20000 in
theorem ggX5_far_X5_step : GoodIn wsX5_far wsX5_step := goodIn_r _ [13, 4, 3, 14, 15, 16, 17, 12, 18, 19, 20, 21, 22, 23, 24, 25, 26] (by decide +kernel) (by decide +kernel)
set_option maxRecDepth 20000 in
theorem gX5_far_X5_step : GoodIn wsX5_far (wsV RX5 55 RX5 yX5_step wsX5_step) := goodIn_app (goodIn_of _ (by decide +kernel)) ggX5_far_X5_step
theorem dX5_far_0 : decode cX5_far 0 = .ok (.aload_n 0, 1) := by decide +kernel
theorem dX5_far_1 : decode cX5_far 1 = .ok (.getfield 9, 3) := by decide +kernel
theorem dX5_far_4 : decode cX5_far 4 = .ok (.arraylength, 1) := by decide +kernel
theorem dX5_far_5 : decode cX5_far 5 = .ok (.newarray .int, 2) := by decide +kernel
theorem dX5_far_7 : decode cX5_far 7 = .ok (.astore_n 3, 1) := by decide +kernel
theorem dX5_far_8 : decode cX5_far 8 = .ok (.iconst 0, 1) := by decide +kernel
theorem dX5_far_9 : decode cX5_far 9 = .ok (.istore 4, 2) := by decide +kernel
theorem dX5_far_11 : decode cX5_far 11 = .ok (.iload 4, 2) := by decide +kernel
theorem dX5_far_13 : decode cX5_far 13 = .ok (.aload_n 3, 1) := by decide +kernel
theorem dX5_far_14 : decode cX5_far 14 = .ok (.arraylength, 1) := by decide +kernel
theorem dX5_far_15 : decode cX5_far 15 = .ok (.if_icmp .ge 25, 3) := by decide +kernel
theorem dX5_far_18 : decode cX5_far 18 = .ok (.aload_n 3, 1) := by decide +kernel
theorem dX5_far_19 : decode cX5_far 19 = .ok (.iload 4, 2) := by decide +kernel
theorem dX5_far_21 : decode cX5_far 21 = .ok (.iload 4, 2) := by decide +kernel
theorem dX5_far_23 : decode cX5_far 23 = .ok (.iload_n 2, 1) := by decide +kernel
theorem dX5_far_24 : decode cX5_far 24 = .ok (.if_icmp .ne 7, 3) := by decide +kernel
theorem dX5_far_27 : decode cX5_far 27 = .ok (.iconst 0, 1) := by decide +kernel
theorem dX5_far_28 : decode cX5_far 28 = .ok (.goto 5, 3) := by decide +kernel
theorem dX5_far_31 : decode cX5_far 31 = .ok (.ldc 54, 2) := by decide +kernel
theorem dX5_far_33 : decode cX5_far 33 = .ok (.iastore, 1) := by decide +kernel
theorem dX5_far_34 : decode cX5_far 34 = .ok (.iinc 4 1, 3) := by decide +kernel
theorem dX5_far_37 : decode cX5_far 37 = .ok (.goto (-26), 3) := by decide +kernel
theorem dX5_far_40 : decode cX5_far 40 = .ok (.iconst 0, 1) := by decide +kernel
theorem dX5_far_41 : decode cX5_far 41 = .ok (.istore 4, 2) := by decide +kernel
theorem dX5_far_43 : decode cX5_far 43 = .ok (.iload 4, 2) := by decide +kernel
theorem dX5_far_45 : decode cX5_far 45 = .ok (.aload_n 3, 1) := by decide +kernel
theorem dX5_far_46 : decode cX5_far 46 = .ok (.arraylength, 1) := by decide +kernel
theorem dX5_far_47 : decode cX5_far 47 = .ok (.if_icmp .ge 90, 3) := by decide +kernel
theorem dX5_far_50 : decode cX5_far 50 = .ok (.iconst 0, 1) := by decide +kernel
theorem dX5_far_51 : decode cX5_far 51 = .ok (.istore 5, 2) := by decide +kernel
theorem dX5_far_53 : decode cX5_far 53 = .ok (.iload 5, 2) := by decide +kernel
theorem dX5_far_55 : decode cX5_far 55 = .ok (.aload_n 0, 1) := by decide +kernel
theorem dX5_far_56 : decode cX5_far 56 = .ok (.getfield 25, 3) := by decide +kernel
theorem dX5_far_59 : decode cX5_far 59 = .ok (.arraylength, 1) := by decide +kernel
theorem dX5_far_60 : decode cX5_far 60 = .ok (.if_icmp .ge 71, 3) := by decide +kernel
theorem dX5_far_63 : decode cX5_far 63 = .ok (.iconst 0, 1) := by decide +kernel
theorem dX5_far_64 : decode cX5_far 64 = .ok (.istore 6, 2) := by decide +kernel
theorem dX5_far_66 : decode cX5_far 66 = .ok (.iload 6, 2) := by decide +kernel
theorem dX5_far_68 : decode cX5_far 68 = .ok (.iconst 2, 1) := by decide +kernel
theorem dX5_far_69 : decode cX5_far 69 = .ok (.if_icmp .ge 56, 3) := by decide +kernel
theorem dX5_far_72 : decode cX5_far 72 = .ok (.aload_n 0, 1) := by decide +kernel
theorem dX5_far_73 : decode cX5_far 73 = .ok (.getfield 25, 3) := by decide +kernel
theorem dX5_far_76 : decode cX5_far 76 = .ok (.iload 5, 2) := by decide +kernel
theorem dX5_far_78 : decode cX5_far 78 = .ok (.aaload, 1) := by decide +kernel
theorem dX5_far_79 : decode cX5_far 79 = .ok (.iload 6, 2) := by decide +kernel
theorem dX5_far_81 : decode cX5_far 81 = .ok (.iaload, 1) := by decide +kernel
theorem dX5_far_82 : decode cX5_far 82 = .ok (.istore 7, 2) := by decide +kernel
theorem dX5_far_84 : decode cX5_far 84 = .ok (.aload_n 3, 1) := by decide +kernel
theorem dX5_far_85 : decode cX5_far 85 = .ok (.iload 7, 2) := by decide +kernel
theorem dX5_far_87 : decode cX5_far 87 = .ok (.aload_n 3, 1) := by decide +kernel
theorem dX5_far_88 : decode cX5_far 88 = .ok (.iload 7, 2) := by decide +kernel
theorem dX5_far_90 : decode cX5_far 90 = .ok (.iaload, 1) := by decide +kernel
theorem dX5_far_91 : decode cX5_far 91 = .ok (.aload_n 0, 1) := by decide +kernel
theorem dX5_far_92 : decode cX5_far 92 = .ok (.iload_n 1, 1) := by decide +kernel
theorem dX5_far_93 : decode cX5_far 93 = .ok (.iload 5, 2) := by decide +kernel
theorem dX5_far_95 : decode cX5_far 95 = .ok (.iload 6, 2) := by decide +kernel
theorem dX5_far_97 : decode cX5_far 97 = .ok (.invokevirtual 55, 3) := by decide +kernel
theorem dX5_far_100 : decode cX5_far 100 = .ok (.aload_n 3, 1) := by decide +kernel
theorem dX5_far_101 : decode cX5_far 101 = .ok (.aload_n 0, 1) := by decide +kernel
theorem dX5_far_102 : decode cX5_far 102 = .ok (.getfield 25, 3) := by decide +kernel
theorem dX5_far_105 : decode cX5_far 105 = .ok (.iload 5, 2) := by decide +kernel
theorem dX5_far_107 : decode cX5_far 107 = .ok (.aaload, 1) := by decide +kernel
theorem dX5_far_108 : decode cX5_far 108 = .ok (.iconst 1, 1) := by decide +kernel
theorem dX5_far_109 : decode cX5_far 109 = .ok (.iload 6, 2) := by decide +kernel
theorem dX5_far_111 : decode cX5_far 111 = .ok (.isub, 1) := by decide +kernel
theorem dX5_far_112 : decode cX5_far 112 = .ok (.iaload, 1) := by decide +kernel
theorem dX5_far_113 : decode cX5_far 113 = .ok (.iaload, 1) := by decide +kernel
theorem dX5_far_114 : decode cX5_far 114 = .ok (.iadd, 1) := by decide +kernel
theorem dX5_far_115 : decode cX5_far 115 = .ok (.invokestatic 59, 3) := by decide +kernel
theorem dX5_far_118 : decode cX5_far 118 = .ok (.iastore, 1) := by decide +kernel
theorem dX5_far_119 : decode cX5_far 119 = .ok (.iinc 6 1, 3) := by decide +kernel
theorem dX5_far_122 : decode cX5_far 122 = .ok (.goto (-56), 3) := by decide +kernel
theorem dX5_far_125 : decode cX5_far 125 = .ok (.iinc 5 1, 3) := by decide +kernel
theorem dX5_far_128 : decode cX5_far 128 = .ok (.goto (-75), 3) := by decide +kernel
theorem dX5_far_131 : decode cX5_far 131 = .ok (.iinc 4 1, 3) := by decide +kernel
theorem dX5_far_134 : decode cX5_far 134 = .ok (.goto (-91), 3) := by decide +kernel
theorem dX5_far_137 : decode cX5_far 137 = .ok (.iconst 0, 1) := by decide +kernel
theorem dX5_far_138 : decode cX5_far 138 = .ok (.istore 4, 2) := by decide +kernel
theorem dX5_far_140 : decode cX5_far 140 = .ok (.iload 4, 2) := by decide +kernel
theorem dX5_far_142 : decode cX5_far 142 = .ok (.aload_n 3, 1) := by decide +kernel
theorem dX5_far_143 : decode cX5_far 143 = .ok (.arraylength, 1) := by decide +kernel
theorem dX5_far_144 : decode cX5_far 144 = .ok (.if_icmp .ge 22, 3) := by decide +kernel
theorem dX5_far_147 : decode cX5_far 147 = .ok (.aload_n 3, 1) := by decide +kernel
theorem dX5_far_148 : decode cX5_far 148 = .ok (.iload 4, 2) := by decide +kernel
theorem dX5_far_150 : decode cX5_far 150 = .ok (.aload_n 3, 1) := by decide +kernel
theorem dX5_far_151 : decode cX5_far 151 = .ok (.iload 4, 2) := by decide +kernel
theorem dX5_far_153 : decode cX5_far 153 = .ok (.iaload, 1) := by decide +kernel
theorem dX5_far_154 : decode cX5_far 154 = .ok (.ldc 54, 2) := by decide +kernel
theorem dX5_far_156 : decode cX5_far 156 = .ok (.invokestatic 59, 3) := by decide +kernel
theorem dX5_far_159 : decode cX5_far 159 = .ok (.iastore, 1) := by decide +kernel
theorem dX5_far_160 : decode cX5_far 160 = .ok (.iinc 4 1, 3) := by decide +kernel
theorem dX5_far_163 : decode cX5_far 163 = .ok (.goto (-23), 3) := by decide +kernel
theorem dX5_far_166 : decode cX5_far 166 = .ok (.aload_n 3, 1) := by decide +kernel
theorem dX5_far_167 : decode cX5_far 167 = .ok (.areturn, 1) := by decide +kernel
set_option maxRecDepth 20000 in
theorem ggX5_step_X5_takes : GoodIn wsX5_step wsX5_takes := goodIn_r _ [8, 3, 1, 9, 10, 7, 11, 12, 13, 14, 15, 16] (by decide +kernel) (by decide +kernel)
set_option maxRecDepth 20000 in
theorem gX5_step_X5_takes : GoodIn wsX5_step (wsV RX5 64 RX5 yX5_takes wsX5_takes) := goodIn_app (goodIn_of _ (by decide +kernel)) ggX5_step_X5_takes
set_option maxRecDepth 20000 in
theorem ggX5_step_X5_told : GoodIn wsX5_step wsX5_told := goodIn_r _ [11] (by decide +kernel) (by decide +kernel)
set_option maxRecDepth 20000 in
theorem gX5_step_X5_told : GoodIn wsX5_step (va_wsS RX5 42 yX5_told wsX5_told) := goodIn_app (goodIn_of _ (by decide +kernel)) ggX5_step_X5_told
theorem dX5_step_0 : decode cX5_step 0 = .ok (.iload_n 1, 1) := by decide +kernel
theorem dX5_step_1 : decode cX5_step 1 = .ok (.ifCond .ge 34, 3) := by decide +kernel
theorem dX5_step_4 : decode cX5_step 4 = .ok (.aload_n 0, 1) := by decide +kernel
theorem dX5_step_5 : decode cX5_step 5 = .ok (.getfield 25, 3) := by decide +kernel
theorem dX5_step_8 : decode cX5_step 8 = .ok (.iload_n 2, 1) := by decide +kernel
theorem dX5_step_9 : decode cX5_step 9 = .ok (.aaload, 1) := by decide +kernel
theorem dX5_step_10 : decode cX5_step 10 = .ok (.iconst 3, 1) := by decide +kernel
theorem dX5_step_11 : decode cX5_step 11 = .ok (.iaload, 1) := by decide +kernel
theorem dX5_step_12 : decode cX5_step 12 = .ok (.iconst 1, 1) := by decide +kernel
theorem dX5_step_13 : decode cX5_step 13 = .ok (.if_icmp .ne 19, 3) := by decide +kernel
theorem dX5_step_16 : decode cX5_step 16 = .ok (.bipush 100, 2) := by decide +kernel
theorem dX5_step_18 : decode cX5_step 18 = .ok (.aload_n 0, 1) := by decide +kernel
theorem dX5_step_19 : decode cX5_step 19 = .ok (.getfield 25, 3) := by decide +kernel
theorem dX5_step_22 : decode cX5_step 22 = .ok (.iload_n 2, 1) := by decide +kernel
theorem dX5_step_23 : decode cX5_step 23 = .ok (.aaload, 1) := by decide +kernel
theorem dX5_step_24 : decode cX5_step 24 = .ok (.iconst 2, 1) := by decide +kernel
theorem dX5_step_25 : decode cX5_step 25 = .ok (.iaload, 1) := by decide +kernel
theorem dX5_step_26 : decode cX5_step 26 = .ok (.imul, 1) := by decide +kernel
theorem dX5_step_27 : decode cX5_step 27 = .ok (.iconst 1, 1) := by decide +kernel
theorem dX5_step_28 : decode cX5_step 28 = .ok (.iadd, 1) := by decide +kernel
theorem dX5_step_29 : decode cX5_step 29 = .ok (.goto 5, 3) := by decide +kernel
theorem dX5_step_32 : decode cX5_step 32 = .ok (.ldc 54, 2) := by decide +kernel
theorem dX5_step_34 : decode cX5_step 34 = .ok (.ireturn, 1) := by decide +kernel
theorem dX5_step_35 : decode cX5_step 35 = .ok (.aload_n 0, 1) := by decide +kernel
theorem dX5_step_36 : decode cX5_step 36 = .ok (.iload_n 1, 1) := by decide +kernel
theorem dX5_step_37 : decode cX5_step 37 = .ok (.iload_n 2, 1) := by decide +kernel
theorem dX5_step_38 : decode cX5_step 38 = .ok (.invokevirtual 64, 3) := by decide +kernel
theorem dX5_step_41 : decode cX5_step 41 = .ok (.ifCond .eq 30, 3) := by decide +kernel
theorem dX5_step_44 : decode cX5_step 44 = .ok (.bipush 100, 2) := by decide +kernel
theorem dX5_step_46 : decode cX5_step 46 = .ok (.aload_n 0, 1) := by decide +kernel
theorem dX5_step_47 : decode cX5_step 47 = .ok (.getfield 20, 3) := by decide +kernel
theorem dX5_step_50 : decode cX5_step 50 = .ok (.iload_n 1, 1) := by decide +kernel
theorem dX5_step_51 : decode cX5_step 51 = .ok (.aaload, 1) := by decide +kernel
theorem dX5_step_52 : decode cX5_step 52 = .ok (.aload_n 0, 1) := by decide +kernel
theorem dX5_step_53 : decode cX5_step 53 = .ok (.getfield 25, 3) := by decide +kernel
theorem dX5_step_56 : decode cX5_step 56 = .ok (.iload_n 2, 1) := by decide +kernel
theorem dX5_step_57 : decode cX5_step 57 = .ok (.aaload, 1) := by decide +kernel
theorem dX5_step_58 : decode cX5_step 58 = .ok (.iload_n 3, 1) := by decide +kernel
theorem dX5_step_59 : decode cX5_step 59 = .ok (.iaload, 1) := by decide +kernel
theorem dX5_step_60 : decode cX5_step 60 = .ok (.aaload, 1) := by decide +kernel
theorem dX5_step_61 : decode cX5_step 61 = .ok (.iload_n 2, 1) := by decide +kernel
theorem dX5_step_62 : decode cX5_step 62 = .ok (.invokestatic 42, 3) := by decide +kernel
theorem dX5_step_65 : decode cX5_step 65 = .ok (.imul, 1) := by decide +kernel
theorem dX5_step_66 : decode cX5_step 66 = .ok (.iconst 1, 1) := by decide +kernel
theorem dX5_step_67 : decode cX5_step 67 = .ok (.iadd, 1) := by decide +kernel
theorem dX5_step_68 : decode cX5_step 68 = .ok (.goto 5, 3) := by decide +kernel
theorem dX5_step_71 : decode cX5_step 71 = .ok (.ldc 54, 2) := by decide +kernel
theorem dX5_step_73 : decode cX5_step 73 = .ok (.ireturn, 1) := by decide +kernel
set_option maxRecDepth 20000 in
theorem ggX5_first_X5_far : GoodIn wsX5_first wsX5_far := goodIn_r _ [7, 8, 9, 1, 2, 10, 11, 12, 13, 14, 15, 16, 6, 17, 18, 19, 20, 21, 22, 23, 24, 25, 26, 27, 28, 29, 30] (by decide +kernel) (by decide +kernel)
set_option maxRecDepth 20000 in
theorem gX5_first_X5_far : GoodIn wsX5_first (wsV RX5 68 RX5 yX5_far wsX5_far) := goodIn_app (goodIn_of _ (by decide +kernel)) ggX5_first_X5_far
set_option maxRecDepth 20000 in
theorem ggX5_first_X5_step : GoodIn wsX5_first wsX5_step := goodIn_r _ [17, 2, 1, 18, 19, 20, 21, 6, 22, 23, 24, 25, 26, 27, 28, 29, 30] (by decide +kernel) (by decide +kernel)
set_option maxRecDepth 20000 in
theorem gX5_first_X5_step : GoodIn wsX5_first (wsV RX5 55 RX5 yX5_step wsX5_step) := goodIn_app (goodIn_of _ (by decide +kernel)) ggX5_first_X5_step
theorem dX5_first_0 : decode cX5_first 0 = .ok (.iload_n 1, 1) := by decide +kernel
theorem dX5_first_1 : decode cX5_first 1 = .ok (.iload_n 2, 1) := by decide +kernel
theorem dX5_first_2 : decode cX5_first 2 = .ok (.if_icmp .ne 5, 3) := by decide +kernel
theorem dX5_first_5 : decode cX5_first 5 = .ok (.iload_n 1, 1) := by decide +kernel
theorem dX5_first_6 : decode cX5_first 6 = .ok (.ireturn, 1) := by decide +kernel
theorem dX5_first_7 : decode cX5_first 7 = .ok (.aload_n 0, 1) := by decide +kernel
theorem dX5_first_8 : decode cX5_first 8 = .ok (.iload_n 1, 1) := by decide +kernel
theorem dX5_first_9 : decode cX5_first 9 = .ok (.iload_n 2, 1) := by decide +kernel
theorem dX5_first_10 : decode cX5_first 10 = .ok (.invokevirtual 68, 3) := by decide +kernel
theorem dX5_first_13 : decode cX5_first 13 = .ok (.astore_n 3, 1) := by decide +kernel
theorem dX5_first_14 : decode cX5_first 14 = .ok (.iconst (-1), 1) := by decide +kernel
theorem dX5_first_15 : decode cX5_first 15 = .ok (.istore 4, 2) := by decide +kernel
theorem dX5_first_17 : decode cX5_first 17 = .ok (.aload_n 3, 1) := by decide +kernel
theorem dX5_first_18 : decode cX5_first 18 = .ok (.iload_n 1, 1) := by decide +kernel
theorem dX5_first_19 : decode cX5_first 19 = .ok (.iaload, 1) := by decide +kernel
theorem dX5_first_20 : decode cX5_first 20 = .ok (.ldc 54, 2) := by decide +kernel
theorem dX5_first_22 : decode cX5_first 22 = .ok (.if_icmp .lt 6, 3) := by decide +kernel
theorem dX5_first_25 : decode cX5_first 25 = .ok (.iload 4, 2) := by decide +kernel
theorem dX5_first_27 : decode cX5_first 27 = .ok (.ireturn, 1) := by decide +kernel
theorem dX5_first_28 : decode cX5_first 28 = .ok (.iconst 0, 1) := by decide +kernel
theorem dX5_first_29 : decode cX5_first 29 = .ok (.istore 5, 2) := by decide +kernel
theorem dX5_first_31 : decode cX5_first 31 = .ok (.iload 5, 2) := by decide +kernel
theorem dX5_first_33 : decode cX5_first 33 = .ok (.aload_n 0, 1) := by decide +kernel
theorem dX5_first_34 : decode cX5_first 34 = .ok (.getfield 25, 3) := by decide +kernel
theorem dX5_first_37 : decode cX5_first 37 = .ok (.arraylength, 1) := by decide +kernel
theorem dX5_first_38 : decode cX5_first 38 = .ok (.if_icmp .ge 88, 3) := by decide +kernel
theorem dX5_first_41 : decode cX5_first 41 = .ok (.iconst 0, 1) := by decide +kernel
theorem dX5_first_42 : decode cX5_first 42 = .ok (.istore 6, 2) := by decide +kernel
theorem dX5_first_44 : decode cX5_first 44 = .ok (.iload 6, 2) := by decide +kernel
theorem dX5_first_46 : decode cX5_first 46 = .ok (.iconst 2, 1) := by decide +kernel
theorem dX5_first_47 : decode cX5_first 47 = .ok (.if_icmp .ge 73, 3) := by decide +kernel
theorem dX5_first_50 : decode cX5_first 50 = .ok (.aload_n 0, 1) := by decide +kernel
theorem dX5_first_51 : decode cX5_first 51 = .ok (.getfield 25, 3) := by decide +kernel
theorem dX5_first_54 : decode cX5_first 54 = .ok (.iload 5, 2) := by decide +kernel
theorem dX5_first_56 : decode cX5_first 56 = .ok (.aaload, 1) := by decide +kernel
theorem dX5_first_57 : decode cX5_first 57 = .ok (.iconst 1, 1) := by decide +kernel
theorem dX5_first_58 : decode cX5_first 58 = .ok (.iload 6, 2) := by decide +kernel
theorem dX5_first_60 : decode cX5_first 60 = .ok (.isub, 1) := by decide +kernel
theorem dX5_first_61 : decode cX5_first 61 = .ok (.iaload, 1) := by decide +kernel
theorem dX5_first_62 : decode cX5_first 62 = .ok (.istore 7, 2) := by decide +kernel
theorem dX5_first_64 : decode cX5_first 64 = .ok (.aload_n 0, 1) := by decide +kernel
theorem dX5_first_65 : decode cX5_first 65 = .ok (.getfield 25, 3) := by decide +kernel
theorem dX5_first_68 : decode cX5_first 68 = .ok (.iload 5, 2) := by decide +kernel
theorem dX5_first_70 : decode cX5_first 70 = .ok (.aaload, 1) := by decide +kernel
theorem dX5_first_71 : decode cX5_first 71 = .ok (.iload 6, 2) := by decide +kernel
theorem dX5_first_73 : decode cX5_first 73 = .ok (.iaload, 1) := by decide +kernel
theorem dX5_first_74 : decode cX5_first 74 = .ok (.iload_n 1, 1) := by decide +kernel
theorem dX5_first_75 : decode cX5_first 75 = .ok (.if_icmp .ne 39, 3) := by decide +kernel
theorem dX5_first_78 : decode cX5_first 78 = .ok (.aload_n 0, 1) := by decide +kernel
theorem dX5_first_79 : decode cX5_first 79 = .ok (.iload_n 1, 1) := by decide +kernel
theorem dX5_first_80 : decode cX5_first 80 = .ok (.iload 5, 2) := by decide +kernel
theorem dX5_first_82 : decode cX5_first 82 = .ok (.iload 6, 2) := by decide +kernel
theorem dX5_first_84 : decode cX5_first 84 = .ok (.invokevirtual 55, 3) := by decide +kernel
theorem dX5_first_87 : decode cX5_first 87 = .ok (.aload_n 3, 1) := by decide +kernel
theorem dX5_first_88 : decode cX5_first 88 = .ok (.iload 7, 2) := by decide +kernel
theorem dX5_first_90 : decode cX5_first 90 = .ok (.iaload, 1) := by decide +kernel
theorem dX5_first_91 : decode cX5_first 91 = .ok (.iadd, 1) := by decide +kernel
theorem dX5_first_92 : decode cX5_first 92 = .ok (.aload_n 3, 1) := by decide +kernel
theorem dX5_first_93 : decode cX5_first 93 = .ok (.iload_n 1, 1) := by decide +kernel
theorem dX5_first_94 : decode cX5_first 94 = .ok (.iaload, 1) := by decide +kernel
theorem dX5_first_95 : decode cX5_first 95 = .ok (.if_icmp .ne 19, 3) := by decide +kernel
theorem dX5_first_98 : decode cX5_first 98 = .ok (.iload 4, 2) := by decide +kernel
theorem dX5_first_100 : decode cX5_first 100 = .ok (.ifCond .lt 10, 3) := by decide +kernel
theorem dX5_first_103 : decode cX5_first 103 = .ok (.iload 7, 2) := by decide +kernel
theorem dX5_first_105 : decode cX5_first 105 = .ok (.iload 4, 2) := by decide +kernel
theorem dX5_first_107 : decode cX5_first 107 = .ok (.if_icmp .ge 7, 3) := by decide +kernel
theorem dX5_first_110 : decode cX5_first 110 = .ok (.iload 7, 2) := by decide +kernel
theorem dX5_first_112 : decode cX5_first 112 = .ok (.istore 4, 2) := by decide +kernel
theorem dX5_first_114 : decode cX5_first 114 = .ok (.iinc 6 1, 3) := by decide +kernel
theorem dX5_first_117 : decode cX5_first 117 = .ok (.goto (-73), 3) := by decide +kernel
theorem dX5_first_120 : decode cX5_first 120 = .ok (.iinc 5 1, 3) := by decide +kernel
theorem dX5_first_123 : decode cX5_first 123 = .ok (.goto (-92), 3) := by decide +kernel
theorem dX5_first_126 : decode cX5_first 126 = .ok (.iload 4, 2) := by decide +kernel
theorem dX5_first_128 : decode cX5_first 128 = .ok (.ireturn, 1) := by decide +kernel
set_option maxRecDepth 20000 in
theorem ggX5_post_X5_first : GoodIn wsX5_post wsX5_first := goodIn_r _ [6, 7, 1, 8, 9, 10, 5, 11, 12, 13, 14, 15, 16, 17, 18, 19, 20, 21, 22, 23, 24, 25, 26, 27, 28, 29, 30, 31, 32, 33, 34] (by decide +kernel) (by decide +kernel)
set_option maxRecDepth 20000 in
theorem gX5_post_X5_first : GoodIn wsX5_post (wsV RX5 72 RX5 yX5_first wsX5_first) := goodIn_app (goodIn_of _ (by decide +kernel)) ggX5_post_X5_first
theorem dX5_post_0 : decode cX5_post 0 = .ok (.iload_n 1, 1) := by decide +kernel
theorem dX5_post_1 : decode cX5_post 1 = .ok (.istore_n 3, 1) := by decide +kernel
theorem dX5_post_2 : decode cX5_post 2 = .ok (.iconst 0, 1) := by decide +kernel
theorem dX5_post_3 : decode cX5_post 3 = .ok (.istore 4, 2) := by decide +kernel
theorem dX5_post_5 : decode cX5_post 5 = .ok (.iload 4, 2) := by decide +kernel
theorem dX5_post_7 : decode cX5_post 7 = .ok (.bipush 20, 2) := by decide +kernel
theorem dX5_post_9 : decode cX5_post 9 = .ok (.if_icmp .gt 129, 3) := by decide +kernel
theorem dX5_post_12 : decode cX5_post 12 = .ok (.iload_n 3, 1) := by decide +kernel
theorem dX5_post_13 : decode cX5_post 13 = .ok (.iload_n 2, 1) := by decide +kernel
theorem dX5_post_14 : decode cX5_post 14 = .ok (.if_icmp .ne 6, 3) := by decide +kernel
theorem dX5_post_17 : decode cX5_post 17 = .ok (.iload 4, 2) := by decide +kernel
theorem dX5_post_19 : decode cX5_post 19 = .ok (.ireturn, 1) := by decide +kernel
theorem dX5_post_20 : decode cX5_post 20 = .ok (.aload_n 0, 1) := by decide +kernel
theorem dX5_post_21 : decode cX5_post 21 = .ok (.iload_n 3, 1) := by decide +kernel
theorem dX5_post_22 : decode cX5_post 22 = .ok (.iload_n 2, 1) := by decide +kernel
theorem dX5_post_23 : decode cX5_post 23 = .ok (.invokevirtual 72, 3) := by decide +kernel
theorem dX5_post_26 : decode cX5_post 26 = .ok (.istore 5, 2) := by decide +kernel
theorem dX5_post_28 : decode cX5_post 28 = .ok (.iconst 0, 1) := by decide +kernel
theorem dX5_post_29 : decode cX5_post 29 = .ok (.istore 6, 2) := by decide +kernel
theorem dX5_post_31 : decode cX5_post 31 = .ok (.aload_n 0, 1) := by decide +kernel
theorem dX5_post_32 : decode cX5_post 32 = .ok (.getfield 25, 3) := by decide +kernel
theorem dX5_post_35 : decode cX5_post 35 = .ok (.astore 7, 2) := by decide +kernel
theorem dX5_post_37 : decode cX5_post 37 = .ok (.aload 7, 2) := by decide +kernel
theorem dX5_post_39 : decode cX5_post 39 = .ok (.arraylength, 1) := by decide +kernel
theorem dX5_post_40 : decode cX5_post 40 = .ok (.istore 8, 2) := by decide +kernel
theorem dX5_post_42 : decode cX5_post 42 = .ok (.iconst 0, 1) := by decide +kernel
theorem dX5_post_43 : decode cX5_post 43 = .ok (.istore 9, 2) := by decide +kernel
theorem dX5_post_45 : decode cX5_post 45 = .ok (.iload 9, 2) := by decide +kernel
theorem dX5_post_47 : decode cX5_post 47 = .ok (.iload 8, 2) := by decide +kernel
theorem dX5_post_49 : decode cX5_post 49 = .ok (.if_icmp .ge 68, 3) := by decide +kernel
theorem dX5_post_52 : decode cX5_post 52 = .ok (.aload 7, 2) := by decide +kernel
theorem dX5_post_54 : decode cX5_post 54 = .ok (.iload 9, 2) := by decide +kernel
theorem dX5_post_56 : decode cX5_post 56 = .ok (.aaload, 1) := by decide +kernel
theorem dX5_post_57 : decode cX5_post 57 = .ok (.astore 10, 2) := by decide +kernel
theorem dX5_post_59 : decode cX5_post 59 = .ok (.iload 6, 2) := by decide +kernel
theorem dX5_post_61 : decode cX5_post 61 = .ok (.aload 10, 2) := by decide +kernel
theorem dX5_post_63 : decode cX5_post 63 = .ok (.iconst 3, 1) := by decide +kernel
theorem dX5_post_64 : decode cX5_post 64 = .ok (.iaload, 1) := by decide +kernel
theorem dX5_post_65 : decode cX5_post 65 = .ok (.iconst 1, 1) := by decide +kernel
theorem dX5_post_66 : decode cX5_post 66 = .ok (.if_icmp .ne 41, 3) := by decide +kernel
theorem dX5_post_69 : decode cX5_post 69 = .ok (.aload 10, 2) := by decide +kernel
theorem dX5_post_71 : decode cX5_post 71 = .ok (.iconst 0, 1) := by decide +kernel
theorem dX5_post_72 : decode cX5_post 72 = .ok (.iaload, 1) := by decide +kernel
theorem dX5_post_73 : decode cX5_post 73 = .ok (.iload_n 3, 1) := by decide +kernel
theorem dX5_post_74 : decode cX5_post 74 = .ok (.if_icmp .ne 12, 3) := by decide +kernel
theorem dX5_post_77 : decode cX5_post 77 = .ok (.aload 10, 2) := by decide +kernel
theorem dX5_post_79 : decode cX5_post 79 = .ok (.iconst 1, 1) := by decide +kernel
theorem dX5_post_80 : decode cX5_post 80 = .ok (.iaload, 1) := by decide +kernel
theorem dX5_post_81 : decode cX5_post 81 = .ok (.iload 5, 2) := by decide +kernel
theorem dX5_post_83 : decode cX5_post 83 = .ok (.if_icmp .eq 20, 3) := by decide +kernel
theorem dX5_post_86 : decode cX5_post 86 = .ok (.aload 10, 2) := by decide +kernel
theorem dX5_post_88 : decode cX5_post 88 = .ok (.iconst 1, 1) := by decide +kernel
theorem dX5_post_89 : decode cX5_post 89 = .ok (.iaload, 1) := by decide +kernel
theorem dX5_post_90 : decode cX5_post 90 = .ok (.iload_n 3, 1) := by decide +kernel
theorem dX5_post_91 : decode cX5_post 91 = .ok (.if_icmp .ne 16, 3) := by decide +kernel
theorem dX5_post_94 : decode cX5_post 94 = .ok (.aload 10, 2) := by decide +kernel
theorem dX5_post_96 : decode cX5_post 96 = .ok (.iconst 0, 1) := by decide +kernel
theorem dX5_post_97 : decode cX5_post 97 = .ok (.iaload, 1) := by decide +kernel
theorem dX5_post_98 : decode cX5_post 98 = .ok (.iload 5, 2) := by decide +kernel
theorem dX5_post_100 : decode cX5_post 100 = .ok (.if_icmp .ne 7, 3) := by decide +kernel
theorem dX5_post_103 : decode cX5_post 103 = .ok (.iconst 1, 1) := by decide +kernel
theorem dX5_post_104 : decode cX5_post 104 = .ok (.goto 4, 3) := by decide +kernel
theorem dX5_post_107 : decode cX5_post 107 = .ok (.iconst 0, 1) := by decide +kernel
theorem dX5_post_108 : decode cX5_post 108 = .ok (.ior, 1) := by decide +kernel
theorem dX5_post_109 : decode cX5_post 109 = .ok (.istore 6, 2) := by decide +kernel
theorem dX5_post_111 : decode cX5_post 111 = .ok (.iinc 9 1, 3) := by decide +kernel
theorem dX5_post_114 : decode cX5_post 114 = .ok (.goto (-69), 3) := by decide +kernel
theorem dX5_post_117 : decode cX5_post 117 = .ok (.iload 5, 2) := by decide +kernel
theorem dX5_post_119 : decode cX5_post 119 = .ok (.ifCond .lt 8, 3) := by decide +kernel
theorem dX5_post_122 : decode cX5_post 122 = .ok (.iload 6, 2) := by decide +kernel
theorem dX5_post_124 : decode cX5_post 124 = .ok (.ifCond .ne 5, 3) := by decide +kernel
theorem dX5_post_127 : decode cX5_post 127 = .ok (.iconst (-1), 1) := by decide +kernel
theorem dX5_post_128 : decode cX5_post 128 = .ok (.ireturn, 1) := by decide +kernel
theorem dX5_post_129 : decode cX5_post 129 = .ok (.iload 5, 2) := by decide +kernel
theorem dX5_post_131 : decode cX5_post 131 = .ok (.istore_n 3, 1) := by decide +kernel
theorem dX5_post_132 : decode cX5_post 132 = .ok (.iinc 4 1, 3) := by decide +kernel
theorem dX5_post_135 : decode cX5_post 135 = .ok (.goto (-130), 3) := by decide +kernel
theorem dX5_post_138 : decode cX5_post 138 = .ok (.iconst (-1), 1) := by decide +kernel
theorem dX5_post_139 : decode cX5_post 139 = .ok (.ireturn, 1) := by decide +kernel
theorem dX5_sheetsOf_0 : decode cX5_sheetsOf 0 = .ok (.iconst 0, 1) := by decide +kernel
theorem dX5_sheetsOf_1 : decode cX5_sheetsOf 1 = .ok (.istore_n 2, 1) := by decide +kernel
theorem dX5_sheetsOf_2 : decode cX5_sheetsOf 2 = .ok (.aload_n 0, 1) := by decide +kernel
theorem dX5_sheetsOf_3 : decode cX5_sheetsOf 3 = .ok (.getfield 20, 3) := by decide +kernel
theorem dX5_sheetsOf_6 : decode cX5_sheetsOf 6 = .ok (.iload_n 1, 1) := by decide +kernel
theorem dX5_sheetsOf_7 : decode cX5_sheetsOf 7 = .ok (.aaload, 1) := by decide +kernel
theorem dX5_sheetsOf_8 : decode cX5_sheetsOf 8 = .ok (.astore_n 3, 1) := by decide +kernel
theorem dX5_sheetsOf_9 : decode cX5_sheetsOf 9 = .ok (.aload_n 3, 1) := by decide +kernel
theorem dX5_sheetsOf_10 : decode cX5_sheetsOf 10 = .ok (.arraylength, 1) := by decide +kernel
theorem dX5_sheetsOf_11 : decode cX5_sheetsOf 11 = .ok (.istore 4, 2) := by decide +kernel
theorem dX5_sheetsOf_13 : decode cX5_sheetsOf 13 = .ok (.iconst 0, 1) := by decide +kernel
theorem dX5_sheetsOf_14 : decode cX5_sheetsOf 14 = .ok (.istore 5, 2) := by decide +kernel
theorem dX5_sheetsOf_16 : decode cX5_sheetsOf 16 = .ok (.iload 5, 2) := by decide +kernel
theorem dX5_sheetsOf_18 : decode cX5_sheetsOf 18 = .ok (.iload 4, 2) := by decide +kernel
theorem dX5_sheetsOf_20 : decode cX5_sheetsOf 20 = .ok (.if_icmp .ge 29, 3) := by decide +kernel
theorem dX5_sheetsOf_23 : decode cX5_sheetsOf 23 = .ok (.aload_n 3, 1) := by decide +kernel
theorem dX5_sheetsOf_24 : decode cX5_sheetsOf 24 = .ok (.iload 5, 2) := by decide +kernel
theorem dX5_sheetsOf_26 : decode cX5_sheetsOf 26 = .ok (.aaload, 1) := by decide +kernel
theorem dX5_sheetsOf_27 : decode cX5_sheetsOf 27 = .ok (.astore 6, 2) := by decide +kernel
theorem dX5_sheetsOf_29 : decode cX5_sheetsOf 29 = .ok (.iload_n 2, 1) := by decide +kernel
theorem dX5_sheetsOf_30 : decode cX5_sheetsOf 30 = .ok (.aload 6, 2) := by decide +kernel
theorem dX5_sheetsOf_32 : decode cX5_sheetsOf 32 = .ok (.arraylength, 1) := by decide +kernel
theorem dX5_sheetsOf_33 : decode cX5_sheetsOf 33 = .ok (.ifCond .le 7, 3) := by decide +kernel
theorem dX5_sheetsOf_36 : decode cX5_sheetsOf 36 = .ok (.iconst 1, 1) := by decide +kernel
theorem dX5_sheetsOf_37 : decode cX5_sheetsOf 37 = .ok (.goto 4, 3) := by decide +kernel
theorem dX5_sheetsOf_40 : decode cX5_sheetsOf 40 = .ok (.iconst 0, 1) := by decide +kernel
theorem dX5_sheetsOf_41 : decode cX5_sheetsOf 41 = .ok (.iadd, 1) := by decide +kernel
theorem dX5_sheetsOf_42 : decode cX5_sheetsOf 42 = .ok (.istore_n 2, 1) := by decide +kernel
theorem dX5_sheetsOf_43 : decode cX5_sheetsOf 43 = .ok (.iinc 5 1, 3) := by decide +kernel
theorem dX5_sheetsOf_46 : decode cX5_sheetsOf 46 = .ok (.goto (-30), 3) := by decide +kernel
theorem dX5_sheetsOf_49 : decode cX5_sheetsOf 49 = .ok (.iload_n 2, 1) := by decide +kernel
theorem dX5_sheetsOf_50 : decode cX5_sheetsOf 50 = .ok (.ireturn, 1) := by decide +kernel
set_option maxRecDepth 20000 in
theorem ggX5_allSheets_X5_sheetsOf : GoodIn wsX5_allSheets wsX5_sheetsOf := goodIn_r _ [6, 7, 8, 9, 10, 11, 12] (by decide +kernel) (by decide +kernel)
set_option maxRecDepth 20000 in
theorem gX5_allSheets_X5_sheetsOf : GoodIn wsX5_allSheets (wsV RX5 75 RX5 yX5_sheetsOf wsX5_sheetsOf) := goodIn_app (goodIn_of _ (by decide +kernel)) ggX5_allSheets_X5_sheetsOf
theorem dX5_allSheets_0 : decode cX5_allSheets 0 = .ok (.iconst 0, 1) := by decide +kernel
theorem dX5_allSheets_1 : decode cX5_allSheets 1 = .ok (.istore_n 1, 1) := by decide +kernel
theorem dX5_allSheets_2 : decode cX5_allSheets 2 = .ok (.iconst 0, 1) := by decide +kernel
theorem dX5_allSheets_3 : decode cX5_allSheets 3 = .ok (.istore_n 2, 1) := by decide +kernel
theorem dX5_allSheets_4 : decode cX5_allSheets 4 = .ok (.iload_n 2, 1) := by decide +kernel
theorem dX5_allSheets_5 : decode cX5_allSheets 5 = .ok (.aload_n 0, 1) := by decide +kernel
theorem dX5_allSheets_6 : decode cX5_allSheets 6 = .ok (.getfield 9, 3) := by decide +kernel
theorem dX5_allSheets_9 : decode cX5_allSheets 9 = .ok (.arraylength, 1) := by decide +kernel
theorem dX5_allSheets_10 : decode cX5_allSheets 10 = .ok (.if_icmp .ge 17, 3) := by decide +kernel
theorem dX5_allSheets_13 : decode cX5_allSheets 13 = .ok (.iload_n 1, 1) := by decide +kernel
theorem dX5_allSheets_14 : decode cX5_allSheets 14 = .ok (.aload_n 0, 1) := by decide +kernel
theorem dX5_allSheets_15 : decode cX5_allSheets 15 = .ok (.iload_n 2, 1) := by decide +kernel
theorem dX5_allSheets_16 : decode cX5_allSheets 16 = .ok (.invokevirtual 75, 3) := by decide +kernel
theorem dX5_allSheets_19 : decode cX5_allSheets 19 = .ok (.iadd, 1) := by decide +kernel
theorem dX5_allSheets_20 : decode cX5_allSheets 20 = .ok (.istore_n 1, 1) := by decide +kernel
theorem dX5_allSheets_21 : decode cX5_allSheets 21 = .ok (.iinc 2 1, 3) := by decide +kernel
theorem dX5_allSheets_24 : decode cX5_allSheets 24 = .ok (.goto (-20), 3) := by decide +kernel
theorem dX5_allSheets_27 : decode cX5_allSheets 27 = .ok (.iload_n 1, 1) := by decide +kernel
theorem dX5_allSheets_28 : decode cX5_allSheets 28 = .ok (.ireturn, 1) := by decide +kernel
set_option maxRecDepth 20000 in
theorem ggX5_pairs_X5_post : GoodIn wsX5_pairs wsX5_post := goodIn_r _ [7, 8, 9, 10, 11, 6, 12, 2, 13, 14, 15, 16, 1, 17, 18, 19, 20, 21, 22, 23, 24, 25, 26, 27, 28, 29, 30, 31, 32, 33, 34, 35, 36, 37, 38] (by decide +kernel) (by decide +kernel)
set_option maxRecDepth 20000 in
theorem gX5_pairs_X5_post : GoodIn wsX5_pairs (wsV RX5 79 RX5 yX5_post wsX5_post) := goodIn_app (goodIn_of _ (by decide +kernel)) ggX5_pairs_X5_post
set_option maxRecDepth 20000 in
theorem ggX5_pairs_X5_far : GoodIn wsX5_pairs wsX5_far := goodIn_r _ [16, 1, 17, 2, 8, 18, 19, 20, 21, 22, 23, 24, 6, 25, 26, 27, 28, 29, 30, 31, 32, 33, 34, 35, 36, 37, 38] (by decide +kernel) (by decide +kernel)
set_option maxRecDepth 20000 in
theorem gX5_pairs_X5_far : GoodIn wsX5_pairs (wsV RX5 68 RX5 yX5_far wsX5_far) := goodIn_app (goodIn_of _ (by decide +kernel)) ggX5_pairs_X5_far
theorem dX5_pairs_0 : decode cX5_pairs 0 = .ok (.iconst 0, 1) := by decide +kernel
theorem dX5_pairs_1 : decode cX5_pairs 1 = .ok (.istore_n 2, 1) := by decide +kernel
theorem dX5_pairs_2 : decode cX5_pairs 2 = .ok (.iconst 0, 1) := by decide +kernel
theorem dX5_pairs_3 : decode cX5_pairs 3 = .ok (.istore_n 3, 1) := by decide +kernel
theorem dX5_pairs_4 : decode cX5_pairs 4 = .ok (.iload_n 3, 1) := by decide +kernel
theorem dX5_pairs_5 : decode cX5_pairs 5 = .ok (.aload_n 0, 1) := by decide +kernel
theorem dX5_pairs_6 : decode cX5_pairs 6 = .ok (.getfield 9, 3) := by decide +kernel
theorem dX5_pairs_9 : decode cX5_pairs 9 = .ok (.arraylength, 1) := by decide +kernel
theorem dX5_pairs_10 : decode cX5_pairs 10 = .ok (.if_icmp .ge 73, 3) := by decide +kernel
theorem dX5_pairs_13 : decode cX5_pairs 13 = .ok (.iconst 0, 1) := by decide +kernel
theorem dX5_pairs_14 : decode cX5_pairs 14 = .ok (.istore 4, 2) := by decide +kernel
theorem dX5_pairs_16 : decode cX5_pairs 16 = .ok (.iload 4, 2) := by decide +kernel
theorem dX5_pairs_18 : decode cX5_pairs 18 = .ok (.aload_n 0, 1) := by decide +kernel
theorem dX5_pairs_19 : decode cX5_pairs 19 = .ok (.getfield 9, 3) := by decide +kernel
theorem dX5_pairs_22 : decode cX5_pairs 22 = .ok (.arraylength, 1) := by decide +kernel
theorem dX5_pairs_23 : decode cX5_pairs 23 = .ok (.if_icmp .ge 54, 3) := by decide +kernel
theorem dX5_pairs_26 : decode cX5_pairs 26 = .ok (.iload_n 2, 1) := by decide +kernel
theorem dX5_pairs_27 : decode cX5_pairs 27 = .ok (.iload_n 3, 1) := by decide +kernel
theorem dX5_pairs_28 : decode cX5_pairs 28 = .ok (.iload 4, 2) := by decide +kernel
theorem dX5_pairs_30 : decode cX5_pairs 30 = .ok (.if_icmp .eq 38, 3) := by decide +kernel
theorem dX5_pairs_33 : decode cX5_pairs 33 = .ok (.iload_n 1, 1) := by decide +kernel
theorem dX5_pairs_34 : decode cX5_pairs 34 = .ok (.ifCond .eq 16, 3) := by decide +kernel
theorem dX5_pairs_37 : decode cX5_pairs 37 = .ok (.aload_n 0, 1) := by decide +kernel
theorem dX5_pairs_38 : decode cX5_pairs 38 = .ok (.iload_n 3, 1) := by decide +kernel
theorem dX5_pairs_39 : decode cX5_pairs 39 = .ok (.iload 4, 2) := by decide +kernel
theorem dX5_pairs_41 : decode cX5_pairs 41 = .ok (.invokevirtual 79, 3) := by decide +kernel
theorem dX5_pairs_44 : decode cX5_pairs 44 = .ok (.ifCond .lt 24, 3) := by decide +kernel
theorem dX5_pairs_47 : decode cX5_pairs 47 = .ok (.goto 17, 3) := by decide +kernel
theorem dX5_pairs_50 : decode cX5_pairs 50 = .ok (.aload_n 0, 1) := by decide +kernel
theorem dX5_pairs_51 : decode cX5_pairs 51 = .ok (.iconst (-1), 1) := by decide +kernel
theorem dX5_pairs_52 : decode cX5_pairs 52 = .ok (.iload 4, 2) := by decide +kernel
theorem dX5_pairs_54 : decode cX5_pairs 54 = .ok (.invokevirtual 68, 3) := by decide +kernel
theorem dX5_pairs_57 : decode cX5_pairs 57 = .ok (.iload_n 3, 1) := by decide +kernel
theorem dX5_pairs_58 : decode cX5_pairs 58 = .ok (.iaload, 1) := by decide +kernel
theorem dX5_pairs_59 : decode cX5_pairs 59 = .ok (.ldc 54, 2) := by decide +kernel
theorem dX5_pairs_61 : decode cX5_pairs 61 = .ok (.if_icmp .ge 7, 3) := by decide +kernel
theorem dX5_pairs_64 : decode cX5_pairs 64 = .ok (.iconst 1, 1) := by decide +kernel
theorem dX5_pairs_65 : decode cX5_pairs 65 = .ok (.goto 4, 3) := by decide +kernel
theorem dX5_pairs_68 : decode cX5_pairs 68 = .ok (.iconst 0, 1) := by decide +kernel
theorem dX5_pairs_69 : decode cX5_pairs 69 = .ok (.iadd, 1) := by decide +kernel
theorem dX5_pairs_70 : decode cX5_pairs 70 = .ok (.istore_n 2, 1) := by decide +kernel
theorem dX5_pairs_71 : decode cX5_pairs 71 = .ok (.iinc 4 1, 3) := by decide +kernel
theorem dX5_pairs_74 : decode cX5_pairs 74 = .ok (.goto (-58), 3) := by decide +kernel
theorem dX5_pairs_77 : decode cX5_pairs 77 = .ok (.iinc 3 1, 3) := by decide +kernel
theorem dX5_pairs_80 : decode cX5_pairs 80 = .ok (.goto (-76), 3) := by decide +kernel
theorem dX5_pairs_83 : decode cX5_pairs 83 = .ok (.iload_n 2, 1) := by decide +kernel
theorem dX5_pairs_84 : decode cX5_pairs 84 = .ok (.ireturn, 1) := by decide +kernel
set_option maxRecDepth 20000 in
theorem ggX5_isSame_X5_told : GoodIn wsX5_isSame wsX5_told := goodIn_r _ [11] (by decide +kernel) (by decide +kernel)
set_option maxRecDepth 20000 in
theorem gX5_isSame_X5_told : GoodIn wsX5_isSame (va_wsS RX5 42 yX5_told wsX5_told) := goodIn_app (goodIn_of _ (by decide +kernel)) ggX5_isSame_X5_told
set_option maxRecDepth 20000 in
theorem ggX5_isSame_X4_sheet : GoodIn wsX5_isSame wsX4_sheet := goodIn_ca (goodIn_r _ [16, 17, 18, 19, 20, 15, 21, 22, 23, 24, 25, 26, 27, 28, 29, 30, 31, 32, 33, 34, 35, 36, 37, 38, 39, 40, 41, 42, 43, 44, 45, 46, 47, 48, 49, 50, 51, 52, 53, 54, 55, 56, 57, 58, 59, 60, 61, 62, 63, 64, 65, 66, 67, 68, 290, 291, 292, 293, 294, 295, 296, 297, 298, 299, 300, 301, 302, 303, 304, 305, 306, 307, 308, 309, 310, 311, 312] (by decide +kernel) (by decide +kernel)) (goodIn_sub (fun _ h => List.mem_cons_of_mem _ (List.mem_append_right _ h)) (by decide +kernel))
set_option maxRecDepth 20000 in
theorem gX5_isSame_X4_sheet : GoodIn wsX5_isSame (wsV RX5 82 RX4 yX4_sheet wsX4_sheet) := goodIn_app (goodIn_of _ (by decide +kernel)) ggX5_isSame_X4_sheet
set_option maxRecDepth 20000 in
theorem ggX5_isSame_X5_far : GoodIn wsX5_isSame wsX5_far := goodIn_r _ [72, 1, 5, 4, 3, 73, 74, 75, 76, 77, 78, 79, 10, 80, 2, 81, 82, 83, 84, 8, 9, 11, 285, 286, 287, 288, 289] (by decide +kernel) (by decide +kernel)
set_option maxRecDepth 20000 in
theorem gX5_isSame_X5_far : GoodIn wsX5_isSame (wsV RX5 68 RX5 yX5_far wsX5_far) := goodIn_app (goodIn_of _ (by decide +kernel)) ggX5_isSame_X5_far
set_option maxRecDepth 20000 in
theorem ggX5_isSame_X4_way : GoodIn wsX5_isSame wsX4_way := goodIn_ca (goodIn_r _ [88, 17, 89, 18, 19, 20, 15, 21, 22, 23, 24, 25, 26, 27, 28, 29, 30, 31, 32, 33, 34, 90, 91, 92, 38, 93, 94, 95, 96, 97, 98, 99, 100, 101, 40, 102, 103, 104, 105, 106, 107, 108, 109, 110, 111, 112, 113, 114, 115, 116, 117, 118, 119, 120, 121, 122, 41, 42, 43, 123, 66, 67, 47, 68, 64, 124, 125, 126, 127, 128, 129, 130, 131, 132, 133, 134, 135, 136, 137, 138, 139, 290, 291, 292, 293, 294, 295, 296, 297, 298, 299, 300, 301, 302, 303, 304, 305, 306, 307, 308, 309, 313, 314, 315, 316, 310, 311, 312] (by decide +kernel) (by decide +kernel)) (goodIn_sub (fun _ h => List.mem_cons_of_mem _ (List.mem_append_right _ h)) (by decide +kernel))
set_option maxRecDepth 20000 in
theorem gX5_isSame_X4_way : GoodIn wsX5_isSame (wsV RX5 87 RX4 yX4_way wsX4_way) := goodIn_app (goodIn_of _ (by decide +kernel)) ggX5_isSame_X4_way
set_option maxRecDepth 20000 in
theorem ggX5_isSame_X5_first : GoodIn wsX5_isSame wsX5_first := goodIn_r _ [143, 4, 3, 69, 70, 71, 10, 72, 1, 5, 73, 74, 75, 76, 77, 78, 79, 80, 2, 81, 82, 83, 84, 8, 9, 11, 285, 286, 287, 288, 289] (by decide +kernel) (by decide +kernel)
set_option maxRecDepth 20000 in
theorem gX5_isSame_X5_first : GoodIn wsX5_isSame (wsV RX5 72 RX5 yX5_first wsX5_first) := goodIn_app (goodIn_of _ (by decide +kernel)) ggX5_isSame_X5_first
set_option maxRecDepth 20000 in
theorem ggX5_isSame_X5_post : GoodIn wsX5_isSame wsX5_post := goodIn_r _ [147, 3, 140, 141, 142, 10, 143, 4, 69, 70, 71, 72, 1, 5, 73, 74, 75, 76, 77, 78, 79, 80, 2, 81, 82, 83, 84, 8, 9, 11, 285, 286, 287, 288, 289] (by decide +kernel) (by decide +kernel)
set_option maxRecDepth 20000 in
theorem gX5_isSame_X5_post : GoodIn wsX5_isSame (wsV RX5 79 RX5 yX5_post wsX5_post) := goodIn_app (goodIn_of _ (by decide +kernel)) ggX5_isSame_X5_post
set_option maxRecDepth 20000 in
theorem ggX5_isSame_X4_post : GoodIn wsX5_isSame wsX4_post := goodIn_ca (goodIn_r _ [151, 17, 18, 19, 20, 15, 21, 22, 23, 24, 25, 26, 27, 28, 29, 30, 152, 153, 154, 38, 155, 156, 101, 157, 91, 92, 93, 94, 95, 96, 97, 98, 99, 100, 40, 102, 103, 104, 105, 106, 107, 108, 109, 110, 111, 112, 113, 114, 115, 116, 117, 118, 119, 120, 121, 122, 41, 42, 43, 123, 66, 67, 47, 68, 64, 124, 125, 126, 127, 128, 129, 130, 131, 132, 133, 134, 135, 136, 137, 138, 139, 158, 159, 160, 161, 162, 290, 291, 292, 293, 294, 295, 296, 297, 298, 299, 300, 301, 302, 303, 304, 305, 306, 307, 308, 309, 313, 314, 315, 316, 310, 311, 312] (by decide +kernel) (by decide +kernel)) (goodIn_sub (fun _ h => List.mem_cons_of_mem _ (List.mem_append_right _ h)) (by decide +kernel))
set_option maxRecDepth 20000 in
theorem gX5_isSame_X4_post : GoodIn wsX5_isSame (wsV RX5 90 RX4 yX4_post wsX4_post) := goodIn_app (goodIn_of _ (by decide +kernel)) ggX5_isSame_X4_post
set_option maxRecDepth 20000 in
theorem ggX5_isSame_X4_truth : GoodIn wsX5_isSame wsX4_truth := goodIn_ca (goodIn_r _ [166, 24, 167, 168, 89, 18, 19, 20, 15, 21, 22, 23, 25, 26, 27, 28, 29, 30, 169, 170, 171, 172, 112, 162, 117, 122, 173, 174, 103, 104, 105, 106, 107, 175, 129, 130, 131, 132, 133, 134, 176, 136, 137, 138, 139, 290, 291, 292, 293, 294, 295, 296, 297, 298, 299, 300, 301, 313, 314, 315, 316] (by decide +kernel) (by decide +kernel)) (goodIn_sub (fun _ h => List.mem_cons_of_mem _ (List.mem_append_right _ h)) (by decide +kernel))
set_option maxRecDepth 20000 in
theorem gX5_isSame_X4_truth : GoodIn wsX5_isSame (wsV RX5 91 RX4 yX4_truth wsX4_truth) := goodIn_app (goodIn_of _ (by decide +kernel)) ggX5_isSame_X4_truth
set_option maxRecDepth 20000 in
theorem ggX5_isSame_X5_sheetsOf : GoodIn wsX5_isSame wsX5_sheetsOf := goodIn_r _ [180, 2, 285, 286, 287, 288, 289] (by decide +kernel) (by decide +kernel)
set_option maxRecDepth 20000 in
theorem gX5_isSame_X5_sheetsOf : GoodIn wsX5_isSame (wsV RX5 75 RX5 yX5_sheetsOf wsX5_sheetsOf) := goodIn_app (goodIn_of _ (by decide +kernel)) ggX5_isSame_X5_sheetsOf
set_option maxRecDepth 20000 in
theorem ggX5_isSame_X4_told : GoodIn wsX5_isSame wsX4_told := goodIn_ca (goodIn_r _ [184, 22, 23, 24, 17, 18, 19, 20, 15, 21, 25, 26, 27, 28, 29, 30, 185, 186, 187, 188, 189, 190, 191, 192, 38, 193, 40, 41, 42, 43, 194, 195, 196, 197, 198, 199, 200, 201, 202, 101, 156, 203, 157, 91, 92, 93, 94, 95, 96, 97, 98, 99, 100, 102, 103, 104, 105, 106, 107, 108, 109, 110, 111, 112, 113, 114, 115, 116, 117, 118, 119, 120, 121, 122, 123, 66, 67, 47, 68, 64, 124, 125, 126, 127, 128, 129, 130, 131, 132, 133, 134, 135, 136, 137, 138, 139, 204, 205, 206, 207, 208, 153, 154, 155, 158, 159, 160, 161, 162, 290, 291, 292, 293, 294, 295, 296, 297, 298, 299, 300, 301, 302, 303, 304, 305, 306, 307, 308, 309, 313, 314, 315, 316, 310, 311, 312] (by decide +kernel) (by decide +kernel)) (goodIn_sub (fun _ h => List.mem_cons_of_mem _ (List.mem_append_right _ h)) (by decide +kernel))
set_option maxRecDepth 20000 in
theorem gX5_isSame_X4_told : GoodIn wsX5_isSame (wsV RX5 94 RX4 yX4_told wsX4_told) := goodIn_app (goodIn_of _ (by decide +kernel)) ggX5_isSame_X4_told
set_option maxRecDepth 20000 in
theorem ggX5_isSame_X5_takes : GoodIn wsX5_isSame wsX5_takes := goodIn_r _ [84, 2, 3, 8, 9, 10, 11, 285, 286, 287, 288, 289] (by decide +kernel) (by decide +kernel)
set_option maxRecDepth 20000 in
theorem gX5_isSame_X5_takes : GoodIn wsX5_isSame (wsV RX5 64 RX5 yX5_takes wsX5_takes) := goodIn_app (goodIn_of _ (by decide +kernel)) ggX5_isSame_X5_takes
set_option maxRecDepth 20000 in
theorem ggX5_isSame_X4_about : GoodIn wsX5_isSame wsX4_about := goodIn_ca (goodIn_r _ [212, 22, 23, 24, 17, 213, 214, 215, 15, 216, 217, 109, 110, 28, 111, 112, 218, 114, 115, 116, 117, 219, 119, 120, 121, 122, 220, 221, 222, 223, 173, 224, 225, 226, 227, 162, 228, 229, 230, 38, 231, 101, 203, 26, 27, 29, 30, 232, 233, 234, 235, 40, 113, 41, 42, 43, 118, 123, 66, 67, 47, 68, 64, 290, 291, 292, 293, 294, 295, 296, 297, 298, 299, 300, 301, 302, 303, 304, 305, 306, 307, 308, 309, 310, 311, 312] (by decide +kernel) (by decide +kernel)) (goodIn_sub (fun _ h => List.mem_cons_of_mem _ (List.mem_append_right _ h)) (by decide +kernel))
set_option maxRecDepth 20000 in
theorem gX5_isSame_X4_about : GoodIn wsX5_isSame (wsV RX5 96 RX4 yX4_about wsX4_about) := goodIn_app (goodIn_of _ (by decide +kernel)) ggX5_isSame_X4_about
set_option maxRecDepth 20000 in
theorem ggX5_isSame_X5_allSheets : GoodIn wsX5_isSame wsX5_allSheets := goodIn_r _ [239, 1, 177, 178, 179, 10, 180, 2, 285, 286, 287, 288, 289] (by decide +kernel) (by decide +kernel)
set_option maxRecDepth 20000 in
theorem gX5_isSame_X5_allSheets : GoodIn wsX5_isSame (wsV RX5 99 RX5 yX5_allSheets wsX5_allSheets) := goodIn_app (goodIn_of _ (by decide +kernel)) ggX5_isSame_X5_allSheets
set_option maxRecDepth 20000 in
theorem ggX5_isSame_X5_pairs : GoodIn wsX5_isSame wsX5_pairs := goodIn_r _ [243, 1, 4, 144, 145, 146, 10, 147, 3, 140, 141, 142, 143, 69, 70, 71, 72, 5, 73, 74, 75, 76, 77, 78, 79, 80, 2, 81, 82, 83, 84, 8, 9, 11, 285, 286, 287, 288, 289] (by decide +kernel) (by decide +kernel)
set_option maxRecDepth 20000 in
theorem gX5_isSame_X5_pairs : GoodIn wsX5_isSame (wsV RX5 103 RX5 yX5_pairs wsX5_pairs) := goodIn_app (goodIn_of _ (by decide +kernel)) ggX5_isSame_X5_pairs
set_option maxRecDepth 20000 in
theorem ggX5_isSame_X4_count : GoodIn wsX5_isSame wsX4_count := goodIn_ca (goodIn_r _ [247, 22, 23, 17, 24, 50, 51, 52, 38, 53, 54, 25, 26, 27, 28, 29, 30, 217, 109, 110, 111, 112, 248, 249, 250, 251, 162, 252, 253, 254, 255, 101, 203, 256, 191, 192, 193, 40, 41, 42, 43, 257, 258, 259, 260, 208, 153, 154, 155, 156, 157, 91, 92, 93, 94, 95, 96, 97, 98, 99, 100, 102, 103, 104, 105, 106, 107, 108, 113, 114, 115, 116, 117, 118, 119, 120, 121, 122, 123, 66, 67, 47, 68, 64, 124, 125, 126, 127, 128, 129, 130, 131, 132, 133, 134, 135, 136, 137, 138, 139, 158, 159, 160, 161, 261, 262, 263, 264, 265, 266, 267, 268, 269, 270, 271, 272, 273, 274, 275, 290, 291, 292, 293, 294, 302, 303, 304, 305, 306, 307, 308, 309, 295, 296, 297, 298, 299, 300, 301, 313, 314, 315, 316, 310, 311, 312] (by decide +kernel) (by decide +kernel)) (goodIn_sub (fun _ h => List.mem_cons_of_mem _ (List.mem_append_right _ h)) (by decide +kernel))
set_option maxRecDepth 20000 in
theorem gX5_isSame_X4_count : GoodIn wsX5_isSame (wsV RX5 107 RX4 yX4_count wsX4_count) := goodIn_app (goodIn_of _ (by decide +kernel)) ggX5_isSame_X4_count
set_option maxRecDepth 20000 in
theorem ggX5_isSame_X4_mean : GoodIn wsX5_isSame wsX4_mean := goodIn_r _ [279, 17, 252, 253, 254, 38, 255, 101, 203, 26, 27, 28, 29, 30, 256, 191, 192, 193, 40, 41, 42, 43, 280, 281, 282, 283, 54, 284, 56, 57, 47, 58, 59, 290, 291, 292, 293, 294, 302, 303, 304, 305, 306, 307, 308, 309, 295, 296, 297, 298, 299, 300, 301, 310, 311, 312] (by decide +kernel) (by decide +kernel)
set_option maxRecDepth 20000 in
theorem gX5_isSame_X4_mean : GoodIn wsX5_isSame (wsV RX5 110 RX4 yX4_mean wsX4_mean) := goodIn_app (goodIn_of _ (by decide +kernel)) ggX5_isSame_X4_mean
theorem dX5_isSame_0 : decode cX5_isSame 0 = .ok (.aload_n 0, 1) := by decide +kernel
theorem dX5_isSame_1 : decode cX5_isSame 1 = .ok (.getfield 9, 3) := by decide +kernel
theorem dX5_isSame_4 : decode cX5_isSame 4 = .ok (.arraylength, 1) := by decide +kernel
theorem dX5_isSame_5 : decode cX5_isSame 5 = .ok (.istore_n 2, 1) := by decide +kernel
theorem dX5_isSame_6 : decode cX5_isSame 6 = .ok (.iconst 0, 1) := by decide +kernel
theorem dX5_isSame_7 : decode cX5_isSame 7 = .ok (.istore_n 3, 1) := by decide +kernel
theorem dX5_isSame_8 : decode cX5_isSame 8 = .ok (.iconst 0, 1) := by decide +kernel
theorem dX5_isSame_9 : decode cX5_isSame 9 = .ok (.istore 4, 2) := by decide +kernel
theorem dX5_isSame_11 : decode cX5_isSame 11 = .ok (.iconst 0, 1) := by decide +kernel
theorem dX5_isSame_12 : decode cX5_isSame 12 = .ok (.istore 5, 2) := by decide +kernel
theorem dX5_isSame_14 : decode cX5_isSame 14 = .ok (.iload 5, 2) := by decide +kernel
theorem dX5_isSame_16 : decode cX5_isSame 16 = .ok (.iload_n 2, 1) := by decide +kernel
theorem dX5_isSame_17 : decode cX5_isSame 17 = .ok (.if_icmp .ge 461, 3) := by decide +kernel
theorem dX5_isSame_20 : decode cX5_isSame 20 = .ok (.iconst 0, 1) := by decide +kernel
theorem dX5_isSame_21 : decode cX5_isSame 21 = .ok (.istore 6, 2) := by decide +kernel
theorem dX5_isSame_23 : decode cX5_isSame 23 = .ok (.iconst 0, 1) := by decide +kernel
theorem dX5_isSame_24 : decode cX5_isSame 24 = .ok (.istore 7, 2) := by decide +kernel
theorem dX5_isSame_26 : decode cX5_isSame 26 = .ok (.iconst 0, 1) := by decide +kernel
theorem dX5_isSame_27 : decode cX5_isSame 27 = .ok (.istore 8, 2) := by decide +kernel
theorem dX5_isSame_29 : decode cX5_isSame 29 = .ok (.iload 8, 2) := by decide +kernel
theorem dX5_isSame_31 : decode cX5_isSame 31 = .ok (.iload_n 2, 1) := by decide +kernel
theorem dX5_isSame_32 : decode cX5_isSame 32 = .ok (.if_icmp .ge 356, 3) := by decide +kernel
theorem dX5_isSame_35 : decode cX5_isSame 35 = .ok (.aload_n 0, 1) := by decide +kernel
theorem dX5_isSame_36 : decode cX5_isSame 36 = .ok (.getfield 20, 3) := by decide +kernel
theorem dX5_isSame_39 : decode cX5_isSame 39 = .ok (.iload 5, 2) := by decide +kernel
theorem dX5_isSame_41 : decode cX5_isSame 41 = .ok (.aaload, 1) := by decide +kernel
theorem dX5_isSame_42 : decode cX5_isSame 42 = .ok (.iload 8, 2) := by decide +kernel
theorem dX5_isSame_44 : decode cX5_isSame 44 = .ok (.aaload, 1) := by decide +kernel
theorem dX5_isSame_45 : decode cX5_isSame 45 = .ok (.astore 9, 2) := by decide +kernel
theorem dX5_isSame_47 : decode cX5_isSame 47 = .ok (.iconst 0, 1) := by decide +kernel
theorem dX5_isSame_48 : decode cX5_isSame 48 = .ok (.istore 10, 2) := by decide +kernel
theorem dX5_isSame_50 : decode cX5_isSame 50 = .ok (.iconst 0, 1) := by decide +kernel
theorem dX5_isSame_51 : decode cX5_isSame 51 = .ok (.istore 11, 2) := by decide +kernel
theorem dX5_isSame_53 : decode cX5_isSame 53 = .ok (.iload 11, 2) := by decide +kernel
theorem dX5_isSame_55 : decode cX5_isSame 55 = .ok (.aload_n 0, 1) := by decide +kernel
theorem dX5_isSame_56 : decode cX5_isSame 56 = .ok (.getfield 25, 3) := by decide +kernel
theorem dX5_isSame_59 : decode cX5_isSame 59 = .ok (.arraylength, 1) := by decide +kernel
theorem dX5_isSame_60 : decode cX5_isSame 60 = .ok (.if_icmp .ge 29, 3) := by decide +kernel
theorem dX5_isSame_63 : decode cX5_isSame 63 = .ok (.iload 10, 2) := by decide +kernel
theorem dX5_isSame_65 : decode cX5_isSame 65 = .ok (.aload 9, 2) := by decide +kernel
theorem dX5_isSame_67 : decode cX5_isSame 67 = .ok (.iload 11, 2) := by decide +kernel
theorem dX5_isSame_69 : decode cX5_isSame 69 = .ok (.invokestatic 42, 3) := by decide +kernel
theorem dX5_isSame_72 : decode cX5_isSame 72 = .ok (.ifCond .le 7, 3) := by decide +kernel
theorem dX5_isSame_75 : decode cX5_isSame 75 = .ok (.iconst 1, 1) := by decide +kernel
theorem dX5_isSame_76 : decode cX5_isSame 76 = .ok (.goto 4, 3) := by decide +kernel
theorem dX5_isSame_79 : decode cX5_isSame 79 = .ok (.iconst 0, 1) := by decide +kernel
theorem dX5_isSame_80 : decode cX5_isSame 80 = .ok (.iadd, 1) := by decide +kernel
theorem dX5_isSame_81 : decode cX5_isSame 81 = .ok (.istore 10, 2) := by decide +kernel
theorem dX5_isSame_83 : decode cX5_isSame 83 = .ok (.iinc 11 1, 3) := by decide +kernel
theorem dX5_isSame_86 : decode cX5_isSame 86 = .ok (.goto (-33), 3) := by decide +kernel
theorem dX5_isSame_89 : decode cX5_isSame 89 = .ok (.aload 9, 2) := by decide +kernel
theorem dX5_isSame_91 : decode cX5_isSame 91 = .ok (.arraylength, 1) := by decide +kernel
theorem dX5_isSame_92 : decode cX5_isSame 92 = .ok (.ifCond .le 7, 3) := by decide +kernel
theorem dX5_isSame_95 : decode cX5_isSame 95 = .ok (.iconst 1, 1) := by decide +kernel
theorem dX5_isSame_96 : decode cX5_isSame 96 = .ok (.goto 4, 3) := by decide +kernel
theorem dX5_isSame_99 : decode cX5_isSame 99 = .ok (.iconst 0, 1) := by decide +kernel
theorem dX5_isSame_100 : decode cX5_isSame 100 = .ok (.istore 11, 2) := by decide +kernel
theorem dX5_isSame_102 : decode cX5_isSame 102 = .ok (.aload_n 1, 1) := by decide +kernel
theorem dX5_isSame_103 : decode cX5_isSame 103 = .ok (.iload 5, 2) := by decide +kernel
theorem dX5_isSame_105 : decode cX5_isSame 105 = .ok (.iload 8, 2) := by decide +kernel
theorem dX5_isSame_107 : decode cX5_isSame 107 = .ok (.iconst 0, 1) := by decide +kernel
theorem dX5_isSame_108 : decode cX5_isSame 108 = .ok (.invokevirtual 82, 3) := by decide +kernel
theorem dX5_isSame_111 : decode cX5_isSame 111 = .ok (.iload 11, 2) := by decide +kernel
theorem dX5_isSame_113 : decode cX5_isSame 113 = .ok (.ifCond .eq 10, 3) := by decide +kernel
theorem dX5_isSame_116 : decode cX5_isSame 116 = .ok (.aload 9, 2) := by decide +kernel
theorem dX5_isSame_118 : decode cX5_isSame 118 = .ok (.iconst 0, 1) := by decide +kernel
theorem dX5_isSame_119 : decode cX5_isSame 119 = .ok (.iaload, 1) := by decide +kernel
theorem dX5_isSame_120 : decode cX5_isSame 120 = .ok (.goto 4, 3) := by decide +kernel
theorem dX5_isSame_123 : decode cX5_isSame 123 = .ok (.iconst (-1), 1) := by decide +kernel
theorem dX5_isSame_124 : decode cX5_isSame 124 = .ok (.if_icmp .ne 51, 3) := by decide +kernel
theorem dX5_isSame_127 : decode cX5_isSame 127 = .ok (.aload_n 1, 1) := by decide +kernel
theorem dX5_isSame_128 : decode cX5_isSame 128 = .ok (.iload 5, 2) := by decide +kernel
theorem dX5_isSame_130 : decode cX5_isSame 130 = .ok (.iload 8, 2) := by decide +kernel
theorem dX5_isSame_132 : decode cX5_isSame 132 = .ok (.iconst 1, 1) := by decide +kernel
theorem dX5_isSame_133 : decode cX5_isSame 133 = .ok (.invokevirtual 82, 3) := by decide +kernel
theorem dX5_isSame_136 : decode cX5_isSame 136 = .ok (.iload 11, 2) := by decide +kernel
theorem dX5_isSame_138 : decode cX5_isSame 138 = .ok (.ifCond .eq 10, 3) := by decide +kernel
theorem dX5_isSame_141 : decode cX5_isSame 141 = .ok (.aload 9, 2) := by decide +kernel
theorem dX5_isSame_143 : decode cX5_isSame 143 = .ok (.iconst 1, 1) := by decide +kernel
theorem dX5_isSame_144 : decode cX5_isSame 144 = .ok (.iaload, 1) := by decide +kernel
theorem dX5_isSame_145 : decode cX5_isSame 145 = .ok (.goto 4, 3) := by decide +kernel
theorem dX5_isSame_148 : decode cX5_isSame 148 = .ok (.iconst (-1), 1) := by decide +kernel
theorem dX5_isSame_149 : decode cX5_isSame 149 = .ok (.if_icmp .ne 26, 3) := by decide +kernel
theorem dX5_isSame_152 : decode cX5_isSame 152 = .ok (.aload_n 1, 1) := by decide +kernel
theorem dX5_isSame_153 : decode cX5_isSame 153 = .ok (.iload 5, 2) := by decide +kernel
theorem dX5_isSame_155 : decode cX5_isSame 155 = .ok (.iload 8, 2) := by decide +kernel
theorem dX5_isSame_157 : decode cX5_isSame 157 = .ok (.iconst 2, 1) := by decide +kernel
theorem dX5_isSame_158 : decode cX5_isSame 158 = .ok (.invokevirtual 82, 3) := by decide +kernel
theorem dX5_isSame_161 : decode cX5_isSame 161 = .ok (.iload 11, 2) := by decide +kernel
theorem dX5_isSame_163 : decode cX5_isSame 163 = .ok (.ifCond .eq 8, 3) := by decide +kernel
theorem dX5_isSame_166 : decode cX5_isSame 166 = .ok (.iload 10, 2) := by decide +kernel
theorem dX5_isSame_168 : decode cX5_isSame 168 = .ok (.goto 4, 3) := by decide +kernel
theorem dX5_isSame_171 : decode cX5_isSame 171 = .ok (.iconst (-1), 1) := by decide +kernel
theorem dX5_isSame_172 : decode cX5_isSame 172 = .ok (.if_icmp .eq 5, 3) := by decide +kernel
theorem dX5_isSame_175 : decode cX5_isSame 175 = .ok (.iconst 0, 1) := by decide +kernel
theorem dX5_isSame_176 : decode cX5_isSame 176 = .ok (.ireturn, 1) := by decide +kernel
theorem dX5_isSame_177 : decode cX5_isSame 177 = .ok (.iload 4, 2) := by decide +kernel
theorem dX5_isSame_179 : decode cX5_isSame 179 = .ok (.iload 11, 2) := by decide +kernel
theorem dX5_isSame_181 : decode cX5_isSame 181 = .ok (.ifCond .eq 10, 3) := by decide +kernel
theorem dX5_isSame_184 : decode cX5_isSame 184 = .ok (.aload 9, 2) := by decide +kernel
theorem dX5_isSame_186 : decode cX5_isSame 186 = .ok (.iconst 1, 1) := by decide +kernel
theorem dX5_isSame_187 : decode cX5_isSame 187 = .ok (.iaload, 1) := by decide +kernel
theorem dX5_isSame_188 : decode cX5_isSame 188 = .ok (.goto 4, 3) := by decide +kernel
theorem dX5_isSame_191 : decode cX5_isSame 191 = .ok (.iconst 0, 1) := by decide +kernel
theorem dX5_isSame_192 : decode cX5_isSame 192 = .ok (.iadd, 1) := by decide +kernel
theorem dX5_isSame_193 : decode cX5_isSame 193 = .ok (.istore 4, 2) := by decide +kernel
theorem dX5_isSame_195 : decode cX5_isSame 195 = .ok (.aload_n 0, 1) := by decide +kernel
theorem dX5_isSame_196 : decode cX5_isSame 196 = .ok (.iload 5, 2) := by decide +kernel
theorem dX5_isSame_198 : decode cX5_isSame 198 = .ok (.iload 8, 2) := by decide +kernel
theorem dX5_isSame_200 : decode cX5_isSame 200 = .ok (.invokevirtual 68, 3) := by decide +kernel
theorem dX5_isSame_203 : decode cX5_isSame 203 = .ok (.iload 5, 2) := by decide +kernel
theorem dX5_isSame_205 : decode cX5_isSame 205 = .ok (.iaload, 1) := by decide +kernel
theorem dX5_isSame_206 : decode cX5_isSame 206 = .ok (.istore 12, 2) := by decide +kernel
theorem dX5_isSame_208 : decode cX5_isSame 208 = .ok (.aload_n 1, 1) := by decide +kernel
theorem dX5_isSame_209 : decode cX5_isSame 209 = .ok (.iload 5, 2) := by decide +kernel
theorem dX5_isSame_211 : decode cX5_isSame 211 = .ok (.iload 8, 2) := by decide +kernel
theorem dX5_isSame_213 : decode cX5_isSame 213 = .ok (.iconst 0, 1) := by decide +kernel
theorem dX5_isSame_214 : decode cX5_isSame 214 = .ok (.invokevirtual 87, 3) := by decide +kernel
theorem dX5_isSame_217 : decode cX5_isSame 217 = .ok (.iload 12, 2) := by decide +kernel
theorem dX5_isSame_219 : decode cX5_isSame 219 = .ok (.ldc 54, 2) := by decide +kernel
theorem dX5_isSame_221 : decode cX5_isSame 221 = .ok (.if_icmp .ge 11, 3) := by decide +kernel
theorem dX5_isSame_224 : decode cX5_isSame 224 = .ok (.iload 12, 2) := by decide +kernel
theorem dX5_isSame_226 : decode cX5_isSame 226 = .ok (.bipush 100, 2) := by decide +kernel
theorem dX5_isSame_228 : decode cX5_isSame 228 = .ok (.idiv, 1) := by decide +kernel
theorem dX5_isSame_229 : decode cX5_isSame 229 = .ok (.goto 4, 3) := by decide +kernel
theorem dX5_isSame_232 : decode cX5_isSame 232 = .ok (.iconst (-1), 1) := by decide +kernel
theorem dX5_isSame_233 : decode cX5_isSame 233 = .ok (.if_icmp .ne 51, 3) := by decide +kernel
theorem dX5_isSame_236 : decode cX5_isSame 236 = .ok (.aload_n 1, 1) := by decide +kernel
theorem dX5_isSame_237 : decode cX5_isSame 237 = .ok (.iload 5, 2) := by decide +kernel
theorem dX5_isSame_239 : decode cX5_isSame 239 = .ok (.iload 8, 2) := by decide +kernel
theorem dX5_isSame_241 : decode cX5_isSame 241 = .ok (.iconst 1, 1) := by decide +kernel
theorem dX5_isSame_242 : decode cX5_isSame 242 = .ok (.invokevirtual 87, 3) := by decide +kernel
theorem dX5_isSame_245 : decode cX5_isSame 245 = .ok (.iload 12, 2) := by decide +kernel
theorem dX5_isSame_247 : decode cX5_isSame 247 = .ok (.ldc 54, 2) := by decide +kernel
theorem dX5_isSame_249 : decode cX5_isSame 249 = .ok (.if_icmp .ge 11, 3) := by decide +kernel
theorem dX5_isSame_252 : decode cX5_isSame 252 = .ok (.iload 12, 2) := by decide +kernel
theorem dX5_isSame_254 : decode cX5_isSame 254 = .ok (.bipush 100, 2) := by decide +kernel
theorem dX5_isSame_256 : decode cX5_isSame 256 = .ok (.irem, 1) := by decide +kernel
theorem dX5_isSame_257 : decode cX5_isSame 257 = .ok (.goto 4, 3) := by decide +kernel
theorem dX5_isSame_260 : decode cX5_isSame 260 = .ok (.iconst (-1), 1) := by decide +kernel
theorem dX5_isSame_261 : decode cX5_isSame 261 = .ok (.if_icmp .ne 23, 3) := by decide +kernel
theorem dX5_isSame_264 : decode cX5_isSame 264 = .ok (.aload_n 1, 1) := by decide +kernel
theorem dX5_isSame_265 : decode cX5_isSame 265 = .ok (.iload 5, 2) := by decide +kernel
theorem dX5_isSame_267 : decode cX5_isSame 267 = .ok (.iload 8, 2) := by decide +kernel
theorem dX5_isSame_269 : decode cX5_isSame 269 = .ok (.iconst 2, 1) := by decide +kernel
theorem dX5_isSame_270 : decode cX5_isSame 270 = .ok (.invokevirtual 87, 3) := by decide +kernel
theorem dX5_isSame_273 : decode cX5_isSame 273 = .ok (.aload_n 0, 1) := by decide +kernel
theorem dX5_isSame_274 : decode cX5_isSame 274 = .ok (.iload 5, 2) := by decide +kernel
theorem dX5_isSame_276 : decode cX5_isSame 276 = .ok (.iload 8, 2) := by decide +kernel
theorem dX5_isSame_278 : decode cX5_isSame 278 = .ok (.invokevirtual 72, 3) := by decide +kernel
theorem dX5_isSame_281 : decode cX5_isSame 281 = .ok (.if_icmp .eq 5, 3) := by decide +kernel
theorem dX5_isSame_284 : decode cX5_isSame 284 = .ok (.iconst 0, 1) := by decide +kernel
theorem dX5_isSame_285 : decode cX5_isSame 285 = .ok (.ireturn, 1) := by decide +kernel
theorem dX5_isSame_286 : decode cX5_isSame 286 = .ok (.aload_n 0, 1) := by decide +kernel
theorem dX5_isSame_287 : decode cX5_isSame 287 = .ok (.iload 5, 2) := by decide +kernel
theorem dX5_isSame_289 : decode cX5_isSame 289 = .ok (.iload 8, 2) := by decide +kernel
theorem dX5_isSame_291 : decode cX5_isSame 291 = .ok (.invokevirtual 79, 3) := by decide +kernel
theorem dX5_isSame_294 : decode cX5_isSame 294 = .ok (.istore 13, 2) := by decide +kernel
theorem dX5_isSame_296 : decode cX5_isSame 296 = .ok (.aload_n 0, 1) := by decide +kernel
theorem dX5_isSame_297 : decode cX5_isSame 297 = .ok (.iconst (-1), 1) := by decide +kernel
theorem dX5_isSame_298 : decode cX5_isSame 298 = .ok (.iload 8, 2) := by decide +kernel
theorem dX5_isSame_300 : decode cX5_isSame 300 = .ok (.invokevirtual 68, 3) := by decide +kernel
theorem dX5_isSame_303 : decode cX5_isSame 303 = .ok (.iload 5, 2) := by decide +kernel
theorem dX5_isSame_305 : decode cX5_isSame 305 = .ok (.iaload, 1) := by decide +kernel
theorem dX5_isSame_306 : decode cX5_isSame 306 = .ok (.istore 14, 2) := by decide +kernel
theorem dX5_isSame_308 : decode cX5_isSame 308 = .ok (.aload_n 1, 1) := by decide +kernel
theorem dX5_isSame_309 : decode cX5_isSame 309 = .ok (.iload 5, 2) := by decide +kernel
theorem dX5_isSame_311 : decode cX5_isSame 311 = .ok (.iload 8, 2) := by decide +kernel
theorem dX5_isSame_313 : decode cX5_isSame 313 = .ok (.invokevirtual 90, 3) := by decide +kernel
theorem dX5_isSame_316 : decode cX5_isSame 316 = .ok (.iload 13, 2) := by decide +kernel
theorem dX5_isSame_318 : decode cX5_isSame 318 = .ok (.if_icmp .ne 30, 3) := by decide +kernel
theorem dX5_isSame_321 : decode cX5_isSame 321 = .ok (.aload_n 1, 1) := by decide +kernel
theorem dX5_isSame_322 : decode cX5_isSame 322 = .ok (.iload 5, 2) := by decide +kernel
theorem dX5_isSame_324 : decode cX5_isSame 324 = .ok (.iload 8, 2) := by decide +kernel
theorem dX5_isSame_326 : decode cX5_isSame 326 = .ok (.invokevirtual 91, 3) := by decide +kernel
theorem dX5_isSame_329 : decode cX5_isSame 329 = .ok (.iload 14, 2) := by decide +kernel
theorem dX5_isSame_331 : decode cX5_isSame 331 = .ok (.ldc 54, 2) := by decide +kernel
theorem dX5_isSame_333 : decode cX5_isSame 333 = .ok (.if_icmp .ge 11, 3) := by decide +kernel
theorem dX5_isSame_336 : decode cX5_isSame 336 = .ok (.iload 14, 2) := by decide +kernel
theorem dX5_isSame_338 : decode cX5_isSame 338 = .ok (.bipush 100, 2) := by decide +kernel
theorem dX5_isSame_340 : decode cX5_isSame 340 = .ok (.idiv, 1) := by decide +kernel
theorem dX5_isSame_341 : decode cX5_isSame 341 = .ok (.goto 4, 3) := by decide +kernel
theorem dX5_isSame_344 : decode cX5_isSame 344 = .ok (.iconst (-1), 1) := by decide +kernel
theorem dX5_isSame_345 : decode cX5_isSame 345 = .ok (.if_icmp .eq 5, 3) := by decide +kernel
theorem dX5_isSame_348 : decode cX5_isSame 348 = .ok (.iconst 0, 1) := by decide +kernel
theorem dX5_isSame_349 : decode cX5_isSame 349 = .ok (.ireturn, 1) := by decide +kernel
theorem dX5_isSame_350 : decode cX5_isSame 350 = .ok (.iload 6, 2) := by decide +kernel
theorem dX5_isSame_352 : decode cX5_isSame 352 = .ok (.iload 12, 2) := by decide +kernel
theorem dX5_isSame_354 : decode cX5_isSame 354 = .ok (.ldc 54, 2) := by decide +kernel
theorem dX5_isSame_356 : decode cX5_isSame 356 = .ok (.if_icmp .ge 7, 3) := by decide +kernel
theorem dX5_isSame_359 : decode cX5_isSame 359 = .ok (.iconst 1, 1) := by decide +kernel
theorem dX5_isSame_360 : decode cX5_isSame 360 = .ok (.goto 4, 3) := by decide +kernel
theorem dX5_isSame_363 : decode cX5_isSame 363 = .ok (.iconst 0, 1) := by decide +kernel
theorem dX5_isSame_364 : decode cX5_isSame 364 = .ok (.iadd, 1) := by decide +kernel
theorem dX5_isSame_365 : decode cX5_isSame 365 = .ok (.istore 6, 2) := by decide +kernel
theorem dX5_isSame_367 : decode cX5_isSame 367 = .ok (.iload 7, 2) := by decide +kernel
theorem dX5_isSame_369 : decode cX5_isSame 369 = .ok (.iload 13, 2) := by decide +kernel
theorem dX5_isSame_371 : decode cX5_isSame 371 = .ok (.ifCond .lt 7, 3) := by decide +kernel
theorem dX5_isSame_374 : decode cX5_isSame 374 = .ok (.iconst 1, 1) := by decide +kernel
theorem dX5_isSame_375 : decode cX5_isSame 375 = .ok (.goto 4, 3) := by decide +kernel
theorem dX5_isSame_378 : decode cX5_isSame 378 = .ok (.iconst 0, 1) := by decide +kernel
theorem dX5_isSame_379 : decode cX5_isSame 379 = .ok (.iadd, 1) := by decide +kernel
theorem dX5_isSame_380 : decode cX5_isSame 380 = .ok (.istore 7, 2) := by decide +kernel
theorem dX5_isSame_382 : decode cX5_isSame 382 = .ok (.iinc 8 1, 3) := by decide +kernel
theorem dX5_isSame_385 : decode cX5_isSame 385 = .ok (.goto (-356), 3) := by decide +kernel
theorem dX5_isSame_388 : decode cX5_isSame 388 = .ok (.iload_n 3, 1) := by decide +kernel
theorem dX5_isSame_389 : decode cX5_isSame 389 = .ok (.iload 7, 2) := by decide +kernel
theorem dX5_isSame_391 : decode cX5_isSame 391 = .ok (.iconst 1, 1) := by decide +kernel
theorem dX5_isSame_392 : decode cX5_isSame 392 = .ok (.isub, 1) := by decide +kernel
theorem dX5_isSame_393 : decode cX5_isSame 393 = .ok (.iadd, 1) := by decide +kernel
theorem dX5_isSame_394 : decode cX5_isSame 394 = .ok (.istore_n 3, 1) := by decide +kernel
theorem dX5_isSame_395 : decode cX5_isSame 395 = .ok (.iconst 5, 1) := by decide +kernel
theorem dX5_isSame_396 : decode cX5_isSame 396 = .ok (.newarray .int, 2) := by decide +kernel
theorem dX5_isSame_398 : decode cX5_isSame 398 = .ok (.dup, 1) := by decide +kernel
theorem dX5_isSame_399 : decode cX5_isSame 399 = .ok (.iconst 0, 1) := by decide +kernel
theorem dX5_isSame_400 : decode cX5_isSame 400 = .ok (.aload_n 0, 1) := by decide +kernel
theorem dX5_isSame_401 : decode cX5_isSame 401 = .ok (.getfield 9, 3) := by decide +kernel
theorem dX5_isSame_404 : decode cX5_isSame 404 = .ok (.iload 5, 2) := by decide +kernel
theorem dX5_isSame_406 : decode cX5_isSame 406 = .ok (.iaload, 1) := by decide +kernel
theorem dX5_isSame_407 : decode cX5_isSame 407 = .ok (.iastore, 1) := by decide +kernel
theorem dX5_isSame_408 : decode cX5_isSame 408 = .ok (.dup, 1) := by decide +kernel
theorem dX5_isSame_409 : decode cX5_isSame 409 = .ok (.iconst 1, 1) := by decide +kernel
theorem dX5_isSame_410 : decode cX5_isSame 410 = .ok (.aload_n 0, 1) := by decide +kernel
theorem dX5_isSame_411 : decode cX5_isSame 411 = .ok (.iload 5, 2) := by decide +kernel
theorem dX5_isSame_413 : decode cX5_isSame 413 = .ok (.invokevirtual 75, 3) := by decide +kernel
theorem dX5_isSame_416 : decode cX5_isSame 416 = .ok (.iastore, 1) := by decide +kernel
theorem dX5_isSame_417 : decode cX5_isSame 417 = .ok (.dup, 1) := by decide +kernel
theorem dX5_isSame_418 : decode cX5_isSame 418 = .ok (.iconst 2, 1) := by decide +kernel
theorem dX5_isSame_419 : decode cX5_isSame 419 = .ok (.aload_n 0, 1) := by decide +kernel
theorem dX5_isSame_420 : decode cX5_isSame 420 = .ok (.getfield 15, 3) := by decide +kernel
theorem dX5_isSame_423 : decode cX5_isSame 423 = .ok (.iload 5, 2) := by decide +kernel
theorem dX5_isSame_425 : decode cX5_isSame 425 = .ok (.iaload, 1) := by decide +kernel
theorem dX5_isSame_426 : decode cX5_isSame 426 = .ok (.iastore, 1) := by decide +kernel
theorem dX5_isSame_427 : decode cX5_isSame 427 = .ok (.dup, 1) := by decide +kernel
theorem dX5_isSame_428 : decode cX5_isSame 428 = .ok (.iconst 3, 1) := by decide +kernel
theorem dX5_isSame_429 : decode cX5_isSame 429 = .ok (.iload 6, 2) := by decide +kernel
theorem dX5_isSame_431 : decode cX5_isSame 431 = .ok (.iastore, 1) := by decide +kernel
theorem dX5_isSame_432 : decode cX5_isSame 432 = .ok (.dup, 1) := by decide +kernel
theorem dX5_isSame_433 : decode cX5_isSame 433 = .ok (.iconst 4, 1) := by decide +kernel
theorem dX5_isSame_434 : decode cX5_isSame 434 = .ok (.iload 7, 2) := by decide +kernel
theorem dX5_isSame_436 : decode cX5_isSame 436 = .ok (.iastore, 1) := by decide +kernel
theorem dX5_isSame_437 : decode cX5_isSame 437 = .ok (.astore 8, 2) := by decide +kernel
theorem dX5_isSame_439 : decode cX5_isSame 439 = .ok (.iconst 0, 1) := by decide +kernel
theorem dX5_isSame_440 : decode cX5_isSame 440 = .ok (.istore 9, 2) := by decide +kernel
theorem dX5_isSame_442 : decode cX5_isSame 442 = .ok (.iload 9, 2) := by decide +kernel
theorem dX5_isSame_444 : decode cX5_isSame 444 = .ok (.iconst 5, 1) := by decide +kernel
theorem dX5_isSame_445 : decode cX5_isSame 445 = .ok (.if_icmp .ge 27, 3) := by decide +kernel
theorem dX5_isSame_448 : decode cX5_isSame 448 = .ok (.aload_n 1, 1) := by decide +kernel
theorem dX5_isSame_449 : decode cX5_isSame 449 = .ok (.iload 5, 2) := by decide +kernel
theorem dX5_isSame_451 : decode cX5_isSame 451 = .ok (.iload 9, 2) := by decide +kernel
theorem dX5_isSame_453 : decode cX5_isSame 453 = .ok (.invokevirtual 94, 3) := by decide +kernel
theorem dX5_isSame_456 : decode cX5_isSame 456 = .ok (.aload 8, 2) := by decide +kernel
theorem dX5_isSame_458 : decode cX5_isSame 458 = .ok (.iload 9, 2) := by decide +kernel
theorem dX5_isSame_460 : decode cX5_isSame 460 = .ok (.iaload, 1) := by decide +kernel
theorem dX5_isSame_461 : decode cX5_isSame 461 = .ok (.if_icmp .eq 5, 3) := by decide +kernel
theorem dX5_isSame_464 : decode cX5_isSame 464 = .ok (.iconst 0, 1) := by decide +kernel
theorem dX5_isSame_465 : decode cX5_isSame 465 = .ok (.ireturn, 1) := by decide +kernel
theorem dX5_isSame_466 : decode cX5_isSame 466 = .ok (.iinc 9 1, 3) := by decide +kernel
theorem dX5_isSame_469 : decode cX5_isSame 469 = .ok (.goto (-27), 3) := by decide +kernel
theorem dX5_isSame_472 : decode cX5_isSame 472 = .ok (.iinc 5 1, 3) := by decide +kernel
theorem dX5_isSame_475 : decode cX5_isSame 475 = .ok (.goto (-461), 3) := by decide +kernel
theorem dX5_isSame_478 : decode cX5_isSame 478 = .ok (.iconst 0, 1) := by decide +kernel
theorem dX5_isSame_479 : decode cX5_isSame 479 = .ok (.istore 5, 2) := by decide +kernel
theorem dX5_isSame_481 : decode cX5_isSame 481 = .ok (.iconst 0, 1) := by decide +kernel
theorem dX5_isSame_482 : decode cX5_isSame 482 = .ok (.istore 6, 2) := by decide +kernel
theorem dX5_isSame_484 : decode cX5_isSame 484 = .ok (.iload 6, 2) := by decide +kernel
theorem dX5_isSame_486 : decode cX5_isSame 486 = .ok (.aload_n 0, 1) := by decide +kernel
theorem dX5_isSame_487 : decode cX5_isSame 487 = .ok (.getfield 25, 3) := by decide +kernel
theorem dX5_isSame_490 : decode cX5_isSame 490 = .ok (.arraylength, 1) := by decide +kernel
theorem dX5_isSame_491 : decode cX5_isSame 491 = .ok (.if_icmp .ge 114, 3) := by decide +kernel
theorem dX5_isSame_494 : decode cX5_isSame 494 = .ok (.iconst 0, 1) := by decide +kernel
theorem dX5_isSame_495 : decode cX5_isSame 495 = .ok (.istore 7, 2) := by decide +kernel
theorem dX5_isSame_497 : decode cX5_isSame 497 = .ok (.iconst 0, 1) := by decide +kernel
theorem dX5_isSame_498 : decode cX5_isSame 498 = .ok (.istore 8, 2) := by decide +kernel
theorem dX5_isSame_500 : decode cX5_isSame 500 = .ok (.iload 8, 2) := by decide +kernel
theorem dX5_isSame_502 : decode cX5_isSame 502 = .ok (.iload_n 2, 1) := by decide +kernel
theorem dX5_isSame_503 : decode cX5_isSame 503 = .ok (.if_icmp .ge 30, 3) := by decide +kernel
theorem dX5_isSame_506 : decode cX5_isSame 506 = .ok (.iload 7, 2) := by decide +kernel
theorem dX5_isSame_508 : decode cX5_isSame 508 = .ok (.aload_n 0, 1) := by decide +kernel
theorem dX5_isSame_509 : decode cX5_isSame 509 = .ok (.iload 8, 2) := by decide +kernel
theorem dX5_isSame_511 : decode cX5_isSame 511 = .ok (.iload 6, 2) := by decide +kernel
theorem dX5_isSame_513 : decode cX5_isSame 513 = .ok (.invokevirtual 64, 3) := by decide +kernel
theorem dX5_isSame_516 : decode cX5_isSame 516 = .ok (.ifCond .eq 7, 3) := by decide +kernel
theorem dX5_isSame_519 : decode cX5_isSame 519 = .ok (.iconst 1, 1) := by decide +kernel
theorem dX5_isSame_520 : decode cX5_isSame 520 = .ok (.goto 4, 3) := by decide +kernel
theorem dX5_isSame_523 : decode cX5_isSame 523 = .ok (.iconst 0, 1) := by decide +kernel
theorem dX5_isSame_524 : decode cX5_isSame 524 = .ok (.iadd, 1) := by decide +kernel
theorem dX5_isSame_525 : decode cX5_isSame 525 = .ok (.istore 7, 2) := by decide +kernel
theorem dX5_isSame_527 : decode cX5_isSame 527 = .ok (.iinc 8 1, 3) := by decide +kernel
theorem dX5_isSame_530 : decode cX5_isSame 530 = .ok (.goto (-30), 3) := by decide +kernel
theorem dX5_isSame_533 : decode cX5_isSame 533 = .ok (.iconst 0, 1) := by decide +kernel
theorem dX5_isSame_534 : decode cX5_isSame 534 = .ok (.istore 8, 2) := by decide +kernel
theorem dX5_isSame_536 : decode cX5_isSame 536 = .ok (.iload 8, 2) := by decide +kernel
theorem dX5_isSame_538 : decode cX5_isSame 538 = .ok (.iconst 4, 1) := by decide +kernel
theorem dX5_isSame_539 : decode cX5_isSame 539 = .ok (.if_icmp .ge 32, 3) := by decide +kernel
theorem dX5_isSame_542 : decode cX5_isSame 542 = .ok (.aload_n 1, 1) := by decide +kernel
theorem dX5_isSame_543 : decode cX5_isSame 543 = .ok (.iload 6, 2) := by decide +kernel
theorem dX5_isSame_545 : decode cX5_isSame 545 = .ok (.iload 8, 2) := by decide +kernel
theorem dX5_isSame_547 : decode cX5_isSame 547 = .ok (.invokevirtual 96, 3) := by decide +kernel
theorem dX5_isSame_550 : decode cX5_isSame 550 = .ok (.aload_n 0, 1) := by decide +kernel
theorem dX5_isSame_551 : decode cX5_isSame 551 = .ok (.getfield 25, 3) := by decide +kernel
theorem dX5_isSame_554 : decode cX5_isSame 554 = .ok (.iload 6, 2) := by decide +kernel
theorem dX5_isSame_556 : decode cX5_isSame 556 = .ok (.aaload, 1) := by decide +kernel
theorem dX5_isSame_557 : decode cX5_isSame 557 = .ok (.iload 8, 2) := by decide +kernel
theorem dX5_isSame_559 : decode cX5_isSame 559 = .ok (.iaload, 1) := by decide +kernel
theorem dX5_isSame_560 : decode cX5_isSame 560 = .ok (.if_icmp .eq 5, 3) := by decide +kernel
theorem dX5_isSame_563 : decode cX5_isSame 563 = .ok (.iconst 0, 1) := by decide +kernel
theorem dX5_isSame_564 : decode cX5_isSame 564 = .ok (.ireturn, 1) := by decide +kernel
theorem dX5_isSame_565 : decode cX5_isSame 565 = .ok (.iinc 8 1, 3) := by decide +kernel
theorem dX5_isSame_568 : decode cX5_isSame 568 = .ok (.goto (-32), 3) := by decide +kernel
theorem dX5_isSame_571 : decode cX5_isSame 571 = .ok (.aload_n 1, 1) := by decide +kernel
theorem dX5_isSame_572 : decode cX5_isSame 572 = .ok (.iload 6, 2) := by decide +kernel
theorem dX5_isSame_574 : decode cX5_isSame 574 = .ok (.iconst 4, 1) := by decide +kernel
theorem dX5_isSame_575 : decode cX5_isSame 575 = .ok (.invokevirtual 96, 3) := by decide +kernel
theorem dX5_isSame_578 : decode cX5_isSame 578 = .ok (.iload 7, 2) := by decide +kernel
theorem dX5_isSame_580 : decode cX5_isSame 580 = .ok (.if_icmp .eq 5, 3) := by decide +kernel
theorem dX5_isSame_583 : decode cX5_isSame 583 = .ok (.iconst 0, 1) := by decide +kernel
theorem dX5_isSame_584 : decode cX5_isSame 584 = .ok (.ireturn, 1) := by decide +kernel
theorem dX5_isSame_585 : decode cX5_isSame 585 = .ok (.iload 5, 2) := by decide +kernel
theorem dX5_isSame_587 : decode cX5_isSame 587 = .ok (.aload_n 0, 1) := by decide +kernel
theorem dX5_isSame_588 : decode cX5_isSame 588 = .ok (.getfield 25, 3) := by decide +kernel
theorem dX5_isSame_591 : decode cX5_isSame 591 = .ok (.iload 6, 2) := by decide +kernel
theorem dX5_isSame_593 : decode cX5_isSame 593 = .ok (.aaload, 1) := by decide +kernel
theorem dX5_isSame_594 : decode cX5_isSame 594 = .ok (.iconst 3, 1) := by decide +kernel
theorem dX5_isSame_595 : decode cX5_isSame 595 = .ok (.iaload, 1) := by decide +kernel
theorem dX5_isSame_596 : decode cX5_isSame 596 = .ok (.iadd, 1) := by decide +kernel
theorem dX5_isSame_597 : decode cX5_isSame 597 = .ok (.istore 5, 2) := by decide +kernel
theorem dX5_isSame_599 : decode cX5_isSame 599 = .ok (.iinc 6 1, 3) := by decide +kernel
theorem dX5_isSame_602 : decode cX5_isSame 602 = .ok (.goto (-118), 3) := by decide +kernel
theorem dX5_isSame_605 : decode cX5_isSame 605 = .ok (.aload_n 0, 1) := by decide +kernel
theorem dX5_isSame_606 : decode cX5_isSame 606 = .ok (.invokevirtual 99, 3) := by decide +kernel
theorem dX5_isSame_609 : decode cX5_isSame 609 = .ok (.istore 6, 2) := by decide +kernel
theorem dX5_isSame_611 : decode cX5_isSame 611 = .ok (.bipush 7, 2) := by decide +kernel
theorem dX5_isSame_613 : decode cX5_isSame 613 = .ok (.newarray .int, 2) := by decide +kernel
theorem dX5_isSame_615 : decode cX5_isSame 615 = .ok (.dup, 1) := by decide +kernel
theorem dX5_isSame_616 : decode cX5_isSame 616 = .ok (.iconst 0, 1) := by decide +kernel
theorem dX5_isSame_617 : decode cX5_isSame 617 = .ok (.aload_n 0, 1) := by decide +kernel
theorem dX5_isSame_618 : decode cX5_isSame 618 = .ok (.getfield 29, 3) := by decide +kernel
theorem dX5_isSame_621 : decode cX5_isSame 621 = .ok (.iastore, 1) := by decide +kernel
theorem dX5_isSame_622 : decode cX5_isSame 622 = .ok (.dup, 1) := by decide +kernel
theorem dX5_isSame_623 : decode cX5_isSame 623 = .ok (.iconst 1, 1) := by decide +kernel
theorem dX5_isSame_624 : decode cX5_isSame 624 = .ok (.iload_n 2, 1) := by decide +kernel
theorem dX5_isSame_625 : decode cX5_isSame 625 = .ok (.iastore, 1) := by decide +kernel
theorem dX5_isSame_626 : decode cX5_isSame 626 = .ok (.dup, 1) := by decide +kernel
theorem dX5_isSame_627 : decode cX5_isSame 627 = .ok (.iconst 2, 1) := by decide +kernel
theorem dX5_isSame_628 : decode cX5_isSame 628 = .ok (.aload_n 0, 1) := by decide +kernel
theorem dX5_isSame_629 : decode cX5_isSame 629 = .ok (.getfield 25, 3) := by decide +kernel
theorem dX5_isSame_632 : decode cX5_isSame 632 = .ok (.arraylength, 1) := by decide +kernel
theorem dX5_isSame_633 : decode cX5_isSame 633 = .ok (.iastore, 1) := by decide +kernel
theorem dX5_isSame_634 : decode cX5_isSame 634 = .ok (.dup, 1) := by decide +kernel
theorem dX5_isSame_635 : decode cX5_isSame 635 = .ok (.iconst 3, 1) := by decide +kernel
theorem dX5_isSame_636 : decode cX5_isSame 636 = .ok (.iload 5, 2) := by decide +kernel
theorem dX5_isSame_638 : decode cX5_isSame 638 = .ok (.iastore, 1) := by decide +kernel
theorem dX5_isSame_639 : decode cX5_isSame 639 = .ok (.dup, 1) := by decide +kernel
theorem dX5_isSame_640 : decode cX5_isSame 640 = .ok (.iconst 4, 1) := by decide +kernel
theorem dX5_isSame_641 : decode cX5_isSame 641 = .ok (.iload 6, 2) := by decide +kernel
theorem dX5_isSame_643 : decode cX5_isSame 643 = .ok (.iastore, 1) := by decide +kernel
theorem dX5_isSame_644 : decode cX5_isSame 644 = .ok (.dup, 1) := by decide +kernel
theorem dX5_isSame_645 : decode cX5_isSame 645 = .ok (.iconst 5, 1) := by decide +kernel
theorem dX5_isSame_646 : decode cX5_isSame 646 = .ok (.iload_n 3, 1) := by decide +kernel
theorem dX5_isSame_647 : decode cX5_isSame 647 = .ok (.iastore, 1) := by decide +kernel
theorem dX5_isSame_648 : decode cX5_isSame 648 = .ok (.dup, 1) := by decide +kernel
theorem dX5_isSame_649 : decode cX5_isSame 649 = .ok (.bipush 6, 2) := by decide +kernel
theorem dX5_isSame_651 : decode cX5_isSame 651 = .ok (.aload_n 0, 1) := by decide +kernel
theorem dX5_isSame_652 : decode cX5_isSame 652 = .ok (.iconst 0, 1) := by decide +kernel
theorem dX5_isSame_653 : decode cX5_isSame 653 = .ok (.invokevirtual 103, 3) := by decide +kernel
theorem dX5_isSame_656 : decode cX5_isSame 656 = .ok (.iastore, 1) := by decide +kernel
theorem dX5_isSame_657 : decode cX5_isSame 657 = .ok (.astore 7, 2) := by decide +kernel
theorem dX5_isSame_659 : decode cX5_isSame 659 = .ok (.iconst 0, 1) := by decide +kernel
theorem dX5_isSame_660 : decode cX5_isSame 660 = .ok (.istore 8, 2) := by decide +kernel
theorem dX5_isSame_662 : decode cX5_isSame 662 = .ok (.iload 8, 2) := by decide +kernel
theorem dX5_isSame_664 : decode cX5_isSame 664 = .ok (.bipush 7, 2) := by decide +kernel
theorem dX5_isSame_666 : decode cX5_isSame 666 = .ok (.if_icmp .ge 25, 3) := by decide +kernel
theorem dX5_isSame_669 : decode cX5_isSame 669 = .ok (.aload_n 1, 1) := by decide +kernel
theorem dX5_isSame_670 : decode cX5_isSame 670 = .ok (.iload 8, 2) := by decide +kernel
theorem dX5_isSame_672 : decode cX5_isSame 672 = .ok (.invokevirtual 107, 3) := by decide +kernel
theorem dX5_isSame_675 : decode cX5_isSame 675 = .ok (.aload 7, 2) := by decide +kernel
theorem dX5_isSame_677 : decode cX5_isSame 677 = .ok (.iload 8, 2) := by decide +kernel
theorem dX5_isSame_679 : decode cX5_isSame 679 = .ok (.iaload, 1) := by decide +kernel
theorem dX5_isSame_680 : decode cX5_isSame 680 = .ok (.if_icmp .eq 5, 3) := by decide +kernel
theorem dX5_isSame_683 : decode cX5_isSame 683 = .ok (.iconst 0, 1) := by decide +kernel
theorem dX5_isSame_684 : decode cX5_isSame 684 = .ok (.ireturn, 1) := by decide +kernel
theorem dX5_isSame_685 : decode cX5_isSame 685 = .ok (.iinc 8 1, 3) := by decide +kernel
theorem dX5_isSame_688 : decode cX5_isSame 688 = .ok (.goto (-26), 3) := by decide +kernel
theorem dX5_isSame_691 : decode cX5_isSame 691 = .ok (.aload_n 1, 1) := by decide +kernel
theorem dX5_isSame_692 : decode cX5_isSame 692 = .ok (.invokevirtual 110, 3) := by decide +kernel
theorem dX5_isSame_695 : decode cX5_isSame 695 = .ok (.iload 6, 2) := by decide +kernel
theorem dX5_isSame_697 : decode cX5_isSame 697 = .ok (.ifCond .ne 7, 3) := by decide +kernel
theorem dX5_isSame_700 : decode cX5_isSame 700 = .ok (.dconst 0, 1) := by decide +kernel
theorem dX5_isSame_701 : decode cX5_isSame 701 = .ok (.goto 10, 3) := by decide +kernel
theorem dX5_isSame_704 : decode cX5_isSame 704 = .ok (.iload 4, 2) := by decide +kernel
theorem dX5_isSame_706 : decode cX5_isSame 706 = .ok (.i2d, 1) := by decide +kernel
theorem dX5_isSame_707 : decode cX5_isSame 707 = .ok (.iload 6, 2) := by decide +kernel
theorem dX5_isSame_709 : decode cX5_isSame 709 = .ok (.i2d, 1) := by decide +kernel
theorem dX5_isSame_710 : decode cX5_isSame 710 = .ok (.ddiv, 1) := by decide +kernel
theorem dX5_isSame_711 : decode cX5_isSame 711 = .ok (.dcmp .l, 1) := by decide +kernel
theorem dX5_isSame_712 : decode cX5_isSame 712 = .ok (.ifCond .ne 7, 3) := by decide +kernel
theorem dX5_isSame_715 : decode cX5_isSame 715 = .ok (.iconst 1, 1) := by decide +kernel
theorem dX5_isSame_716 : decode cX5_isSame 716 = .ok (.goto 4, 3) := by decide +kernel
theorem dX5_isSame_719 : decode cX5_isSame 719 = .ok (.iconst 0, 1) := by decide +kernel
theorem dX5_isSame_720 : decode cX5_isSame 720 = .ok (.ireturn, 1) := by decide +kernel
theorem dJ6_bitCount_0f7a4_0 : decode cJ6_bitCount_0f7a4 0 = .ok (.iload_n 0, 1) := by decide +kernel
theorem dJ6_bitCount_0f7a4_1 : decode cJ6_bitCount_0f7a4 1 = .ok (.iload_n 0, 1) := by decide +kernel
theorem dJ6_bitCount_0f7a4_2 : decode cJ6_bitCount_0f7a4 2 = .ok (.iconst 1, 1) := by decide +kernel
theorem dJ6_bitCount_0f7a4_3 : decode cJ6_bitCount_0f7a4 3 = .ok (.iushr, 1) := by decide +kernel
theorem dJ6_bitCount_0f7a4_4 : decode cJ6_bitCount_0f7a4 4 = .ok (.ldc_w 265, 3) := by decide +kernel
theorem dJ6_bitCount_0f7a4_7 : decode cJ6_bitCount_0f7a4 7 = .ok (.iand, 1) := by decide +kernel
theorem dJ6_bitCount_0f7a4_8 : decode cJ6_bitCount_0f7a4 8 = .ok (.isub, 1) := by decide +kernel
theorem dJ6_bitCount_0f7a4_9 : decode cJ6_bitCount_0f7a4 9 = .ok (.istore_n 0, 1) := by decide +kernel
theorem dJ6_bitCount_0f7a4_10 : decode cJ6_bitCount_0f7a4 10 = .ok (.iload_n 0, 1) := by decide +kernel
theorem dJ6_bitCount_0f7a4_11 : decode cJ6_bitCount_0f7a4 11 = .ok (.ldc_w 266, 3) := by decide +kernel
theorem dJ6_bitCount_0f7a4_14 : decode cJ6_bitCount_0f7a4 14 = .ok (.iand, 1) := by decide +kernel
theorem dJ6_bitCount_0f7a4_15 : decode cJ6_bitCount_0f7a4 15 = .ok (.iload_n 0, 1) := by decide +kernel
theorem dJ6_bitCount_0f7a4_16 : decode cJ6_bitCount_0f7a4 16 = .ok (.iconst 2, 1) := by decide +kernel
theorem dJ6_bitCount_0f7a4_17 : decode cJ6_bitCount_0f7a4 17 = .ok (.iushr, 1) := by decide +kernel
theorem dJ6_bitCount_0f7a4_18 : decode cJ6_bitCount_0f7a4 18 = .ok (.ldc_w 266, 3) := by decide +kernel
theorem dJ6_bitCount_0f7a4_21 : decode cJ6_bitCount_0f7a4 21 = .ok (.iand, 1) := by decide +kernel
theorem dJ6_bitCount_0f7a4_22 : decode cJ6_bitCount_0f7a4 22 = .ok (.iadd, 1) := by decide +kernel
theorem dJ6_bitCount_0f7a4_23 : decode cJ6_bitCount_0f7a4 23 = .ok (.istore_n 0, 1) := by decide +kernel
theorem dJ6_bitCount_0f7a4_24 : decode cJ6_bitCount_0f7a4 24 = .ok (.iload_n 0, 1) := by decide +kernel
theorem dJ6_bitCount_0f7a4_25 : decode cJ6_bitCount_0f7a4 25 = .ok (.iload_n 0, 1) := by decide +kernel
theorem dJ6_bitCount_0f7a4_26 : decode cJ6_bitCount_0f7a4 26 = .ok (.iconst 4, 1) := by decide +kernel
theorem dJ6_bitCount_0f7a4_27 : decode cJ6_bitCount_0f7a4 27 = .ok (.iushr, 1) := by decide +kernel
theorem dJ6_bitCount_0f7a4_28 : decode cJ6_bitCount_0f7a4 28 = .ok (.iadd, 1) := by decide +kernel
theorem dJ6_bitCount_0f7a4_29 : decode cJ6_bitCount_0f7a4 29 = .ok (.ldc_w 267, 3) := by decide +kernel
theorem dJ6_bitCount_0f7a4_32 : decode cJ6_bitCount_0f7a4 32 = .ok (.iand, 1) := by decide +kernel
theorem dJ6_bitCount_0f7a4_33 : decode cJ6_bitCount_0f7a4 33 = .ok (.istore_n 0, 1) := by decide +kernel
theorem dJ6_bitCount_0f7a4_34 : decode cJ6_bitCount_0f7a4 34 = .ok (.iload_n 0, 1) := by decide +kernel
theorem dJ6_bitCount_0f7a4_35 : decode cJ6_bitCount_0f7a4 35 = .ok (.iload_n 0, 1) := by decide +kernel
theorem dJ6_bitCount_0f7a4_36 : decode cJ6_bitCount_0f7a4 36 = .ok (.bipush 8, 2) := by decide +kernel
theorem dJ6_bitCount_0f7a4_38 : decode cJ6_bitCount_0f7a4 38 = .ok (.iushr, 1) := by decide +kernel
theorem dJ6_bitCount_0f7a4_39 : decode cJ6_bitCount_0f7a4 39 = .ok (.iadd, 1) := by decide +kernel
theorem dJ6_bitCount_0f7a4_40 : decode cJ6_bitCount_0f7a4 40 = .ok (.istore_n 0, 1) := by decide +kernel
theorem dJ6_bitCount_0f7a4_41 : decode cJ6_bitCount_0f7a4 41 = .ok (.iload_n 0, 1) := by decide +kernel
theorem dJ6_bitCount_0f7a4_42 : decode cJ6_bitCount_0f7a4 42 = .ok (.iload_n 0, 1) := by decide +kernel
theorem dJ6_bitCount_0f7a4_43 : decode cJ6_bitCount_0f7a4 43 = .ok (.bipush 16, 2) := by decide +kernel
theorem dJ6_bitCount_0f7a4_45 : decode cJ6_bitCount_0f7a4 45 = .ok (.iushr, 1) := by decide +kernel
theorem dJ6_bitCount_0f7a4_46 : decode cJ6_bitCount_0f7a4 46 = .ok (.iadd, 1) := by decide +kernel
theorem dJ6_bitCount_0f7a4_47 : decode cJ6_bitCount_0f7a4 47 = .ok (.istore_n 0, 1) := by decide +kernel
theorem dJ6_bitCount_0f7a4_48 : decode cJ6_bitCount_0f7a4 48 = .ok (.iload_n 0, 1) := by decide +kernel
theorem dJ6_bitCount_0f7a4_49 : decode cJ6_bitCount_0f7a4 49 = .ok (.bipush 63, 2) := by decide +kernel
theorem dJ6_bitCount_0f7a4_51 : decode cJ6_bitCount_0f7a4 51 = .ok (.iand, 1) := by decide +kernel
theorem dJ6_bitCount_0f7a4_52 : decode cJ6_bitCount_0f7a4 52 = .ok (.ireturn, 1) := by decide +kernel
theorem dJ9_min_7cf53_0 : decode cJ9_min_7cf53 0 = .ok (.iload_n 0, 1) := by decide +kernel
theorem dJ9_min_7cf53_1 : decode cJ9_min_7cf53 1 = .ok (.iload_n 1, 1) := by decide +kernel
theorem dJ9_min_7cf53_2 : decode cJ9_min_7cf53 2 = .ok (.if_icmp .gt 7, 3) := by decide +kernel
theorem dJ9_min_7cf53_5 : decode cJ9_min_7cf53 5 = .ok (.iload_n 0, 1) := by decide +kernel
theorem dJ9_min_7cf53_6 : decode cJ9_min_7cf53 6 = .ok (.goto 4, 3) := by decide +kernel
theorem dJ9_min_7cf53_9 : decode cJ9_min_7cf53 9 = .ok (.iload_n 1, 1) := by decide +kernel
theorem dJ9_min_7cf53_10 : decode cJ9_min_7cf53 10 = .ok (.ireturn, 1) := by decide +kernel
theorem dL_below_0 : decode cL_below 0 = .ok (.iload_n 0, 1) := by decide +kernel
theorem dL_below_1 : decode cL_below 1 = .ok (.ldc 7, 2) := by decide +kernel
theorem dL_below_3 : decode cL_below 3 = .ok (.iand, 1) := by decide +kernel
theorem dL_below_4 : decode cL_below 4 = .ok (.iload_n 1, 1) := by decide +kernel
theorem dL_below_5 : decode cL_below 5 = .ok (.irem, 1) := by decide +kernel
theorem dL_below_6 : decode cL_below 6 = .ok (.ireturn, 1) := by decide +kernel
theorem dL_cell_0 : decode cL_cell 0 = .ok (.iload_n 1, 1) := by decide +kernel
theorem dL_cell_1 : decode cL_cell 1 = .ok (.aload_n 0, 1) := by decide +kernel
theorem dL_cell_2 : decode cL_cell 2 = .ok (.arraylength, 1) := by decide +kernel
theorem dL_cell_3 : decode cL_cell 3 = .ok (.if_icmp .ge 9, 3) := by decide +kernel
theorem dL_cell_6 : decode cL_cell 6 = .ok (.aload_n 0, 1) := by decide +kernel
theorem dL_cell_7 : decode cL_cell 7 = .ok (.iload_n 1, 1) := by decide +kernel
theorem dL_cell_8 : decode cL_cell 8 = .ok (.iaload, 1) := by decide +kernel
theorem dL_cell_9 : decode cL_cell 9 = .ok (.goto 9, 3) := by decide +kernel
theorem dL_cell_12 : decode cL_cell 12 = .ok (.ldc 8, 2) := by decide +kernel
theorem dL_cell_14 : decode cL_cell 14 = .ok (.iload_n 1, 1) := by decide +kernel
theorem dL_cell_15 : decode cL_cell 15 = .ok (.iconst 3, 1) := by decide +kernel
theorem dL_cell_16 : decode cL_cell 16 = .ok (.iadd, 1) := by decide +kernel
theorem dL_cell_17 : decode cL_cell 17 = .ok (.imul, 1) := by decide +kernel
theorem dL_cell_18 : decode cL_cell 18 = .ok (.ireturn, 1) := by decide +kernel
set_option maxRecDepth 20000 in
theorem ggL_act_L_below : GoodIn wsL_act wsL_below := goodIn_r _ [8, 9] (by decide +kernel) (by decide +kernel)
set_option maxRecDepth 20000 in
theorem gL_act_L_below : GoodIn wsL_act (va_wsS RL 19 yL_below wsL_below) := goodIn_app (goodIn_of _ (by decide +kernel)) ggL_act_L_below
set_option maxRecDepth 20000 in
theorem ggL_act_X5_hut : GoodIn wsL_act wsX5_hut := goodIn_r _ [14, 15, 16, 17, 18, 19, 13, 20, 4, 230, 231, 232, 233, 234] (by decide +kernel) (by decide +kernel)
set_option maxRecDepth 20000 in
theorem gL_act_X5_hut : GoodIn wsL_act (wsV RL 25 RX5 yX5_hut wsX5_hut) := goodIn_app (goodIn_of _ (by decide +kernel)) ggL_act_X5_hut
set_option maxRecDepth 20000 in
theorem ggL_act_X4_hut : GoodIn wsL_act wsX4_hut := goodIn_ca (goodIn_ca (goodIn_r _ [25, 26, 27, 28, 29, 30, 31, 32, 33, 34, 35, 36, 37, 38, 39, 40, 41, 235, 236, 237, 238, 239, 240, 241, 242, 243, 244, 245, 246] (by decide +kernel) (by decide +kernel)) (goodIn_sub (fun _ h => List.mem_cons_of_mem _ (List.mem_append_left _ (List.mem_append_left _ (List.mem_append_right _ h)))) (by decide +kernel))) (goodIn_sub (fun _ h => List.mem_cons_of_mem _ (List.mem_append_left _ (List.mem_append_right _ h))) (by decide +kernel))
set_option maxRecDepth 20000 in
theorem gL_act_X4_hut : GoodIn wsL_act (wsV RL 29 RX4 yX4_hut wsX4_hut) := goodIn_app (goodIn_of _ (by decide +kernel)) ggL_act_X4_hut
set_option maxRecDepth 20000 in
theorem ggL_act_X5_pass : GoodIn wsL_act wsX5_pass := goodIn_r _ [45, 46, 47, 4, 230, 231, 232, 233, 234] (by decide +kernel) (by decide +kernel)
set_option maxRecDepth 20000 in
theorem gL_act_X5_pass : GoodIn wsL_act (wsV RL 34 RX5 yX5_pass wsX5_pass) := goodIn_app (goodIn_of _ (by decide +kernel)) ggL_act_X5_pass
set_option maxRecDepth 20000 in
theorem ggL_act_X4_pass : GoodIn wsL_act wsX4_pass := goodIn_ca (goodIn_ca (goodIn_ca (goodIn_r _ [51, 26, 27, 28, 29, 30, 52, 53, 54, 24, 55, 56, 57, 31, 32, 33, 34, 35, 36, 58, 59, 60, 61, 62, 63, 64, 65, 66, 67, 68, 69, 70, 71, 72, 73, 74, 235, 236, 237, 238, 239, 240, 241, 242, 243, 244, 245, 246] (by decide +kernel) (by decide +kernel)) (goodIn_sub (fun _ h => List.mem_cons_of_mem _ (List.mem_append_left _ (List.mem_append_left _ (List.mem_append_right _ h)))) (by decide +kernel))) (goodIn_sub (fun _ h => List.mem_cons_of_mem _ (List.mem_append_left _ (List.mem_append_right _ h))) (by decide +kernel))) (goodIn_sub (fun _ h => List.mem_cons_of_mem _ (List.mem_append_right _ h)) (by decide +kernel))
set_option maxRecDepth 20000 in
theorem gL_act_X4_pass : GoodIn wsL_act (wsV RL 38 RX4 yX4_pass wsX4_pass) := goodIn_app (goodIn_of _ (by decide +kernel)) ggL_act_X4_pass
set_option maxRecDepth 20000 in
theorem ggL_act_X4_setLength : GoodIn wsL_act wsX4_setLength := goodIn_ca (goodIn_ca (goodIn_r _ [78, 30, 79, 80, 81, 24, 82, 56, 57, 62, 63, 64, 34, 65, 66, 58, 59, 60, 61, 26, 27, 83, 84, 85, 86, 73, 235, 236, 237, 238, 239, 240, 241, 242, 243, 244, 245, 246] (by decide +kernel) (by decide +kernel)) (goodIn_sub (fun _ h => List.mem_cons_of_mem _ (List.mem_append_right _ h)) (by decide +kernel))) (goodIn_sub (fun _ h => List.mem_cons_of_mem _ (List.mem_append_left _ (List.mem_append_left _ (List.mem_append_right _ h)))) (by decide +kernel))
set_option maxRecDepth 20000 in
theorem gL_act_X4_setLength : GoodIn wsL_act (wsV RL 41 RX4 yX4_setLength wsX4_setLength) := goodIn_app (goodIn_of _ (by decide +kernel)) ggL_act_X4_setLength
set_option maxRecDepth 20000 in
theorem ggL_act_X4_setOpen : GoodIn wsL_act wsX4_setOpen := goodIn_ca (goodIn_r _ [90, 30, 79, 80, 81, 24, 82, 56, 57, 62, 63, 64, 34, 65, 66, 91, 92, 93, 94, 74, 235, 236, 237, 238, 239, 240, 241, 242, 243, 244, 245, 246] (by decide +kernel) (by decide +kernel)) (goodIn_sub (fun _ h => List.mem_cons_of_mem _ (List.mem_append_right _ h)) (by decide +kernel))
set_option maxRecDepth 20000 in
theorem gL_act_X4_setOpen : GoodIn wsL_act (wsV RL 44 RX4 yX4_setOpen wsX4_setOpen) := goodIn_app (goodIn_of _ (by decide +kernel)) ggL_act_X4_setOpen
set_option maxRecDepth 20000 in
theorem ggL_act_X5_sheetsOf : GoodIn wsL_act wsX5_sheetsOf := goodIn_r _ [98, 17, 230, 231, 232, 233, 234] (by decide +kernel) (by decide +kernel)
set_option maxRecDepth 20000 in
theorem gL_act_X5_sheetsOf : GoodIn wsL_act (wsV RL 48 RX5 yX5_sheetsOf wsX5_sheetsOf) := goodIn_app (goodIn_of _ (by decide +kernel)) ggL_act_X5_sheetsOf
set_option maxRecDepth 20000 in
theorem ggL_act_X4_burn : GoodIn wsL_act wsX4_burn := goodIn_ca (goodIn_r _ [102, 103, 52, 53, 54, 24, 55, 56, 57, 30, 31, 32, 33, 34, 35, 36, 104, 105, 106, 107, 108, 109, 110, 111, 112, 113, 114, 115, 116, 117, 118, 119, 120, 121, 235, 236, 237, 238, 239, 240, 241, 242, 243, 244, 245, 246, 247, 248, 249, 250, 251, 252, 253, 254] (by decide +kernel) (by decide +kernel)) (goodIn_sub (fun _ h => List.mem_cons_of_mem _ (List.mem_append_right _ h)) (by decide +kernel))
set_option maxRecDepth 20000 in
theorem gL_act_X4_burn : GoodIn wsL_act (wsV RL 55 RX4 yX4_burn wsX4_burn) := goodIn_app (goodIn_of _ (by decide +kernel)) ggL_act_X4_burn
set_option maxRecDepth 20000 in
theorem ggL_act_X5_go : GoodIn wsL_act wsX5_go := goodIn_r _ [125, 15, 17, 16, 46, 4, 126, 127, 128, 129, 130, 47, 131, 132, 133, 134, 13, 135, 136, 137, 138, 139, 140, 141, 142, 230, 231, 232, 233, 234] (by decide +kernel) (by decide +kernel)
set_option maxRecDepth 20000 in
theorem gL_act_X5_go : GoodIn wsL_act (wsV RL 58 RX5 yX5_go wsX5_go) := goodIn_app (goodIn_of _ (by decide +kernel)) ggL_act_X5_go
set_option maxRecDepth 20000 in
theorem ggL_act_X4_go : GoodIn wsL_act wsX4_go := goodIn_ca (goodIn_r _ [146, 103, 147, 148, 149, 24, 150, 26, 27, 151, 152, 153, 107, 154, 155, 156, 157, 158, 159, 160, 161, 109, 162, 163, 164, 165, 32, 33, 34, 35, 36, 166, 167, 168, 169, 114, 115, 116, 170, 171, 172, 173, 174, 175, 176, 177, 178, 179, 180, 63, 64, 65, 66, 181, 182, 183, 184, 71, 72, 74, 73, 185, 186, 187, 188, 189, 190, 4, 191, 192, 193, 194, 195, 196, 197, 198, 199, 200, 201, 202, 203, 204, 205, 206, 207, 208, 209, 210, 211, 212, 213, 214, 215, 216, 217, 41, 218, 219, 220, 221, 222, 223, 224, 225, 226, 227, 228, 229, 117, 118, 119, 120, 121, 235, 236, 237, 238, 239, 247, 248, 249, 250, 251, 252, 253, 254, 255, 256, 257, 240, 241, 242, 243, 244, 245, 246] (by decide +kernel) (by decide +kernel)) (goodIn_sub (fun _ h => List.mem_cons_of_mem _ (List.mem_append_left _ (List.mem_append_left _ (List.mem_append_right _ h)))) (by decide +kernel))
set_option maxRecDepth 20000 in
theorem gL_act_X4_go : GoodIn wsL_act (wsV RL 62 RX4 yX4_go wsX4_go) := goodIn_app (goodIn_of _ (by decide +kernel)) ggL_act_X4_go
theorem dL_act_0 : decode cL_act 0 = .ok (.aload_n 1, 1) := by decide +kernel
theorem dL_act_1 : decode cL_act 1 = .ok (.getfield 9, 3) := by decide +kernel
theorem dL_act_4 : decode cL_act 4 = .ok (.arraylength, 1) := by decide +kernel
theorem dL_act_5 : decode cL_act 5 = .ok (.istore_n 3, 1) := by decide +kernel
theorem dL_act_6 : decode cL_act 6 = .ok (.aload_n 1, 1) := by decide +kernel
theorem dL_act_7 : decode cL_act 7 = .ok (.getfield 15, 3) := by decide +kernel
theorem dL_act_10 : decode cL_act 10 = .ok (.arraylength, 1) := by decide +kernel
theorem dL_act_11 : decode cL_act 11 = .ok (.istore 4, 2) := by decide +kernel
theorem dL_act_13 : decode cL_act 13 = .ok (.iload_n 3, 1) := by decide +kernel
theorem dL_act_14 : decode cL_act 14 = .ok (.ifCond .ne 7, 3) := by decide +kernel
theorem dL_act_17 : decode cL_act 17 = .ok (.iconst 0, 1) := by decide +kernel
theorem dL_act_18 : decode cL_act 18 = .ok (.goto 10, 3) := by decide +kernel
theorem dL_act_21 : decode cL_act 21 = .ok (.iload_n 2, 1) := by decide +kernel
theorem dL_act_22 : decode cL_act 22 = .ok (.iconst 4, 1) := by decide +kernel
theorem dL_act_23 : decode cL_act 23 = .ok (.ishr, 1) := by decide +kernel
theorem dL_act_24 : decode cL_act 24 = .ok (.iload_n 3, 1) := by decide +kernel
theorem dL_act_25 : decode cL_act 25 = .ok (.invokestatic 19, 3) := by decide +kernel
theorem dL_act_28 : decode cL_act 28 = .ok (.istore 5, 2) := by decide +kernel
theorem dL_act_30 : decode cL_act 30 = .ok (.iload 4, 2) := by decide +kernel
theorem dL_act_32 : decode cL_act 32 = .ok (.ifCond .ne 7, 3) := by decide +kernel
theorem dL_act_35 : decode cL_act 35 = .ok (.iconst 0, 1) := by decide +kernel
theorem dL_act_36 : decode cL_act 36 = .ok (.goto 11, 3) := by decide +kernel
theorem dL_act_39 : decode cL_act 39 = .ok (.iload_n 2, 1) := by decide +kernel
theorem dL_act_40 : decode cL_act 40 = .ok (.iconst 5, 1) := by decide +kernel
theorem dL_act_41 : decode cL_act 41 = .ok (.ishr, 1) := by decide +kernel
theorem dL_act_42 : decode cL_act 42 = .ok (.iload 4, 2) := by decide +kernel
theorem dL_act_44 : decode cL_act 44 = .ok (.invokestatic 19, 3) := by decide +kernel
theorem dL_act_47 : decode cL_act 47 = .ok (.istore 6, 2) := by decide +kernel
theorem dL_act_49 : decode cL_act 49 = .ok (.iload_n 2, 1) := by decide +kernel
theorem dL_act_50 : decode cL_act 50 = .ok (.bipush 14, 2) := by decide +kernel
theorem dL_act_52 : decode cL_act 52 = .ok (.invokestatic 19, 3) := by decide +kernel
theorem dL_act_55 : decode cL_act 55 = .ok (.tableswitch 425 0 7 #[45, 99, 99, 99, 190, 268, 268, 355], 45) := by decide +kernel
theorem dL_act_100 : decode cL_act 100 = .ok (.iload_n 3, 1) := by decide +kernel
theorem dL_act_101 : decode cL_act 101 = .ok (.bipush 7, 2) := by decide +kernel
theorem dL_act_103 : decode cL_act 103 = .ok (.if_icmp .ne 5, 3) := by decide +kernel
theorem dL_act_106 : decode cL_act 106 = .ok (.iconst 1, 1) := by decide +kernel
theorem dL_act_107 : decode cL_act 107 = .ok (.ireturn, 1) := by decide +kernel
theorem dL_act_108 : decode cL_act 108 = .ok (.iload_n 2, 1) := by decide +kernel
theorem dL_act_109 : decode cL_act 109 = .ok (.bipush 6, 2) := by decide +kernel
theorem dL_act_111 : decode cL_act 111 = .ok (.ishr, 1) := by decide +kernel
theorem dL_act_112 : decode cL_act 112 = .ok (.iconst 3, 1) := by decide +kernel
theorem dL_act_113 : decode cL_act 113 = .ok (.invokestatic 19, 3) := by decide +kernel
theorem dL_act_116 : decode cL_act 116 = .ok (.ifCond .le 7, 3) := by decide +kernel
theorem dL_act_119 : decode cL_act 119 = .ok (.iconst 0, 1) := by decide +kernel
theorem dL_act_120 : decode cL_act 120 = .ok (.goto 10, 3) := by decide +kernel
theorem dL_act_123 : decode cL_act 123 = .ok (.iload_n 2, 1) := by decide +kernel
theorem dL_act_124 : decode cL_act 124 = .ok (.iconst 4, 1) := by decide +kernel
theorem dL_act_125 : decode cL_act 125 = .ok (.ishr, 1) := by decide +kernel
theorem dL_act_126 : decode cL_act 126 = .ok (.iconst 4, 1) := by decide +kernel
theorem dL_act_127 : decode cL_act 127 = .ok (.invokestatic 19, 3) := by decide +kernel
theorem dL_act_130 : decode cL_act 130 = .ok (.istore 7, 2) := by decide +kernel
theorem dL_act_132 : decode cL_act 132 = .ok (.aload_n 1, 1) := by decide +kernel
theorem dL_act_133 : decode cL_act 133 = .ok (.iload 7, 2) := by decide +kernel
theorem dL_act_135 : decode cL_act 135 = .ok (.invokevirtual 25, 3) := by decide +kernel
theorem dL_act_138 : decode cL_act 138 = .ok (.aload_n 0, 1) := by decide +kernel
theorem dL_act_139 : decode cL_act 139 = .ok (.iload 7, 2) := by decide +kernel
theorem dL_act_141 : decode cL_act 141 = .ok (.invokevirtual 29, 3) := by decide +kernel
theorem dL_act_144 : decode cL_act 144 = .ok (.iload_n 3, 1) := by decide +kernel
theorem dL_act_145 : decode cL_act 145 = .ok (.if_icmp .ne 7, 3) := by decide +kernel
theorem dL_act_148 : decode cL_act 148 = .ok (.iconst 1, 1) := by decide +kernel
theorem dL_act_149 : decode cL_act 149 = .ok (.goto 4, 3) := by decide +kernel
theorem dL_act_152 : decode cL_act 152 = .ok (.iconst 0, 1) := by decide +kernel
theorem dL_act_153 : decode cL_act 153 = .ok (.ireturn, 1) := by decide +kernel
theorem dL_act_154 : decode cL_act 154 = .ok (.iload_n 3, 1) := by decide +kernel
theorem dL_act_155 : decode cL_act 155 = .ok (.iconst 2, 1) := by decide +kernel
theorem dL_act_156 : decode cL_act 156 = .ok (.if_icmp .lt 10, 3) := by decide +kernel
theorem dL_act_159 : decode cL_act 159 = .ok (.iload 4, 2) := by decide +kernel
theorem dL_act_161 : decode cL_act 161 = .ok (.bipush 20, 2) := by decide +kernel
theorem dL_act_163 : decode cL_act 163 = .ok (.if_icmp .ne 5, 3) := by decide +kernel
theorem dL_act_166 : decode cL_act 166 = .ok (.iconst 1, 1) := by decide +kernel
theorem dL_act_167 : decode cL_act 167 = .ok (.ireturn, 1) := by decide +kernel
theorem dL_act_168 : decode cL_act 168 = .ok (.iload 5, 2) := by decide +kernel
theorem dL_act_170 : decode cL_act 170 = .ok (.iconst 1, 1) := by decide +kernel
theorem dL_act_171 : decode cL_act 171 = .ok (.iadd, 1) := by decide +kernel
theorem dL_act_172 : decode cL_act 172 = .ok (.iload_n 2, 1) := by decide +kernel
theorem dL_act_173 : decode cL_act 173 = .ok (.bipush 7, 2) := by decide +kernel
theorem dL_act_175 : decode cL_act 175 = .ok (.ishr, 1) := by decide +kernel
theorem dL_act_176 : decode cL_act 176 = .ok (.iload_n 3, 1) := by decide +kernel
theorem dL_act_177 : decode cL_act 177 = .ok (.iconst 1, 1) := by decide +kernel
theorem dL_act_178 : decode cL_act 178 = .ok (.isub, 1) := by decide +kernel
theorem dL_act_179 : decode cL_act 179 = .ok (.invokestatic 19, 3) := by decide +kernel
theorem dL_act_182 : decode cL_act 182 = .ok (.iadd, 1) := by decide +kernel
theorem dL_act_183 : decode cL_act 183 = .ok (.iload_n 3, 1) := by decide +kernel
theorem dL_act_184 : decode cL_act 184 = .ok (.irem, 1) := by decide +kernel
theorem dL_act_185 : decode cL_act 185 = .ok (.istore 8, 2) := by decide +kernel
theorem dL_act_187 : decode cL_act 187 = .ok (.iconst 1, 1) := by decide +kernel
theorem dL_act_188 : decode cL_act 188 = .ok (.iload_n 2, 1) := by decide +kernel
theorem dL_act_189 : decode cL_act 189 = .ok (.iconst 3, 1) := by decide +kernel
theorem dL_act_190 : decode cL_act 190 = .ok (.ishr, 1) := by decide +kernel
theorem dL_act_191 : decode cL_act 191 = .ok (.iload_n 2, 1) := by decide +kernel
theorem dL_act_192 : decode cL_act 192 = .ok (.bipush 9, 2) := by decide +kernel
theorem dL_act_194 : decode cL_act 194 = .ok (.ishr, 1) := by decide +kernel
theorem dL_act_195 : decode cL_act 195 = .ok (.iconst 2, 1) := by decide +kernel
theorem dL_act_196 : decode cL_act 196 = .ok (.invokestatic 19, 3) := by decide +kernel
theorem dL_act_199 : decode cL_act 199 = .ok (.ifCond .ne 8, 3) := by decide +kernel
theorem dL_act_202 : decode cL_act 202 = .ok (.bipush 99, 2) := by decide +kernel
theorem dL_act_204 : decode cL_act 204 = .ok (.goto 4, 3) := by decide +kernel
theorem dL_act_207 : decode cL_act 207 = .ok (.iconst 5, 1) := by decide +kernel
theorem dL_act_208 : decode cL_act 208 = .ok (.invokestatic 19, 3) := by decide +kernel
theorem dL_act_211 : decode cL_act 211 = .ok (.iadd, 1) := by decide +kernel
theorem dL_act_212 : decode cL_act 212 = .ok (.istore 9, 2) := by decide +kernel
theorem dL_act_214 : decode cL_act 214 = .ok (.aload_n 1, 1) := by decide +kernel
theorem dL_act_215 : decode cL_act 215 = .ok (.iload 5, 2) := by decide +kernel
theorem dL_act_217 : decode cL_act 217 = .ok (.iload 8, 2) := by decide +kernel
theorem dL_act_219 : decode cL_act 219 = .ok (.iload 9, 2) := by decide +kernel
theorem dL_act_221 : decode cL_act 221 = .ok (.invokevirtual 34, 3) := by decide +kernel
theorem dL_act_224 : decode cL_act 224 = .ok (.aload_n 0, 1) := by decide +kernel
theorem dL_act_225 : decode cL_act 225 = .ok (.iload 5, 2) := by decide +kernel
theorem dL_act_227 : decode cL_act 227 = .ok (.iload 8, 2) := by decide +kernel
theorem dL_act_229 : decode cL_act 229 = .ok (.iload 9, 2) := by decide +kernel
theorem dL_act_231 : decode cL_act 231 = .ok (.invokevirtual 38, 3) := by decide +kernel
theorem dL_act_234 : decode cL_act 234 = .ok (.iload 4, 2) := by decide +kernel
theorem dL_act_236 : decode cL_act 236 = .ok (.if_icmp .ne 7, 3) := by decide +kernel
theorem dL_act_239 : decode cL_act 239 = .ok (.iconst 1, 1) := by decide +kernel
theorem dL_act_240 : decode cL_act 240 = .ok (.goto 4, 3) := by decide +kernel
theorem dL_act_243 : decode cL_act 243 = .ok (.iconst 0, 1) := by decide +kernel
theorem dL_act_244 : decode cL_act 244 = .ok (.ireturn, 1) := by decide +kernel
theorem dL_act_245 : decode cL_act 245 = .ok (.iload 4, 2) := by decide +kernel
theorem dL_act_247 : decode cL_act 247 = .ok (.ifCond .ne 5, 3) := by decide +kernel
theorem dL_act_250 : decode cL_act 250 = .ok (.iconst 1, 1) := by decide +kernel
theorem dL_act_251 : decode cL_act 251 = .ok (.ireturn, 1) := by decide +kernel
theorem dL_act_252 : decode cL_act 252 = .ok (.aload_n 1, 1) := by decide +kernel
theorem dL_act_253 : decode cL_act 253 = .ok (.getfield 15, 3) := by decide +kernel
theorem dL_act_256 : decode cL_act 256 = .ok (.iload 6, 2) := by decide +kernel
theorem dL_act_258 : decode cL_act 258 = .ok (.aaload, 1) := by decide +kernel
theorem dL_act_259 : decode cL_act 259 = .ok (.iconst 2, 1) := by decide +kernel
theorem dL_act_260 : decode cL_act 260 = .ok (.iaload, 1) := by decide +kernel
theorem dL_act_261 : decode cL_act 261 = .ok (.istore 10, 2) := by decide +kernel
theorem dL_act_263 : decode cL_act 263 = .ok (.aload_n 1, 1) := by decide +kernel
theorem dL_act_264 : decode cL_act 264 = .ok (.getfield 15, 3) := by decide +kernel
theorem dL_act_267 : decode cL_act 267 = .ok (.iload 6, 2) := by decide +kernel
theorem dL_act_269 : decode cL_act 269 = .ok (.aaload, 1) := by decide +kernel
theorem dL_act_270 : decode cL_act 270 = .ok (.iconst 2, 1) := by decide +kernel
theorem dL_act_271 : decode cL_act 271 = .ok (.iconst 1, 1) := by decide +kernel
theorem dL_act_272 : decode cL_act 272 = .ok (.iload_n 2, 1) := by decide +kernel
theorem dL_act_273 : decode cL_act 273 = .ok (.iconst 3, 1) := by decide +kernel
theorem dL_act_274 : decode cL_act 274 = .ok (.ishr, 1) := by decide +kernel
theorem dL_act_275 : decode cL_act 275 = .ok (.iload_n 2, 1) := by decide +kernel
theorem dL_act_276 : decode cL_act 276 = .ok (.bipush 9, 2) := by decide +kernel
theorem dL_act_278 : decode cL_act 278 = .ok (.ishr, 1) := by decide +kernel
theorem dL_act_279 : decode cL_act 279 = .ok (.iconst 2, 1) := by decide +kernel
theorem dL_act_280 : decode cL_act 280 = .ok (.invokestatic 19, 3) := by decide +kernel
theorem dL_act_283 : decode cL_act 283 = .ok (.ifCond .ne 8, 3) := by decide +kernel
theorem dL_act_286 : decode cL_act 286 = .ok (.bipush 99, 2) := by decide +kernel
theorem dL_act_288 : decode cL_act 288 = .ok (.goto 4, 3) := by decide +kernel
theorem dL_act_291 : decode cL_act 291 = .ok (.iconst 5, 1) := by decide +kernel
theorem dL_act_292 : decode cL_act 292 = .ok (.invokestatic 19, 3) := by decide +kernel
theorem dL_act_295 : decode cL_act 295 = .ok (.iadd, 1) := by decide +kernel
theorem dL_act_296 : decode cL_act 296 = .ok (.iastore, 1) := by decide +kernel
theorem dL_act_297 : decode cL_act 297 = .ok (.aload_n 0, 1) := by decide +kernel
theorem dL_act_298 : decode cL_act 298 = .ok (.iload 6, 2) := by decide +kernel
theorem dL_act_300 : decode cL_act 300 = .ok (.aload_n 1, 1) := by decide +kernel
theorem dL_act_301 : decode cL_act 301 = .ok (.getfield 15, 3) := by decide +kernel
theorem dL_act_304 : decode cL_act 304 = .ok (.iload 6, 2) := by decide +kernel
theorem dL_act_306 : decode cL_act 306 = .ok (.aaload, 1) := by decide +kernel
theorem dL_act_307 : decode cL_act 307 = .ok (.iconst 2, 1) := by decide +kernel
theorem dL_act_308 : decode cL_act 308 = .ok (.iaload, 1) := by decide +kernel
theorem dL_act_309 : decode cL_act 309 = .ok (.invokevirtual 41, 3) := by decide +kernel
theorem dL_act_312 : decode cL_act 312 = .ok (.iload 10, 2) := by decide +kernel
theorem dL_act_314 : decode cL_act 314 = .ok (.if_icmp .ne 7, 3) := by decide +kernel
theorem dL_act_317 : decode cL_act 317 = .ok (.iconst 1, 1) := by decide +kernel
theorem dL_act_318 : decode cL_act 318 = .ok (.goto 4, 3) := by decide +kernel
theorem dL_act_321 : decode cL_act 321 = .ok (.iconst 0, 1) := by decide +kernel
theorem dL_act_322 : decode cL_act 322 = .ok (.ireturn, 1) := by decide +kernel
theorem dL_act_323 : decode cL_act 323 = .ok (.iload 4, 2) := by decide +kernel
theorem dL_act_325 : decode cL_act 325 = .ok (.ifCond .ne 5, 3) := by decide +kernel
theorem dL_act_328 : decode cL_act 328 = .ok (.iconst 1, 1) := by decide +kernel
theorem dL_act_329 : decode cL_act 329 = .ok (.ireturn, 1) := by decide +kernel
theorem dL_act_330 : decode cL_act 330 = .ok (.aload_n 1, 1) := by decide +kernel
theorem dL_act_331 : decode cL_act 331 = .ok (.getfield 15, 3) := by decide +kernel
theorem dL_act_334 : decode cL_act 334 = .ok (.iload 6, 2) := by decide +kernel
theorem dL_act_336 : decode cL_act 336 = .ok (.aaload, 1) := by decide +kernel
theorem dL_act_337 : decode cL_act 337 = .ok (.iconst 3, 1) := by decide +kernel
theorem dL_act_338 : decode cL_act 338 = .ok (.iaload, 1) := by decide +kernel
theorem dL_act_339 : decode cL_act 339 = .ok (.iconst 1, 1) := by decide +kernel
theorem dL_act_340 : decode cL_act 340 = .ok (.if_icmp .ne 7, 3) := by decide +kernel
theorem dL_act_343 : decode cL_act 343 = .ok (.iconst 1, 1) := by decide +kernel
theorem dL_act_344 : decode cL_act 344 = .ok (.goto 4, 3) := by decide +kernel
theorem dL_act_347 : decode cL_act 347 = .ok (.iconst 0, 1) := by decide +kernel
theorem dL_act_348 : decode cL_act 348 = .ok (.istore 11, 2) := by decide +kernel
theorem dL_act_350 : decode cL_act 350 = .ok (.aload_n 1, 1) := by decide +kernel
theorem dL_act_351 : decode cL_act 351 = .ok (.getfield 15, 3) := by decide +kernel
theorem dL_act_354 : decode cL_act 354 = .ok (.iload 6, 2) := by decide +kernel
theorem dL_act_356 : decode cL_act 356 = .ok (.aaload, 1) := by decide +kernel
theorem dL_act_357 : decode cL_act 357 = .ok (.iconst 3, 1) := by decide +kernel
theorem dL_act_358 : decode cL_act 358 = .ok (.iload_n 2, 1) := by decide +kernel
theorem dL_act_359 : decode cL_act 359 = .ok (.bipush 8, 2) := by decide +kernel
theorem dL_act_361 : decode cL_act 361 = .ok (.ishr, 1) := by decide +kernel
theorem dL_act_362 : decode cL_act 362 = .ok (.iconst 3, 1) := by decide +kernel
theorem dL_act_363 : decode cL_act 363 = .ok (.invokestatic 19, 3) := by decide +kernel
theorem dL_act_366 : decode cL_act 366 = .ok (.ifCond .le 7, 3) := by decide +kernel
theorem dL_act_369 : decode cL_act 369 = .ok (.iconst 1, 1) := by decide +kernel
theorem dL_act_370 : decode cL_act 370 = .ok (.goto 4, 3) := by decide +kernel
theorem dL_act_373 : decode cL_act 373 = .ok (.iconst 0, 1) := by decide +kernel
theorem dL_act_374 : decode cL_act 374 = .ok (.iastore, 1) := by decide +kernel
theorem dL_act_375 : decode cL_act 375 = .ok (.aload_n 0, 1) := by decide +kernel
theorem dL_act_376 : decode cL_act 376 = .ok (.iload 6, 2) := by decide +kernel
theorem dL_act_378 : decode cL_act 378 = .ok (.aload_n 1, 1) := by decide +kernel
theorem dL_act_379 : decode cL_act 379 = .ok (.getfield 15, 3) := by decide +kernel
theorem dL_act_382 : decode cL_act 382 = .ok (.iload 6, 2) := by decide +kernel
theorem dL_act_384 : decode cL_act 384 = .ok (.aaload, 1) := by decide +kernel
theorem dL_act_385 : decode cL_act 385 = .ok (.iconst 3, 1) := by decide +kernel
theorem dL_act_386 : decode cL_act 386 = .ok (.iaload, 1) := by decide +kernel
theorem dL_act_387 : decode cL_act 387 = .ok (.iconst 1, 1) := by decide +kernel
theorem dL_act_388 : decode cL_act 388 = .ok (.if_icmp .ne 7, 3) := by decide +kernel
theorem dL_act_391 : decode cL_act 391 = .ok (.iconst 1, 1) := by decide +kernel
theorem dL_act_392 : decode cL_act 392 = .ok (.goto 4, 3) := by decide +kernel
theorem dL_act_395 : decode cL_act 395 = .ok (.iconst 0, 1) := by decide +kernel
theorem dL_act_396 : decode cL_act 396 = .ok (.invokevirtual 44, 3) := by decide +kernel
theorem dL_act_399 : decode cL_act 399 = .ok (.iload 11, 2) := by decide +kernel
theorem dL_act_401 : decode cL_act 401 = .ok (.if_icmp .ne 7, 3) := by decide +kernel
theorem dL_act_404 : decode cL_act 404 = .ok (.iconst 1, 1) := by decide +kernel
theorem dL_act_405 : decode cL_act 405 = .ok (.goto 4, 3) := by decide +kernel
theorem dL_act_408 : decode cL_act 408 = .ok (.iconst 0, 1) := by decide +kernel
theorem dL_act_409 : decode cL_act 409 = .ok (.ireturn, 1) := by decide +kernel
theorem dL_act_410 : decode cL_act 410 = .ok (.iload_n 3, 1) := by decide +kernel
theorem dL_act_411 : decode cL_act 411 = .ok (.ifCond .eq 14, 3) := by decide +kernel
theorem dL_act_414 : decode cL_act 414 = .ok (.iload_n 2, 1) := by decide +kernel
theorem dL_act_415 : decode cL_act 415 = .ok (.bipush 7, 2) := by decide +kernel
theorem dL_act_417 : decode cL_act 417 = .ok (.ishr, 1) := by decide +kernel
theorem dL_act_418 : decode cL_act 418 = .ok (.iconst 3, 1) := by decide +kernel
theorem dL_act_419 : decode cL_act 419 = .ok (.invokestatic 19, 3) := by decide +kernel
theorem dL_act_422 : decode cL_act 422 = .ok (.ifCond .le 5, 3) := by decide +kernel
theorem dL_act_425 : decode cL_act 425 = .ok (.iconst 1, 1) := by decide +kernel
theorem dL_act_426 : decode cL_act 426 = .ok (.ireturn, 1) := by decide +kernel
theorem dL_act_427 : decode cL_act 427 = .ok (.aload_n 1, 1) := by decide +kernel
theorem dL_act_428 : decode cL_act 428 = .ok (.iload 5, 2) := by decide +kernel
theorem dL_act_430 : decode cL_act 430 = .ok (.invokevirtual 48, 3) := by decide +kernel
theorem dL_act_433 : decode cL_act 433 = .ok (.istore 12, 2) := by decide +kernel
theorem dL_act_435 : decode cL_act 435 = .ok (.iconst 0, 1) := by decide +kernel
theorem dL_act_436 : decode cL_act 436 = .ok (.istore 13, 2) := by decide +kernel
theorem dL_act_438 : decode cL_act 438 = .ok (.iload 13, 2) := by decide +kernel
theorem dL_act_440 : decode cL_act 440 = .ok (.iload_n 3, 1) := by decide +kernel
theorem dL_act_441 : decode cL_act 441 = .ok (.if_icmp .ge 22, 3) := by decide +kernel
theorem dL_act_444 : decode cL_act 444 = .ok (.aload_n 1, 1) := by decide +kernel
theorem dL_act_445 : decode cL_act 445 = .ok (.getfield 51, 3) := by decide +kernel
theorem dL_act_448 : decode cL_act 448 = .ok (.iload 5, 2) := by decide +kernel
theorem dL_act_450 : decode cL_act 450 = .ok (.aaload, 1) := by decide +kernel
theorem dL_act_451 : decode cL_act 451 = .ok (.iload 13, 2) := by decide +kernel
theorem dL_act_453 : decode cL_act 453 = .ok (.iconst 0, 1) := by decide +kernel
theorem dL_act_454 : decode cL_act 454 = .ok (.newarray .int, 2) := by decide +kernel
theorem dL_act_456 : decode cL_act 456 = .ok (.aastore, 1) := by decide +kernel
theorem dL_act_457 : decode cL_act 457 = .ok (.iinc 13 1, 3) := by decide +kernel
theorem dL_act_460 : decode cL_act 460 = .ok (.goto (-22), 3) := by decide +kernel
theorem dL_act_463 : decode cL_act 463 = .ok (.aload_n 0, 1) := by decide +kernel
theorem dL_act_464 : decode cL_act 464 = .ok (.iload 5, 2) := by decide +kernel
theorem dL_act_466 : decode cL_act 466 = .ok (.invokevirtual 55, 3) := by decide +kernel
theorem dL_act_469 : decode cL_act 469 = .ok (.iload 12, 2) := by decide +kernel
theorem dL_act_471 : decode cL_act 471 = .ok (.if_icmp .ne 7, 3) := by decide +kernel
theorem dL_act_474 : decode cL_act 474 = .ok (.iconst 1, 1) := by decide +kernel
theorem dL_act_475 : decode cL_act 475 = .ok (.goto 4, 3) := by decide +kernel
theorem dL_act_478 : decode cL_act 478 = .ok (.iconst 0, 1) := by decide +kernel
theorem dL_act_479 : decode cL_act 479 = .ok (.ireturn, 1) := by decide +kernel
theorem dL_act_480 : decode cL_act 480 = .ok (.iconst 1, 1) := by decide +kernel
theorem dL_act_481 : decode cL_act 481 = .ok (.iload_n 2, 1) := by decide +kernel
theorem dL_act_482 : decode cL_act 482 = .ok (.bipush 6, 2) := by decide +kernel
theorem dL_act_484 : decode cL_act 484 = .ok (.ishr, 1) := by decide +kernel
theorem dL_act_485 : decode cL_act 485 = .ok (.iload_n 2, 1) := by decide +kernel
theorem dL_act_486 : decode cL_act 486 = .ok (.bipush 9, 2) := by decide +kernel
theorem dL_act_488 : decode cL_act 488 = .ok (.ishr, 1) := by decide +kernel
theorem dL_act_489 : decode cL_act 489 = .ok (.iconst 4, 1) := by decide +kernel
theorem dL_act_490 : decode cL_act 490 = .ok (.invokestatic 19, 3) := by decide +kernel
theorem dL_act_493 : decode cL_act 493 = .ok (.ifCond .ne 8, 3) := by decide +kernel
theorem dL_act_496 : decode cL_act 496 = .ok (.bipush 25, 2) := by decide +kernel
theorem dL_act_498 : decode cL_act 498 = .ok (.goto 4, 3) := by decide +kernel
theorem dL_act_501 : decode cL_act 501 = .ok (.iconst 3, 1) := by decide +kernel
theorem dL_act_502 : decode cL_act 502 = .ok (.invokestatic 19, 3) := by decide +kernel
theorem dL_act_505 : decode cL_act 505 = .ok (.iadd, 1) := by decide +kernel
theorem dL_act_506 : decode cL_act 506 = .ok (.istore 13, 2) := by decide +kernel
theorem dL_act_508 : decode cL_act 508 = .ok (.iconst 0, 1) := by decide +kernel
theorem dL_act_509 : decode cL_act 509 = .ok (.istore 14, 2) := by decide +kernel
theorem dL_act_511 : decode cL_act 511 = .ok (.iconst 0, 1) := by decide +kernel
theorem dL_act_512 : decode cL_act 512 = .ok (.istore 15, 2) := by decide +kernel
theorem dL_act_514 : decode cL_act 514 = .ok (.iload 15, 2) := by decide +kernel
theorem dL_act_516 : decode cL_act 516 = .ok (.iload 13, 2) := by decide +kernel
theorem dL_act_518 : decode cL_act 518 = .ok (.if_icmp .ge 18, 3) := by decide +kernel
theorem dL_act_521 : decode cL_act 521 = .ok (.iload 14, 2) := by decide +kernel
theorem dL_act_523 : decode cL_act 523 = .ok (.aload_n 1, 1) := by decide +kernel
theorem dL_act_524 : decode cL_act 524 = .ok (.invokevirtual 58, 3) := by decide +kernel
theorem dL_act_527 : decode cL_act 527 = .ok (.iadd, 1) := by decide +kernel
theorem dL_act_528 : decode cL_act 528 = .ok (.istore 14, 2) := by decide +kernel
theorem dL_act_530 : decode cL_act 530 = .ok (.iinc 15 1, 3) := by decide +kernel
theorem dL_act_533 : decode cL_act 533 = .ok (.goto (-19), 3) := by decide +kernel
theorem dL_act_536 : decode cL_act 536 = .ok (.aload_n 0, 1) := by decide +kernel
theorem dL_act_537 : decode cL_act 537 = .ok (.iload 13, 2) := by decide +kernel
theorem dL_act_539 : decode cL_act 539 = .ok (.invokevirtual 62, 3) := by decide +kernel
theorem dL_act_542 : decode cL_act 542 = .ok (.iload 14, 2) := by decide +kernel
theorem dL_act_544 : decode cL_act 544 = .ok (.if_icmp .ne 7, 3) := by decide +kernel
theorem dL_act_547 : decode cL_act 547 = .ok (.iconst 1, 1) := by decide +kernel
theorem dL_act_548 : decode cL_act 548 = .ok (.goto 4, 3) := by decide +kernel
theorem dL_act_551 : decode cL_act 551 = .ok (.iconst 0, 1) := by decide +kernel
theorem dL_act_552 : decode cL_act 552 = .ok (.ireturn, 1) := by decide +kernel
set_option maxRecDepth 20000 in
theorem ggL_build_X5_init : GoodIn wsL_build wsX5_init := goodIn_r _ [6, 7, 8, 9, 10, 11, 12, 13, 14, 15, 16, 244, 245, 246, 247, 248] (by decide +kernel) (by decide +kernel)
set_option maxRecDepth 20000 in
theorem gL_build_X5_init_n64 : GoodIn wsL_build (wsX5_init) := ggL_build_X5_init
set_option maxRecDepth 20000 in
theorem ggL_build_L_cell : GoodIn wsL_build wsL_cell := goodIn_r _ [20, 21] (by decide +kernel) (by decide +kernel)
set_option maxRecDepth 20000 in
theorem gL_build_L_cell : GoodIn wsL_build (va_wsS RL 65 yL_cell wsL_cell) := goodIn_app (goodIn_of _ (by decide +kernel)) ggL_build_L_cell
set_option maxRecDepth 20000 in
theorem ggL_build_L_below : GoodIn wsL_build wsL_below := goodIn_r _ [24, 25] (by decide +kernel) (by decide +kernel)
set_option maxRecDepth 20000 in
theorem gL_build_L_below : GoodIn wsL_build (va_wsS RL 19 yL_below wsL_below) := goodIn_app (goodIn_of _ (by decide +kernel)) ggL_build_L_below
set_option maxRecDepth 20000 in
theorem ggL_build_X5_hut : GoodIn wsL_build wsX5_hut := goodIn_r _ [29, 11, 12, 14, 30, 31, 3, 32, 10, 244, 245, 246, 247, 248] (by decide +kernel) (by decide +kernel)
set_option maxRecDepth 20000 in
theorem gL_build_X5_hut : GoodIn wsL_build (wsV RL 25 RX5 yX5_hut wsX5_hut) := goodIn_app (goodIn_of _ (by decide +kernel)) ggL_build_X5_hut
set_option maxRecDepth 20000 in
theorem ggL_build_X4_hut : GoodIn wsL_build wsX4_hut := goodIn_ca (goodIn_ca (goodIn_r _ [37, 38, 39, 40, 41, 42, 43, 44, 45, 46, 47, 48, 49, 50, 51, 52, 53, 249, 250, 251, 252, 253, 254, 255, 256, 257, 258, 259, 260] (by decide +kernel) (by decide +kernel)) (goodIn_sub (fun _ h => List.mem_cons_of_mem _ (List.mem_append_left _ (List.mem_append_left _ (List.mem_append_right _ h)))) (by decide +kernel))) (goodIn_sub (fun _ h => List.mem_cons_of_mem _ (List.mem_append_left _ (List.mem_append_right _ h))) (by decide +kernel))
set_option maxRecDepth 20000 in
theorem gL_build_X4_hut : GoodIn wsL_build (wsV RL 29 RX4 yX4_hut wsX4_hut) := goodIn_app (goodIn_of _ (by decide +kernel)) ggL_build_X4_hut
set_option maxRecDepth 20000 in
theorem ggL_build_L_act : GoodIn wsL_build wsL_act := goodIn_ca (goodIn_ca (goodIn_ca (goodIn_r _ [56, 57, 58, 59, 10, 22, 23, 19, 24, 25, 26, 27, 28, 3, 29, 11, 12, 14, 30, 31, 32, 33, 34, 35, 36, 37, 38, 39, 40, 41, 42, 43, 44, 45, 46, 47, 48, 49, 50, 51, 52, 53, 60, 61, 62, 63, 16, 15, 64, 65, 66, 67, 68, 69, 70, 71, 72, 73, 74, 75, 76, 77, 78, 79, 80, 81, 82, 83, 84, 85, 86, 87, 88, 89, 90, 91, 92, 93, 94, 95, 96, 97, 98, 99, 100, 101, 102, 103, 104, 105, 106, 107, 108, 109, 110, 111, 112, 113, 114, 115, 116, 117, 118, 119, 120, 121, 122, 123, 124, 125, 126, 127, 128, 129, 130, 131, 132, 133, 134, 135, 136, 137, 138, 139, 140, 141, 142, 143, 144, 145, 146, 147, 148, 149, 150, 151, 152, 153, 154, 155, 156, 157, 158, 159, 160, 161, 162, 163, 164, 165, 166, 167, 168, 169, 170, 171, 172, 173, 174, 175, 176, 177, 178, 179, 180, 181, 182, 183, 184, 185, 186, 187, 188, 189, 190, 191, 192, 193, 194, 195, 196, 197, 198, 199, 200, 201, 202, 203, 204, 8, 9, 205, 206, 207, 208, 209, 210, 211, 212, 213, 214, 215, 216, 217, 218, 219, 220, 221, 222, 223, 224, 225, 226, 227, 228, 229, 230, 231, 232, 233, 234, 235, 236, 237, 238, 239, 240, 241, 242, 243, 244, 245, 246, 247, 248, 249, 250, 251, 252, 253, 254, 255, 256, 257, 258, 259, 260, 261, 262, 263, 264, 265, 266, 267, 268, 269, 270, 271] (by decide +kernel) (by decide +kernel)) (goodIn_sub (fun _ h => List.mem_cons_of_mem _ (List.mem_append_left _ (List.mem_append_left _ (List.mem_append_right _ h)))) (by decide +kernel))) (goodIn_sub (fun _ h => List.mem_cons_of_mem _ (List.mem_append_left _ (List.mem_append_right _ h))) (by decide +kernel))) (goodIn_sub (fun _ h => List.mem_cons_of_mem _ (List.mem_append_right _ h)) (by decide +kernel))
set_option maxRecDepth 20000 in
theorem gL_build_L_act : GoodIn wsL_build (va_wsS RL 70 yL_act wsL_act) := goodIn_app (goodIn_of _ (by decide +kernel)) ggL_build_L_act
theorem dL_build_0 : decode cL_build 0 = .ok (.new 10, 3) := by decide +kernel
theorem dL_build_3 : decode cL_build 3 = .ok (.dup, 1) := by decide +kernel
theorem dL_build_4 : decode cL_build 4 = .ok (.invokespecial 64, 3) := by decide +kernel
theorem dL_build_7 : decode cL_build 7 = .ok (.astore_n 2, 1) := by decide +kernel
theorem dL_build_8 : decode cL_build 8 = .ok (.iconst 2, 1) := by decide +kernel
theorem dL_build_9 : decode cL_build 9 = .ok (.aload_n 1, 1) := by decide +kernel
theorem dL_build_10 : decode cL_build 10 = .ok (.iconst 0, 1) := by decide +kernel
theorem dL_build_11 : decode cL_build 11 = .ok (.invokestatic 65, 3) := by decide +kernel
theorem dL_build_14 : decode cL_build 14 = .ok (.iconst 5, 1) := by decide +kernel
theorem dL_build_15 : decode cL_build 15 = .ok (.invokestatic 19, 3) := by decide +kernel
theorem dL_build_18 : decode cL_build 18 = .ok (.iadd, 1) := by decide +kernel
theorem dL_build_19 : decode cL_build 19 = .ok (.istore_n 3, 1) := by decide +kernel
theorem dL_build_20 : decode cL_build 20 = .ok (.iconst 0, 1) := by decide +kernel
theorem dL_build_21 : decode cL_build 21 = .ok (.istore 4, 2) := by decide +kernel
theorem dL_build_23 : decode cL_build 23 = .ok (.iload 4, 2) := by decide +kernel
theorem dL_build_25 : decode cL_build 25 = .ok (.iload_n 3, 1) := by decide +kernel
theorem dL_build_26 : decode cL_build 26 = .ok (.if_icmp .ge 63, 3) := by decide +kernel
theorem dL_build_29 : decode cL_build 29 = .ok (.aload_n 1, 1) := by decide +kernel
theorem dL_build_30 : decode cL_build 30 = .ok (.iconst 1, 1) := by decide +kernel
theorem dL_build_31 : decode cL_build 31 = .ok (.invokestatic 65, 3) := by decide +kernel
theorem dL_build_34 : decode cL_build 34 = .ok (.iload 4, 2) := by decide +kernel
theorem dL_build_36 : decode cL_build 36 = .ok (.ishr, 1) := by decide +kernel
theorem dL_build_37 : decode cL_build 37 = .ok (.iconst 4, 1) := by decide +kernel
theorem dL_build_38 : decode cL_build 38 = .ok (.invokestatic 19, 3) := by decide +kernel
theorem dL_build_41 : decode cL_build 41 = .ok (.ifCond .ne 20, 3) := by decide +kernel
theorem dL_build_44 : decode cL_build 44 = .ok (.aload_n 1, 1) := by decide +kernel
theorem dL_build_45 : decode cL_build 45 = .ok (.iconst 1, 1) := by decide +kernel
theorem dL_build_46 : decode cL_build 46 = .ok (.invokestatic 65, 3) := by decide +kernel
theorem dL_build_49 : decode cL_build 49 = .ok (.iconst 2, 1) := by decide +kernel
theorem dL_build_50 : decode cL_build 50 = .ok (.iload 4, 2) := by decide +kernel
theorem dL_build_52 : decode cL_build 52 = .ok (.imul, 1) := by decide +kernel
theorem dL_build_53 : decode cL_build 53 = .ok (.ishr, 1) := by decide +kernel
theorem dL_build_54 : decode cL_build 54 = .ok (.iconst 4, 1) := by decide +kernel
theorem dL_build_55 : decode cL_build 55 = .ok (.invokestatic 19, 3) := by decide +kernel
theorem dL_build_58 : decode cL_build 58 = .ok (.goto 4, 3) := by decide +kernel
theorem dL_build_61 : decode cL_build 61 = .ok (.iconst 0, 1) := by decide +kernel
theorem dL_build_62 : decode cL_build 62 = .ok (.istore 5, 2) := by decide +kernel
theorem dL_build_64 : decode cL_build 64 = .ok (.aload_n 2, 1) := by decide +kernel
theorem dL_build_65 : decode cL_build 65 = .ok (.iload 5, 2) := by decide +kernel
theorem dL_build_67 : decode cL_build 67 = .ok (.invokevirtual 25, 3) := by decide +kernel
theorem dL_build_70 : decode cL_build 70 = .ok (.aload_n 0, 1) := by decide +kernel
theorem dL_build_71 : decode cL_build 71 = .ok (.iload 5, 2) := by decide +kernel
theorem dL_build_73 : decode cL_build 73 = .ok (.invokevirtual 29, 3) := by decide +kernel
theorem dL_build_76 : decode cL_build 76 = .ok (.iload 4, 2) := by decide +kernel
theorem dL_build_78 : decode cL_build 78 = .ok (.if_icmp .eq 5, 3) := by decide +kernel
theorem dL_build_81 : decode cL_build 81 = .ok (.aconst_null, 1) := by decide +kernel
theorem dL_build_82 : decode cL_build 82 = .ok (.areturn, 1) := by decide +kernel
theorem dL_build_83 : decode cL_build 83 = .ok (.iinc 4 1, 3) := by decide +kernel
theorem dL_build_86 : decode cL_build 86 = .ok (.goto (-63), 3) := by decide +kernel
theorem dL_build_89 : decode cL_build 89 = .ok (.iconst 0, 1) := by decide +kernel
theorem dL_build_90 : decode cL_build 90 = .ok (.istore 4, 2) := by decide +kernel
theorem dL_build_92 : decode cL_build 92 = .ok (.iload 4, 2) := by decide +kernel
theorem dL_build_94 : decode cL_build 94 = .ok (.bipush 16, 2) := by decide +kernel
theorem dL_build_96 : decode cL_build 96 = .ok (.if_icmp .ge 63, 3) := by decide +kernel
theorem dL_build_99 : decode cL_build 99 = .ok (.aload_n 1, 1) := by decide +kernel
theorem dL_build_100 : decode cL_build 100 = .ok (.iload 4, 2) := by decide +kernel
theorem dL_build_102 : decode cL_build 102 = .ok (.invokestatic 65, 3) := by decide +kernel
theorem dL_build_105 : decode cL_build 105 = .ok (.iconst 1, 1) := by decide +kernel
theorem dL_build_106 : decode cL_build 106 = .ok (.ishr, 1) := by decide +kernel
theorem dL_build_107 : decode cL_build 107 = .ok (.bipush 43, 2) := by decide +kernel
theorem dL_build_109 : decode cL_build 109 = .ok (.iload 4, 2) := by decide +kernel
theorem dL_build_111 : decode cL_build 111 = .ok (.imul, 1) := by decide +kernel
theorem dL_build_112 : decode cL_build 112 = .ok (.iadd, 1) := by decide +kernel
theorem dL_build_113 : decode cL_build 113 = .ok (.istore 5, 2) := by decide +kernel
theorem dL_build_115 : decode cL_build 115 = .ok (.iload 4, 2) := by decide +kernel
theorem dL_build_117 : decode cL_build 117 = .ok (.bipush 7, 2) := by decide +kernel
theorem dL_build_119 : decode cL_build 119 = .ok (.if_icmp .ge 22, 3) := by decide +kernel
theorem dL_build_122 : decode cL_build 122 = .ok (.bipush 14, 2) := by decide +kernel
theorem dL_build_124 : decode cL_build 124 = .ok (.iload 5, 2) := by decide +kernel
theorem dL_build_126 : decode cL_build 126 = .ok (.ldc 69, 2) := by decide +kernel
theorem dL_build_128 : decode cL_build 128 = .ok (.invokestatic 19, 3) := by decide +kernel
theorem dL_build_131 : decode cL_build 131 = .ok (.imul, 1) := by decide +kernel
theorem dL_build_132 : decode cL_build 132 = .ok (.iconst 1, 1) := by decide +kernel
theorem dL_build_133 : decode cL_build 133 = .ok (.iadd, 1) := by decide +kernel
theorem dL_build_134 : decode cL_build 134 = .ok (.iload 4, 2) := by decide +kernel
theorem dL_build_136 : decode cL_build 136 = .ok (.iconst 3, 1) := by decide +kernel
theorem dL_build_137 : decode cL_build 137 = .ok (.irem, 1) := by decide +kernel
theorem dL_build_138 : decode cL_build 138 = .ok (.iadd, 1) := by decide +kernel
theorem dL_build_139 : decode cL_build 139 = .ok (.istore 5, 2) := by decide +kernel
theorem dL_build_141 : decode cL_build 141 = .ok (.aload_n 0, 1) := by decide +kernel
theorem dL_build_142 : decode cL_build 142 = .ok (.aload_n 2, 1) := by decide +kernel
theorem dL_build_143 : decode cL_build 143 = .ok (.iload 5, 2) := by decide +kernel
theorem dL_build_145 : decode cL_build 145 = .ok (.invokestatic 70, 3) := by decide +kernel
theorem dL_build_148 : decode cL_build 148 = .ok (.ifCond .ne 5, 3) := by decide +kernel
theorem dL_build_151 : decode cL_build 151 = .ok (.aconst_null, 1) := by decide +kernel
theorem dL_build_152 : decode cL_build 152 = .ok (.areturn, 1) := by decide +kernel
theorem dL_build_153 : decode cL_build 153 = .ok (.iinc 4 1, 3) := by decide +kernel
theorem dL_build_156 : decode cL_build 156 = .ok (.goto (-64), 3) := by decide +kernel
theorem dL_build_159 : decode cL_build 159 = .ok (.aload_n 2, 1) := by decide +kernel
theorem dL_build_160 : decode cL_build 160 = .ok (.areturn, 1) := by decide +kernel
set_option maxRecDepth 20000 in
theorem ggL_law_X4_init : GoodIn wsL_law wsX4_init := goodIn_r _ [5, 6, 7, 8, 9, 10, 11, 12, 13, 14, 15, 16, 17, 18, 19, 20, 21, 22, 23, 24, 25, 26, 27, 28, 29, 30, 31, 32, 33, 34, 35, 36, 37, 38, 39, 40, 41, 42, 43, 44, 45, 46, 47, 48, 49, 50, 51, 52, 524, 525, 526, 527, 528, 529, 530, 519, 520, 521, 522, 523, 531, 532, 533, 534, 535, 536, 537, 538, 539, 540, 541, 542] (by decide +kernel) (by decide +kernel)
set_option maxRecDepth 20000 in
theorem gL_law_X4_init : GoodIn wsL_law (wsX4_init) := ggL_law_X4_init
set_option maxRecDepth 20000 in
theorem ggL_law_L_build : GoodIn wsL_law wsL_build := goodIn_ca (goodIn_ca (goodIn_ca (goodIn_r _ [56, 57, 58, 59, 60, 61, 62, 63, 7, 8, 22, 64, 65, 66, 67, 68, 69, 70, 71, 55, 72, 73, 74, 75, 76, 77, 78, 79, 80, 81, 82, 83, 84, 85, 86, 87, 2, 88, 89, 90, 91, 92, 12, 93, 94, 95, 11, 96, 97, 98, 99, 100, 101, 27, 102, 103, 104, 105, 106, 107, 108, 109, 110, 111, 112, 113, 114, 115, 116, 117, 118, 119, 120, 121, 122, 123, 124, 125, 126, 127, 128, 129, 130, 131, 132, 133, 134, 28, 29, 30, 32, 135, 136, 137, 138, 139, 140, 141, 142, 143, 144, 145, 146, 147, 148, 149, 150, 151, 152, 153, 154, 155, 156, 157, 158, 159, 160, 161, 162, 16, 163, 164, 165, 15, 166, 44, 167, 168, 169, 170, 171, 172, 173, 174, 175, 176, 177, 42, 178, 179, 180, 181, 182, 183, 184, 185, 186, 187, 188, 189, 190, 191, 192, 193, 194, 195, 196, 197, 198, 199, 200, 201, 202, 203, 204, 205, 206, 207, 208, 209, 210, 211, 212, 213, 214, 215, 46, 39, 43, 216, 217, 218, 219, 220, 221, 222, 223, 224, 225, 226, 227, 228, 229, 230, 231, 232, 233, 234, 235, 236, 237, 238, 239, 240, 241, 242, 243, 244, 245, 246, 45, 247, 248, 249, 250, 251, 252, 253, 254, 255, 256, 257, 258, 259, 260, 261, 262, 263, 264, 265, 266, 267, 268, 269, 270, 271, 272, 273, 274, 275, 276, 277, 278, 279, 543, 544, 545, 546, 547, 519, 520, 521, 522, 523, 524, 525, 526, 527, 528, 529, 530, 531, 532, 533, 534, 535, 536, 537, 538, 548, 549, 550] (by decide +kernel) (by decide +kernel)) (goodIn_sub (fun _ h => List.mem_append_left _ (List.mem_append_left _ (List.mem_append_right _ h))) (by decide +kernel))) (goodIn_sub (fun _ h => List.mem_append_left _ (List.mem_append_right _ h)) (by decide +kernel))) (goodIn_sub (fun _ h => List.mem_append_right _ h) (by decide +kernel))
set_option maxRecDepth 20000 in
theorem gL_law_L_build : GoodIn wsL_law (va_wsS RL 75 yL_build wsL_build) := goodIn_app (goodIn_of _ (by decide +kernel)) ggL_law_L_build
set_option maxRecDepth 20000 in
theorem ggL_law_L_cell : GoodIn wsL_law wsL_cell := goodIn_r _ [72, 73] (by decide +kernel) (by decide +kernel)
set_option maxRecDepth 20000 in
theorem gL_law_L_cell : GoodIn wsL_law (va_wsS RL 65 yL_cell wsL_cell) := goodIn_app (goodIn_of _ (by decide +kernel)) ggL_law_L_cell
set_option maxRecDepth 20000 in
theorem ggL_law_L_act : GoodIn wsL_law wsL_act := goodIn_ca (goodIn_ca (goodIn_ca (goodIn_r _ [104, 105, 106, 107, 22, 74, 75, 55, 76, 77, 78, 79, 80, 59, 81, 64, 65, 67, 82, 83, 84, 85, 86, 87, 2, 88, 89, 90, 91, 92, 12, 93, 94, 95, 11, 96, 97, 98, 99, 100, 101, 27, 108, 109, 110, 111, 69, 68, 112, 113, 114, 115, 116, 117, 118, 119, 120, 121, 122, 123, 124, 125, 126, 127, 128, 129, 130, 131, 132, 133, 134, 28, 29, 30, 32, 135, 136, 137, 138, 139, 140, 141, 142, 143, 144, 145, 146, 147, 148, 149, 150, 151, 152, 153, 154, 155, 156, 157, 158, 159, 160, 161, 162, 16, 163, 164, 165, 15, 166, 44, 167, 168, 169, 170, 171, 172, 173, 174, 175, 176, 177, 42, 178, 179, 180, 181, 182, 183, 184, 185, 186, 187, 188, 189, 190, 191, 192, 193, 194, 195, 196, 197, 198, 199, 200, 201, 202, 203, 204, 205, 206, 207, 208, 209, 210, 211, 212, 213, 214, 215, 46, 39, 43, 216, 217, 218, 219, 220, 221, 222, 223, 224, 225, 226, 227, 228, 229, 230, 231, 232, 233, 234, 235, 236, 237, 238, 239, 240, 241, 7, 8, 242, 243, 244, 245, 246, 45, 247, 248, 249, 250, 251, 252, 253, 254, 255, 256, 257, 258, 259, 260, 261, 262, 263, 264, 265, 266, 267, 268, 269, 270, 271, 272, 273, 274, 275, 276, 277, 278, 279, 543, 544, 545, 546, 547, 519, 520, 521, 522, 523, 524, 525, 526, 527, 528, 529, 530, 531, 532, 533, 534, 535, 536, 537, 538, 548, 549, 550] (by decide +kernel) (by decide +kernel)) (goodIn_sub (fun _ h => List.mem_append_left _ (List.mem_append_left _ (List.mem_append_right _ h))) (by decide +kernel))) (goodIn_sub (fun _ h => List.mem_append_left _ (List.mem_append_right _ h)) (by decide +kernel))) (goodIn_sub (fun _ h => List.mem_append_right _ h) (by decide +kernel))
set_option maxRecDepth 20000 in
theorem gL_law_L_act : GoodIn wsL_law (va_wsS RL 70 yL_act wsL_act) := goodIn_app (goodIn_of _ (by decide +kernel)) ggL_law_L_act
set_option maxRecDepth 20000 in
theorem ggL_law_X5_go : GoodIn wsL_law wsX5_go := goodIn_r _ [181, 64, 67, 65, 69, 22, 182, 183, 184, 185, 186, 68, 187, 188, 189, 190, 59, 191, 192, 193, 194, 195, 196, 197, 198, 543, 544, 545, 546, 547] (by decide +kernel) (by decide +kernel)
set_option maxRecDepth 20000 in
theorem gL_law_X5_go : GoodIn wsL_law (wsV RL 58 RX5 yX5_go wsX5_go) := goodIn_app (goodIn_of _ (by decide +kernel)) ggL_law_X5_go
set_option maxRecDepth 20000 in
theorem ggL_law_X4_go : GoodIn wsL_law wsX4_go := goodIn_ca (goodIn_r _ [202, 16, 203, 204, 205, 2, 206, 89, 90, 207, 208, 209, 15, 210, 211, 212, 213, 214, 215, 46, 39, 44, 43, 216, 217, 218, 94, 95, 11, 96, 97, 219, 220, 221, 222, 171, 172, 173, 223, 224, 225, 226, 227, 228, 229, 230, 231, 232, 233, 127, 128, 129, 130, 234, 235, 236, 237, 28, 29, 32, 30, 238, 239, 240, 241, 7, 8, 22, 242, 243, 244, 245, 246, 45, 247, 248, 249, 250, 251, 252, 253, 254, 255, 256, 257, 258, 259, 260, 261, 262, 263, 264, 265, 266, 267, 27, 268, 269, 270, 271, 272, 273, 274, 275, 276, 277, 278, 279, 174, 175, 176, 177, 42, 519, 520, 521, 522, 523, 531, 532, 533, 534, 535, 536, 537, 538, 548, 549, 550, 524, 525, 526, 527, 528, 529, 530] (by decide +kernel) (by decide +kernel)) (goodIn_sub (fun _ h => List.mem_append_left _ (List.mem_append_left _ (List.mem_append_right _ h))) (by decide +kernel))
set_option maxRecDepth 20000 in
theorem gL_law_X4_go : GoodIn wsL_law (wsV RL 62 RX4 yX4_go wsX4_go) := goodIn_app (goodIn_of _ (by decide +kernel)) ggL_law_X4_go
set_option maxRecDepth 20000 in
theorem ggL_law_X4_digest : GoodIn wsL_law wsX4_digest := goodIn_ca (goodIn_r _ [283, 284, 285, 12, 286, 287, 288, 2, 289, 120, 121, 16, 290, 291, 292, 15, 293, 211, 93, 94, 95, 11, 96, 97, 126, 127, 128, 129, 130, 294, 295, 296, 297, 32, 298, 299, 300, 301, 46, 218, 167, 168, 169, 170, 44, 171, 172, 173, 302, 303, 304, 305, 306, 307, 308, 309, 310, 311, 312, 313, 314, 42, 41, 315, 316, 317, 318, 38, 319, 320, 321, 20, 322, 323, 247, 252, 253, 254, 255, 28, 256, 257, 258, 259, 29, 324, 325, 326, 217, 327, 232, 328, 329, 330, 331, 332, 333, 334, 335, 50, 51, 52, 336, 337, 338, 339, 340, 341, 342, 343, 344, 345, 346, 347, 348, 349, 350, 351, 352, 353, 354, 355, 356, 357, 358, 359, 360, 361, 362, 363, 116, 117, 118, 119, 364, 365, 366, 367, 27, 368, 369, 370, 371, 372, 39, 373, 374, 375, 376, 377, 378, 379, 380, 381, 382, 383, 384, 139, 140, 141, 142, 385, 386, 387, 388, 389, 390, 30, 391, 249, 250, 251, 392, 393, 394, 395, 396, 397, 398, 399, 400, 401, 402, 403, 404, 405, 406, 407, 408, 409, 410, 411, 412, 413, 414, 415, 416, 273, 274, 275, 242, 417, 224, 225, 226, 227, 418, 419, 420, 421, 422, 423, 424, 425, 426, 427, 428, 519, 520, 521, 522, 523, 531, 532, 533, 534, 535, 536, 537, 538, 524, 525, 526, 527, 528, 529, 530, 539, 540, 541, 542, 548, 549, 550] (by decide +kernel) (by decide +kernel)) (goodIn_sub (fun _ h => List.mem_append_right _ h) (by decide +kernel))
set_option maxRecDepth 20000 in
theorem gL_law_X4_digest : GoodIn wsL_law (wsV RL 79 RX4 yX4_digest wsX4_digest) := goodIn_app (goodIn_of _ (by decide +kernel)) ggL_law_X4_digest
set_option maxRecDepth 20000 in
theorem ggL_law_X4_count : GoodIn wsL_law wsX4_count := goodIn_ca (goodIn_r _ [289, 120, 121, 16, 12, 290, 291, 292, 15, 293, 211, 93, 94, 95, 11, 96, 97, 126, 127, 128, 129, 130, 294, 295, 296, 297, 32, 298, 299, 300, 301, 46, 218, 167, 168, 169, 170, 44, 171, 172, 173, 302, 303, 304, 305, 306, 307, 308, 309, 310, 311, 312, 313, 314, 42, 41, 315, 316, 317, 318, 38, 319, 320, 321, 20, 322, 323, 247, 252, 253, 254, 255, 28, 256, 257, 258, 259, 29, 324, 325, 326, 217, 327, 232, 328, 329, 330, 331, 332, 333, 334, 335, 50, 51, 52, 336, 337, 338, 339, 340, 341, 342, 343, 344, 345, 346, 347, 348, 349, 350, 351, 352, 353, 354, 355, 356, 357, 358, 359, 519, 520, 521, 522, 523, 531, 532, 533, 534, 535, 536, 537, 538, 524, 525, 526, 527, 528, 529, 530, 539, 540, 541, 542, 548, 549, 550] (by decide +kernel) (by decide +kernel)) (goodIn_sub (fun _ h => List.mem_append_right _ h) (by decide +kernel))
set_option maxRecDepth 20000 in
theorem gL_law_X4_count : GoodIn wsL_law (wsV RL 83 RX4 yX4_count wsX4_count) := goodIn_app (goodIn_of _ (by decide +kernel)) ggL_law_X4_count
set_option maxRecDepth 20000 in
theorem ggL_law_X4_told : GoodIn wsL_law wsX4_told := goodIn_ca (goodIn_r _ [363, 120, 121, 12, 16, 116, 117, 118, 2, 119, 93, 94, 95, 11, 96, 97, 364, 365, 366, 367, 27, 368, 168, 169, 15, 170, 44, 171, 172, 173, 369, 370, 371, 372, 39, 373, 374, 375, 376, 46, 310, 218, 311, 312, 313, 314, 42, 41, 315, 316, 317, 318, 38, 319, 320, 321, 20, 322, 323, 247, 127, 128, 129, 130, 252, 253, 254, 255, 28, 256, 257, 258, 259, 29, 324, 325, 326, 217, 327, 232, 328, 329, 330, 331, 332, 333, 334, 335, 50, 51, 52, 336, 337, 338, 339, 340, 377, 378, 379, 380, 306, 307, 308, 309, 341, 342, 343, 344, 32, 519, 520, 521, 522, 523, 524, 525, 526, 527, 528, 529, 530, 531, 532, 533, 534, 535, 536, 537, 538, 539, 540, 541, 542, 548, 549, 550] (by decide +kernel) (by decide +kernel)) (goodIn_sub (fun _ h => List.mem_append_right _ h) (by decide +kernel))
set_option maxRecDepth 20000 in
theorem gL_law_X4_told : GoodIn wsL_law (wsV RL 86 RX4 yX4_told wsX4_told) := goodIn_app (goodIn_of _ (by decide +kernel)) ggL_law_X4_told
set_option maxRecDepth 20000 in
theorem ggL_law_X4_sheet : GoodIn wsL_law wsX4_sheet := goodIn_ca (goodIn_r _ [407, 16, 116, 117, 118, 2, 119, 120, 121, 12, 93, 94, 95, 11, 96, 97, 408, 409, 410, 411, 412, 413, 414, 15, 415, 44, 171, 172, 173, 416, 273, 274, 217, 275, 242, 290, 291, 292, 293, 211, 417, 224, 225, 226, 227, 418, 419, 420, 421, 232, 422, 325, 326, 327, 519, 520, 521, 522, 523, 524, 525, 526, 527, 528, 529, 530, 531, 532, 533, 534, 535, 536, 537, 538, 548, 549, 550] (by decide +kernel) (by decide +kernel)) (goodIn_sub (fun _ h => List.mem_append_right _ h) (by decide +kernel))
set_option maxRecDepth 20000 in
theorem gL_law_X4_sheet : GoodIn wsL_law (wsV RL 89 RX4 yX4_sheet wsX4_sheet) := goodIn_app (goodIn_of _ (by decide +kernel)) ggL_law_X4_sheet
set_option maxRecDepth 20000 in
theorem ggL_law_X4_way : GoodIn wsL_law wsX4_way := goodIn_ca (goodIn_r _ [426, 16, 427, 116, 117, 118, 2, 119, 120, 121, 12, 93, 94, 95, 11, 96, 97, 408, 409, 410, 411, 428, 312, 313, 15, 314, 42, 41, 315, 316, 317, 318, 38, 46, 44, 319, 320, 321, 20, 322, 323, 247, 127, 128, 129, 130, 252, 253, 254, 255, 28, 256, 257, 258, 259, 29, 171, 172, 173, 324, 325, 326, 217, 327, 232, 328, 329, 330, 331, 332, 333, 334, 335, 50, 51, 52, 336, 337, 338, 339, 340, 519, 520, 521, 522, 523, 524, 525, 526, 527, 528, 529, 530, 531, 532, 533, 534, 535, 536, 537, 538, 539, 540, 541, 542, 548, 549, 550] (by decide +kernel) (by decide +kernel)) (goodIn_sub (fun _ h => List.mem_append_right _ h) (by decide +kernel))
set_option maxRecDepth 20000 in
theorem gL_law_X4_way : GoodIn wsL_law (wsV RL 92 RX4 yX4_way wsX4_way) := goodIn_app (goodIn_of _ (by decide +kernel)) ggL_law_X4_way
set_option maxRecDepth 20000 in
theorem ggL_law_X4_post : GoodIn wsL_law wsX4_post := goodIn_ca (goodIn_r _ [436, 16, 116, 117, 118, 2, 119, 120, 121, 12, 93, 94, 95, 11, 96, 97, 437, 307, 308, 15, 309, 310, 46, 311, 312, 313, 314, 42, 41, 315, 316, 317, 318, 38, 44, 319, 320, 321, 20, 322, 323, 247, 127, 128, 129, 130, 252, 253, 254, 255, 28, 256, 257, 258, 259, 29, 171, 172, 173, 324, 325, 326, 217, 327, 232, 328, 329, 330, 331, 332, 333, 334, 335, 50, 51, 52, 336, 337, 338, 339, 340, 341, 342, 343, 344, 32, 519, 520, 521, 522, 523, 524, 525, 526, 527, 528, 529, 530, 531, 532, 533, 534, 535, 536, 537, 538, 539, 540, 541, 542, 548, 549, 550] (by decide +kernel) (by decide +kernel)) (goodIn_sub (fun _ h => List.mem_append_right _ h) (by decide +kernel))
set_option maxRecDepth 20000 in
theorem gL_law_X4_post : GoodIn wsL_law (wsV RL 95 RX4 yX4_post wsX4_post) := goodIn_app (goodIn_of _ (by decide +kernel)) ggL_law_X4_post
set_option maxRecDepth 20000 in
theorem ggL_law_X4_truth : GoodIn wsL_law wsX4_truth := goodIn_ca (goodIn_r _ [441, 12, 21, 23, 427, 116, 117, 118, 2, 119, 120, 121, 93, 94, 95, 11, 96, 97, 442, 443, 444, 445, 130, 32, 28, 29, 30, 446, 320, 321, 20, 322, 323, 447, 333, 334, 335, 50, 51, 52, 448, 337, 338, 339, 340, 519, 520, 521, 522, 523, 524, 525, 526, 527, 528, 529, 530, 539, 540, 541, 542] (by decide +kernel) (by decide +kernel)) (goodIn_sub (fun _ h => List.mem_append_right _ h) (by decide +kernel))
set_option maxRecDepth 20000 in
theorem gL_law_X4_truth : GoodIn wsL_law (wsV RL 98 RX4 yX4_truth wsX4_truth) := goodIn_app (goodIn_of _ (by decide +kernel)) ggL_law_X4_truth
set_option maxRecDepth 20000 in
theorem ggL_law_X4_settles : GoodIn wsL_law wsX4_settles := goodIn_r _ [452, 12, 16, 17, 345, 346, 347, 11, 348, 97, 349, 350, 351, 352, 130, 28, 29, 32, 353, 354, 355, 356, 357, 358, 359, 302, 303, 304, 15, 305, 46, 218, 94, 95, 96, 306, 307, 308, 309, 310, 311, 312, 313, 314, 42, 41, 315, 316, 317, 318, 38, 44, 319, 320, 321, 20, 322, 323, 247, 127, 128, 129, 252, 253, 254, 255, 256, 257, 258, 259, 171, 172, 173, 324, 325, 326, 217, 327, 232, 328, 329, 330, 331, 332, 333, 334, 335, 50, 51, 52, 336, 337, 338, 339, 340, 341, 342, 343, 344, 453, 454, 455, 456, 211, 39, 174, 175, 176, 177, 207, 208, 209, 210, 212, 213, 214, 215, 43, 216, 219, 220, 221, 222, 223, 224, 225, 226, 227, 228, 229, 230, 231, 233, 234, 235, 236, 237, 30, 238, 239, 240, 241, 7, 8, 22, 242, 243, 244, 245, 246, 45, 248, 249, 250, 251, 260, 261, 262, 263, 264, 265, 266, 267, 27, 268, 269, 270, 271, 272, 273, 274, 275, 276, 277, 278, 279, 519, 520, 521, 522, 523, 524, 525, 526, 527, 528, 529, 530, 531, 532, 533, 534, 535, 536, 537, 538, 539, 540, 541, 542, 548, 549, 550] (by decide +kernel) (by decide +kernel)
set_option maxRecDepth 20000 in
theorem gL_law_X4_settles : GoodIn wsL_law (wsV RL 101 RX4 yX4_settles wsX4_settles) := goodIn_app (goodIn_of _ (by decide +kernel)) ggL_law_X4_settles
set_option maxRecDepth 20000 in
theorem ggL_law_X4_foresee : GoodIn wsL_law wsX4_foresee := goodIn_ca (goodIn_ca (goodIn_r _ [460, 120, 121, 17, 16, 203, 204, 205, 2, 206, 89, 90, 453, 454, 455, 15, 456, 211, 39, 44, 174, 175, 176, 177, 42, 207, 208, 209, 210, 212, 213, 214, 215, 46, 43, 216, 217, 218, 94, 95, 11, 96, 97, 219, 220, 221, 222, 171, 172, 173, 223, 224, 225, 226, 227, 228, 229, 230, 231, 232, 233, 127, 128, 129, 130, 234, 235, 236, 237, 28, 29, 32, 30, 238, 239, 240, 241, 7, 8, 22, 242, 243, 244, 245, 246, 45, 247, 248, 249, 250, 251, 252, 253, 254, 255, 256, 257, 258, 259, 260, 261, 262, 263, 264, 265, 266, 267, 27, 268, 269, 270, 271, 272, 273, 274, 275, 276, 277, 278, 279, 298, 299, 300, 301, 167, 168, 169, 170, 302, 303, 304, 305, 306, 307, 308, 309, 310, 311, 312, 313, 314, 41, 315, 316, 317, 318, 38, 319, 320, 321, 20, 322, 323, 324, 325, 326, 327, 328, 329, 330, 331, 332, 333, 334, 335, 50, 51, 52, 336, 337, 338, 339, 340, 341, 342, 343, 344, 519, 520, 521, 522, 523, 531, 532, 533, 534, 535, 536, 537, 538, 548, 549, 550, 524, 525, 526, 527, 528, 529, 530, 539, 540, 541, 542] (by decide +kernel) (by decide +kernel)) (goodIn_sub (fun _ h => List.mem_append_right _ h) (by decide +kernel))) (goodIn_sub (fun _ h => List.mem_append_left _ (List.mem_append_left _ (List.mem_append_right _ h))) (by decide +kernel))
set_option maxRecDepth 20000 in
theorem gL_law_X4_foresee : GoodIn wsL_law (wsV RL 104 RX4 yX4_foresee wsX4_foresee) := goodIn_app (goodIn_of _ (by decide +kernel)) ggL_law_X4_foresee
set_option maxRecDepth 20000 in
theorem ggL_law_X4_advise : GoodIn wsL_law wsX4_advise := goodIn_r _ [464, 12, 126, 127, 128, 11, 129, 130, 391, 249, 250, 251, 32, 345, 346, 347, 348, 97, 349, 350, 351, 352, 28, 29, 353, 354, 355, 356, 357, 358, 359, 519, 520, 521, 522, 523, 524, 525, 526, 527, 528, 529, 530] (by decide +kernel) (by decide +kernel)
set_option maxRecDepth 20000 in
theorem gL_law_X4_advise : GoodIn wsL_law (wsV RL 107 RX4 yX4_advise wsX4_advise) := goodIn_app (goodIn_of _ (by decide +kernel)) ggL_law_X4_advise
set_option maxRecDepth 20000 in
theorem ggL_law_X4_about : GoodIn wsL_law wsX4_about := goodIn_ca (goodIn_r _ [384, 120, 121, 12, 16, 139, 140, 141, 2, 142, 126, 127, 128, 11, 129, 130, 385, 253, 254, 255, 28, 386, 257, 258, 259, 29, 387, 388, 389, 390, 30, 391, 249, 250, 251, 32, 392, 393, 394, 15, 395, 46, 218, 94, 95, 96, 97, 396, 397, 398, 399, 44, 252, 171, 172, 173, 256, 324, 325, 326, 217, 327, 232, 519, 520, 521, 522, 523, 524, 525, 526, 527, 528, 529, 530, 531, 532, 533, 534, 535, 536, 537, 538, 548, 549, 550] (by decide +kernel) (by decide +kernel)) (goodIn_sub (fun _ h => List.mem_append_right _ h) (by decide +kernel))
set_option maxRecDepth 20000 in
theorem gL_law_X4_about : GoodIn wsL_law (wsV RL 110 RX4 yX4_about wsX4_about) := goodIn_app (goodIn_of _ (by decide +kernel)) ggL_law_X4_about
set_option maxRecDepth 20000 in
theorem ggL_law_X5_isSame : GoodIn wsL_law wsX5_isSame := goodIn_ca (goodIn_r _ [469, 64, 67, 69, 470, 22, 65, 187, 192, 193, 59, 194, 471, 405, 406, 2, 407, 16, 116, 117, 118, 119, 120, 121, 12, 93, 94, 95, 11, 96, 97, 408, 409, 410, 411, 412, 413, 414, 15, 415, 44, 171, 172, 173, 416, 273, 274, 217, 275, 242, 290, 291, 292, 293, 211, 417, 224, 225, 226, 227, 418, 419, 420, 421, 232, 422, 325, 326, 327, 472, 473, 474, 475, 476, 477, 478, 479, 480, 481, 482, 483, 484, 485, 486, 487, 488, 424, 425, 426, 427, 428, 312, 313, 314, 42, 41, 315, 316, 317, 318, 38, 46, 319, 320, 321, 20, 322, 323, 247, 127, 128, 129, 130, 252, 253, 254, 255, 28, 256, 257, 258, 259, 29, 324, 328, 329, 330, 331, 332, 333, 334, 335, 50, 51, 52, 336, 337, 338, 339, 340, 489, 490, 491, 492, 493, 494, 495, 496, 497, 434, 435, 436, 437, 307, 308, 309, 310, 311, 341, 342, 343, 344, 32, 498, 439, 440, 441, 21, 23, 442, 443, 444, 445, 30, 446, 447, 448, 499, 156, 157, 158, 500, 361, 362, 363, 364, 365, 366, 367, 27, 368, 168, 169, 170, 369, 370, 371, 372, 39, 373, 374, 375, 376, 218, 377, 378, 379, 380, 306, 501, 382, 383, 384, 139, 140, 141, 142, 126, 385, 386, 387, 388, 389, 390, 391, 249, 250, 251, 392, 393, 394, 395, 396, 397, 398, 399, 502, 503, 504, 505, 506, 507, 508, 509, 510, 287, 288, 289, 294, 295, 296, 297, 298, 299, 300, 301, 167, 302, 303, 304, 305, 345, 346, 347, 348, 349, 350, 351, 352, 353, 354, 355, 356, 357, 358, 359, 511, 512, 513, 514, 515, 516, 517, 518, 223, 543, 544, 545, 546, 547, 519, 520, 521, 522, 523, 524, 525, 526, 527, 528, 529, 530, 531, 532, 533, 534, 535, 536, 537, 538, 548, 549, 550, 539, 540, 541, 542] (by decide +kernel) (by decide +kernel)) (goodIn_sub (fun _ h => List.mem_append_right _ h) (by decide +kernel))
set_option maxRecDepth 20000 in
theorem gL_law_X5_isSame : GoodIn wsL_law (wsV RL 113 RX5 yX5_isSame wsX5_isSame) := goodIn_app (goodIn_of _ (by decide +kernel)) ggL_law_X5_isSame
theorem dL_law_0 : decode cL_law 0 = .ok (.new 30, 3) := by decide +kernel
theorem dL_law_3 : decode cL_law 3 = .ok (.dup, 1) := by decide +kernel
theorem dL_law_4 : decode cL_law 4 = .ok (.invokespecial 74, 3) := by decide +kernel
theorem dL_law_7 : decode cL_law 7 = .ok (.astore_n 1, 1) := by decide +kernel
theorem dL_law_8 : decode cL_law 8 = .ok (.aload_n 1, 1) := by decide +kernel
theorem dL_law_9 : decode cL_law 9 = .ok (.aload_n 0, 1) := by decide +kernel
theorem dL_law_10 : decode cL_law 10 = .ok (.invokestatic 75, 3) := by decide +kernel
theorem dL_law_13 : decode cL_law 13 = .ok (.astore_n 2, 1) := by decide +kernel
theorem dL_law_14 : decode cL_law 14 = .ok (.aload_n 2, 1) := by decide +kernel
theorem dL_law_15 : decode cL_law 15 = .ok (.ifnonnull 5, 3) := by decide +kernel
theorem dL_law_18 : decode cL_law 18 = .ok (.iconst 0, 1) := by decide +kernel
theorem dL_law_19 : decode cL_law 19 = .ok (.ireturn, 1) := by decide +kernel
theorem dL_law_20 : decode cL_law 20 = .ok (.iconst 0, 1) := by decide +kernel
theorem dL_law_21 : decode cL_law 21 = .ok (.istore_n 3, 1) := by decide +kernel
theorem dL_law_22 : decode cL_law 22 = .ok (.iload_n 3, 1) := by decide +kernel
theorem dL_law_23 : decode cL_law 23 = .ok (.bipush 7, 2) := by decide +kernel
theorem dL_law_25 : decode cL_law 25 = .ok (.if_icmp .ge 1145, 3) := by decide +kernel
theorem dL_law_28 : decode cL_law 28 = .ok (.aload_n 0, 1) := by decide +kernel
theorem dL_law_29 : decode cL_law 29 = .ok (.iload_n 3, 1) := by decide +kernel
theorem dL_law_30 : decode cL_law 30 = .ok (.iconst 4, 1) := by decide +kernel
theorem dL_law_31 : decode cL_law 31 = .ok (.iadd, 1) := by decide +kernel
theorem dL_law_32 : decode cL_law 32 = .ok (.invokestatic 65, 3) := by decide +kernel
theorem dL_law_35 : decode cL_law 35 = .ok (.iconst 2, 1) := by decide +kernel
theorem dL_law_36 : decode cL_law 36 = .ok (.ishr, 1) := by decide +kernel
theorem dL_law_37 : decode cL_law 37 = .ok (.bipush 59, 2) := by decide +kernel
theorem dL_law_39 : decode cL_law 39 = .ok (.iload_n 3, 1) := by decide +kernel
theorem dL_law_40 : decode cL_law 40 = .ok (.imul, 1) := by decide +kernel
theorem dL_law_41 : decode cL_law 41 = .ok (.iadd, 1) := by decide +kernel
theorem dL_law_42 : decode cL_law 42 = .ok (.istore 4, 2) := by decide +kernel
theorem dL_law_44 : decode cL_law 44 = .ok (.iconst 0, 1) := by decide +kernel
theorem dL_law_45 : decode cL_law 45 = .ok (.istore 5, 2) := by decide +kernel
theorem dL_law_47 : decode cL_law 47 = .ok (.iload 5, 2) := by decide +kernel
theorem dL_law_49 : decode cL_law 49 = .ok (.iconst 2, 1) := by decide +kernel
theorem dL_law_50 : decode cL_law 50 = .ok (.if_icmp .ge 32, 3) := by decide +kernel
theorem dL_law_53 : decode cL_law 53 = .ok (.aload_n 1, 1) := by decide +kernel
theorem dL_law_54 : decode cL_law 54 = .ok (.aload_n 2, 1) := by decide +kernel
theorem dL_law_55 : decode cL_law 55 = .ok (.iload 4, 2) := by decide +kernel
theorem dL_law_57 : decode cL_law 57 = .ok (.iconst 2, 1) := by decide +kernel
theorem dL_law_58 : decode cL_law 58 = .ok (.iload 5, 2) := by decide +kernel
theorem dL_law_60 : decode cL_law 60 = .ok (.imul, 1) := by decide +kernel
theorem dL_law_61 : decode cL_law 61 = .ok (.ishr, 1) := by decide +kernel
theorem dL_law_62 : decode cL_law 62 = .ok (.bipush 23, 2) := by decide +kernel
theorem dL_law_64 : decode cL_law 64 = .ok (.iload 5, 2) := by decide +kernel
theorem dL_law_66 : decode cL_law 66 = .ok (.imul, 1) := by decide +kernel
theorem dL_law_67 : decode cL_law 67 = .ok (.iadd, 1) := by decide +kernel
theorem dL_law_68 : decode cL_law 68 = .ok (.invokestatic 70, 3) := by decide +kernel
theorem dL_law_71 : decode cL_law 71 = .ok (.ifCond .ne 5, 3) := by decide +kernel
theorem dL_law_74 : decode cL_law 74 = .ok (.iconst 0, 1) := by decide +kernel
theorem dL_law_75 : decode cL_law 75 = .ok (.ireturn, 1) := by decide +kernel
theorem dL_law_76 : decode cL_law 76 = .ok (.iinc 5 1, 3) := by decide +kernel
theorem dL_law_79 : decode cL_law 79 = .ok (.goto (-32), 3) := by decide +kernel
theorem dL_law_82 : decode cL_law 82 = .ok (.iload_n 3, 1) := by decide +kernel
theorem dL_law_83 : decode cL_law 83 = .ok (.iconst 3, 1) := by decide +kernel
theorem dL_law_84 : decode cL_law 84 = .ok (.irem, 1) := by decide +kernel
theorem dL_law_85 : decode cL_law 85 = .ok (.iconst 2, 1) := by decide +kernel
theorem dL_law_86 : decode cL_law 86 = .ok (.if_icmp .ne 7, 3) := by decide +kernel
theorem dL_law_89 : decode cL_law 89 = .ok (.iconst 1, 1) := by decide +kernel
theorem dL_law_90 : decode cL_law 90 = .ok (.goto 4, 3) := by decide +kernel
theorem dL_law_93 : decode cL_law 93 = .ok (.iconst 0, 1) := by decide +kernel
theorem dL_law_94 : decode cL_law 94 = .ok (.istore 5, 2) := by decide +kernel
theorem dL_law_96 : decode cL_law 96 = .ok (.iload 5, 2) := by decide +kernel
theorem dL_law_98 : decode cL_law 98 = .ok (.ifCond .eq 44, 3) := by decide +kernel
theorem dL_law_101 : decode cL_law 101 = .ok (.iconst 0, 1) := by decide +kernel
theorem dL_law_102 : decode cL_law 102 = .ok (.istore 6, 2) := by decide +kernel
theorem dL_law_104 : decode cL_law 104 = .ok (.iconst 0, 1) := by decide +kernel
theorem dL_law_105 : decode cL_law 105 = .ok (.istore 7, 2) := by decide +kernel
theorem dL_law_107 : decode cL_law 107 = .ok (.iload 7, 2) := by decide +kernel
theorem dL_law_109 : decode cL_law 109 = .ok (.bipush 10, 2) := by decide +kernel
theorem dL_law_111 : decode cL_law 111 = .ok (.if_icmp .ge 18, 3) := by decide +kernel
theorem dL_law_114 : decode cL_law 114 = .ok (.iload 6, 2) := by decide +kernel
theorem dL_law_116 : decode cL_law 116 = .ok (.aload_n 2, 1) := by decide +kernel
theorem dL_law_117 : decode cL_law 117 = .ok (.invokevirtual 58, 3) := by decide +kernel
theorem dL_law_120 : decode cL_law 120 = .ok (.iadd, 1) := by decide +kernel
theorem dL_law_121 : decode cL_law 121 = .ok (.istore 6, 2) := by decide +kernel
theorem dL_law_123 : decode cL_law 123 = .ok (.iinc 7 1, 3) := by decide +kernel
theorem dL_law_126 : decode cL_law 126 = .ok (.goto (-19), 3) := by decide +kernel
theorem dL_law_129 : decode cL_law 129 = .ok (.aload_n 1, 1) := by decide +kernel
theorem dL_law_130 : decode cL_law 130 = .ok (.bipush 10, 2) := by decide +kernel
theorem dL_law_132 : decode cL_law 132 = .ok (.invokevirtual 62, 3) := by decide +kernel
theorem dL_law_135 : decode cL_law 135 = .ok (.iload 6, 2) := by decide +kernel
theorem dL_law_137 : decode cL_law 137 = .ok (.if_icmp .eq 5, 3) := by decide +kernel
theorem dL_law_140 : decode cL_law 140 = .ok (.iconst 0, 1) := by decide +kernel
theorem dL_law_141 : decode cL_law 141 = .ok (.ireturn, 1) := by decide +kernel
theorem dL_law_142 : decode cL_law 142 = .ok (.aload_n 1, 1) := by decide +kernel
theorem dL_law_143 : decode cL_law 143 = .ok (.invokevirtual 79, 3) := by decide +kernel
theorem dL_law_146 : decode cL_law 146 = .ok (.lstore 6, 2) := by decide +kernel
theorem dL_law_148 : decode cL_law 148 = .ok (.aload_n 1, 1) := by decide +kernel
theorem dL_law_149 : decode cL_law 149 = .ok (.iconst 1, 1) := by decide +kernel
theorem dL_law_150 : decode cL_law 150 = .ok (.invokevirtual 83, 3) := by decide +kernel
theorem dL_law_153 : decode cL_law 153 = .ok (.istore 8, 2) := by decide +kernel
theorem dL_law_155 : decode cL_law 155 = .ok (.iconst 1, 1) := by decide +kernel
theorem dL_law_156 : decode cL_law 156 = .ok (.istore 9, 2) := by decide +kernel
theorem dL_law_158 : decode cL_law 158 = .ok (.iconst 0, 1) := by decide +kernel
theorem dL_law_159 : decode cL_law 159 = .ok (.istore 10, 2) := by decide +kernel
theorem dL_law_161 : decode cL_law 161 = .ok (.iload 10, 2) := by decide +kernel
theorem dL_law_163 : decode cL_law 163 = .ok (.iload 8, 2) := by decide +kernel
theorem dL_law_165 : decode cL_law 165 = .ok (.if_icmp .ge 29, 3) := by decide +kernel
theorem dL_law_168 : decode cL_law 168 = .ok (.iload 9, 2) := by decide +kernel
theorem dL_law_170 : decode cL_law 170 = .ok (.aload_n 1, 1) := by decide +kernel
theorem dL_law_171 : decode cL_law 171 = .ok (.iload 10, 2) := by decide +kernel
theorem dL_law_173 : decode cL_law 173 = .ok (.iconst 0, 1) := by decide +kernel
theorem dL_law_174 : decode cL_law 174 = .ok (.invokevirtual 86, 3) := by decide +kernel
theorem dL_law_177 : decode cL_law 177 = .ok (.ifCond .ne 7, 3) := by decide +kernel
theorem dL_law_180 : decode cL_law 180 = .ok (.iconst 1, 1) := by decide +kernel
theorem dL_law_181 : decode cL_law 181 = .ok (.goto 4, 3) := by decide +kernel
theorem dL_law_184 : decode cL_law 184 = .ok (.iconst 0, 1) := by decide +kernel
theorem dL_law_185 : decode cL_law 185 = .ok (.iand, 1) := by decide +kernel
theorem dL_law_186 : decode cL_law 186 = .ok (.istore 9, 2) := by decide +kernel
theorem dL_law_188 : decode cL_law 188 = .ok (.iinc 10 1, 3) := by decide +kernel
theorem dL_law_191 : decode cL_law 191 = .ok (.goto (-30), 3) := by decide +kernel
theorem dL_law_194 : decode cL_law 194 = .ok (.iconst 0, 1) := by decide +kernel
theorem dL_law_195 : decode cL_law 195 = .ok (.istore 10, 2) := by decide +kernel
theorem dL_law_197 : decode cL_law 197 = .ok (.iconst 0, 1) := by decide +kernel
theorem dL_law_198 : decode cL_law 198 = .ok (.istore 11, 2) := by decide +kernel
theorem dL_law_200 : decode cL_law 200 = .ok (.iconst 0, 1) := by decide +kernel
theorem dL_law_201 : decode cL_law 201 = .ok (.istore 12, 2) := by decide +kernel
theorem dL_law_203 : decode cL_law 203 = .ok (.iload 12, 2) := by decide +kernel
theorem dL_law_205 : decode cL_law 205 = .ok (.iload 8, 2) := by decide +kernel
theorem dL_law_207 : decode cL_law 207 = .ok (.if_icmp .ge 794, 3) := by decide +kernel
theorem dL_law_210 : decode cL_law 210 = .ok (.iconst 0, 1) := by decide +kernel
theorem dL_law_211 : decode cL_law 211 = .ok (.istore 13, 2) := by decide +kernel
theorem dL_law_213 : decode cL_law 213 = .ok (.iconst 0, 1) := by decide +kernel
theorem dL_law_214 : decode cL_law 214 = .ok (.istore 14, 2) := by decide +kernel
theorem dL_law_216 : decode cL_law 216 = .ok (.iconst 0, 1) := by decide +kernel
theorem dL_law_217 : decode cL_law 217 = .ok (.istore 15, 2) := by decide +kernel
theorem dL_law_219 : decode cL_law 219 = .ok (.iconst 0, 1) := by decide +kernel
theorem dL_law_220 : decode cL_law 220 = .ok (.istore 16, 2) := by decide +kernel
theorem dL_law_222 : decode cL_law 222 = .ok (.iload 16, 2) := by decide +kernel
theorem dL_law_224 : decode cL_law 224 = .ok (.iload 8, 2) := by decide +kernel
theorem dL_law_226 : decode cL_law 226 = .ok (.if_icmp .ge 715, 3) := by decide +kernel
theorem dL_law_229 : decode cL_law 229 = .ok (.aload_n 1, 1) := by decide +kernel
theorem dL_law_230 : decode cL_law 230 = .ok (.iload 12, 2) := by decide +kernel
theorem dL_law_232 : decode cL_law 232 = .ok (.iload 16, 2) := by decide +kernel
theorem dL_law_234 : decode cL_law 234 = .ok (.iconst 0, 1) := by decide +kernel
theorem dL_law_235 : decode cL_law 235 = .ok (.invokevirtual 89, 3) := by decide +kernel
theorem dL_law_238 : decode cL_law 238 = .ok (.istore 17, 2) := by decide +kernel
theorem dL_law_240 : decode cL_law 240 = .ok (.aload_n 1, 1) := by decide +kernel
theorem dL_law_241 : decode cL_law 241 = .ok (.iload 12, 2) := by decide +kernel
theorem dL_law_243 : decode cL_law 243 = .ok (.iload 16, 2) := by decide +kernel
theorem dL_law_245 : decode cL_law 245 = .ok (.iconst 1, 1) := by decide +kernel
theorem dL_law_246 : decode cL_law 246 = .ok (.invokevirtual 89, 3) := by decide +kernel
theorem dL_law_249 : decode cL_law 249 = .ok (.istore 18, 2) := by decide +kernel
theorem dL_law_251 : decode cL_law 251 = .ok (.iload 17, 2) := by decide +kernel
theorem dL_law_253 : decode cL_law 253 = .ok (.ifCond .eq 81, 3) := by decide +kernel
theorem dL_law_256 : decode cL_law 256 = .ok (.iload 17, 2) := by decide +kernel
theorem dL_law_258 : decode cL_law 258 = .ok (.iconst (-1), 1) := by decide +kernel
theorem dL_law_259 : decode cL_law 259 = .ok (.if_icmp .lt 75, 3) := by decide +kernel
theorem dL_law_262 : decode cL_law 262 = .ok (.iload 17, 2) := by decide +kernel
theorem dL_law_264 : decode cL_law 264 = .ok (.aload_n 1, 1) := by decide +kernel
theorem dL_law_265 : decode cL_law 265 = .ok (.iload 16, 2) := by decide +kernel
theorem dL_law_267 : decode cL_law 267 = .ok (.iconst 2, 1) := by decide +kernel
theorem dL_law_268 : decode cL_law 268 = .ok (.invokevirtual 86, 3) := by decide +kernel
theorem dL_law_271 : decode cL_law 271 = .ok (.if_icmp .gt 63, 3) := by decide +kernel
theorem dL_law_274 : decode cL_law 274 = .ok (.iload 17, 2) := by decide +kernel
theorem dL_law_276 : decode cL_law 276 = .ok (.ifCond .ge 7, 3) := by decide +kernel
theorem dL_law_279 : decode cL_law 279 = .ok (.iconst 1, 1) := by decide +kernel
theorem dL_law_280 : decode cL_law 280 = .ok (.goto 4, 3) := by decide +kernel
theorem dL_law_283 : decode cL_law 283 = .ok (.iconst 0, 1) := by decide +kernel
theorem dL_law_284 : decode cL_law 284 = .ok (.iload 18, 2) := by decide +kernel
theorem dL_law_286 : decode cL_law 286 = .ok (.ifCond .ge 7, 3) := by decide +kernel
theorem dL_law_289 : decode cL_law 289 = .ok (.iconst 1, 1) := by decide +kernel
theorem dL_law_290 : decode cL_law 290 = .ok (.goto 4, 3) := by decide +kernel
theorem dL_law_293 : decode cL_law 293 = .ok (.iconst 0, 1) := by decide +kernel
theorem dL_law_294 : decode cL_law 294 = .ok (.if_icmp .ne 40, 3) := by decide +kernel
theorem dL_law_297 : decode cL_law 297 = .ok (.iload 18, 2) := by decide +kernel
theorem dL_law_299 : decode cL_law 299 = .ok (.bipush 30, 2) := by decide +kernel
theorem dL_law_301 : decode cL_law 301 = .ok (.if_icmp .gt 33, 3) := by decide +kernel
theorem dL_law_304 : decode cL_law 304 = .ok (.aload_n 1, 1) := by decide +kernel
theorem dL_law_305 : decode cL_law 305 = .ok (.iload 12, 2) := by decide +kernel
theorem dL_law_307 : decode cL_law 307 = .ok (.iload 16, 2) := by decide +kernel
theorem dL_law_309 : decode cL_law 309 = .ok (.iconst 2, 1) := by decide +kernel
theorem dL_law_310 : decode cL_law 310 = .ok (.invokevirtual 89, 3) := by decide +kernel
theorem dL_law_313 : decode cL_law 313 = .ok (.ifCond .ge 7, 3) := by decide +kernel
theorem dL_law_316 : decode cL_law 316 = .ok (.iconst 1, 1) := by decide +kernel
theorem dL_law_317 : decode cL_law 317 = .ok (.goto 4, 3) := by decide +kernel
theorem dL_law_320 : decode cL_law 320 = .ok (.iconst 0, 1) := by decide +kernel
theorem dL_law_321 : decode cL_law 321 = .ok (.iload 17, 2) := by decide +kernel
theorem dL_law_323 : decode cL_law 323 = .ok (.ifCond .ge 7, 3) := by decide +kernel
theorem dL_law_326 : decode cL_law 326 = .ok (.iconst 1, 1) := by decide +kernel
theorem dL_law_327 : decode cL_law 327 = .ok (.goto 4, 3) := by decide +kernel
theorem dL_law_330 : decode cL_law 330 = .ok (.iconst 0, 1) := by decide +kernel
theorem dL_law_331 : decode cL_law 331 = .ok (.if_icmp .eq 5, 3) := by decide +kernel
theorem dL_law_334 : decode cL_law 334 = .ok (.iconst 0, 1) := by decide +kernel
theorem dL_law_335 : decode cL_law 335 = .ok (.ireturn, 1) := by decide +kernel
theorem dL_law_336 : decode cL_law 336 = .ok (.iload 17, 2) := by decide +kernel
theorem dL_law_338 : decode cL_law 338 = .ok (.ifCond .le 49, 3) := by decide +kernel
theorem dL_law_341 : decode cL_law 341 = .ok (.iload 12, 2) := by decide +kernel
theorem dL_law_343 : decode cL_law 343 = .ok (.iload 16, 2) := by decide +kernel
theorem dL_law_345 : decode cL_law 345 = .ok (.if_icmp .eq 42, 3) := by decide +kernel
theorem dL_law_348 : decode cL_law 348 = .ok (.aload_n 1, 1) := by decide +kernel
theorem dL_law_349 : decode cL_law 349 = .ok (.iload 12, 2) := by decide +kernel
theorem dL_law_351 : decode cL_law 351 = .ok (.iconst 0, 1) := by decide +kernel
theorem dL_law_352 : decode cL_law 352 = .ok (.invokevirtual 86, 3) := by decide +kernel
theorem dL_law_355 : decode cL_law 355 = .ok (.ifCond .eq 32, 3) := by decide +kernel
theorem dL_law_358 : decode cL_law 358 = .ok (.aload_n 1, 1) := by decide +kernel
theorem dL_law_359 : decode cL_law 359 = .ok (.iload 16, 2) := by decide +kernel
theorem dL_law_361 : decode cL_law 361 = .ok (.iconst 0, 1) := by decide +kernel
theorem dL_law_362 : decode cL_law 362 = .ok (.invokevirtual 86, 3) := by decide +kernel
theorem dL_law_365 : decode cL_law 365 = .ok (.ifCond .eq 22, 3) := by decide +kernel
theorem dL_law_368 : decode cL_law 368 = .ok (.aload_n 1, 1) := by decide +kernel
theorem dL_law_369 : decode cL_law 369 = .ok (.iload 12, 2) := by decide +kernel
theorem dL_law_371 : decode cL_law 371 = .ok (.iconst 0, 1) := by decide +kernel
theorem dL_law_372 : decode cL_law 372 = .ok (.invokevirtual 86, 3) := by decide +kernel
theorem dL_law_375 : decode cL_law 375 = .ok (.aload_n 1, 1) := by decide +kernel
theorem dL_law_376 : decode cL_law 376 = .ok (.iload 16, 2) := by decide +kernel
theorem dL_law_378 : decode cL_law 378 = .ok (.iconst 0, 1) := by decide +kernel
theorem dL_law_379 : decode cL_law 379 = .ok (.invokevirtual 86, 3) := by decide +kernel
theorem dL_law_382 : decode cL_law 382 = .ok (.if_icmp .eq 5, 3) := by decide +kernel
theorem dL_law_385 : decode cL_law 385 = .ok (.iconst 0, 1) := by decide +kernel
theorem dL_law_386 : decode cL_law 386 = .ok (.ireturn, 1) := by decide +kernel
theorem dL_law_387 : decode cL_law 387 = .ok (.iload 12, 2) := by decide +kernel
theorem dL_law_389 : decode cL_law 389 = .ok (.iload 16, 2) := by decide +kernel
theorem dL_law_391 : decode cL_law 391 = .ok (.if_icmp .ne 29, 3) := by decide +kernel
theorem dL_law_394 : decode cL_law 394 = .ok (.iload 17, 2) := by decide +kernel
theorem dL_law_396 : decode cL_law 396 = .ok (.ifCond .le 24, 3) := by decide +kernel
theorem dL_law_399 : decode cL_law 399 = .ok (.iload 17, 2) := by decide +kernel
theorem dL_law_401 : decode cL_law 401 = .ok (.aload_n 1, 1) := by decide +kernel
theorem dL_law_402 : decode cL_law 402 = .ok (.iload 12, 2) := by decide +kernel
theorem dL_law_404 : decode cL_law 404 = .ok (.iconst 2, 1) := by decide +kernel
theorem dL_law_405 : decode cL_law 405 = .ok (.invokevirtual 86, 3) := by decide +kernel
theorem dL_law_408 : decode cL_law 408 = .ok (.if_icmp .ne 10, 3) := by decide +kernel
theorem dL_law_411 : decode cL_law 411 = .ok (.iload 18, 2) := by decide +kernel
theorem dL_law_413 : decode cL_law 413 = .ok (.bipush 20, 2) := by decide +kernel
theorem dL_law_415 : decode cL_law 415 = .ok (.if_icmp .le 5, 3) := by decide +kernel
theorem dL_law_418 : decode cL_law 418 = .ok (.iconst 0, 1) := by decide +kernel
theorem dL_law_419 : decode cL_law 419 = .ok (.ireturn, 1) := by decide +kernel
theorem dL_law_420 : decode cL_law 420 = .ok (.iload 13, 2) := by decide +kernel
theorem dL_law_422 : decode cL_law 422 = .ok (.iload 17, 2) := by decide +kernel
theorem dL_law_424 : decode cL_law 424 = .ok (.ifCond .le 7, 3) := by decide +kernel
theorem dL_law_427 : decode cL_law 427 = .ok (.iconst 1, 1) := by decide +kernel
theorem dL_law_428 : decode cL_law 428 = .ok (.goto 4, 3) := by decide +kernel
theorem dL_law_431 : decode cL_law 431 = .ok (.iconst 0, 1) := by decide +kernel
theorem dL_law_432 : decode cL_law 432 = .ok (.iadd, 1) := by decide +kernel
theorem dL_law_433 : decode cL_law 433 = .ok (.istore 13, 2) := by decide +kernel
theorem dL_law_435 : decode cL_law 435 = .ok (.aload_n 1, 1) := by decide +kernel
theorem dL_law_436 : decode cL_law 436 = .ok (.iload 12, 2) := by decide +kernel
theorem dL_law_438 : decode cL_law 438 = .ok (.iload 16, 2) := by decide +kernel
theorem dL_law_440 : decode cL_law 440 = .ok (.iconst 0, 1) := by decide +kernel
theorem dL_law_441 : decode cL_law 441 = .ok (.invokevirtual 92, 3) := by decide +kernel
theorem dL_law_444 : decode cL_law 444 = .ok (.istore 19, 2) := by decide +kernel
theorem dL_law_446 : decode cL_law 446 = .ok (.aload_n 1, 1) := by decide +kernel
theorem dL_law_447 : decode cL_law 447 = .ok (.iload 12, 2) := by decide +kernel
theorem dL_law_449 : decode cL_law 449 = .ok (.iload 16, 2) := by decide +kernel
theorem dL_law_451 : decode cL_law 451 = .ok (.iconst 1, 1) := by decide +kernel
theorem dL_law_452 : decode cL_law 452 = .ok (.invokevirtual 92, 3) := by decide +kernel
theorem dL_law_455 : decode cL_law 455 = .ok (.istore 20, 2) := by decide +kernel
theorem dL_law_457 : decode cL_law 457 = .ok (.aload_n 1, 1) := by decide +kernel
theorem dL_law_458 : decode cL_law 458 = .ok (.iload 12, 2) := by decide +kernel
theorem dL_law_460 : decode cL_law 460 = .ok (.iload 16, 2) := by decide +kernel
theorem dL_law_462 : decode cL_law 462 = .ok (.iconst 2, 1) := by decide +kernel
theorem dL_law_463 : decode cL_law 463 = .ok (.invokevirtual 92, 3) := by decide +kernel
theorem dL_law_466 : decode cL_law 466 = .ok (.istore 21, 2) := by decide +kernel
theorem dL_law_468 : decode cL_law 468 = .ok (.aload_n 1, 1) := by decide +kernel
theorem dL_law_469 : decode cL_law 469 = .ok (.iload 12, 2) := by decide +kernel
theorem dL_law_471 : decode cL_law 471 = .ok (.iload 16, 2) := by decide +kernel
theorem dL_law_473 : decode cL_law 473 = .ok (.invokevirtual 95, 3) := by decide +kernel
theorem dL_law_476 : decode cL_law 476 = .ok (.istore 22, 2) := by decide +kernel
theorem dL_law_478 : decode cL_law 478 = .ok (.aload_n 1, 1) := by decide +kernel
theorem dL_law_479 : decode cL_law 479 = .ok (.iload 12, 2) := by decide +kernel
theorem dL_law_481 : decode cL_law 481 = .ok (.iload 16, 2) := by decide +kernel
theorem dL_law_483 : decode cL_law 483 = .ok (.invokevirtual 98, 3) := by decide +kernel
theorem dL_law_486 : decode cL_law 486 = .ok (.istore 23, 2) := by decide +kernel
theorem dL_law_488 : decode cL_law 488 = .ok (.iload 19, 2) := by decide +kernel
theorem dL_law_490 : decode cL_law 490 = .ok (.ifCond .ge 7, 3) := by decide +kernel
theorem dL_law_493 : decode cL_law 493 = .ok (.iconst 1, 1) := by decide +kernel
theorem dL_law_494 : decode cL_law 494 = .ok (.goto 4, 3) := by decide +kernel
theorem dL_law_497 : decode cL_law 497 = .ok (.iconst 0, 1) := by decide +kernel
theorem dL_law_498 : decode cL_law 498 = .ok (.iload 20, 2) := by decide +kernel
theorem dL_law_500 : decode cL_law 500 = .ok (.ifCond .ge 7, 3) := by decide +kernel
theorem dL_law_503 : decode cL_law 503 = .ok (.iconst 1, 1) := by decide +kernel
theorem dL_law_504 : decode cL_law 504 = .ok (.goto 4, 3) := by decide +kernel
theorem dL_law_507 : decode cL_law 507 = .ok (.iconst 0, 1) := by decide +kernel
theorem dL_law_508 : decode cL_law 508 = .ok (.if_icmp .ne 99, 3) := by decide +kernel
theorem dL_law_511 : decode cL_law 511 = .ok (.iload 19, 2) := by decide +kernel
theorem dL_law_513 : decode cL_law 513 = .ok (.ifCond .ge 7, 3) := by decide +kernel
theorem dL_law_516 : decode cL_law 516 = .ok (.iconst 1, 1) := by decide +kernel
theorem dL_law_517 : decode cL_law 517 = .ok (.goto 4, 3) := by decide +kernel
theorem dL_law_520 : decode cL_law 520 = .ok (.iconst 0, 1) := by decide +kernel
theorem dL_law_521 : decode cL_law 521 = .ok (.iload 21, 2) := by decide +kernel
theorem dL_law_523 : decode cL_law 523 = .ok (.ifCond .ge 7, 3) := by decide +kernel
theorem dL_law_526 : decode cL_law 526 = .ok (.iconst 1, 1) := by decide +kernel
theorem dL_law_527 : decode cL_law 527 = .ok (.goto 4, 3) := by decide +kernel
theorem dL_law_530 : decode cL_law 530 = .ok (.iconst 0, 1) := by decide +kernel
theorem dL_law_531 : decode cL_law 531 = .ok (.if_icmp .ne 76, 3) := by decide +kernel
theorem dL_law_534 : decode cL_law 534 = .ok (.iload 20, 2) := by decide +kernel
theorem dL_law_536 : decode cL_law 536 = .ok (.iload 8, 2) := by decide +kernel
theorem dL_law_538 : decode cL_law 538 = .ok (.if_icmp .ge 69, 3) := by decide +kernel
theorem dL_law_541 : decode cL_law 541 = .ok (.iload 19, 2) := by decide +kernel
theorem dL_law_543 : decode cL_law 543 = .ok (.iload 20, 2) := by decide +kernel
theorem dL_law_545 : decode cL_law 545 = .ok (.if_icmp .ge 8, 3) := by decide +kernel
theorem dL_law_548 : decode cL_law 548 = .ok (.iload 19, 2) := by decide +kernel
theorem dL_law_550 : decode cL_law 550 = .ok (.ifCond .ge 57, 3) := by decide +kernel
theorem dL_law_553 : decode cL_law 553 = .ok (.iload 20, 2) := by decide +kernel
theorem dL_law_555 : decode cL_law 555 = .ok (.ifCond .ne 7, 3) := by decide +kernel
theorem dL_law_558 : decode cL_law 558 = .ok (.iconst 1, 1) := by decide +kernel
theorem dL_law_559 : decode cL_law 559 = .ok (.goto 4, 3) := by decide +kernel
theorem dL_law_562 : decode cL_law 562 = .ok (.iconst 0, 1) := by decide +kernel
theorem dL_law_563 : decode cL_law 563 = .ok (.iload 12, 2) := by decide +kernel
theorem dL_law_565 : decode cL_law 565 = .ok (.iload 16, 2) := by decide +kernel
theorem dL_law_567 : decode cL_law 567 = .ok (.if_icmp .ne 7, 3) := by decide +kernel
theorem dL_law_570 : decode cL_law 570 = .ok (.iconst 1, 1) := by decide +kernel
theorem dL_law_571 : decode cL_law 571 = .ok (.goto 4, 3) := by decide +kernel
theorem dL_law_574 : decode cL_law 574 = .ok (.iconst 0, 1) := by decide +kernel
theorem dL_law_575 : decode cL_law 575 = .ok (.if_icmp .ne 32, 3) := by decide +kernel
theorem dL_law_578 : decode cL_law 578 = .ok (.iload 12, 2) := by decide +kernel
theorem dL_law_580 : decode cL_law 580 = .ok (.iload 16, 2) := by decide +kernel
theorem dL_law_582 : decode cL_law 582 = .ok (.if_icmp .ne 27, 3) := by decide +kernel
theorem dL_law_585 : decode cL_law 585 = .ok (.iload 19, 2) := by decide +kernel
theorem dL_law_587 : decode cL_law 587 = .ok (.ifCond .ne 20, 3) := by decide +kernel
theorem dL_law_590 : decode cL_law 590 = .ok (.iload 21, 2) := by decide +kernel
theorem dL_law_592 : decode cL_law 592 = .ok (.iload 12, 2) := by decide +kernel
theorem dL_law_594 : decode cL_law 594 = .ok (.if_icmp .ne 13, 3) := by decide +kernel
theorem dL_law_597 : decode cL_law 597 = .ok (.iload 22, 2) := by decide +kernel
theorem dL_law_599 : decode cL_law 599 = .ok (.ifCond .ne 8, 3) := by decide +kernel
theorem dL_law_602 : decode cL_law 602 = .ok (.iload 23, 2) := by decide +kernel
theorem dL_law_604 : decode cL_law 604 = .ok (.ifCond .eq 5, 3) := by decide +kernel
theorem dL_law_607 : decode cL_law 607 = .ok (.iconst 0, 1) := by decide +kernel
theorem dL_law_608 : decode cL_law 608 = .ok (.ireturn, 1) := by decide +kernel
theorem dL_law_609 : decode cL_law 609 = .ok (.iload 12, 2) := by decide +kernel
theorem dL_law_611 : decode cL_law 611 = .ok (.iload 16, 2) := by decide +kernel
theorem dL_law_613 : decode cL_law 613 = .ok (.if_icmp .eq 73, 3) := by decide +kernel
theorem dL_law_616 : decode cL_law 616 = .ok (.iload 19, 2) := by decide +kernel
theorem dL_law_618 : decode cL_law 618 = .ok (.ifCond .lt 68, 3) := by decide +kernel
theorem dL_law_621 : decode cL_law 621 = .ok (.iload 21, 2) := by decide +kernel
theorem dL_law_623 : decode cL_law 623 = .ok (.iload 12, 2) := by decide +kernel
theorem dL_law_625 : decode cL_law 625 = .ok (.if_icmp .eq 59, 3) := by decide +kernel
theorem dL_law_628 : decode cL_law 628 = .ok (.iload 21, 2) := by decide +kernel
theorem dL_law_630 : decode cL_law 630 = .ok (.iload 8, 2) := by decide +kernel
theorem dL_law_632 : decode cL_law 632 = .ok (.if_icmp .ge 52, 3) := by decide +kernel
theorem dL_law_635 : decode cL_law 635 = .ok (.iload 20, 2) := by decide +kernel
theorem dL_law_637 : decode cL_law 637 = .ok (.iconst 1, 1) := by decide +kernel
theorem dL_law_638 : decode cL_law 638 = .ok (.if_icmp .ne 10, 3) := by decide +kernel
theorem dL_law_641 : decode cL_law 641 = .ok (.iload 21, 2) := by decide +kernel
theorem dL_law_643 : decode cL_law 643 = .ok (.iload 16, 2) := by decide +kernel
theorem dL_law_645 : decode cL_law 645 = .ok (.if_icmp .ne 39, 3) := by decide +kernel
theorem dL_law_648 : decode cL_law 648 = .ok (.aload_n 1, 1) := by decide +kernel
theorem dL_law_649 : decode cL_law 649 = .ok (.iload 12, 2) := by decide +kernel
theorem dL_law_651 : decode cL_law 651 = .ok (.iload 12, 2) := by decide +kernel
theorem dL_law_653 : decode cL_law 653 = .ok (.iconst 0, 1) := by decide +kernel
theorem dL_law_654 : decode cL_law 654 = .ok (.invokevirtual 89, 3) := by decide +kernel
theorem dL_law_657 : decode cL_law 657 = .ok (.ifCond .lt 27, 3) := by decide +kernel
theorem dL_law_660 : decode cL_law 660 = .ok (.aload_n 1, 1) := by decide +kernel
theorem dL_law_661 : decode cL_law 661 = .ok (.iload 12, 2) := by decide +kernel
theorem dL_law_663 : decode cL_law 663 = .ok (.iload 16, 2) := by decide +kernel
theorem dL_law_665 : decode cL_law 665 = .ok (.iconst 0, 1) := by decide +kernel
theorem dL_law_666 : decode cL_law 666 = .ok (.invokevirtual 89, 3) := by decide +kernel
theorem dL_law_669 : decode cL_law 669 = .ok (.ifCond .lt 15, 3) := by decide +kernel
theorem dL_law_672 : decode cL_law 672 = .ok (.aload_n 1, 1) := by decide +kernel
theorem dL_law_673 : decode cL_law 673 = .ok (.iload 12, 2) := by decide +kernel
theorem dL_law_675 : decode cL_law 675 = .ok (.iload 21, 2) := by decide +kernel
theorem dL_law_677 : decode cL_law 677 = .ok (.iconst 0, 1) := by decide +kernel
theorem dL_law_678 : decode cL_law 678 = .ok (.invokevirtual 89, 3) := by decide +kernel
theorem dL_law_681 : decode cL_law 681 = .ok (.ifCond .ge 5, 3) := by decide +kernel
theorem dL_law_684 : decode cL_law 684 = .ok (.iconst 0, 1) := by decide +kernel
theorem dL_law_685 : decode cL_law 685 = .ok (.ireturn, 1) := by decide +kernel
theorem dL_law_686 : decode cL_law 686 = .ok (.iload 22, 2) := by decide +kernel
theorem dL_law_688 : decode cL_law 688 = .ok (.bipush 20, 2) := by decide +kernel
theorem dL_law_690 : decode cL_law 690 = .ok (.if_icmp .gt 30, 3) := by decide +kernel
theorem dL_law_693 : decode cL_law 693 = .ok (.iload 22, 2) := by decide +kernel
theorem dL_law_695 : decode cL_law 695 = .ok (.ifCond .lt 27, 3) := by decide +kernel
theorem dL_law_698 : decode cL_law 698 = .ok (.iload 19, 2) := by decide +kernel
theorem dL_law_700 : decode cL_law 700 = .ok (.ifCond .lt 20, 3) := by decide +kernel
theorem dL_law_703 : decode cL_law 703 = .ok (.iload 23, 2) := by decide +kernel
theorem dL_law_705 : decode cL_law 705 = .ok (.ifCond .lt 15, 3) := by decide +kernel
theorem dL_law_708 : decode cL_law 708 = .ok (.iload 12, 2) := by decide +kernel
theorem dL_law_710 : decode cL_law 710 = .ok (.iload 16, 2) := by decide +kernel
theorem dL_law_712 : decode cL_law 712 = .ok (.if_icmp .eq 10, 3) := by decide +kernel
theorem dL_law_715 : decode cL_law 715 = .ok (.iload 22, 2) := by decide +kernel
theorem dL_law_717 : decode cL_law 717 = .ok (.ifCond .ne 5, 3) := by decide +kernel
theorem dL_law_720 : decode cL_law 720 = .ok (.iconst 0, 1) := by decide +kernel
theorem dL_law_721 : decode cL_law 721 = .ok (.ireturn, 1) := by decide +kernel
theorem dL_law_722 : decode cL_law 722 = .ok (.aload_n 1, 1) := by decide +kernel
theorem dL_law_723 : decode cL_law 723 = .ok (.iload 16, 2) := by decide +kernel
theorem dL_law_725 : decode cL_law 725 = .ok (.iload 12, 2) := by decide +kernel
theorem dL_law_727 : decode cL_law 727 = .ok (.invokevirtual 98, 3) := by decide +kernel
theorem dL_law_730 : decode cL_law 730 = .ok (.iload 23, 2) := by decide +kernel
theorem dL_law_732 : decode cL_law 732 = .ok (.if_icmp .ne 28, 3) := by decide +kernel
theorem dL_law_735 : decode cL_law 735 = .ok (.iload 23, 2) := by decide +kernel
theorem dL_law_737 : decode cL_law 737 = .ok (.ifCond .ne 7, 3) := by decide +kernel
theorem dL_law_740 : decode cL_law 740 = .ok (.iconst 1, 1) := by decide +kernel
theorem dL_law_741 : decode cL_law 741 = .ok (.goto 4, 3) := by decide +kernel
theorem dL_law_744 : decode cL_law 744 = .ok (.iconst 0, 1) := by decide +kernel
theorem dL_law_745 : decode cL_law 745 = .ok (.iload 12, 2) := by decide +kernel
theorem dL_law_747 : decode cL_law 747 = .ok (.iload 16, 2) := by decide +kernel
theorem dL_law_749 : decode cL_law 749 = .ok (.if_icmp .ne 7, 3) := by decide +kernel
theorem dL_law_752 : decode cL_law 752 = .ok (.iconst 1, 1) := by decide +kernel
theorem dL_law_753 : decode cL_law 753 = .ok (.goto 4, 3) := by decide +kernel
theorem dL_law_756 : decode cL_law 756 = .ok (.iconst 0, 1) := by decide +kernel
theorem dL_law_757 : decode cL_law 757 = .ok (.if_icmp .eq 5, 3) := by decide +kernel
theorem dL_law_760 : decode cL_law 760 = .ok (.iconst 0, 1) := by decide +kernel
theorem dL_law_761 : decode cL_law 761 = .ok (.ireturn, 1) := by decide +kernel
theorem dL_law_762 : decode cL_law 762 = .ok (.iconst 0, 1) := by decide +kernel
theorem dL_law_763 : decode cL_law 763 = .ok (.istore 24, 2) := by decide +kernel
theorem dL_law_765 : decode cL_law 765 = .ok (.iload 24, 2) := by decide +kernel
theorem dL_law_767 : decode cL_law 767 = .ok (.iload 8, 2) := by decide +kernel
theorem dL_law_769 : decode cL_law 769 = .ok (.if_icmp .ge 60, 3) := by decide +kernel
theorem dL_law_772 : decode cL_law 772 = .ok (.aload_n 1, 1) := by decide +kernel
theorem dL_law_773 : decode cL_law 773 = .ok (.iload 12, 2) := by decide +kernel
theorem dL_law_775 : decode cL_law 775 = .ok (.iload 24, 2) := by decide +kernel
theorem dL_law_777 : decode cL_law 777 = .ok (.invokevirtual 98, 3) := by decide +kernel
theorem dL_law_780 : decode cL_law 780 = .ok (.ifCond .lt 43, 3) := by decide +kernel
theorem dL_law_783 : decode cL_law 783 = .ok (.aload_n 1, 1) := by decide +kernel
theorem dL_law_784 : decode cL_law 784 = .ok (.iload 24, 2) := by decide +kernel
theorem dL_law_786 : decode cL_law 786 = .ok (.iload 16, 2) := by decide +kernel
theorem dL_law_788 : decode cL_law 788 = .ok (.invokevirtual 98, 3) := by decide +kernel
theorem dL_law_791 : decode cL_law 791 = .ok (.ifCond .lt 32, 3) := by decide +kernel
theorem dL_law_794 : decode cL_law 794 = .ok (.iload 23, 2) := by decide +kernel
theorem dL_law_796 : decode cL_law 796 = .ok (.ifCond .lt 25, 3) := by decide +kernel
theorem dL_law_799 : decode cL_law 799 = .ok (.iload 23, 2) := by decide +kernel
theorem dL_law_801 : decode cL_law 801 = .ok (.aload_n 1, 1) := by decide +kernel
theorem dL_law_802 : decode cL_law 802 = .ok (.iload 12, 2) := by decide +kernel
theorem dL_law_804 : decode cL_law 804 = .ok (.iload 24, 2) := by decide +kernel
theorem dL_law_806 : decode cL_law 806 = .ok (.invokevirtual 98, 3) := by decide +kernel
theorem dL_law_809 : decode cL_law 809 = .ok (.aload_n 1, 1) := by decide +kernel
theorem dL_law_810 : decode cL_law 810 = .ok (.iload 24, 2) := by decide +kernel
theorem dL_law_812 : decode cL_law 812 = .ok (.iload 16, 2) := by decide +kernel
theorem dL_law_814 : decode cL_law 814 = .ok (.invokevirtual 98, 3) := by decide +kernel
theorem dL_law_817 : decode cL_law 817 = .ok (.iadd, 1) := by decide +kernel
theorem dL_law_818 : decode cL_law 818 = .ok (.if_icmp .le 5, 3) := by decide +kernel
theorem dL_law_821 : decode cL_law 821 = .ok (.iconst 0, 1) := by decide +kernel
theorem dL_law_822 : decode cL_law 822 = .ok (.ireturn, 1) := by decide +kernel
theorem dL_law_823 : decode cL_law 823 = .ok (.iinc 24 1, 3) := by decide +kernel
theorem dL_law_826 : decode cL_law 826 = .ok (.goto (-61), 3) := by decide +kernel
theorem dL_law_829 : decode cL_law 829 = .ok (.iload 5, 2) := by decide +kernel
theorem dL_law_831 : decode cL_law 831 = .ok (.ifCond .eq 52, 3) := by decide +kernel
theorem dL_law_834 : decode cL_law 834 = .ok (.iload 9, 2) := by decide +kernel
theorem dL_law_836 : decode cL_law 836 = .ok (.ifCond .eq 47, 3) := by decide +kernel
theorem dL_law_839 : decode cL_law 839 = .ok (.iload 19, 2) := by decide +kernel
theorem dL_law_841 : decode cL_law 841 = .ok (.iload 23, 2) := by decide +kernel
theorem dL_law_843 : decode cL_law 843 = .ok (.if_icmp .ne 38, 3) := by decide +kernel
theorem dL_law_846 : decode cL_law 846 = .ok (.iload 22, 2) := by decide +kernel
theorem dL_law_848 : decode cL_law 848 = .ok (.ifCond .lt 7, 3) := by decide +kernel
theorem dL_law_851 : decode cL_law 851 = .ok (.iconst 1, 1) := by decide +kernel
theorem dL_law_852 : decode cL_law 852 = .ok (.goto 4, 3) := by decide +kernel
theorem dL_law_855 : decode cL_law 855 = .ok (.iconst 0, 1) := by decide +kernel
theorem dL_law_856 : decode cL_law 856 = .ok (.iload 23, 2) := by decide +kernel
theorem dL_law_858 : decode cL_law 858 = .ok (.ifCond .lt 7, 3) := by decide +kernel
theorem dL_law_861 : decode cL_law 861 = .ok (.iconst 1, 1) := by decide +kernel
theorem dL_law_862 : decode cL_law 862 = .ok (.goto 4, 3) := by decide +kernel
theorem dL_law_865 : decode cL_law 865 = .ok (.iconst 0, 1) := by decide +kernel
theorem dL_law_866 : decode cL_law 866 = .ok (.if_icmp .ne 15, 3) := by decide +kernel
theorem dL_law_869 : decode cL_law 869 = .ok (.iload 20, 2) := by decide +kernel
theorem dL_law_871 : decode cL_law 871 = .ok (.ifCond .lt 12, 3) := by decide +kernel
theorem dL_law_874 : decode cL_law 874 = .ok (.iload 22, 2) := by decide +kernel
theorem dL_law_876 : decode cL_law 876 = .ok (.iload 20, 2) := by decide +kernel
theorem dL_law_878 : decode cL_law 878 = .ok (.if_icmp .eq 5, 3) := by decide +kernel
theorem dL_law_881 : decode cL_law 881 = .ok (.iconst 0, 1) := by decide +kernel
theorem dL_law_882 : decode cL_law 882 = .ok (.ireturn, 1) := by decide +kernel
theorem dL_law_883 : decode cL_law 883 = .ok (.iload 14, 2) := by decide +kernel
theorem dL_law_885 : decode cL_law 885 = .ok (.iload 19, 2) := by decide +kernel
theorem dL_law_887 : decode cL_law 887 = .ok (.ifCond .lt 7, 3) := by decide +kernel
theorem dL_law_890 : decode cL_law 890 = .ok (.iconst 1, 1) := by decide +kernel
theorem dL_law_891 : decode cL_law 891 = .ok (.goto 4, 3) := by decide +kernel
theorem dL_law_894 : decode cL_law 894 = .ok (.iconst 0, 1) := by decide +kernel
theorem dL_law_895 : decode cL_law 895 = .ok (.iadd, 1) := by decide +kernel
theorem dL_law_896 : decode cL_law 896 = .ok (.istore 14, 2) := by decide +kernel
theorem dL_law_898 : decode cL_law 898 = .ok (.iload 15, 2) := by decide +kernel
theorem dL_law_900 : decode cL_law 900 = .ok (.iload 22, 2) := by decide +kernel
theorem dL_law_902 : decode cL_law 902 = .ok (.ifCond .lt 7, 3) := by decide +kernel
theorem dL_law_905 : decode cL_law 905 = .ok (.iconst 1, 1) := by decide +kernel
theorem dL_law_906 : decode cL_law 906 = .ok (.goto 4, 3) := by decide +kernel
theorem dL_law_909 : decode cL_law 909 = .ok (.iconst 0, 1) := by decide +kernel
theorem dL_law_910 : decode cL_law 910 = .ok (.iadd, 1) := by decide +kernel
theorem dL_law_911 : decode cL_law 911 = .ok (.istore 15, 2) := by decide +kernel
theorem dL_law_913 : decode cL_law 913 = .ok (.iload 11, 2) := by decide +kernel
theorem dL_law_915 : decode cL_law 915 = .ok (.iload 12, 2) := by decide +kernel
theorem dL_law_917 : decode cL_law 917 = .ok (.iload 16, 2) := by decide +kernel
theorem dL_law_919 : decode cL_law 919 = .ok (.if_icmp .eq 12, 3) := by decide +kernel
theorem dL_law_922 : decode cL_law 922 = .ok (.iload 23, 2) := by decide +kernel
theorem dL_law_924 : decode cL_law 924 = .ok (.ifCond .lt 7, 3) := by decide +kernel
theorem dL_law_927 : decode cL_law 927 = .ok (.iconst 1, 1) := by decide +kernel
theorem dL_law_928 : decode cL_law 928 = .ok (.goto 4, 3) := by decide +kernel
theorem dL_law_931 : decode cL_law 931 = .ok (.iconst 0, 1) := by decide +kernel
theorem dL_law_932 : decode cL_law 932 = .ok (.iadd, 1) := by decide +kernel
theorem dL_law_933 : decode cL_law 933 = .ok (.istore 11, 2) := by decide +kernel
theorem dL_law_935 : decode cL_law 935 = .ok (.iinc 16 1, 3) := by decide +kernel
theorem dL_law_938 : decode cL_law 938 = .ok (.goto (-716), 3) := by decide +kernel
theorem dL_law_941 : decode cL_law 941 = .ok (.aload_n 1, 1) := by decide +kernel
theorem dL_law_942 : decode cL_law 942 = .ok (.iload 12, 2) := by decide +kernel
theorem dL_law_944 : decode cL_law 944 = .ok (.iconst 1, 1) := by decide +kernel
theorem dL_law_945 : decode cL_law 945 = .ok (.invokevirtual 86, 3) := by decide +kernel
theorem dL_law_948 : decode cL_law 948 = .ok (.iload 13, 2) := by decide +kernel
theorem dL_law_950 : decode cL_law 950 = .ok (.if_icmp .ne 34, 3) := by decide +kernel
theorem dL_law_953 : decode cL_law 953 = .ok (.aload_n 1, 1) := by decide +kernel
theorem dL_law_954 : decode cL_law 954 = .ok (.iload 12, 2) := by decide +kernel
theorem dL_law_956 : decode cL_law 956 = .ok (.iconst 3, 1) := by decide +kernel
theorem dL_law_957 : decode cL_law 957 = .ok (.invokevirtual 86, 3) := by decide +kernel
theorem dL_law_960 : decode cL_law 960 = .ok (.iload 14, 2) := by decide +kernel
theorem dL_law_962 : decode cL_law 962 = .ok (.if_icmp .ne 22, 3) := by decide +kernel
theorem dL_law_965 : decode cL_law 965 = .ok (.aload_n 1, 1) := by decide +kernel
theorem dL_law_966 : decode cL_law 966 = .ok (.iload 12, 2) := by decide +kernel
theorem dL_law_968 : decode cL_law 968 = .ok (.iconst 4, 1) := by decide +kernel
theorem dL_law_969 : decode cL_law 969 = .ok (.invokevirtual 86, 3) := by decide +kernel
theorem dL_law_972 : decode cL_law 972 = .ok (.iload 15, 2) := by decide +kernel
theorem dL_law_974 : decode cL_law 974 = .ok (.if_icmp .ne 10, 3) := by decide +kernel
theorem dL_law_977 : decode cL_law 977 = .ok (.iload 15, 2) := by decide +kernel
theorem dL_law_979 : decode cL_law 979 = .ok (.iload 14, 2) := by decide +kernel
theorem dL_law_981 : decode cL_law 981 = .ok (.if_icmp .le 5, 3) := by decide +kernel
theorem dL_law_984 : decode cL_law 984 = .ok (.iconst 0, 1) := by decide +kernel
theorem dL_law_985 : decode cL_law 985 = .ok (.ireturn, 1) := by decide +kernel
theorem dL_law_986 : decode cL_law 986 = .ok (.iload 10, 2) := by decide +kernel
theorem dL_law_988 : decode cL_law 988 = .ok (.iload 15, 2) := by decide +kernel
theorem dL_law_990 : decode cL_law 990 = .ok (.iconst 1, 1) := by decide +kernel
theorem dL_law_991 : decode cL_law 991 = .ok (.isub, 1) := by decide +kernel
theorem dL_law_992 : decode cL_law 992 = .ok (.iadd, 1) := by decide +kernel
theorem dL_law_993 : decode cL_law 993 = .ok (.istore 10, 2) := by decide +kernel
theorem dL_law_995 : decode cL_law 995 = .ok (.iinc 12 1, 3) := by decide +kernel
theorem dL_law_998 : decode cL_law 998 = .ok (.goto (-795), 3) := by decide +kernel
theorem dL_law_1001 : decode cL_law 1001 = .ok (.aload_n 1, 1) := by decide +kernel
theorem dL_law_1002 : decode cL_law 1002 = .ok (.iconst 5, 1) := by decide +kernel
theorem dL_law_1003 : decode cL_law 1003 = .ok (.invokevirtual 83, 3) := by decide +kernel
theorem dL_law_1006 : decode cL_law 1006 = .ok (.iload 10, 2) := by decide +kernel
theorem dL_law_1008 : decode cL_law 1008 = .ok (.if_icmp .ne 21, 3) := by decide +kernel
theorem dL_law_1011 : decode cL_law 1011 = .ok (.aload_n 1, 1) := by decide +kernel
theorem dL_law_1012 : decode cL_law 1012 = .ok (.bipush 6, 2) := by decide +kernel
theorem dL_law_1014 : decode cL_law 1014 = .ok (.invokevirtual 83, 3) := by decide +kernel
theorem dL_law_1017 : decode cL_law 1017 = .ok (.iload 11, 2) := by decide +kernel
theorem dL_law_1019 : decode cL_law 1019 = .ok (.if_icmp .ne 10, 3) := by decide +kernel
theorem dL_law_1022 : decode cL_law 1022 = .ok (.iload 10, 2) := by decide +kernel
theorem dL_law_1024 : decode cL_law 1024 = .ok (.iload 11, 2) := by decide +kernel
theorem dL_law_1026 : decode cL_law 1026 = .ok (.if_icmp .le 5, 3) := by decide +kernel
theorem dL_law_1029 : decode cL_law 1029 = .ok (.iconst 0, 1) := by decide +kernel
theorem dL_law_1030 : decode cL_law 1030 = .ok (.ireturn, 1) := by decide +kernel
theorem dL_law_1031 : decode cL_law 1031 = .ok (.aload_n 1, 1) := by decide +kernel
theorem dL_law_1032 : decode cL_law 1032 = .ok (.invokevirtual 101, 3) := by decide +kernel
theorem dL_law_1035 : decode cL_law 1035 = .ok (.istore 12, 2) := by decide +kernel
theorem dL_law_1037 : decode cL_law 1037 = .ok (.iload 12, 2) := by decide +kernel
theorem dL_law_1039 : decode cL_law 1039 = .ok (.iconst (-1), 1) := by decide +kernel
theorem dL_law_1040 : decode cL_law 1040 = .ok (.if_icmp .lt 62, 3) := by decide +kernel
theorem dL_law_1043 : decode cL_law 1043 = .ok (.iload 12, 2) := by decide +kernel
theorem dL_law_1045 : decode cL_law 1045 = .ok (.bipush 40, 2) := by decide +kernel
theorem dL_law_1047 : decode cL_law 1047 = .ok (.if_icmp .gt 55, 3) := by decide +kernel
theorem dL_law_1050 : decode cL_law 1050 = .ok (.iload 12, 2) := by decide +kernel
theorem dL_law_1052 : decode cL_law 1052 = .ok (.ifCond .ne 7, 3) := by decide +kernel
theorem dL_law_1055 : decode cL_law 1055 = .ok (.iconst 1, 1) := by decide +kernel
theorem dL_law_1056 : decode cL_law 1056 = .ok (.goto 4, 3) := by decide +kernel
theorem dL_law_1059 : decode cL_law 1059 = .ok (.iconst 0, 1) := by decide +kernel
theorem dL_law_1060 : decode cL_law 1060 = .ok (.iload 10, 2) := by decide +kernel
theorem dL_law_1062 : decode cL_law 1062 = .ok (.iload 11, 2) := by decide +kernel
theorem dL_law_1064 : decode cL_law 1064 = .ok (.if_icmp .ne 7, 3) := by decide +kernel
theorem dL_law_1067 : decode cL_law 1067 = .ok (.iconst 1, 1) := by decide +kernel
theorem dL_law_1068 : decode cL_law 1068 = .ok (.goto 4, 3) := by decide +kernel
theorem dL_law_1071 : decode cL_law 1071 = .ok (.iconst 0, 1) := by decide +kernel
theorem dL_law_1072 : decode cL_law 1072 = .ok (.if_icmp .ne 30, 3) := by decide +kernel
theorem dL_law_1075 : decode cL_law 1075 = .ok (.iload 12, 2) := by decide +kernel
theorem dL_law_1077 : decode cL_law 1077 = .ok (.ifCond .le 15, 3) := by decide +kernel
theorem dL_law_1080 : decode cL_law 1080 = .ok (.aload_n 1, 1) := by decide +kernel
theorem dL_law_1081 : decode cL_law 1081 = .ok (.iload 12, 2) := by decide +kernel
theorem dL_law_1083 : decode cL_law 1083 = .ok (.iconst 5, 1) := by decide +kernel
theorem dL_law_1084 : decode cL_law 1084 = .ok (.invokevirtual 104, 3) := by decide +kernel
theorem dL_law_1087 : decode cL_law 1087 = .ok (.iload 11, 2) := by decide +kernel
theorem dL_law_1089 : decode cL_law 1089 = .ok (.if_icmp .ne 13, 3) := by decide +kernel
theorem dL_law_1092 : decode cL_law 1092 = .ok (.iload 9, 2) := by decide +kernel
theorem dL_law_1094 : decode cL_law 1094 = .ok (.ifCond .eq 10, 3) := by decide +kernel
theorem dL_law_1097 : decode cL_law 1097 = .ok (.iload 12, 2) := by decide +kernel
theorem dL_law_1099 : decode cL_law 1099 = .ok (.ifCond .ge 5, 3) := by decide +kernel
theorem dL_law_1102 : decode cL_law 1102 = .ok (.iconst 0, 1) := by decide +kernel
theorem dL_law_1103 : decode cL_law 1103 = .ok (.ireturn, 1) := by decide +kernel
theorem dL_law_1104 : decode cL_law 1104 = .ok (.aload_n 1, 1) := by decide +kernel
theorem dL_law_1105 : decode cL_law 1105 = .ok (.invokevirtual 107, 3) := by decide +kernel
theorem dL_law_1108 : decode cL_law 1108 = .ok (.istore 13, 2) := by decide +kernel
theorem dL_law_1110 : decode cL_law 1110 = .ok (.iload 13, 2) := by decide +kernel
theorem dL_law_1112 : decode cL_law 1112 = .ok (.ifCond .ge 7, 3) := by decide +kernel
theorem dL_law_1115 : decode cL_law 1115 = .ok (.iconst 1, 1) := by decide +kernel
theorem dL_law_1116 : decode cL_law 1116 = .ok (.goto 4, 3) := by decide +kernel
theorem dL_law_1119 : decode cL_law 1119 = .ok (.iconst 0, 1) := by decide +kernel
theorem dL_law_1120 : decode cL_law 1120 = .ok (.aload_n 1, 1) := by decide +kernel
theorem dL_law_1121 : decode cL_law 1121 = .ok (.iconst 3, 1) := by decide +kernel
theorem dL_law_1122 : decode cL_law 1122 = .ok (.invokevirtual 83, 3) := by decide +kernel
theorem dL_law_1125 : decode cL_law 1125 = .ok (.ifCond .ne 7, 3) := by decide +kernel
theorem dL_law_1128 : decode cL_law 1128 = .ok (.iconst 1, 1) := by decide +kernel
theorem dL_law_1129 : decode cL_law 1129 = .ok (.goto 4, 3) := by decide +kernel
theorem dL_law_1132 : decode cL_law 1132 = .ok (.iconst 0, 1) := by decide +kernel
theorem dL_law_1133 : decode cL_law 1133 = .ok (.if_icmp .ne 29, 3) := by decide +kernel
theorem dL_law_1136 : decode cL_law 1136 = .ok (.iload 13, 2) := by decide +kernel
theorem dL_law_1138 : decode cL_law 1138 = .ok (.ifCond .lt 14, 3) := by decide +kernel
theorem dL_law_1141 : decode cL_law 1141 = .ok (.aload_n 1, 1) := by decide +kernel
theorem dL_law_1142 : decode cL_law 1142 = .ok (.iload 13, 2) := by decide +kernel
theorem dL_law_1144 : decode cL_law 1144 = .ok (.iconst 3, 1) := by decide +kernel
theorem dL_law_1145 : decode cL_law 1145 = .ok (.invokevirtual 110, 3) := by decide +kernel
theorem dL_law_1148 : decode cL_law 1148 = .ok (.iconst 1, 1) := by decide +kernel
theorem dL_law_1149 : decode cL_law 1149 = .ok (.if_icmp .ne 13, 3) := by decide +kernel
theorem dL_law_1152 : decode cL_law 1152 = .ok (.aload_n 1, 1) := by decide +kernel
theorem dL_law_1153 : decode cL_law 1153 = .ok (.invokevirtual 79, 3) := by decide +kernel
theorem dL_law_1156 : decode cL_law 1156 = .ok (.lload 6, 2) := by decide +kernel
theorem dL_law_1158 : decode cL_law 1158 = .ok (.lcmp, 1) := by decide +kernel
theorem dL_law_1159 : decode cL_law 1159 = .ok (.ifCond .eq 5, 3) := by decide +kernel
theorem dL_law_1162 : decode cL_law 1162 = .ok (.iconst 0, 1) := by decide +kernel
theorem dL_law_1163 : decode cL_law 1163 = .ok (.ireturn, 1) := by decide +kernel
theorem dL_law_1164 : decode cL_law 1164 = .ok (.iinc 3 1, 3) := by decide +kernel
theorem dL_law_1167 : decode cL_law 1167 = .ok (.goto (-1145), 3) := by decide +kernel
theorem dL_law_1170 : decode cL_law 1170 = .ok (.aload_n 2, 1) := by decide +kernel
theorem dL_law_1171 : decode cL_law 1171 = .ok (.aload_n 1, 1) := by decide +kernel
theorem dL_law_1172 : decode cL_law 1172 = .ok (.invokevirtual 113, 3) := by decide +kernel
theorem dL_law_1175 : decode cL_law 1175 = .ok (.ireturn, 1) := by decide +kernel
abbrev vwCl : List vw_C := [(RX0, TX0, 4), (RX1, TX1, 7), (RX2, TX2, 8), (RX3, TX3, 3), (RX4, TX4, 5), (RX5, TX5, 5)]
