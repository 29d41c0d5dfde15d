def RX0 : String := "LastTongue$Archive"
def TX0 : u_T := fun k => match k with
  | 0 => ("LastTongue$Archive", "letters", "[I", true)
  | 1 => ("LastTongue$Archive", "tapeCount", "I", false)
  | 2 => ("LastTongue$Archive", "lives", "[I", true)
  | 3 => ("LastTongue$Archive", "starts", "[I", true)
  | 4 => ("LastTongue$Archive", "rowCount", "I", false)
  | 5 => ("LastTongue$Archive", "rowTongues", "[I", true)
  | 6 => ("LastTongue$Archive", "rowMeanings", "[I", true)
  | 7 => ("LastTongue$Archive", "rowWords", "[I", true)
  | 8 => ("LastTongue$Archive", "rowPersons", "[I", true)
  | 9 => ("LastTongue$Archive", "rowWorkers", "[I", true)
  | 10 => ("LastTongue$Archive", "rowDays", "[I", true)
  | 11 => ("LastTongue$Archive", "rowTapes", "[I", true)
  | 12 => ("LastTongue$Archive", "rowWritten", "[I", true)
  | _ => ("LastTongue$Archive", "knownFrom", "[I", true)
def tyX0 : Nat → FieldType := fun k => match k with
  | 0 => .array .int
  | 1 => .int
  | 2 => .array .int
  | 3 => .array .int
  | 4 => .int
  | 5 => .array .int
  | 6 => .array .int
  | 7 => .array .int
  | 8 => .array .int
  | 9 => .array .int
  | 10 => .array .int
  | 11 => .array .int
  | 12 => .array .int
  | _ => .array .int
theorem nmX0 : ∀ a, a < 14 → ∀ b, b < 14 → a ≠ b → (TX0 a).2.1 ≠ (TX0 b).2.1 := by decide +kernel
theorem tyX0_ok : ∀ k, k < 14 → parseFieldDescriptor (TX0 k).2.2.1 = some (tyX0 k) := by decide +kernel
abbrev cX0_init : ByteArray := prog_2_method_1_code
def yX0_init : MethodName := ⟨RX0, "<init>", "()V"⟩
abbrev cX0_become : ByteArray := prog_2_method_2_code
def yX0_become : MethodName := ⟨RX0, "become", "(LLastTongue$Archive;)V"⟩
abbrev cX0_setLetter : ByteArray := prog_2_method_3_code
def yX0_setLetter : MethodName := ⟨RX0, "setLetter", "(III)Z"⟩
abbrev cX0_soundsOf : ByteArray := prog_2_method_4_code
def yX0_soundsOf : MethodName := ⟨RX0, "soundsOf", "(II)I"⟩
abbrev cX0_hasTape : ByteArray := prog_2_method_5_code
def yX0_hasTape : MethodName := ⟨RX0, "hasTape", "(I)Z"⟩
abbrev cX0_hasRow : ByteArray := prog_2_method_6_code
def yX0_hasRow : MethodName := ⟨RX0, "hasRow", "(I)Z"⟩
abbrev cX0_addTape : ByteArray := prog_2_method_7_code
def yX0_addTape : MethodName := ⟨RX0, "addTape", "(II)I"⟩
abbrev cX0_goneDay : ByteArray := prog_2_method_8_code
def yX0_goneDay : MethodName := ⟨RX0, "goneDay", "(I)I"⟩
abbrev cX0_lasts : ByteArray := prog_2_method_9_code
def yX0_lasts : MethodName := ⟨RX0, "lasts", "(II)Z"⟩
abbrev cX0_renew : ByteArray := prog_2_method_10_code
def yX0_renew : MethodName := ⟨RX0, "renew", "(II)Z"⟩
abbrev cX0_tapeFact : ByteArray := prog_2_method_11_code
def yX0_tapeFact : MethodName := ⟨RX0, "tapeFact", "(III)I"⟩
abbrev cX0_rowsOn : ByteArray := prog_2_method_12_code
def yX0_rowsOn : MethodName := ⟨RX0, "rowsOn", "(I)I"⟩
abbrev cX0_worthOf : ByteArray := prog_2_method_13_code
def yX0_worthOf : MethodName := ⟨RX0, "worthOf", "(II)I"⟩
abbrev cX0_isHeld : ByteArray := prog_2_method_14_code
def yX0_isHeld : MethodName := ⟨RX0, "isHeld", "(II)Z"⟩
abbrev cX0_rowFact : ByteArray := prog_2_method_15_code
def yX0_rowFact : MethodName := ⟨RX0, "rowFact", "(III)I"⟩
abbrev cX0_addRow : ByteArray := prog_2_method_16_code
def yX0_addRow : MethodName := ⟨RX0, "addRow", "(LLastTongue$World;IIII)I"⟩
abbrev cX0_writtenAs : ByteArray := prog_2_method_17_code
def yX0_writtenAs : MethodName := ⟨RX0, "writtenAs", "(IIZI)I"⟩
abbrev cX0_learn : ByteArray := prog_2_method_18_code
def yX0_learn : MethodName := ⟨RX0, "learn", "(III)Z"⟩
abbrev cX0_knownBy : ByteArray := prog_2_method_19_code
def yX0_knownBy : MethodName := ⟨RX0, "knownBy", "(I)I"⟩
abbrev cX0_latestKnown : ByteArray := prog_2_method_20_code
def yX0_latestKnown : MethodName := ⟨RX0, "latestKnown", "(IIII)I"⟩
abbrev cX0_latestOf : ByteArray := prog_2_method_21_code
def yX0_latestOf : MethodName := ⟨RX0, "latestOf", "(II)I"⟩
abbrev cX0_heldMeanings : ByteArray := prog_2_method_22_code
def yX0_heldMeanings : MethodName := ⟨RX0, "heldMeanings", "(II)I"⟩
abbrev cX0_meaningsUntil : ByteArray := prog_2_method_23_code
def yX0_meaningsUntil : MethodName := ⟨RX0, "meaningsUntil", "(II)I"⟩
def RX1 : String := "LastTongue$Copying"
def TX1 : u_T := fun k => match k with
  | 0 => ("LastTongue$Copying", "size", "I", false)
  | 1 => ("LastTongue$Copying", "tapes", "[I", true)
  | 2 => ("LastTongue$Copying", "worths", "[I", true)
  | 3 => ("LastTongue$Copying", "lengths", "[I", true)
  | 4 => ("LastTongue$Copying", "daysLeft", "[I", true)
  | 5 => ("LastTongue$Copying", "bestWorth", "I", false)
  | 6 => ("LastTongue$Copying", "bestDays", "I", false)
  | _ => ("LastTongue$Copying", "bestSet", "I", false)
def tyX1 : Nat → FieldType := fun k => match k with
  | 0 => .int
  | 1 => .array .int
  | 2 => .array .int
  | 3 => .array .int
  | 4 => .array .int
  | 5 => .int
  | 6 => .int
  | _ => .int
theorem nmX1 : ∀ a, a < 8 → ∀ b, b < 8 → a ≠ b → (TX1 a).2.1 ≠ (TX1 b).2.1 := by decide +kernel
theorem tyX1_ok : ∀ k, k < 8 → parseFieldDescriptor (TX1 k).2.2.1 = some (tyX1 k) := by decide +kernel
abbrev cX1_init : ByteArray := prog_3_method_1_code
def yX1_init : MethodName := ⟨RX1, "<init>", "()V"⟩
abbrev cX1_solve : ByteArray := prog_3_method_2_code
def yX1_solve : MethodName := ⟨RX1, "solve", "(LLastTongue$Archive;I)V"⟩
abbrev cX1_insert : ByteArray := prog_3_method_3_code
def yX1_insert : MethodName := ⟨RX1, "insert", "(LLastTongue$Archive;III)V"⟩
abbrev cX1_weigh : ByteArray := prog_3_method_4_code
def yX1_weigh : MethodName := ⟨RX1, "weigh", "(I)V"⟩
abbrev cX1_copiesFact : ByteArray := prog_3_method_5_code
def yX1_copiesFact : MethodName := ⟨RX1, "copiesFact", "(I)I"⟩
def RX2 : String := "LastTongue$Customs"
def TX2 : u_T := fun k => match k with
  | 0 => ("LastTongue$Customs", "bytes", "[I", true)
  | 1 => ("LastTongue$Customs", "length", "I", false)
  | 2 => ("LastTongue$Customs", "fault", "I", false)
  | 3 => ("LastTongue$Customs", "faultPlace", "I", false)
  | 4 => ("LastTongue$Customs", "size", "I", false)
  | 5 => ("LastTongue$Customs", "froms", "[I", true)
  | 6 => ("LastTongue$Customs", "lineCounts", "[I", true)
  | 7 => ("LastTongue$Customs", "topics", "[I", true)
  | 8 => ("LastTongue$Customs", "verdicts", "[I", true)
  | 9 => ("LastTongue$Customs", "testCounts", "[I", true)
  | _ => ("LastTongue$Customs", "tests", "[I", true)
def tyX2 : Nat → FieldType := fun k => match k with
  | 0 => .array .int
  | 1 => .int
  | 2 => .int
  | 3 => .int
  | 4 => .int
  | 5 => .array .int
  | 6 => .array .int
  | 7 => .array .int
  | 8 => .array .int
  | 9 => .array .int
  | _ => .array .int
theorem nmX2 : ∀ a, a < 11 → ∀ b, b < 11 → a ≠ b → (TX2 a).2.1 ≠ (TX2 b).2.1 := by decide +kernel
theorem tyX2_ok : ∀ k, k < 11 → parseFieldDescriptor (TX2 k).2.2.1 = some (tyX2 k) := by decide +kernel
abbrev cX2_init : ByteArray := prog_4_method_1_code
def yX2_init : MethodName := ⟨RX2, "<init>", "()V"⟩
abbrev cX2_become : ByteArray := prog_4_method_2_code
def yX2_become : MethodName := ⟨RX2, "become", "(LLastTongue$Customs;)V"⟩
abbrev cX2_takeBytes : ByteArray := prog_4_method_3_code
def yX2_takeBytes : MethodName := ⟨RX2, "takeBytes", "(IIIII)I"⟩
abbrev cX2_takeFour : ByteArray := prog_4_method_4_code
def yX2_takeFour : MethodName := ⟨RX2, "takeFour", "(I)V"⟩
abbrev cX2_cutTo : ByteArray := prog_4_method_5_code
def yX2_cutTo : MethodName := ⟨RX2, "cutTo", "(I)I"⟩
abbrev cX2_takeText : ByteArray := prog_4_method_6_code
def yX2_takeText : MethodName := ⟨RX2, "takeText", "(LLastTongue$Reader;I)I"⟩
abbrev cX2_faultFact : ByteArray := prog_4_method_7_code
def yX2_faultFact : MethodName := ⟨RX2, "faultFact", "(I)I"⟩
abbrev cX2_inForce : ByteArray := prog_4_method_8_code
def yX2_inForce : MethodName := ⟨RX2, "inForce", "(I)I"⟩
abbrev cX2_saysYes : ByteArray := prog_4_method_9_code
def yX2_saysYes : MethodName := ⟨RX2, "saysYes", "(II)Z"⟩
abbrev cX2_setLine : ByteArray := prog_4_method_10_code
def yX2_setLine : MethodName := ⟨RX2, "setLine", "(IIIII)V"⟩
abbrev cX2_setTest : ByteArray := prog_4_method_11_code
def yX2_setTest : MethodName := ⟨RX2, "setTest", "(IIII)V"⟩
abbrev cX2_packedTest : ByteArray := prog_4_method_12_code
def yX2_packedTest : MethodName := ⟨RX2, "packedTest", "(ZIII)I"⟩
abbrev cX2_subjectOf : ByteArray := prog_4_method_13_code
def yX2_subjectOf : MethodName := ⟨RX2, "subjectOf", "(I)I"⟩
abbrev cX2_holds : ByteArray := prog_4_method_14_code
def yX2_holds : MethodName := ⟨RX2, "holds", "(II)Z"⟩
def RX3 : String := "LastTongue$Finder"
def TX3 : u_T := fun k => match k with
  | 0 => ("LastTongue$Finder", "parentWords", "[I", true)
  | 1 => ("LastTongue$Finder", "heardWords", "[I", true)
  | 2 => ("LastTongue$Finder", "latest", "[I", true)
  | 3 => ("LastTongue$Finder", "harm", "[I", true)
  | 4 => ("LastTongue$Finder", "readings", "[I", true)
  | 5 => ("LastTongue$Finder", "madeForms", "[I", true)
  | 6 => ("LastTongue$Finder", "madeCounts", "[I", true)
  | 7 => ("LastTongue$Finder", "sounds", "[I", true)
  | 8 => ("LastTongue$Finder", "soundCount", "I", false)
  | 9 => ("LastTongue$Finder", "readingCount", "I", false)
  | 10 => ("LastTongue$Finder", "heardCount", "I", false)
  | _ => ("LastTongue$Finder", "off", "I", false)
def tyX3 : Nat → FieldType := fun k => match k with
  | 0 => .array .int
  | 1 => .array .int
  | 2 => .array .int
  | 3 => .array .int
  | 4 => .array .int
  | 5 => .array .int
  | 6 => .array .int
  | 7 => .array .int
  | 8 => .int
  | 9 => .int
  | 10 => .int
  | _ => .int
theorem nmX3 : ∀ a, a < 12 → ∀ b, b < 12 → a ≠ b → (TX3 a).2.1 ≠ (TX3 b).2.1 := by decide +kernel
theorem tyX3_ok : ∀ k, k < 12 → parseFieldDescriptor (TX3 k).2.2.1 = some (tyX3 k) := by decide +kernel
abbrev cX3_init : ByteArray := prog_5_method_1_code
def yX3_init : MethodName := ⟨RX3, "<init>", "()V"⟩
abbrev cX3_solve : ByteArray := prog_5_method_2_code
def yX3_solve : MethodName := ⟨RX3, "solve", "(LLastTongue$World;I)V"⟩
abbrev cX3_gather : ByteArray := prog_5_method_3_code
def yX3_gather : MethodName := ⟨RX3, "gather", "(LLastTongue$World;I)Z"⟩
abbrev cX3_seek : ByteArray := prog_5_method_4_code
def yX3_seek : MethodName := ⟨RX3, "seek", "()V"⟩
abbrev cX3_weigh : ByteArray := prog_5_method_5_code
def yX3_weigh : MethodName := ⟨RX3, "weigh", "(II)V"⟩
abbrev cX3_weighAt : ByteArray := prog_5_method_6_code
def yX3_weighAt : MethodName := ⟨RX3, "weighAt", "(IIIII)V"⟩
abbrev cX3_spread : ByteArray := prog_5_method_7_code
def yX3_spread : MethodName := ⟨RX3, "spread", "(I)V"⟩
abbrev cX3_leastHarm : ByteArray := prog_5_method_8_code
def yX3_leastHarm : MethodName := ⟨RX3, "leastHarm", "()I"⟩
abbrev cX3_takeReadings : ByteArray := prog_5_method_9_code
def yX3_takeReadings : MethodName := ⟨RX3, "takeReadings", "(II)V"⟩
abbrev cX3_takeReadingsOf : ByteArray := prog_5_method_10_code
def yX3_takeReadingsOf : MethodName := ⟨RX3, "takeReadingsOf", "(III)V"⟩
abbrev cX3_foundFact : ByteArray := prog_5_method_11_code
def yX3_foundFact : MethodName := ⟨RX3, "foundFact", "(I)I"⟩
abbrev cX3_readingAt : ByteArray := prog_5_method_12_code
def yX3_readingAt : MethodName := ⟨RX3, "readingAt", "(I)I"⟩
abbrev cX3_nextFact : ByteArray := prog_5_method_13_code
def yX3_nextFact : MethodName := ⟨RX3, "nextFact", "(LLastTongue$World;II)I"⟩
abbrev cX3_greatestCrowd : ByteArray := prog_5_method_14_code
def yX3_greatestCrowd : MethodName := ⟨RX3, "greatestCrowd", "(I)I"⟩
abbrev cX3_weakestSaying : ByteArray := prog_5_method_15_code
def yX3_weakestSaying : MethodName := ⟨RX3, "weakestSaying", "(LLastTongue$World;II)I"⟩
def RX4 : String := "LastTongue$Maker"
def TX4 : u_T := fun k => match k with
  | 0 => ("LastTongue$Maker", "size", "I", false)
  | _ => ("LastTongue$Maker", "forms", "[I", true)
def tyX4 : Nat → FieldType := fun k => match k with
  | 0 => .int
  | _ => .array .int
theorem nmX4 : ∀ a, a < 2 → ∀ b, b < 2 → a ≠ b → (TX4 a).2.1 ≠ (TX4 b).2.1 := by decide +kernel
theorem tyX4_ok : ∀ k, k < 2 → parseFieldDescriptor (TX4 k).2.2.1 = some (tyX4 k) := by decide +kernel
abbrev cX4_init : ByteArray := prog_6_method_1_code
def yX4_init : MethodName := ⟨RX4, "<init>", "()V"⟩
abbrev cX4_collect : ByteArray := prog_6_method_2_code
def yX4_collect : MethodName := ⟨RX4, "collect", "(LLastTongue$Tongues;II)V"⟩
abbrev cX4_consider : ByteArray := prog_6_method_3_code
def yX4_consider : MethodName := ⟨RX4, "consider", "(LLastTongue$Tongues;II)V"⟩
abbrev cX4_insert : ByteArray := prog_6_method_4_code
def yX4_insert : MethodName := ⟨RX4, "insert", "(I)V"⟩
abbrev cX4_formAt : ByteArray := prog_6_method_5_code
def yX4_formAt : MethodName := ⟨RX4, "formAt", "(I)I"⟩
def RX5 : String := "LastTongue$Papers"
def TX5 : u_T := fun k => match k with
  | 0 => ("LastTongue$Papers", "printedCount", "I", false)
  | 1 => ("LastTongue$Papers", "printedTongues", "[I", true)
  | 2 => ("LastTongue$Papers", "printedMeanings", "[I", true)
  | 3 => ("LastTongue$Papers", "printedForms", "[I", true)
  | 4 => ("LastTongue$Papers", "printedDays", "[I", true)
  | 5 => ("LastTongue$Papers", "grantCount", "I", false)
  | 6 => ("LastTongue$Papers", "grantTongues", "[I", true)
  | 7 => ("LastTongue$Papers", "grantNumbers", "[I", true)
  | _ => ("LastTongue$Papers", "grantDays", "[I", true)
def tyX5 : Nat → FieldType := fun k => match k with
  | 0 => .int
  | 1 => .array .int
  | 2 => .array .int
  | 3 => .array .int
  | 4 => .array .int
  | 5 => .int
  | 6 => .array .int
  | 7 => .array .int
  | _ => .array .int
theorem nmX5 : ∀ a, a < 9 → ∀ b, b < 9 → a ≠ b → (TX5 a).2.1 ≠ (TX5 b).2.1 := by decide +kernel
theorem tyX5_ok : ∀ k, k < 9 → parseFieldDescriptor (TX5 k).2.2.1 = some (tyX5 k) := by decide +kernel
abbrev cX5_init : ByteArray := prog_7_method_1_code
def yX5_init : MethodName := ⟨RX5, "<init>", "()V"⟩
abbrev cX5_become : ByteArray := prog_7_method_2_code
def yX5_become : MethodName := ⟨RX5, "become", "(LLastTongue$Papers;)V"⟩
abbrev cX5_addPrinted : ByteArray := prog_7_method_3_code
def yX5_addPrinted : MethodName := ⟨RX5, "addPrinted", "(IIII)I"⟩
abbrev cX5_fell : ByteArray := prog_7_method_4_code
def yX5_fell : MethodName := ⟨RX5, "fell", "(ILLastTongue$Tongues;)Z"⟩
abbrev cX5_fallen : ByteArray := prog_7_method_5_code
def yX5_fallen : MethodName := ⟨RX5, "fallen", "(LLastTongue$Tongues;)I"⟩
abbrev cX5_printedFact : ByteArray := prog_7_method_6_code
def yX5_printedFact : MethodName := ⟨RX5, "printedFact", "(IILLastTongue$Tongues;)I"⟩
abbrev cX5_hasGrant : ByteArray := prog_7_method_7_code
def yX5_hasGrant : MethodName := ⟨RX5, "hasGrant", "(I)Z"⟩
abbrev cX5_addGrant : ByteArray := prog_7_method_8_code
def yX5_addGrant : MethodName := ⟨RX5, "addGrant", "(III)I"⟩
def RX6 : String := "LastTongue$People"
def TX6 : u_T := fun k => match k with
  | 0 => ("LastTongue$People", "size", "I", false)
  | 1 => ("LastTongue$People", "kinds", "[I", true)
  | 2 => ("LastTongue$People", "clans", "[I", true)
  | 3 => ("LastTongue$People", "tongues", "[I", true)
  | 4 => ("LastTongue$People", "places", "[I", true)
  | 5 => ("LastTongue$People", "goals", "[I", true)
  | 6 => ("LastTongue$People", "arrivals", "[I", true)
  | 7 => ("LastTongue$People", "healths", "[I", true)
  | 8 => ("LastTongue$People", "meanings", "[I", true)
  | 9 => ("LastTongue$People", "skills", "[I", true)
  | 10 => ("LastTongue$People", "hours", "[I", true)
  | 11 => ("LastTongue$People", "taught", "[I", true)
  | 12 => ("LastTongue$People", "writings", "[I", true)
  | 13 => ("LastTongue$People", "deaths", "[I", true)
  | _ => ("LastTongue$People", "roads", "[I", true)
def tyX6 : Nat → FieldType := fun k => match k with
  | 0 => .int
  | 1 => .array .int
  | 2 => .array .int
  | 3 => .array .int
  | 4 => .array .int
  | 5 => .array .int
  | 6 => .array .int
  | 7 => .array .int
  | 8 => .array .int
  | 9 => .array .int
  | 10 => .array .int
  | 11 => .array .int
  | 12 => .array .int
  | 13 => .array .int
  | _ => .array .int
theorem nmX6 : ∀ a, a < 15 → ∀ b, b < 15 → a ≠ b → (TX6 a).2.1 ≠ (TX6 b).2.1 := by decide +kernel
theorem tyX6_ok : ∀ k, k < 15 → parseFieldDescriptor (TX6 k).2.2.1 = some (tyX6 k) := by decide +kernel
abbrev cX6_init : ByteArray := prog_8_method_1_code
def yX6_init : MethodName := ⟨RX6, "<init>", "()V"⟩
abbrev cX6_become : ByteArray := prog_8_method_2_code
def yX6_become : MethodName := ⟨RX6, "become", "(LLastTongue$People;)V"⟩
abbrev cX6_has : ByteArray := prog_8_method_3_code
def yX6_has : MethodName := ⟨RX6, "has", "(I)Z"⟩
abbrev cX6_isAlive : ByteArray := prog_8_method_4_code
def yX6_isAlive : MethodName := ⟨RX6, "isAlive", "(I)Z"⟩
abbrev cX6_isWorker : ByteArray := prog_8_method_5_code
def yX6_isWorker : MethodName := ⟨RX6, "isWorker", "(I)Z"⟩
abbrev cX6_isLivingWorker : ByteArray := prog_8_method_6_code
def yX6_isLivingWorker : MethodName := ⟨RX6, "isLivingWorker", "(I)Z"⟩
abbrev cX6_areTogether : ByteArray := prog_8_method_7_code
def yX6_areTogether : MethodName := ⟨RX6, "areTogether", "(II)Z"⟩
abbrev cX6_living : ByteArray := prog_8_method_8_code
def yX6_living : MethodName := ⟨RX6, "living", "()I"⟩
abbrev cX6_daysBetween : ByteArray := prog_8_method_9_code
def yX6_daysBetween : MethodName := ⟨RX6, "daysBetween", "(II)I"⟩
abbrev cX6_setRoad : ByteArray := prog_8_method_10_code
def yX6_setRoad : MethodName := ⟨RX6, "setRoad", "(III)Z"⟩
abbrev cX6_addPerson : ByteArray := prog_8_method_11_code
def yX6_addPerson : MethodName := ⟨RX6, "addPerson", "(IIII)I"⟩
abbrev cX6_setMeanings : ByteArray := prog_8_method_12_code
def yX6_setMeanings : MethodName := ⟨RX6, "setMeanings", "(II)Z"⟩
abbrev cX6_setHealth : ByteArray := prog_8_method_13_code
def yX6_setHealth : MethodName := ⟨RX6, "setHealth", "(III)Z"⟩
abbrev cX6_setWriting : ByteArray := prog_8_method_14_code
def yX6_setWriting : MethodName := ⟨RX6, "setWriting", "(II)Z"⟩
abbrev cX6_send : ByteArray := prog_8_method_15_code
def yX6_send : MethodName := ⟨RX6, "send", "(III)Z"⟩
abbrev cX6_endDay : ByteArray := prog_8_method_16_code
def yX6_endDay : MethodName := ⟨RX6, "endDay", "()V"⟩
abbrev cX6_arrive : ByteArray := prog_8_method_17_code
def yX6_arrive : MethodName := ⟨RX6, "arrive", "(I)V"⟩
abbrev cX6_learnFrom : ByteArray := prog_8_method_18_code
def yX6_learnFrom : MethodName := ⟨RX6, "learnFrom", "(III)I"⟩
abbrev cX6_canLearn : ByteArray := prog_8_method_19_code
def yX6_canLearn : MethodName := ⟨RX6, "canLearn", "(II)Z"⟩
def RX7 : String := "LastTongue$Reader"
def TX7 : u_T := fun k => match k with
  | 0 => ("LastTongue$Reader", "customs", "LLastTongue$Customs;", true)
  | 1 => ("LastTongue$Reader", "tokens", "[I", true)
  | 2 => ("LastTongue$Reader", "starts", "[I", true)
  | 3 => ("LastTongue$Reader", "at", "I", false)
  | 4 => ("LastTongue$Reader", "text", "I", false)
  | 5 => ("LastTongue$Reader", "faultPlace", "I", false)
  | _ => ("LastTongue$Reader", "tooManyPlace", "I", false)
def tyX7 : Nat → FieldType := fun k => match k with
  | 0 => .object "LastTongue$Customs"
  | 1 => .array .int
  | 2 => .array .int
  | 3 => .int
  | 4 => .int
  | 5 => .int
  | _ => .int
theorem nmX7 : ∀ a, a < 7 → ∀ b, b < 7 → a ≠ b → (TX7 a).2.1 ≠ (TX7 b).2.1 := by decide +kernel
theorem tyX7_ok : ∀ k, k < 7 → parseFieldDescriptor (TX7 k).2.2.1 = some (tyX7 k) := by decide +kernel
abbrev cX7_init : ByteArray := prog_9_method_1_code
def yX7_init : MethodName := ⟨RX7, "<init>", "(LLastTongue$Customs;)V"⟩
abbrev cX7_readText : ByteArray := prog_9_method_2_code
def yX7_readText : MethodName := ⟨RX7, "readText", "(I)I"⟩
abbrev cX7_noteTooMany : ByteArray := prog_9_method_3_code
def yX7_noteTooMany : MethodName := ⟨RX7, "noteTooMany", "()V"⟩
abbrev cX7_readLine : ByteArray := prog_9_method_4_code
def yX7_readLine : MethodName := ⟨RX7, "readLine", "(I)Z"⟩
abbrev cX7_pass : ByteArray := prog_9_method_5_code
def yX7_pass : MethodName := ⟨RX7, "pass", "(I)Z"⟩
abbrev cX7_readTests : ByteArray := prog_9_method_6_code
def yX7_readTests : MethodName := ⟨RX7, "readTests", "(I)I"⟩
abbrev cX7_readTest : ByteArray := prog_9_method_7_code
def yX7_readTest : MethodName := ⟨RX7, "readTest", "(II)Z"⟩
abbrev cX7_split : ByteArray := prog_9_method_8_code
def yX7_split : MethodName := ⟨RX7, "split", "()V"⟩
abbrev cX7_stopOf : ByteArray := prog_9_method_9_code
def yX7_stopOf : MethodName := ⟨RX7, "stopOf", "(I)I"⟩
abbrev cX7_tokenOf : ByteArray := prog_9_method_10_code
def yX7_tokenOf : MethodName := ⟨RX7, "tokenOf", "(II)I"⟩
abbrev cX7_wordOf : ByteArray := prog_9_method_11_code
def yX7_wordOf : MethodName := ⟨RX7, "wordOf", "(II)I"⟩
abbrev cX7_spells : ByteArray := prog_9_method_12_code
def yX7_spells : MethodName := ⟨RX7, "spells", "(III)Z"⟩
abbrev cX7_numberOf : ByteArray := prog_9_method_13_code
def yX7_numberOf : MethodName := ⟨RX7, "numberOf", "(II)I"⟩
abbrev cX7_byteAt : ByteArray := prog_9_method_14_code
def yX7_byteAt : MethodName := ⟨RX7, "byteAt", "(I)I"⟩
abbrev cX7_isBlank : ByteArray := prog_9_method_15_code
def yX7_isBlank : MethodName := ⟨RX7, "isBlank", "(I)Z"⟩
abbrev cX7_isLetter : ByteArray := prog_9_method_16_code
def yX7_isLetter : MethodName := ⟨RX7, "isLetter", "(I)Z"⟩
abbrev cX7_isDigit : ByteArray := prog_9_method_17_code
def yX7_isDigit : MethodName := ⟨RX7, "isDigit", "(I)Z"⟩
def RX8 : String := "LastTongue$Route"
def TX8 : u_T := fun k => match k with
  | 0 => ("LastTongue$Route", "size", "I", false)
  | 1 => ("LastTongue$Route", "persons", "[I", true)
  | 2 => ("LastTongue$Route", "places", "[I", true)
  | 3 => ("LastTongue$Route", "onlys", "[I", true)
  | 4 => ("LastTongue$Route", "fewest", "[I", true)
  | 5 => ("LastTongue$Route", "people", "LLastTongue$People;", true)
  | 6 => ("LastTongue$Route", "startPlace", "I", false)
  | 7 => ("LastTongue$Route", "bestSet", "I", false)
  | 8 => ("LastTongue$Route", "bestOnly", "I", false)
  | _ => ("LastTongue$Route", "bestDays", "I", false)
def tyX8 : Nat → FieldType := fun k => match k with
  | 0 => .int
  | 1 => .array .int
  | 2 => .array .int
  | 3 => .array .int
  | 4 => .array .int
  | 5 => .object "LastTongue$People"
  | 6 => .int
  | 7 => .int
  | 8 => .int
  | _ => .int
theorem nmX8 : ∀ a, a < 10 → ∀ b, b < 10 → a ≠ b → (TX8 a).2.1 ≠ (TX8 b).2.1 := by decide +kernel
theorem tyX8_ok : ∀ k, k < 10 → parseFieldDescriptor (TX8 k).2.2.1 = some (tyX8 k) := by decide +kernel
abbrev cX8_init : ByteArray := prog_10_method_1_code
def yX8_init : MethodName := ⟨RX8, "<init>", "(LLastTongue$People;)V"⟩
abbrev cX8_gather : ByteArray := prog_10_method_2_code
def yX8_gather : MethodName := ⟨RX8, "gather", "(LLastTongue$World;)V"⟩
abbrev cX8_solve : ByteArray := prog_10_method_3_code
def yX8_solve : MethodName := ⟨RX8, "solve", "(II)V"⟩
abbrev cX8_fewestFrom : ByteArray := prog_10_method_4_code
def yX8_fewestFrom : MethodName := ⟨RX8, "fewestFrom", "(II)I"⟩
abbrev cX8_daysWithFirst : ByteArray := prog_10_method_5_code
def yX8_daysWithFirst : MethodName := ⟨RX8, "daysWithFirst", "(III)I"⟩
abbrev cX8_weigh : ByteArray := prog_10_method_6_code
def yX8_weigh : MethodName := ⟨RX8, "weigh", "(II)V"⟩
abbrev cX8_routeFact : ByteArray := prog_10_method_7_code
def yX8_routeFact : MethodName := ⟨RX8, "routeFact", "(I)I"⟩
abbrev cX8_bestPersons : ByteArray := prog_10_method_8_code
def yX8_bestPersons : MethodName := ⟨RX8, "bestPersons", "()I"⟩
abbrev cX8_personAt : ByteArray := prog_10_method_9_code
def yX8_personAt : MethodName := ⟨RX8, "personAt", "(I)I"⟩
abbrev cX8_firstOf : ByteArray := prog_10_method_10_code
def yX8_firstOf : MethodName := ⟨RX8, "firstOf", "(II)I"⟩
def RX9 : String := "LastTongue$Tongues"
def TX9 : u_T := fun k => match k with
  | 0 => ("LastTongue$Tongues", "size", "I", false)
  | 1 => ("LastTongue$Tongues", "parents", "[I", true)
  | 2 => ("LastTongue$Tongues", "costs", "[I", true)
  | 3 => ("LastTongue$Tongues", "ruleCounts", "[I", true)
  | 4 => ("LastTongue$Tongues", "rules", "[I", true)
  | 5 => ("LastTongue$Tongues", "breaks", "[I", true)
  | 6 => ("LastTongue$Tongues", "words", "[I", true)
  | 7 => ("LastTongue$Tongues", "worded", "[I", true)
  | _ => ("LastTongue$Tongues", "fields", "[I", true)
def tyX9 : Nat → FieldType := fun k => match k with
  | 0 => .int
  | 1 => .array .int
  | 2 => .array .int
  | 3 => .array .int
  | 4 => .array .int
  | 5 => .array .int
  | 6 => .array .int
  | 7 => .array .int
  | _ => .array .int
theorem nmX9 : ∀ a, a < 9 → ∀ b, b < 9 → a ≠ b → (TX9 a).2.1 ≠ (TX9 b).2.1 := by decide +kernel
theorem tyX9_ok : ∀ k, k < 9 → parseFieldDescriptor (TX9 k).2.2.1 = some (tyX9 k) := by decide +kernel
abbrev cX9_init : ByteArray := prog_11_method_1_code
def yX9_init : MethodName := ⟨RX9, "<init>", "()V"⟩
abbrev cX9_become : ByteArray := prog_11_method_2_code
def yX9_become : MethodName := ⟨RX9, "become", "(LLastTongue$Tongues;)V"⟩
abbrev cX9_has : ByteArray := prog_11_method_3_code
def yX9_has : MethodName := ⟨RX9, "has", "(I)Z"⟩
abbrev cX9_hasParent : ByteArray := prog_11_method_4_code
def yX9_hasParent : MethodName := ⟨RX9, "hasParent", "(I)Z"⟩
abbrev cX9_addTongue : ByteArray := prog_11_method_5_code
def yX9_addTongue : MethodName := ⟨RX9, "addTongue", "(I)I"⟩
abbrev cX9_addRule : ByteArray := prog_11_method_6_code
def yX9_addRule : MethodName := ⟨RX9, "addRule", "(IIIII)I"⟩
abbrev cX9_dropRule : ByteArray := prog_11_method_7_code
def yX9_dropRule : MethodName := ⟨RX9, "dropRule", "(I)Z"⟩
abbrev cX9_setBreak : ByteArray := prog_11_method_8_code
def yX9_setBreak : MethodName := ⟨RX9, "setBreak", "(III)Z"⟩
abbrev cX9_setField : ByteArray := prog_11_method_9_code
def yX9_setField : MethodName := ⟨RX9, "setField", "(II)Z"⟩
abbrev cX9_setCost : ByteArray := prog_11_method_10_code
def yX9_setCost : MethodName := ⟨RX9, "setCost", "(II)Z"⟩
abbrev cX9_wordOf : ByteArray := prog_11_method_11_code
def yX9_wordOf : MethodName := ⟨RX9, "wordOf", "(II)I"⟩
abbrev cX9_isWord : ByteArray := prog_11_method_12_code
def yX9_isWord : MethodName := ⟨RX9, "isWord", "(II)Z"⟩
abbrev cX9_ofField : ByteArray := prog_11_method_13_code
def yX9_ofField : MethodName := ⟨RX9, "ofField", "(I)I"⟩
abbrev cX9_byRules : ByteArray := prog_11_method_14_code
def yX9_byRules : MethodName := ⟨RX9, "byRules", "(II)I"⟩
abbrev cX9_refreshFrom : ByteArray := prog_11_method_15_code
def yX9_refreshFrom : MethodName := ⟨RX9, "refreshFrom", "(I)V"⟩
abbrev cX9_refreshMeaning : ByteArray := prog_11_method_16_code
def yX9_refreshMeaning : MethodName := ⟨RX9, "refreshMeaning", "(II)V"⟩
abbrev cX9_setWord : ByteArray := prog_11_method_17_code
def yX9_setWord : MethodName := ⟨RX9, "setWord", "(III)V"⟩
def RX10 : String := "LastTongue$World"
def TX10 : u_T := fun k => match k with
  | 0 => ("LastTongue$World", "day", "I", false)
  | 1 => ("LastTongue$World", "tongues", "LLastTongue$Tongues;", true)
  | 2 => ("LastTongue$World", "people", "LLastTongue$People;", true)
  | 3 => ("LastTongue$World", "customs", "LLastTongue$Customs;", true)
  | 4 => ("LastTongue$World", "archive", "LLastTongue$Archive;", true)
  | _ => ("LastTongue$World", "papers", "LLastTongue$Papers;", true)
def tyX10 : Nat → FieldType := fun k => match k with
  | 0 => .int
  | 1 => .object "LastTongue$Tongues"
  | 2 => .object "LastTongue$People"
  | 3 => .object "LastTongue$Customs"
  | 4 => .object "LastTongue$Archive"
  | _ => .object "LastTongue$Papers"
theorem nmX10 : ∀ a, a < 6 → ∀ b, b < 6 → a ≠ b → (TX10 a).2.1 ≠ (TX10 b).2.1 := by decide +kernel
theorem tyX10_ok : ∀ k, k < 6 → parseFieldDescriptor (TX10 k).2.2.1 = some (tyX10 k) := by decide +kernel
abbrev cX10_init : ByteArray := prog_12_method_1_code
def yX10_init : MethodName := ⟨RX10, "<init>", "()V"⟩
abbrev cX10_become : ByteArray := prog_12_method_2_code
def yX10_become : MethodName := ⟨RX10, "become", "(LLastTongue$World;)V"⟩
abbrev cX10_passDay : ByteArray := prog_12_method_3_code
def yX10_passDay : MethodName := ⟨RX10, "passDay", "()I"⟩
abbrev cX10_saidBy : ByteArray := prog_12_method_4_code
def yX10_saidBy : MethodName := ⟨RX10, "saidBy", "(I)I"⟩
abbrev cX10_saidIn : ByteArray := prog_12_method_5_code
def yX10_saidIn : MethodName := ⟨RX10, "saidIn", "(II)I"⟩
abbrev cX10_onlyOf : ByteArray := prog_12_method_6_code
def yX10_onlyOf : MethodName := ⟨RX10, "onlyOf", "(I)I"⟩
abbrev cX10_personFact : ByteArray := prog_12_method_7_code
def yX10_personFact : MethodName := ⟨RX10, "personFact", "(II)I"⟩
abbrev cX10_canBeTold : ByteArray := prog_12_method_8_code
def yX10_canBeTold : MethodName := ⟨RX10, "canBeTold", "(IIII)Z"⟩
abbrev cX10_allows : ByteArray := prog_12_method_9_code
def yX10_allows : MethodName := ⟨RX10, "allows", "(IIII)Z"⟩
abbrev cX10_lineTelling : ByteArray := prog_12_method_10_code
def yX10_lineTelling : MethodName := ⟨RX10, "lineTelling", "(IIII)I"⟩
abbrev cX10_allHold : ByteArray := prog_12_method_11_code
def yX10_allHold : MethodName := ⟨RX10, "allHold", "(IIII)Z"⟩
abbrev cX10_valueOf : ByteArray := prog_12_method_12_code
def yX10_valueOf : MethodName := ⟨RX10, "valueOf", "(IIII)I"⟩
abbrev cX10_askFor : ByteArray := prog_12_method_13_code
def yX10_askFor : MethodName := ⟨RX10, "askFor", "(IIII)I"⟩
abbrev cX10_canMeet : ByteArray := prog_12_method_14_code
def yX10_canMeet : MethodName := ⟨RX10, "canMeet", "(III)Z"⟩
abbrev cX10_playTo : ByteArray := prog_12_method_15_code
def yX10_playTo : MethodName := ⟨RX10, "playTo", "(II)I"⟩
abbrev cX10_alike : ByteArray := prog_12_method_16_code
def yX10_alike : MethodName := ⟨RX10, "alike", "(II)I"⟩
abbrev cX10_soundsAt : ByteArray := prog_12_method_17_code
def yX10_soundsAt : MethodName := ⟨RX10, "soundsAt", "(II)I"⟩
abbrev cX10_schoolsFact : ByteArray := prog_12_method_18_code
def yX10_schoolsFact : MethodName := ⟨RX10, "schoolsFact", "(II)I"⟩
abbrev cX10_printBy : ByteArray := prog_12_method_19_code
def yX10_printBy : MethodName := ⟨RX10, "printBy", "(III)I"⟩
abbrev cX10_grantFact : ByteArray := prog_12_method_20_code
def yX10_grantFact : MethodName := ⟨RX10, "grantFact", "(II)I"⟩
abbrev cX10_grantState : ByteArray := prog_12_method_21_code
def yX10_grantState : MethodName := ⟨RX10, "grantState", "(IIII)I"⟩
abbrev cX10_countOf : ByteArray := prog_12_method_22_code
def yX10_countOf : MethodName := ⟨RX10, "countOf", "(I)I"⟩
def RX11 : String := "LastTongue"
def TX11 : u_T := fun k => match k with
  | 0 => ("LastTongue", "now", "LLastTongue$World;", true)
  | 1 => ("LastTongue", "images", "[LLastTongue$World;", true)
  | 2 => ("LastTongue", "reader", "LLastTongue$Reader;", false)
  | 3 => ("LastTongue", "finder", "LLastTongue$Finder;", false)
  | 4 => ("LastTongue", "route", "LLastTongue$Route;", false)
  | 5 => ("LastTongue", "copying", "LLastTongue$Copying;", false)
  | _ => ("LastTongue", "maker", "LLastTongue$Maker;", false)
def tyX11 : Nat → FieldType := fun k => match k with
  | 0 => .object "LastTongue$World"
  | 1 => .array (.object "LastTongue$World")
  | 2 => .object "LastTongue$Reader"
  | 3 => .object "LastTongue$Finder"
  | 4 => .object "LastTongue$Route"
  | 5 => .object "LastTongue$Copying"
  | _ => .object "LastTongue$Maker"
theorem nmX11 : ∀ a, a < 7 → ∀ b, b < 7 → a ≠ b → (TX11 a).2.1 ≠ (TX11 b).2.1 := by decide +kernel
theorem tyX11_ok : ∀ k, k < 7 → parseFieldDescriptor (TX11 k).2.2.1 = some (tyX11 k) := by decide +kernel
abbrev cX11_init : ByteArray := prog_1_method_1_code
def yX11_init : MethodName := ⟨RX11, "<init>", "()V"⟩
abbrev cX11_tongue : ByteArray := prog_1_method_2_code
def yX11_tongue : MethodName := ⟨RX11, "tongue", "(I)I"⟩
abbrev cX11_rule : ByteArray := prog_1_method_3_code
def yX11_rule : MethodName := ⟨RX11, "rule", "(IIIII)I"⟩
abbrev cX11_unrule : ByteArray := prog_1_method_4_code
def yX11_unrule : MethodName := ⟨RX11, "unrule", "(I)Z"⟩
abbrev cX11_word : ByteArray := prog_1_method_5_code
def yX11_word : MethodName := ⟨RX11, "word", "(III)Z"⟩
abbrev cX11_form : ByteArray := prog_1_method_6_code
def yX11_form : MethodName := ⟨RX11, "form", "(II)I"⟩
abbrev cX11_field : ByteArray := prog_1_method_7_code
def yX11_field : MethodName := ⟨RX11, "field", "(II)Z"⟩
abbrev cX11_road : ByteArray := prog_1_method_8_code
def yX11_road : MethodName := ⟨RX11, "road", "(III)Z"⟩
abbrev cX11_person : ByteArray := prog_1_method_9_code
def yX11_person : MethodName := ⟨RX11, "person", "(IIII)I"⟩
abbrev cX11_have : ByteArray := prog_1_method_10_code
def yX11_have : MethodName := ⟨RX11, "have", "(II)Z"⟩
abbrev cX11_health : ByteArray := prog_1_method_11_code
def yX11_health : MethodName := ⟨RX11, "health", "(II)Z"⟩
abbrev cX11_go : ByteArray := prog_1_method_12_code
def yX11_go : MethodName := ⟨RX11, "go", "(II)Z"⟩
abbrev cX11_day : ByteArray := prog_1_method_13_code
def yX11_day : MethodName := ⟨RX11, "day", "()I"⟩
abbrev cX11_tell : ByteArray := prog_1_method_14_code
def yX11_tell : MethodName := ⟨RX11, "tell", "(II)I"⟩
abbrev cX11_feed : ByteArray := prog_1_method_15_code
def yX11_feed : MethodName := ⟨RX11, "feed", "(IIIII)I"⟩
abbrev cX11_end : ByteArray := prog_1_method_16_code
def yX11_end : MethodName := ⟨RX11, "end", "(I)I"⟩
abbrev cX11_custom : ByteArray := prog_1_method_17_code
def yX11_custom : MethodName := ⟨RX11, "custom", "(I)I"⟩
abbrev cX11_fault : ByteArray := prog_1_method_18_code
def yX11_fault : MethodName := ⟨RX11, "fault", "(I)I"⟩
abbrev cX11_may : ByteArray := prog_1_method_19_code
def yX11_may : MethodName := ⟨RX11, "may", "(IIII)Z"⟩
abbrev cX11_why : ByteArray := prog_1_method_20_code
def yX11_why : MethodName := ⟨RX11, "why", "(IIII)I"⟩
abbrev cX11_writes : ByteArray := prog_1_method_21_code
def yX11_writes : MethodName := ⟨RX11, "writes", "(II)Z"⟩
abbrev cX11_letter : ByteArray := prog_1_method_22_code
def yX11_letter : MethodName := ⟨RX11, "letter", "(III)Z"⟩
abbrev cX11_tape : ByteArray := prog_1_method_23_code
def yX11_tape : MethodName := ⟨RX11, "tape", "(I)I"⟩
abbrev cX11_copy : ByteArray := prog_1_method_24_code
def yX11_copy : MethodName := ⟨RX11, "copy", "(I)Z"⟩
abbrev cX11_about : ByteArray := prog_1_method_25_code
def yX11_about : MethodName := ⟨RX11, "about", "(II)I"⟩
abbrev cX11_ask : ByteArray := prog_1_method_26_code
def yX11_ask : MethodName := ⟨RX11, "ask", "(IIII)I"⟩
abbrev cX11_row : ByteArray := prog_1_method_27_code
def yX11_row : MethodName := ⟨RX11, "row", "(II)I"⟩
abbrev cX11_play : ByteArray := prog_1_method_28_code
def yX11_play : MethodName := ⟨RX11, "play", "(II)I"⟩
abbrev cX11_known : ByteArray := prog_1_method_29_code
def yX11_known : MethodName := ⟨RX11, "known", "(IIII)I"⟩
abbrev cX11_same : ByteArray := prog_1_method_30_code
def yX11_same : MethodName := ⟨RX11, "same", "(II)I"⟩
abbrev cX11_find : ByteArray := prog_1_method_31_code
def yX11_find : MethodName := ⟨RX11, "find", "(II)I"⟩
abbrev cX11_reading : ByteArray := prog_1_method_32_code
def yX11_reading : MethodName := ⟨RX11, "reading", "(II)I"⟩
abbrev cX11_next : ByteArray := prog_1_method_33_code
def yX11_next : MethodName := ⟨RX11, "next", "(II)I"⟩
abbrev cX11_visits : ByteArray := prog_1_method_34_code
def yX11_visits : MethodName := ⟨RX11, "visits", "(III)I"⟩
abbrev cX11_visited : ByteArray := prog_1_method_35_code
def yX11_visited : MethodName := ⟨RX11, "visited", "(III)I"⟩
abbrev cX11_copies : ByteArray := prog_1_method_36_code
def yX11_copies : MethodName := ⟨RX11, "copies", "(I)I"⟩
abbrev cX11_cost : ByteArray := prog_1_method_37_code
def yX11_cost : MethodName := ⟨RX11, "cost", "(II)Z"⟩
abbrev cX11_schools : ByteArray := prog_1_method_38_code
def yX11_schools : MethodName := ⟨RX11, "schools", "(II)I"⟩
abbrev cX11_teach : ByteArray := prog_1_method_39_code
def yX11_teach : MethodName := ⟨RX11, "teach", "(III)I"⟩
abbrev cX11_make : ByteArray := prog_1_method_40_code
def yX11_make : MethodName := ⟨RX11, "make", "(IIII)I"⟩
abbrev cX11_print : ByteArray := prog_1_method_41_code
def yX11_print : MethodName := ⟨RX11, "print", "(III)I"⟩
abbrev cX11_printed : ByteArray := prog_1_method_42_code
def yX11_printed : MethodName := ⟨RX11, "printed", "(II)I"⟩
abbrev cX11_grant : ByteArray := prog_1_method_43_code
def yX11_grant : MethodName := ⟨RX11, "grant", "(III)I"⟩
abbrev cX11_granted : ByteArray := prog_1_method_44_code
def yX11_granted : MethodName := ⟨RX11, "granted", "(II)I"⟩
abbrev cX11_count : ByteArray := prog_1_method_45_code
def yX11_count : MethodName := ⟨RX11, "count", "(I)I"⟩
abbrev cX11_image : ByteArray := prog_1_method_46_code
def yX11_image : MethodName := ⟨RX11, "image", "(I)Z"⟩
abbrev cX11_again : ByteArray := prog_1_method_47_code
def yX11_again : MethodName := ⟨RX11, "again", "(I)Z"⟩
abbrev cX11_prepareFinder : ByteArray := prog_1_method_48_code
def yX11_prepareFinder : MethodName := ⟨RX11, "prepareFinder", "(I)Z"⟩
abbrev cX11_prepareRoute : ByteArray := prog_1_method_49_code
def yX11_prepareRoute : MethodName := ⟨RX11, "prepareRoute", "(II)Z"⟩
abbrev cX11_within : ByteArray := prog_1_method_50_code
def yX11_within : MethodName := ⟨RX11, "within", "(III)Z"⟩
abbrev cX11_isForm : ByteArray := prog_1_method_51_code
def yX11_isForm : MethodName := ⟨RX11, "isForm", "(I)Z"⟩
abbrev cX11_lengthOf : ByteArray := prog_1_method_52_code
def yX11_lengthOf : MethodName := ⟨RX11, "lengthOf", "(I)I"⟩
abbrev cX11_changed : ByteArray := prog_1_method_53_code
def yX11_changed : MethodName := ⟨RX11, "changed", "(IIIII)I"⟩
abbrev cX11_packedRule : ByteArray := prog_1_method_54_code
def yX11_packedRule : MethodName := ⟨RX11, "packedRule", "(IIII)I"⟩
abbrev cX11_changedBy : ByteArray := prog_1_method_55_code
def yX11_changedBy : MethodName := ⟨RX11, "changedBy", "(II)I"⟩
abbrev cX11_joined : ByteArray := prog_1_method_56_code
def yX11_joined : MethodName := ⟨RX11, "joined", "(II)I"⟩
def RX12 : String := "LastTongueModel"
def TX12 : u_T := fun k => match k with
  | 0 => ("LastTongueModel", "code", "I", false)
  | 1 => ("LastTongueModel", "tape", "[B", true)
  | 2 => ("LastTongueModel", "size", "[I", true)
  | 3 => ("LastTongueModel", "fault", "[I", true)
  | 4 => ("LastTongueModel", "faultPlace", "[I", true)
  | 5 => ("LastTongueModel", "days", "[I", true)
  | 6 => ("LastTongueModel", "tongues", "[I", true)
  | 7 => ("LastTongueModel", "parents", "[I", true)
  | 8 => ("LastTongueModel", "ruleMany", "[I", true)
  | 9 => ("LastTongueModel", "rules", "[I", true)
  | 10 => ("LastTongueModel", "breaks", "[I", true)
  | 11 => ("LastTongueModel", "costs", "[I", true)
  | 12 => ("LastTongueModel", "fields", "[I", true)
  | 13 => ("LastTongueModel", "roads", "[I", true)
  | 14 => ("LastTongueModel", "persons", "[I", true)
  | 15 => ("LastTongueModel", "kinds", "[I", true)
  | 16 => ("LastTongueModel", "clans", "[I", true)
  | 17 => ("LastTongueModel", "tongueOf", "[I", true)
  | 18 => ("LastTongueModel", "places", "[I", true)
  | 19 => ("LastTongueModel", "goals", "[I", true)
  | 20 => ("LastTongueModel", "comes", "[I", true)
  | 21 => ("LastTongueModel", "healths", "[I", true)
  | 22 => ("LastTongueModel", "died", "[I", true)
  | 23 => ("LastTongueModel", "haves", "[I", true)
  | 24 => ("LastTongueModel", "skills", "[I", true)
  | 25 => ("LastTongueModel", "hours", "[I", true)
  | 26 => ("LastTongueModel", "wasTaught", "[Z", true)
  | 27 => ("LastTongueModel", "writings", "[I", true)
  | 28 => ("LastTongueModel", "letters", "[I", true)
  | 29 => ("LastTongueModel", "texts", "[I", true)
  | 30 => ("LastTongueModel", "textFrom", "[I", true)
  | 31 => ("LastTongueModel", "textLines", "[I", true)
  | 32 => ("LastTongueModel", "lineTopic", "[I", true)
  | 33 => ("LastTongueModel", "lineTests", "[I", true)
  | 34 => ("LastTongueModel", "lineYes", "[Z", true)
  | 35 => ("LastTongueModel", "testWhat", "[I", true)
  | 36 => ("LastTongueModel", "testSign", "[I", true)
  | 37 => ("LastTongueModel", "testThan", "[I", true)
  | 38 => ("LastTongueModel", "tapes", "[I", true)
  | 39 => ("LastTongueModel", "lives", "[I", true)
  | 40 => ("LastTongueModel", "copiedOn", "[I", true)
  | 41 => ("LastTongueModel", "rows", "[I", true)
  | 42 => ("LastTongueModel", "rowTongue", "[I", true)
  | 43 => ("LastTongueModel", "rowMeaning", "[I", true)
  | 44 => ("LastTongueModel", "rowWord", "[I", true)
  | 45 => ("LastTongueModel", "rowPerson", "[I", true)
  | 46 => ("LastTongueModel", "rowWorker", "[I", true)
  | 47 => ("LastTongueModel", "rowDay", "[I", true)
  | 48 => ("LastTongueModel", "rowTape", "[I", true)
  | 49 => ("LastTongueModel", "rowWritten", "[I", true)
  | 50 => ("LastTongueModel", "knows", "[S", true)
  | 51 => ("LastTongueModel", "printedMany", "[I", true)
  | 52 => ("LastTongueModel", "printTongue", "[I", true)
  | 53 => ("LastTongueModel", "printMeaning", "[I", true)
  | 54 => ("LastTongueModel", "printForm", "[I", true)
  | 55 => ("LastTongueModel", "printDay", "[I", true)
  | 56 => ("LastTongueModel", "grantMany", "[I", true)
  | 57 => ("LastTongueModel", "grantTongue", "[I", true)
  | 58 => ("LastTongueModel", "grantNeeds", "[I", true)
  | 59 => ("LastTongueModel", "grantBy", "[I", true)
  | 60 => ("LastTongueModel", "sounds", "[I", true)
  | 61 => ("LastTongueModel", "line", "[I", true)
  | 62 => ("LastTongueModel", "ahead", "I", false)
  | 63 => ("LastTongueModel", "length", "I", false)
  | 64 => ("LastTongueModel", "begins", "I", false)
  | 65 => ("LastTongueModel", "sort", "I", false)
  | 66 => ("LastTongueModel", "value", "I", false)
  | 67 => ("LastTongueModel", "word", "J", false)
  | 68 => ("LastTongueModel", "wrongAt", "I", false)
  | 69 => ("LastTongueModel", "laterAt", "I", false)
  | 70 => ("LastTongueModel", "newLines", "I", false)
  | 71 => ("LastTongueModel", "newTopic", "[I", true)
  | 72 => ("LastTongueModel", "newTests", "[I", true)
  | 73 => ("LastTongueModel", "newYes", "[Z", true)
  | 74 => ("LastTongueModel", "newWhat", "[I", true)
  | 75 => ("LastTongueModel", "newSign", "[I", true)
  | 76 => ("LastTongueModel", "newThan", "[I", true)
  | 77 => ("LastTongueModel", "seen", "[I", true)
  | 78 => ("LastTongueModel", "heardMany", "I", false)
  | 79 => ("LastTongueModel", "heardOld", "[I", true)
  | 80 => ("LastTongueModel", "heardNew", "[I", true)
  | 81 => ("LastTongueModel", "heardBits", "I", false)
  | 82 => ("LastTongueModel", "least", "I", false)
  | 83 => ("LastTongueModel", "readings", "I", false)
  | 84 => ("LastTongueModel", "reading", "[I", true)
  | 85 => ("LastTongueModel", "made", "[I", true)
  | 86 => ("LastTongueModel", "many", "I", false)
  | 87 => ("LastTongueModel", "whom", "[I", true)
  | 88 => ("LastTongueModel", "gains", "[I", true)
  | 89 => ("LastTongueModel", "rest", "[I", true)
  | 90 => ("LastTongueModel", "bestSet", "I", false)
  | 91 => ("LastTongueModel", "bestGain", "I", false)
  | 92 => ("LastTongueModel", "bestDays", "I", false)
  | 93 => ("LastTongueModel", "tapeAt", "[I", true)
  | 94 => ("LastTongueModel", "takes", "[I", true)
  | 95 => ("LastTongueModel", "worths", "[I", true)
  | _ => ("LastTongueModel", "kept", "[Z", true)
def tyX12 : Nat → FieldType := fun k => match k with
  | 0 => .int
  | 1 => .array .byte
  | 2 => .array .int
  | 3 => .array .int
  | 4 => .array .int
  | 5 => .array .int
  | 6 => .array .int
  | 7 => .array .int
  | 8 => .array .int
  | 9 => .array .int
  | 10 => .array .int
  | 11 => .array .int
  | 12 => .array .int
  | 13 => .array .int
  | 14 => .array .int
  | 15 => .array .int
  | 16 => .array .int
  | 17 => .array .int
  | 18 => .array .int
  | 19 => .array .int
  | 20 => .array .int
  | 21 => .array .int
  | 22 => .array .int
  | 23 => .array .int
  | 24 => .array .int
  | 25 => .array .int
  | 26 => .array .boolean
  | 27 => .array .int
  | 28 => .array .int
  | 29 => .array .int
  | 30 => .array .int
  | 31 => .array .int
  | 32 => .array .int
  | 33 => .array .int
  | 34 => .array .boolean
  | 35 => .array .int
  | 36 => .array .int
  | 37 => .array .int
  | 38 => .array .int
  | 39 => .array .int
  | 40 => .array .int
  | 41 => .array .int
  | 42 => .array .int
  | 43 => .array .int
  | 44 => .array .int
  | 45 => .array .int
  | 46 => .array .int
  | 47 => .array .int
  | 48 => .array .int
  | 49 => .array .int
  | 50 => .array .short
  | 51 => .array .int
  | 52 => .array .int
  | 53 => .array .int
  | 54 => .array .int
  | 55 => .array .int
  | 56 => .array .int
  | 57 => .array .int
  | 58 => .array .int
  | 59 => .array .int
  | 60 => .array .int
  | 61 => .array .int
  | 62 => .int
  | 63 => .int
  | 64 => .int
  | 65 => .int
  | 66 => .int
  | 67 => .long
  | 68 => .int
  | 69 => .int
  | 70 => .int
  | 71 => .array .int
  | 72 => .array .int
  | 73 => .array .boolean
  | 74 => .array .int
  | 75 => .array .int
  | 76 => .array .int
  | 77 => .array .int
  | 78 => .int
  | 79 => .array .int
  | 80 => .array .int
  | 81 => .int
  | 82 => .int
  | 83 => .int
  | 84 => .array .int
  | 85 => .array .int
  | 86 => .int
  | 87 => .array .int
  | 88 => .array .int
  | 89 => .array .int
  | 90 => .int
  | 91 => .int
  | 92 => .int
  | 93 => .array .int
  | 94 => .array .int
  | 95 => .array .int
  | _ => .array .boolean
theorem nmX12 : ∀ a, a < 97 → ∀ b, b < 97 → a ≠ b → (TX12 a).2.1 ≠ (TX12 b).2.1 := by decide +kernel
theorem tyX12_ok : ∀ k, k < 97 → parseFieldDescriptor (TX12 k).2.2.1 = some (tyX12 k) := by decide +kernel
abbrev cX12_init : ByteArray := prog_14_method_1_code
def yX12_init : MethodName := ⟨RX12, "<init>", "()V"⟩
abbrev cX12_in : ByteArray := prog_14_method_3_code
def yX12_in : MethodName := ⟨RX12, "in", "(III)Z"⟩
abbrev cX12_move : ByteArray := prog_14_method_4_code
def yX12_move : MethodName := ⟨RX12, "move", "([IIII)V"⟩
abbrev cX12_moveBits : ByteArray := prog_14_method_5_code
def yX12_moveBits : MethodName := ⟨RX12, "moveBits", "([ZIII)V"⟩
abbrev cX12_copyAll : ByteArray := prog_14_method_6_code
def yX12_copyAll : MethodName := ⟨RX12, "copyAll", "(II)V"⟩
abbrev cX12_copyPersons : ByteArray := prog_14_method_7_code
def yX12_copyPersons : MethodName := ⟨RX12, "copyPersons", "(II)V"⟩
abbrev cX12_copyRows : ByteArray := prog_14_method_8_code
def yX12_copyRows : MethodName := ⟨RX12, "copyRows", "(II)V"⟩
abbrev cX12_isTongue : ByteArray := prog_14_method_9_code
def yX12_isTongue : MethodName := ⟨RX12, "isTongue", "(I)Z"⟩
abbrev cX12_isMeaning : ByteArray := prog_14_method_10_code
def yX12_isMeaning : MethodName := ⟨RX12, "isMeaning", "(I)Z"⟩
abbrev cX12_isPlace : ByteArray := prog_14_method_11_code
def yX12_isPlace : MethodName := ⟨RX12, "isPlace", "(I)Z"⟩
abbrev cX12_isPerson : ByteArray := prog_14_method_12_code
def yX12_isPerson : MethodName := ⟨RX12, "isPerson", "(I)Z"⟩
abbrev cX12_isAlive : ByteArray := prog_14_method_13_code
def yX12_isAlive : MethodName := ⟨RX12, "isAlive", "(I)Z"⟩
abbrev cX12_isWorker : ByteArray := prog_14_method_14_code
def yX12_isWorker : MethodName := ⟨RX12, "isWorker", "(I)Z"⟩
abbrev cX12_isDay : ByteArray := prog_14_method_15_code
def yX12_isDay : MethodName := ⟨RX12, "isDay", "(I)Z"⟩
abbrev cX12_isForm : ByteArray := prog_14_method_16_code
def yX12_isForm : MethodName := ⟨RX12, "isForm", "(I)Z"⟩
abbrev cX12_lengthOf : ByteArray := prog_14_method_17_code
def yX12_lengthOf : MethodName := ⟨RX12, "lengthOf", "(I)I"⟩
abbrev cX12_spread : ByteArray := prog_14_method_18_code
def yX12_spread : MethodName := ⟨RX12, "spread", "(I)I"⟩
abbrev cX12_ruled : ByteArray := prog_14_method_19_code
def yX12_ruled : MethodName := ⟨RX12, "ruled", "(II)I"⟩
abbrev cX12_allRules : ByteArray := prog_14_method_20_code
def yX12_allRules : MethodName := ⟨RX12, "allRules", "(II)I"⟩
abbrev cX12_wordOf : ByteArray := prog_14_method_21_code
def yX12_wordOf : MethodName := ⟨RX12, "wordOf", "(II)I"⟩
abbrev cX12_tongue : ByteArray := prog_14_method_22_code
def yX12_tongue : MethodName := ⟨RX12, "tongue", "(I)I"⟩
abbrev cX12_rule : ByteArray := prog_14_method_23_code
def yX12_rule : MethodName := ⟨RX12, "rule", "(IIIII)I"⟩
abbrev cX12_unrule : ByteArray := prog_14_method_24_code
def yX12_unrule : MethodName := ⟨RX12, "unrule", "(I)Z"⟩
abbrev cX12_word : ByteArray := prog_14_method_25_code
def yX12_word : MethodName := ⟨RX12, "word", "(III)Z"⟩
abbrev cX12_form : ByteArray := prog_14_method_26_code
def yX12_form : MethodName := ⟨RX12, "form", "(II)I"⟩
abbrev cX12_field : ByteArray := prog_14_method_27_code
def yX12_field : MethodName := ⟨RX12, "field", "(II)Z"⟩
abbrev cX12_road : ByteArray := prog_14_method_28_code
def yX12_road : MethodName := ⟨RX12, "road", "(III)Z"⟩
abbrev cX12_person : ByteArray := prog_14_method_29_code
def yX12_person : MethodName := ⟨RX12, "person", "(IIII)I"⟩
abbrev cX12_have : ByteArray := prog_14_method_30_code
def yX12_have : MethodName := ⟨RX12, "have", "(II)Z"⟩
abbrev cX12_health : ByteArray := prog_14_method_31_code
def yX12_health : MethodName := ⟨RX12, "health", "(II)Z"⟩
abbrev cX12_go : ByteArray := prog_14_method_32_code
def yX12_go : MethodName := ⟨RX12, "go", "(II)Z"⟩
abbrev cX12_arrive : ByteArray := prog_14_method_33_code
def yX12_arrive : MethodName := ⟨RX12, "arrive", "(I)V"⟩
abbrev cX12_day : ByteArray := prog_14_method_34_code
def yX12_day : MethodName := ⟨RX12, "day", "()I"⟩
abbrev cX12_says : ByteArray := prog_14_method_35_code
def yX12_says : MethodName := ⟨RX12, "says", "(II)Z"⟩
abbrev cX12_saysAll : ByteArray := prog_14_method_36_code
def yX12_saysAll : MethodName := ⟨RX12, "saysAll", "(I)I"⟩
abbrev cX12_ones : ByteArray := prog_14_method_37_code
def yX12_ones : MethodName := ⟨RX12, "ones", "(I)I"⟩
abbrev cX12_saidOf : ByteArray := prog_14_method_38_code
def yX12_saidOf : MethodName := ⟨RX12, "saidOf", "(II)I"⟩
abbrev cX12_heldOf : ByteArray := prog_14_method_39_code
def yX12_heldOf : MethodName := ⟨RX12, "heldOf", "(I)I"⟩
abbrev cX12_onlyOf : ByteArray := prog_14_method_40_code
def yX12_onlyOf : MethodName := ⟨RX12, "onlyOf", "(I)I"⟩
abbrev cX12_tell : ByteArray := prog_14_method_41_code
def yX12_tell : MethodName := ⟨RX12, "tell", "(II)I"⟩
abbrev cX12_knownMany : ByteArray := prog_14_method_42_code
def yX12_knownMany : MethodName := ⟨RX12, "knownMany", "(I)I"⟩
abbrev cX12_feed : ByteArray := prog_14_method_43_code
def yX12_feed : MethodName := ⟨RX12, "feed", "(IIIII)I"⟩
abbrev cX12_four : ByteArray := prog_14_method_44_code
def yX12_four : MethodName := ⟨RX12, "four", "(I)V"⟩
abbrev cX12_end : ByteArray := prog_14_method_45_code
def yX12_end : MethodName := ⟨RX12, "end", "(I)I"⟩
abbrev cX12_see : ByteArray := prog_14_method_46_code
def yX12_see : MethodName := ⟨RX12, "see", "()I"⟩
abbrev cX12_token : ByteArray := prog_14_method_47_code
def yX12_token : MethodName := ⟨RX12, "token", "()V"⟩
abbrev cX12_isWord : ByteArray := prog_14_method_48_code
def yX12_isWord : MethodName := ⟨RX12, "isWord", "(J)Z"⟩
abbrev cX12_wrong : ByteArray := prog_14_method_49_code
def yX12_wrong : MethodName := ⟨RX12, "wrong", "()Z"⟩
abbrev cX12_tooMany : ByteArray := prog_14_method_50_code
def yX12_tooMany : MethodName := ⟨RX12, "tooMany", "()V"⟩
abbrev cX12_need : ByteArray := prog_14_method_51_code
def yX12_need : MethodName := ⟨RX12, "need", "(I)Z"⟩
abbrev cX12_test : ByteArray := prog_14_method_52_code
def yX12_test : MethodName := ⟨RX12, "test", "(II)Z"⟩
abbrev cX12_oneLine : ByteArray := prog_14_method_53_code
def yX12_oneLine : MethodName := ⟨RX12, "oneLine", "()Z"⟩
abbrev cX12_custom : ByteArray := prog_14_method_54_code
def yX12_custom : MethodName := ⟨RX12, "custom", "(I)I"⟩
abbrev cX12_fault : ByteArray := prog_14_method_55_code
def yX12_fault : MethodName := ⟨RX12, "fault", "(I)I"⟩
abbrev cX12_textNow : ByteArray := prog_14_method_56_code
def yX12_textNow : MethodName := ⟨RX12, "textNow", "()I"⟩
abbrev cX12_holds : ByteArray := prog_14_method_57_code
def yX12_holds : MethodName := ⟨RX12, "holds", "(I)Z"⟩
abbrev cX12_teller : ByteArray := prog_14_method_58_code
def yX12_teller : MethodName := ⟨RX12, "teller", "(IIII)I"⟩
abbrev cX12_mayBe : ByteArray := prog_14_method_59_code
def yX12_mayBe : MethodName := ⟨RX12, "mayBe", "(IIII)Z"⟩
abbrev cX12_areAll : ByteArray := prog_14_method_60_code
def yX12_areAll : MethodName := ⟨RX12, "areAll", "(IIII)Z"⟩
abbrev cX12_may : ByteArray := prog_14_method_61_code
def yX12_may : MethodName := ⟨RX12, "may", "(IIII)Z"⟩
abbrev cX12_why : ByteArray := prog_14_method_62_code
def yX12_why : MethodName := ⟨RX12, "why", "(IIII)I"⟩
abbrev cX12_writes : ByteArray := prog_14_method_63_code
def yX12_writes : MethodName := ⟨RX12, "writes", "(II)Z"⟩
abbrev cX12_letter : ByteArray := prog_14_method_64_code
def yX12_letter : MethodName := ⟨RX12, "letter", "(III)Z"⟩
abbrev cX12_tape : ByteArray := prog_14_method_65_code
def yX12_tape : MethodName := ⟨RX12, "tape", "(I)I"⟩
abbrev cX12_isTape : ByteArray := prog_14_method_66_code
def yX12_isTape : MethodName := ⟨RX12, "isTape", "(I)Z"⟩
abbrev cX12_goneOn : ByteArray := prog_14_method_67_code
def yX12_goneOn : MethodName := ⟨RX12, "goneOn", "(I)I"⟩
abbrev cX12_isGone : ByteArray := prog_14_method_68_code
def yX12_isGone : MethodName := ⟨RX12, "isGone", "(I)Z"⟩
abbrev cX12_copy : ByteArray := prog_14_method_69_code
def yX12_copy : MethodName := ⟨RX12, "copy", "(I)Z"⟩
abbrev cX12_isHeld : ByteArray := prog_14_method_70_code
def yX12_isHeld : MethodName := ⟨RX12, "isHeld", "(I)Z"⟩
abbrev cX12_rowsOn : ByteArray := prog_14_method_71_code
def yX12_rowsOn : MethodName := ⟨RX12, "rowsOn", "(I)I"⟩
abbrev cX12_isAgain : ByteArray := prog_14_method_72_code
def yX12_isAgain : MethodName := ⟨RX12, "isAgain", "(II)Z"⟩
abbrev cX12_worthOf : ByteArray := prog_14_method_73_code
def yX12_worthOf : MethodName := ⟨RX12, "worthOf", "(I)I"⟩
abbrev cX12_about : ByteArray := prog_14_method_74_code
def yX12_about : MethodName := ⟨RX12, "about", "(II)I"⟩
abbrev cX12_written : ByteArray := prog_14_method_75_code
def yX12_written : MethodName := ⟨RX12, "written", "(IIIZ)I"⟩
abbrev cX12_canAsk : ByteArray := prog_14_method_76_code
def yX12_canAsk : MethodName := ⟨RX12, "canAsk", "(IIII)Z"⟩
abbrev cX12_ask : ByteArray := prog_14_method_77_code
def yX12_ask : MethodName := ⟨RX12, "ask", "(IIII)I"⟩
abbrev cX12_row : ByteArray := prog_14_method_78_code
def yX12_row : MethodName := ⟨RX12, "row", "(II)I"⟩
abbrev cX12_play : ByteArray := prog_14_method_79_code
def yX12_play : MethodName := ⟨RX12, "play", "(II)I"⟩
abbrev cX12_known : ByteArray := prog_14_method_80_code
def yX12_known : MethodName := ⟨RX12, "known", "(IIII)I"⟩
abbrev cX12_soundsAt : ByteArray := prog_14_method_81_code
def yX12_soundsAt : MethodName := ⟨RX12, "soundsAt", "(II)I"⟩
abbrev cX12_same : ByteArray := prog_14_method_82_code
def yX12_same : MethodName := ⟨RX12, "same", "(II)I"⟩
abbrev cX12_findHeard : ByteArray := prog_14_method_83_code
def yX12_findHeard : MethodName := ⟨RX12, "findHeard", "(I)V"⟩
abbrev cX12_offOf : ByteArray := prog_14_method_84_code
def yX12_offOf : MethodName := ⟨RX12, "offOf", "(I)I"⟩
abbrev cX12_isRule : ByteArray := prog_14_method_85_code
def yX12_isRule : MethodName := ⟨RX12, "isRule", "(I)Z"⟩
abbrev cX12_zeros : ByteArray := prog_14_method_86_code
def yX12_zeros : MethodName := ⟨RX12, "zeros", "(I)I"⟩
abbrev cX12_findReadings : ByteArray := prog_14_method_87_code
def yX12_findReadings : MethodName := ⟨RX12, "findReadings", "(I)V"⟩
abbrev cX12_isBorn : ByteArray := prog_14_method_88_code
def yX12_isBorn : MethodName := ⟨RX12, "isBorn", "(I)Z"⟩
abbrev cX12_find : ByteArray := prog_14_method_89_code
def yX12_find : MethodName := ⟨RX12, "find", "(II)I"⟩
abbrev cX12_reading : ByteArray := prog_14_method_90_code
def yX12_reading : MethodName := ⟨RX12, "reading", "(II)I"⟩
abbrev cX12_mostAlike : ByteArray := prog_14_method_91_code
def yX12_mostAlike : MethodName := ⟨RX12, "mostAlike", "(I)I"⟩
abbrev cX12_whomOf : ByteArray := prog_14_method_92_code
def yX12_whomOf : MethodName := ⟨RX12, "whomOf", "(II)I"⟩
abbrev cX12_next : ByteArray := prog_14_method_93_code
def yX12_next : MethodName := ⟨RX12, "next", "(II)I"⟩
abbrev cX12_roadOf : ByteArray := prog_14_method_94_code
def yX12_roadOf : MethodName := ⟨RX12, "roadOf", "(II)I"⟩
abbrev cX12_findVisits : ByteArray := prog_14_method_95_code
def yX12_findVisits : MethodName := ⟨RX12, "findVisits", "(II)V"⟩
abbrev cX12_canVisit : ByteArray := prog_14_method_96_code
def yX12_canVisit : MethodName := ⟨RX12, "canVisit", "(II)Z"⟩
abbrev cX12_visits : ByteArray := prog_14_method_97_code
def yX12_visits : MethodName := ⟨RX12, "visits", "(III)I"⟩
abbrev cX12_visited : ByteArray := prog_14_method_98_code
def yX12_visited : MethodName := ⟨RX12, "visited", "(III)I"⟩
abbrev cX12_copies : ByteArray := prog_14_method_99_code
def yX12_copies : MethodName := ⟨RX12, "copies", "(I)I"⟩
abbrev cX12_cost : ByteArray := prog_14_method_100_code
def yX12_cost : MethodName := ⟨RX12, "cost", "(II)Z"⟩
abbrev cX12_schools : ByteArray := prog_14_method_101_code
def yX12_schools : MethodName := ⟨RX12, "schools", "(II)I"⟩
abbrev cX12_teach : ByteArray := prog_14_method_102_code
def yX12_teach : MethodName := ⟨RX12, "teach", "(III)I"⟩
abbrev cX12_isWordThere : ByteArray := prog_14_method_103_code
def yX12_isWordThere : MethodName := ⟨RX12, "isWordThere", "(II)Z"⟩
abbrev cX12_joined : ByteArray := prog_14_method_104_code
def yX12_joined : MethodName := ⟨RX12, "joined", "(II)I"⟩
abbrev cX12_findMade : ByteArray := prog_14_method_105_code
def yX12_findMade : MethodName := ⟨RX12, "findMade", "(II)I"⟩
abbrev cX12_keepMade : ByteArray := prog_14_method_106_code
def yX12_keepMade : MethodName := ⟨RX12, "keepMade", "(II)I"⟩
abbrev cX12_make : ByteArray := prog_14_method_107_code
def yX12_make : MethodName := ⟨RX12, "make", "(IIII)I"⟩
abbrev cX12_latestRow : ByteArray := prog_14_method_108_code
def yX12_latestRow : MethodName := ⟨RX12, "latestRow", "(II)I"⟩
abbrev cX12_print : ByteArray := prog_14_method_109_code
def yX12_print : MethodName := ⟨RX12, "print", "(III)I"⟩
abbrev cX12_fell : ByteArray := prog_14_method_110_code
def yX12_fell : MethodName := ⟨RX12, "fell", "(I)Z"⟩
abbrev cX12_printed : ByteArray := prog_14_method_111_code
def yX12_printed : MethodName := ⟨RX12, "printed", "(II)I"⟩
abbrev cX12_grant : ByteArray := prog_14_method_112_code
def yX12_grant : MethodName := ⟨RX12, "grant", "(III)I"⟩
abbrev cX12_grantHas : ByteArray := prog_14_method_113_code
def yX12_grantHas : MethodName := ⟨RX12, "grantHas", "(I)I"⟩
abbrev cX12_granted : ByteArray := prog_14_method_114_code
def yX12_granted : MethodName := ⟨RX12, "granted", "(II)I"⟩
abbrev cX12_count : ByteArray := prog_14_method_115_code
def yX12_count : MethodName := ⟨RX12, "count", "(I)I"⟩
abbrev cX12_image : ByteArray := prog_14_method_116_code
def yX12_image : MethodName := ⟨RX12, "image", "(I)Z"⟩
abbrev cX12_again : ByteArray := prog_14_method_117_code
def yX12_again : MethodName := ⟨RX12, "again", "(I)Z"⟩
def RJx145de : String := "java/io/Serializable"
def RJx9f9b0 : String := "java/lang/CharSequence"
def RJxb160c : String := "java/lang/Comparable"
def RJ6 : String := "java/lang/Integer"
abbrev cJ6_compare_7cf53 : ByteArray := prog_15_method_40_code
def yJ6_compare_7cf53 : MethodName := ⟨RJ6, "compare", "(II)I"⟩
abbrev cJ6_bitCount_0f7a4 : ByteArray := prog_15_method_49_code
def yJ6_bitCount_0f7a4 : MethodName := ⟨RJ6, "bitCount", "(I)I"⟩
def RJ9 : String := "java/lang/Math"
abbrev cJ9_max_7cf53 : ByteArray := prog_16_method_65_code
def yJ9_max_7cf53 : MethodName := ⟨RJ9, "max", "(II)I"⟩
abbrev cJ9_min_7cf53 : ByteArray := prog_16_method_69_code
def yJ9_min_7cf53 : MethodName := ⟨RJ9, "min", "(II)I"⟩
def RJ0 : String := "java/lang/String"
abbrev cJ0_length_8abf5 : ByteArray := prog_17_method_54_code
def yJ0_length_8abf5 : MethodName := ⟨RJ0, "length", "()I"⟩
abbrev cJ0_charAt_5068e : ByteArray := prog_17_method_56_code
def yJ0_charAt_5068e : MethodName := ⟨RJ0, "charAt", "(I)C"⟩
abbrev cJ0_coder_7d493 : ByteArray := prog_17_method_152_code
def yJ0_coder_7d493 : MethodName := ⟨RJ0, "coder", "()B"⟩
abbrev cJ0_isLatin1_aae02 : ByteArray := prog_17_method_154_code
def yJ0_isLatin1_aae02 : MethodName := ⟨RJ0, "isLatin1", "()Z"⟩
abbrev cJ0_checkIndex_df160 : ByteArray := prog_17_method_155_code
def yJ0_checkIndex_df160 : MethodName := ⟨RJ0, "checkIndex", "(II)V"⟩
def RJ1 : String := "java/lang/StringLatin1"
abbrev cJ1_charAt_3b067 : ByteArray := prog_18_method_2_code
def yJ1_charAt_3b067 : MethodName := ⟨RJ1, "charAt", "([BI)C"⟩
def RJ2 : String := "java/lang/StringUTF16"
abbrev cJ2_getChar_3b067 : ByteArray := prog_19_method_5_code
def yJ2_getChar_3b067 : MethodName := ⟨RJ2, "getChar", "([BI)C"⟩
abbrev cJ2_length_9d52b : ByteArray := prog_19_method_6_code
def yJ2_length_9d52b : MethodName := ⟨RJ2, "length", "([B)I"⟩
abbrev cJ2_charAt_3b067 : ByteArray := prog_19_method_83_code
def yJ2_charAt_3b067 : MethodName := ⟨RJ2, "charAt", "([BI)C"⟩
abbrev cJ2_checkIndex_2214a : ByteArray := prog_19_method_91_code
def yJ2_checkIndex_2214a : MethodName := ⟨RJ2, "checkIndex", "(I[B)V"⟩
def RJ10 : String := "java/lang/System"
def RJxfd54e : String := "java/lang/constant/Constable"
def RJx3cf43 : String := "java/lang/constant/ConstantDesc"
def RJ7 : String := "java/util/Arrays"
abbrev cJ7_fill_53178 : ByteArray := prog_21_method_103_code
def yJ7_fill_53178 : MethodName := ⟨RJ7, "fill", "([II)V"⟩
def RJ3 : String := "jdk/internal/util/Preconditions"
abbrev cJ3_checkIndex_8e157 : ByteArray := prog_22_method_11_code
def yJ3_checkIndex_8e157 : MethodName := ⟨RJ3, "checkIndex", "(IILjava/util/function/BiFunction;)I"⟩
def RL : String := "LastTongueLaw"
abbrev cL_law : ByteArray := code
def yL_law : MethodName := ⟨RL, "law", "([I)Z"⟩
theorem dX0_init_0 : decode cX0_init 0 = .ok (.aload_n 0, 1) := by decide +kernel
theorem dX0_init_1 : decode cX0_init 1 = .ok (.invokespecial 3, 3) := by decide +kernel
theorem dX0_init_4 : decode cX0_init 4 = .ok (.aload_n 0, 1) := by decide +kernel
theorem dX0_init_5 : decode cX0_init 5 = .ok (.bipush 32, 2) := by decide +kernel
theorem dX0_init_7 : decode cX0_init 7 = .ok (.newarray .int, 2) := by decide +kernel
theorem dX0_init_9 : decode cX0_init 9 = .ok (.putfield 9, 3) := by decide +kernel
theorem dX0_init_12 : decode cX0_init 12 = .ok (.aload_n 0, 1) := by decide +kernel
theorem dX0_init_13 : decode cX0_init 13 = .ok (.iconst 0, 1) := by decide +kernel
theorem dX0_init_14 : decode cX0_init 14 = .ok (.putfield 15, 3) := by decide +kernel
theorem dX0_init_17 : decode cX0_init 17 = .ok (.aload_n 0, 1) := by decide +kernel
theorem dX0_init_18 : decode cX0_init 18 = .ok (.bipush 16, 2) := by decide +kernel
theorem dX0_init_20 : decode cX0_init 20 = .ok (.newarray .int, 2) := by decide +kernel
theorem dX0_init_22 : decode cX0_init 22 = .ok (.putfield 19, 3) := by decide +kernel
theorem dX0_init_25 : decode cX0_init 25 = .ok (.aload_n 0, 1) := by decide +kernel
theorem dX0_init_26 : decode cX0_init 26 = .ok (.bipush 16, 2) := by decide +kernel
theorem dX0_init_28 : decode cX0_init 28 = .ok (.newarray .int, 2) := by decide +kernel
theorem dX0_init_30 : decode cX0_init 30 = .ok (.putfield 22, 3) := by decide +kernel
theorem dX0_init_33 : decode cX0_init 33 = .ok (.aload_n 0, 1) := by decide +kernel
theorem dX0_init_34 : decode cX0_init 34 = .ok (.iconst 0, 1) := by decide +kernel
theorem dX0_init_35 : decode cX0_init 35 = .ok (.putfield 25, 3) := by decide +kernel
theorem dX0_init_38 : decode cX0_init 38 = .ok (.aload_n 0, 1) := by decide +kernel
theorem dX0_init_39 : decode cX0_init 39 = .ok (.bipush 120, 2) := by decide +kernel
theorem dX0_init_41 : decode cX0_init 41 = .ok (.newarray .int, 2) := by decide +kernel
theorem dX0_init_43 : decode cX0_init 43 = .ok (.putfield 28, 3) := by decide +kernel
theorem dX0_init_46 : decode cX0_init 46 = .ok (.aload_n 0, 1) := by decide +kernel
theorem dX0_init_47 : decode cX0_init 47 = .ok (.bipush 120, 2) := by decide +kernel
theorem dX0_init_49 : decode cX0_init 49 = .ok (.newarray .int, 2) := by decide +kernel
theorem dX0_init_51 : decode cX0_init 51 = .ok (.putfield 31, 3) := by decide +kernel
theorem dX0_init_54 : decode cX0_init 54 = .ok (.aload_n 0, 1) := by decide +kernel
theorem dX0_init_55 : decode cX0_init 55 = .ok (.bipush 120, 2) := by decide +kernel
theorem dX0_init_57 : decode cX0_init 57 = .ok (.newarray .int, 2) := by decide +kernel
theorem dX0_init_59 : decode cX0_init 59 = .ok (.putfield 34, 3) := by decide +kernel
theorem dX0_init_62 : decode cX0_init 62 = .ok (.aload_n 0, 1) := by decide +kernel
theorem dX0_init_63 : decode cX0_init 63 = .ok (.bipush 120, 2) := by decide +kernel
theorem dX0_init_65 : decode cX0_init 65 = .ok (.newarray .int, 2) := by decide +kernel
theorem dX0_init_67 : decode cX0_init 67 = .ok (.putfield 37, 3) := by decide +kernel
theorem dX0_init_70 : decode cX0_init 70 = .ok (.aload_n 0, 1) := by decide +kernel
theorem dX0_init_71 : decode cX0_init 71 = .ok (.bipush 120, 2) := by decide +kernel
theorem dX0_init_73 : decode cX0_init 73 = .ok (.newarray .int, 2) := by decide +kernel
theorem dX0_init_75 : decode cX0_init 75 = .ok (.putfield 40, 3) := by decide +kernel
theorem dX0_init_78 : decode cX0_init 78 = .ok (.aload_n 0, 1) := by decide +kernel
theorem dX0_init_79 : decode cX0_init 79 = .ok (.bipush 120, 2) := by decide +kernel
theorem dX0_init_81 : decode cX0_init 81 = .ok (.newarray .int, 2) := by decide +kernel
theorem dX0_init_83 : decode cX0_init 83 = .ok (.putfield 43, 3) := by decide +kernel
theorem dX0_init_86 : decode cX0_init 86 = .ok (.aload_n 0, 1) := by decide +kernel
theorem dX0_init_87 : decode cX0_init 87 = .ok (.bipush 120, 2) := by decide +kernel
theorem dX0_init_89 : decode cX0_init 89 = .ok (.newarray .int, 2) := by decide +kernel
theorem dX0_init_91 : decode cX0_init 91 = .ok (.putfield 46, 3) := by decide +kernel
theorem dX0_init_94 : decode cX0_init 94 = .ok (.aload_n 0, 1) := by decide +kernel
theorem dX0_init_95 : decode cX0_init 95 = .ok (.bipush 120, 2) := by decide +kernel
theorem dX0_init_97 : decode cX0_init 97 = .ok (.newarray .int, 2) := by decide +kernel
theorem dX0_init_99 : decode cX0_init 99 = .ok (.putfield 49, 3) := by decide +kernel
theorem dX0_init_102 : decode cX0_init 102 = .ok (.aload_n 0, 1) := by decide +kernel
theorem dX0_init_103 : decode cX0_init 103 = .ok (.sipush 1920, 3) := by decide +kernel
theorem dX0_init_106 : decode cX0_init 106 = .ok (.newarray .int, 2) := by decide +kernel
theorem dX0_init_108 : decode cX0_init 108 = .ok (.putfield 52, 3) := by decide +kernel
theorem dX0_init_111 : decode cX0_init 111 = .ok (.iconst 0, 1) := by decide +kernel
theorem dX0_init_112 : decode cX0_init 112 = .ok (.istore_n 1, 1) := by decide +kernel
theorem dX0_init_113 : decode cX0_init 113 = .ok (.iload_n 1, 1) := by decide +kernel
theorem dX0_init_114 : decode cX0_init 114 = .ok (.bipush 32, 2) := by decide +kernel
theorem dX0_init_116 : decode cX0_init 116 = .ok (.if_icmp .ge 21, 3) := by decide +kernel
theorem dX0_init_119 : decode cX0_init 119 = .ok (.aload_n 0, 1) := by decide +kernel
theorem dX0_init_120 : decode cX0_init 120 = .ok (.getfield 9, 3) := by decide +kernel
theorem dX0_init_123 : decode cX0_init 123 = .ok (.iload_n 1, 1) := by decide +kernel
theorem dX0_init_124 : decode cX0_init 124 = .ok (.iload_n 1, 1) := by decide +kernel
theorem dX0_init_125 : decode cX0_init 125 = .ok (.bipush 8, 2) := by decide +kernel
theorem dX0_init_127 : decode cX0_init 127 = .ok (.irem, 1) := by decide +kernel
theorem dX0_init_128 : decode cX0_init 128 = .ok (.iconst 1, 1) := by decide +kernel
theorem dX0_init_129 : decode cX0_init 129 = .ok (.iadd, 1) := by decide +kernel
theorem dX0_init_130 : decode cX0_init 130 = .ok (.iastore, 1) := by decide +kernel
theorem dX0_init_131 : decode cX0_init 131 = .ok (.iinc 1 1, 3) := by decide +kernel
theorem dX0_init_134 : decode cX0_init 134 = .ok (.goto (-21), 3) := by decide +kernel
theorem dX0_init_137 : decode cX0_init 137 = .ok (.aload_n 0, 1) := by decide +kernel
theorem dX0_init_138 : decode cX0_init 138 = .ok (.getfield 52, 3) := by decide +kernel
theorem dX0_init_141 : decode cX0_init 141 = .ok (.iconst (-1), 1) := by decide +kernel
theorem dX0_init_142 : decode cX0_init 142 = .ok (.invokestatic 55, 3) := by decide +kernel
theorem dX0_init_145 : decode cX0_init 145 = .ok (.return_, 1) := by decide +kernel
theorem dX0_become_0 : decode cX0_become 0 = .ok (.aload_n 0, 1) := by decide +kernel
theorem dX0_become_1 : decode cX0_become 1 = .ok (.aload_n 1, 1) := by decide +kernel
theorem dX0_become_2 : decode cX0_become 2 = .ok (.getfield 15, 3) := by decide +kernel
theorem dX0_become_5 : decode cX0_become 5 = .ok (.putfield 15, 3) := by decide +kernel
theorem dX0_become_8 : decode cX0_become 8 = .ok (.aload_n 0, 1) := by decide +kernel
theorem dX0_become_9 : decode cX0_become 9 = .ok (.aload_n 1, 1) := by decide +kernel
theorem dX0_become_10 : decode cX0_become 10 = .ok (.getfield 25, 3) := by decide +kernel
theorem dX0_become_13 : decode cX0_become 13 = .ok (.putfield 25, 3) := by decide +kernel
theorem dX0_become_16 : decode cX0_become 16 = .ok (.aload_n 1, 1) := by decide +kernel
theorem dX0_become_17 : decode cX0_become 17 = .ok (.getfield 9, 3) := by decide +kernel
theorem dX0_become_20 : decode cX0_become 20 = .ok (.iconst 0, 1) := by decide +kernel
theorem dX0_become_21 : decode cX0_become 21 = .ok (.aload_n 0, 1) := by decide +kernel
theorem dX0_become_22 : decode cX0_become 22 = .ok (.getfield 9, 3) := by decide +kernel
theorem dX0_become_25 : decode cX0_become 25 = .ok (.iconst 0, 1) := by decide +kernel
theorem dX0_become_26 : decode cX0_become 26 = .ok (.aload_n 0, 1) := by decide +kernel
theorem dX0_become_27 : decode cX0_become 27 = .ok (.getfield 9, 3) := by decide +kernel
theorem dX0_become_30 : decode cX0_become 30 = .ok (.arraylength, 1) := by decide +kernel
theorem dX0_become_31 : decode cX0_become 31 = .ok (.invokestatic 61, 3) := by decide +kernel
theorem dX0_become_34 : decode cX0_become 34 = .ok (.aload_n 1, 1) := by decide +kernel
theorem dX0_become_35 : decode cX0_become 35 = .ok (.getfield 19, 3) := by decide +kernel
theorem dX0_become_38 : decode cX0_become 38 = .ok (.iconst 0, 1) := by decide +kernel
theorem dX0_become_39 : decode cX0_become 39 = .ok (.aload_n 0, 1) := by decide +kernel
theorem dX0_become_40 : decode cX0_become 40 = .ok (.getfield 19, 3) := by decide +kernel
theorem dX0_become_43 : decode cX0_become 43 = .ok (.iconst 0, 1) := by decide +kernel
theorem dX0_become_44 : decode cX0_become 44 = .ok (.bipush 16, 2) := by decide +kernel
theorem dX0_become_46 : decode cX0_become 46 = .ok (.invokestatic 61, 3) := by decide +kernel
theorem dX0_become_49 : decode cX0_become 49 = .ok (.aload_n 1, 1) := by decide +kernel
theorem dX0_become_50 : decode cX0_become 50 = .ok (.getfield 22, 3) := by decide +kernel
theorem dX0_become_53 : decode cX0_become 53 = .ok (.iconst 0, 1) := by decide +kernel
theorem dX0_become_54 : decode cX0_become 54 = .ok (.aload_n 0, 1) := by decide +kernel
theorem dX0_become_55 : decode cX0_become 55 = .ok (.getfield 22, 3) := by decide +kernel
theorem dX0_become_58 : decode cX0_become 58 = .ok (.iconst 0, 1) := by decide +kernel
theorem dX0_become_59 : decode cX0_become 59 = .ok (.bipush 16, 2) := by decide +kernel
theorem dX0_become_61 : decode cX0_become 61 = .ok (.invokestatic 61, 3) := by decide +kernel
theorem dX0_become_64 : decode cX0_become 64 = .ok (.aload_n 1, 1) := by decide +kernel
theorem dX0_become_65 : decode cX0_become 65 = .ok (.getfield 28, 3) := by decide +kernel
theorem dX0_become_68 : decode cX0_become 68 = .ok (.iconst 0, 1) := by decide +kernel
theorem dX0_become_69 : decode cX0_become 69 = .ok (.aload_n 0, 1) := by decide +kernel
theorem dX0_become_70 : decode cX0_become 70 = .ok (.getfield 28, 3) := by decide +kernel
theorem dX0_become_73 : decode cX0_become 73 = .ok (.iconst 0, 1) := by decide +kernel
theorem dX0_become_74 : decode cX0_become 74 = .ok (.bipush 120, 2) := by decide +kernel
theorem dX0_become_76 : decode cX0_become 76 = .ok (.invokestatic 61, 3) := by decide +kernel
theorem dX0_become_79 : decode cX0_become 79 = .ok (.aload_n 1, 1) := by decide +kernel
theorem dX0_become_80 : decode cX0_become 80 = .ok (.getfield 31, 3) := by decide +kernel
theorem dX0_become_83 : decode cX0_become 83 = .ok (.iconst 0, 1) := by decide +kernel
theorem dX0_become_84 : decode cX0_become 84 = .ok (.aload_n 0, 1) := by decide +kernel
theorem dX0_become_85 : decode cX0_become 85 = .ok (.getfield 31, 3) := by decide +kernel
theorem dX0_become_88 : decode cX0_become 88 = .ok (.iconst 0, 1) := by decide +kernel
theorem dX0_become_89 : decode cX0_become 89 = .ok (.bipush 120, 2) := by decide +kernel
theorem dX0_become_91 : decode cX0_become 91 = .ok (.invokestatic 61, 3) := by decide +kernel
theorem dX0_become_94 : decode cX0_become 94 = .ok (.aload_n 1, 1) := by decide +kernel
theorem dX0_become_95 : decode cX0_become 95 = .ok (.getfield 34, 3) := by decide +kernel
theorem dX0_become_98 : decode cX0_become 98 = .ok (.iconst 0, 1) := by decide +kernel
theorem dX0_become_99 : decode cX0_become 99 = .ok (.aload_n 0, 1) := by decide +kernel
theorem dX0_become_100 : decode cX0_become 100 = .ok (.getfield 34, 3) := by decide +kernel
theorem dX0_become_103 : decode cX0_become 103 = .ok (.iconst 0, 1) := by decide +kernel
theorem dX0_become_104 : decode cX0_become 104 = .ok (.bipush 120, 2) := by decide +kernel
theorem dX0_become_106 : decode cX0_become 106 = .ok (.invokestatic 61, 3) := by decide +kernel
theorem dX0_become_109 : decode cX0_become 109 = .ok (.aload_n 1, 1) := by decide +kernel
theorem dX0_become_110 : decode cX0_become 110 = .ok (.getfield 37, 3) := by decide +kernel
theorem dX0_become_113 : decode cX0_become 113 = .ok (.iconst 0, 1) := by decide +kernel
theorem dX0_become_114 : decode cX0_become 114 = .ok (.aload_n 0, 1) := by decide +kernel
theorem dX0_become_115 : decode cX0_become 115 = .ok (.getfield 37, 3) := by decide +kernel
theorem dX0_become_118 : decode cX0_become 118 = .ok (.iconst 0, 1) := by decide +kernel
theorem dX0_become_119 : decode cX0_become 119 = .ok (.bipush 120, 2) := by decide +kernel
theorem dX0_become_121 : decode cX0_become 121 = .ok (.invokestatic 61, 3) := by decide +kernel
theorem dX0_become_124 : decode cX0_become 124 = .ok (.aload_n 1, 1) := by decide +kernel
theorem dX0_become_125 : decode cX0_become 125 = .ok (.getfield 40, 3) := by decide +kernel
theorem dX0_become_128 : decode cX0_become 128 = .ok (.iconst 0, 1) := by decide +kernel
theorem dX0_become_129 : decode cX0_become 129 = .ok (.aload_n 0, 1) := by decide +kernel
theorem dX0_become_130 : decode cX0_become 130 = .ok (.getfield 40, 3) := by decide +kernel
theorem dX0_become_133 : decode cX0_become 133 = .ok (.iconst 0, 1) := by decide +kernel
theorem dX0_become_134 : decode cX0_become 134 = .ok (.bipush 120, 2) := by decide +kernel
theorem dX0_become_136 : decode cX0_become 136 = .ok (.invokestatic 61, 3) := by decide +kernel
theorem dX0_become_139 : decode cX0_become 139 = .ok (.aload_n 1, 1) := by decide +kernel
theorem dX0_become_140 : decode cX0_become 140 = .ok (.getfield 43, 3) := by decide +kernel
theorem dX0_become_143 : decode cX0_become 143 = .ok (.iconst 0, 1) := by decide +kernel
theorem dX0_become_144 : decode cX0_become 144 = .ok (.aload_n 0, 1) := by decide +kernel
theorem dX0_become_145 : decode cX0_become 145 = .ok (.getfield 43, 3) := by decide +kernel
theorem dX0_become_148 : decode cX0_become 148 = .ok (.iconst 0, 1) := by decide +kernel
theorem dX0_become_149 : decode cX0_become 149 = .ok (.bipush 120, 2) := by decide +kernel
theorem dX0_become_151 : decode cX0_become 151 = .ok (.invokestatic 61, 3) := by decide +kernel
theorem dX0_become_154 : decode cX0_become 154 = .ok (.aload_n 1, 1) := by decide +kernel
theorem dX0_become_155 : decode cX0_become 155 = .ok (.getfield 46, 3) := by decide +kernel
theorem dX0_become_158 : decode cX0_become 158 = .ok (.iconst 0, 1) := by decide +kernel
theorem dX0_become_159 : decode cX0_become 159 = .ok (.aload_n 0, 1) := by decide +kernel
theorem dX0_become_160 : decode cX0_become 160 = .ok (.getfield 46, 3) := by decide +kernel
theorem dX0_become_163 : decode cX0_become 163 = .ok (.iconst 0, 1) := by decide +kernel
theorem dX0_become_164 : decode cX0_become 164 = .ok (.bipush 120, 2) := by decide +kernel
theorem dX0_become_166 : decode cX0_become 166 = .ok (.invokestatic 61, 3) := by decide +kernel
theorem dX0_become_169 : decode cX0_become 169 = .ok (.aload_n 1, 1) := by decide +kernel
theorem dX0_become_170 : decode cX0_become 170 = .ok (.getfield 49, 3) := by decide +kernel
theorem dX0_become_173 : decode cX0_become 173 = .ok (.iconst 0, 1) := by decide +kernel
theorem dX0_become_174 : decode cX0_become 174 = .ok (.aload_n 0, 1) := by decide +kernel
theorem dX0_become_175 : decode cX0_become 175 = .ok (.getfield 49, 3) := by decide +kernel
theorem dX0_become_178 : decode cX0_become 178 = .ok (.iconst 0, 1) := by decide +kernel
theorem dX0_become_179 : decode cX0_become 179 = .ok (.bipush 120, 2) := by decide +kernel
theorem dX0_become_181 : decode cX0_become 181 = .ok (.invokestatic 61, 3) := by decide +kernel
theorem dX0_become_184 : decode cX0_become 184 = .ok (.aload_n 1, 1) := by decide +kernel
theorem dX0_become_185 : decode cX0_become 185 = .ok (.getfield 52, 3) := by decide +kernel
theorem dX0_become_188 : decode cX0_become 188 = .ok (.iconst 0, 1) := by decide +kernel
theorem dX0_become_189 : decode cX0_become 189 = .ok (.aload_n 0, 1) := by decide +kernel
theorem dX0_become_190 : decode cX0_become 190 = .ok (.getfield 52, 3) := by decide +kernel
theorem dX0_become_193 : decode cX0_become 193 = .ok (.iconst 0, 1) := by decide +kernel
theorem dX0_become_194 : decode cX0_become 194 = .ok (.aload_n 0, 1) := by decide +kernel
theorem dX0_become_195 : decode cX0_become 195 = .ok (.getfield 52, 3) := by decide +kernel
theorem dX0_become_198 : decode cX0_become 198 = .ok (.arraylength, 1) := by decide +kernel
theorem dX0_become_199 : decode cX0_become 199 = .ok (.invokestatic 61, 3) := by decide +kernel
theorem dX0_become_202 : decode cX0_become 202 = .ok (.return_, 1) := by decide +kernel
theorem dX0_setLetter_0 : decode cX0_setLetter 0 = .ok (.iload_n 1, 1) := by decide +kernel
theorem dX0_setLetter_1 : decode cX0_setLetter 1 = .ok (.iconst 0, 1) := by decide +kernel
theorem dX0_setLetter_2 : decode cX0_setLetter 2 = .ok (.iconst 3, 1) := by decide +kernel
theorem dX0_setLetter_3 : decode cX0_setLetter 3 = .ok (.invokestatic 67, 3) := by decide +kernel
theorem dX0_setLetter_6 : decode cX0_setLetter 6 = .ok (.ifCond .eq 27, 3) := by decide +kernel
theorem dX0_setLetter_9 : decode cX0_setLetter 9 = .ok (.iload_n 2, 1) := by decide +kernel
theorem dX0_setLetter_10 : decode cX0_setLetter 10 = .ok (.iconst 1, 1) := by decide +kernel
theorem dX0_setLetter_11 : decode cX0_setLetter 11 = .ok (.bipush 8, 2) := by decide +kernel
theorem dX0_setLetter_13 : decode cX0_setLetter 13 = .ok (.invokestatic 67, 3) := by decide +kernel
theorem dX0_setLetter_16 : decode cX0_setLetter 16 = .ok (.ifCond .eq 17, 3) := by decide +kernel
theorem dX0_setLetter_19 : decode cX0_setLetter 19 = .ok (.iload_n 3, 1) := by decide +kernel
theorem dX0_setLetter_20 : decode cX0_setLetter 20 = .ok (.iconst 1, 1) := by decide +kernel
theorem dX0_setLetter_21 : decode cX0_setLetter 21 = .ok (.bipush 15, 2) := by decide +kernel
theorem dX0_setLetter_23 : decode cX0_setLetter 23 = .ok (.invokestatic 67, 3) := by decide +kernel
theorem dX0_setLetter_26 : decode cX0_setLetter 26 = .ok (.ifCond .eq 7, 3) := by decide +kernel
theorem dX0_setLetter_29 : decode cX0_setLetter 29 = .ok (.iconst 1, 1) := by decide +kernel
theorem dX0_setLetter_30 : decode cX0_setLetter 30 = .ok (.goto 4, 3) := by decide +kernel
theorem dX0_setLetter_33 : decode cX0_setLetter 33 = .ok (.iconst 0, 1) := by decide +kernel
theorem dX0_setLetter_34 : decode cX0_setLetter 34 = .ok (.istore 4, 2) := by decide +kernel
theorem dX0_setLetter_36 : decode cX0_setLetter 36 = .ok (.iload 4, 2) := by decide +kernel
theorem dX0_setLetter_38 : decode cX0_setLetter 38 = .ok (.ifCond .ne 5, 3) := by decide +kernel
theorem dX0_setLetter_41 : decode cX0_setLetter 41 = .ok (.iconst 0, 1) := by decide +kernel
theorem dX0_setLetter_42 : decode cX0_setLetter 42 = .ok (.ireturn, 1) := by decide +kernel
theorem dX0_setLetter_43 : decode cX0_setLetter 43 = .ok (.aload_n 0, 1) := by decide +kernel
theorem dX0_setLetter_44 : decode cX0_setLetter 44 = .ok (.getfield 9, 3) := by decide +kernel
theorem dX0_setLetter_47 : decode cX0_setLetter 47 = .ok (.iload_n 1, 1) := by decide +kernel
theorem dX0_setLetter_48 : decode cX0_setLetter 48 = .ok (.bipush 8, 2) := by decide +kernel
theorem dX0_setLetter_50 : decode cX0_setLetter 50 = .ok (.imul, 1) := by decide +kernel
theorem dX0_setLetter_51 : decode cX0_setLetter 51 = .ok (.iload_n 2, 1) := by decide +kernel
theorem dX0_setLetter_52 : decode cX0_setLetter 52 = .ok (.iadd, 1) := by decide +kernel
theorem dX0_setLetter_53 : decode cX0_setLetter 53 = .ok (.iconst 1, 1) := by decide +kernel
theorem dX0_setLetter_54 : decode cX0_setLetter 54 = .ok (.isub, 1) := by decide +kernel
theorem dX0_setLetter_55 : decode cX0_setLetter 55 = .ok (.iload_n 3, 1) := by decide +kernel
theorem dX0_setLetter_56 : decode cX0_setLetter 56 = .ok (.iastore, 1) := by decide +kernel
theorem dX0_setLetter_57 : decode cX0_setLetter 57 = .ok (.iconst 1, 1) := by decide +kernel
theorem dX0_setLetter_58 : decode cX0_setLetter 58 = .ok (.ireturn, 1) := by decide +kernel
theorem dX0_hasTape_0 : decode cX0_hasTape 0 = .ok (.iload_n 1, 1) := by decide +kernel
theorem dX0_hasTape_1 : decode cX0_hasTape 1 = .ok (.ifCond .lt 15, 3) := by decide +kernel
theorem dX0_hasTape_4 : decode cX0_hasTape 4 = .ok (.iload_n 1, 1) := by decide +kernel
theorem dX0_hasTape_5 : decode cX0_hasTape 5 = .ok (.aload_n 0, 1) := by decide +kernel
theorem dX0_hasTape_6 : decode cX0_hasTape 6 = .ok (.getfield 15, 3) := by decide +kernel
theorem dX0_hasTape_9 : decode cX0_hasTape 9 = .ok (.if_icmp .ge 7, 3) := by decide +kernel
theorem dX0_hasTape_16 : decode cX0_hasTape 16 = .ok (.iconst 0, 1) := by decide +kernel
theorem dX0_hasTape_17 : decode cX0_hasTape 17 = .ok (.ireturn, 1) := by decide +kernel
theorem dX0_hasRow_0 : decode cX0_hasRow 0 = .ok (.iload_n 1, 1) := by decide +kernel
theorem dX0_hasRow_1 : decode cX0_hasRow 1 = .ok (.ifCond .lt 15, 3) := by decide +kernel
theorem dX0_hasRow_4 : decode cX0_hasRow 4 = .ok (.iload_n 1, 1) := by decide +kernel
theorem dX0_hasRow_5 : decode cX0_hasRow 5 = .ok (.aload_n 0, 1) := by decide +kernel
theorem dX0_hasRow_6 : decode cX0_hasRow 6 = .ok (.getfield 25, 3) := by decide +kernel
theorem dX0_hasRow_9 : decode cX0_hasRow 9 = .ok (.if_icmp .ge 7, 3) := by decide +kernel
theorem dX0_hasRow_16 : decode cX0_hasRow 16 = .ok (.iconst 0, 1) := by decide +kernel
theorem dX0_hasRow_17 : decode cX0_hasRow 17 = .ok (.ireturn, 1) := by decide +kernel
theorem dX0_addTape_0 : decode cX0_addTape 0 = .ok (.aload_n 0, 1) := by decide +kernel
theorem dX0_addTape_1 : decode cX0_addTape 1 = .ok (.getfield 15, 3) := by decide +kernel
theorem dX0_addTape_4 : decode cX0_addTape 4 = .ok (.bipush 16, 2) := by decide +kernel
theorem dX0_addTape_6 : decode cX0_addTape 6 = .ok (.if_icmp .ge 14, 3) := by decide +kernel
theorem dX0_addTape_9 : decode cX0_addTape 9 = .ok (.iload_n 1, 1) := by decide +kernel
theorem dX0_addTape_10 : decode cX0_addTape 10 = .ok (.iconst 1, 1) := by decide +kernel
theorem dX0_addTape_11 : decode cX0_addTape 11 = .ok (.sipush 400, 3) := by decide +kernel
theorem dX0_addTape_14 : decode cX0_addTape 14 = .ok (.invokestatic 67, 3) := by decide +kernel
theorem dX0_addTape_17 : decode cX0_addTape 17 = .ok (.ifCond .ne 5, 3) := by decide +kernel
theorem dX0_addTape_20 : decode cX0_addTape 20 = .ok (.iconst (-1), 1) := by decide +kernel
theorem dX0_addTape_21 : decode cX0_addTape 21 = .ok (.ireturn, 1) := by decide +kernel
theorem dX0_addTape_22 : decode cX0_addTape 22 = .ok (.aload_n 0, 1) := by decide +kernel
theorem dX0_addTape_23 : decode cX0_addTape 23 = .ok (.getfield 19, 3) := by decide +kernel
theorem dX0_addTape_26 : decode cX0_addTape 26 = .ok (.aload_n 0, 1) := by decide +kernel
theorem dX0_addTape_27 : decode cX0_addTape 27 = .ok (.getfield 15, 3) := by decide +kernel
theorem dX0_addTape_30 : decode cX0_addTape 30 = .ok (.iload_n 1, 1) := by decide +kernel
theorem dX0_addTape_31 : decode cX0_addTape 31 = .ok (.iastore, 1) := by decide +kernel
theorem dX0_addTape_32 : decode cX0_addTape 32 = .ok (.aload_n 0, 1) := by decide +kernel
theorem dX0_addTape_33 : decode cX0_addTape 33 = .ok (.getfield 22, 3) := by decide +kernel
theorem dX0_addTape_36 : decode cX0_addTape 36 = .ok (.aload_n 0, 1) := by decide +kernel
theorem dX0_addTape_37 : decode cX0_addTape 37 = .ok (.getfield 15, 3) := by decide +kernel
theorem dX0_addTape_40 : decode cX0_addTape 40 = .ok (.iload_n 2, 1) := by decide +kernel
theorem dX0_addTape_41 : decode cX0_addTape 41 = .ok (.iastore, 1) := by decide +kernel
theorem dX0_addTape_42 : decode cX0_addTape 42 = .ok (.aload_n 0, 1) := by decide +kernel
theorem dX0_addTape_43 : decode cX0_addTape 43 = .ok (.dup, 1) := by decide +kernel
theorem dX0_addTape_44 : decode cX0_addTape 44 = .ok (.getfield 15, 3) := by decide +kernel
theorem dX0_addTape_47 : decode cX0_addTape 47 = .ok (.iconst 1, 1) := by decide +kernel
theorem dX0_addTape_48 : decode cX0_addTape 48 = .ok (.iadd, 1) := by decide +kernel
theorem dX0_addTape_49 : decode cX0_addTape 49 = .ok (.putfield 15, 3) := by decide +kernel
theorem dX0_addTape_52 : decode cX0_addTape 52 = .ok (.aload_n 0, 1) := by decide +kernel
theorem dX0_addTape_53 : decode cX0_addTape 53 = .ok (.getfield 15, 3) := by decide +kernel
theorem dX0_addTape_56 : decode cX0_addTape 56 = .ok (.iconst 1, 1) := by decide +kernel
theorem dX0_addTape_57 : decode cX0_addTape 57 = .ok (.isub, 1) := by decide +kernel
theorem dX0_addTape_58 : decode cX0_addTape 58 = .ok (.ireturn, 1) := by decide +kernel
theorem dX0_lasts_0 : decode cX0_lasts 0 = .ok (.iload_n 1, 1) := by decide +kernel
theorem dX0_lasts_1 : decode cX0_lasts 1 = .ok (.ifCond .lt 32, 3) := by decide +kernel
theorem dX0_lasts_4 : decode cX0_lasts 4 = .ok (.iload_n 1, 1) := by decide +kernel
theorem dX0_lasts_5 : decode cX0_lasts 5 = .ok (.aload_n 0, 1) := by decide +kernel
theorem dX0_lasts_6 : decode cX0_lasts 6 = .ok (.getfield 15, 3) := by decide +kernel
theorem dX0_lasts_9 : decode cX0_lasts 9 = .ok (.if_icmp .ge 24, 3) := by decide +kernel
theorem dX0_lasts_33 : decode cX0_lasts 33 = .ok (.iconst 0, 1) := by decide +kernel
theorem dX0_lasts_34 : decode cX0_lasts 34 = .ok (.ireturn, 1) := by decide +kernel
theorem dX0_renew_0 : decode cX0_renew 0 = .ok (.aload_n 0, 1) := by decide +kernel
theorem dX0_renew_1 : decode cX0_renew 1 = .ok (.iload_n 1, 1) := by decide +kernel
theorem dX0_renew_2 : decode cX0_renew 2 = .ok (.iload_n 2, 1) := by decide +kernel
theorem dX0_renew_3 : decode cX0_renew 3 = .ok (.invokevirtual 71, 3) := by decide +kernel
theorem dX0_renew_6 : decode cX0_renew 6 = .ok (.ifCond .ne 5, 3) := by decide +kernel
theorem dX0_renew_9 : decode cX0_renew 9 = .ok (.iconst 0, 1) := by decide +kernel
theorem dX0_renew_10 : decode cX0_renew 10 = .ok (.ireturn, 1) := by decide +kernel
theorem dX0_tapeFact_0 : decode cX0_tapeFact 0 = .ok (.aload_n 0, 1) := by decide +kernel
theorem dX0_tapeFact_1 : decode cX0_tapeFact 1 = .ok (.iload_n 1, 1) := by decide +kernel
theorem dX0_tapeFact_2 : decode cX0_tapeFact 2 = .ok (.invokevirtual 75, 3) := by decide +kernel
theorem dX0_tapeFact_5 : decode cX0_tapeFact 5 = .ok (.ifCond .ne 5, 3) := by decide +kernel
theorem dX0_tapeFact_8 : decode cX0_tapeFact 8 = .ok (.iconst (-1), 1) := by decide +kernel
theorem dX0_tapeFact_9 : decode cX0_tapeFact 9 = .ok (.ireturn, 1) := by decide +kernel
theorem dX0_rowFact_0 : decode cX0_rowFact 0 = .ok (.aload_n 0, 1) := by decide +kernel
theorem dX0_rowFact_1 : decode cX0_rowFact 1 = .ok (.iload_n 1, 1) := by decide +kernel
theorem dX0_rowFact_2 : decode cX0_rowFact 2 = .ok (.invokevirtual 95, 3) := by decide +kernel
theorem dX0_rowFact_5 : decode cX0_rowFact 5 = .ok (.ifCond .ne 6, 3) := by decide +kernel
theorem dX0_rowFact_8 : decode cX0_rowFact 8 = .ok (.bipush (-100), 2) := by decide +kernel
theorem dX0_rowFact_10 : decode cX0_rowFact 10 = .ok (.ireturn, 1) := by decide +kernel
theorem dX0_latestOf_0 : decode cX0_latestOf 0 = .ok (.aload_n 0, 1) := by decide +kernel
theorem dX0_latestOf_1 : decode cX0_latestOf 1 = .ok (.getfield 25, 3) := by decide +kernel
theorem dX0_latestOf_4 : decode cX0_latestOf 4 = .ok (.iconst 1, 1) := by decide +kernel
theorem dX0_latestOf_5 : decode cX0_latestOf 5 = .ok (.isub, 1) := by decide +kernel
theorem dX0_latestOf_6 : decode cX0_latestOf 6 = .ok (.istore_n 3, 1) := by decide +kernel
theorem dX0_latestOf_7 : decode cX0_latestOf 7 = .ok (.iload_n 3, 1) := by decide +kernel
theorem dX0_latestOf_8 : decode cX0_latestOf 8 = .ok (.ifCond .lt 31, 3) := by decide +kernel
theorem dX0_latestOf_39 : decode cX0_latestOf 39 = .ok (.iconst (-1), 1) := by decide +kernel
theorem dX0_latestOf_40 : decode cX0_latestOf 40 = .ok (.ireturn, 1) := by decide +kernel
theorem dX1_init_0 : decode cX1_init 0 = .ok (.aload_n 0, 1) := by decide +kernel
theorem dX1_init_1 : decode cX1_init 1 = .ok (.invokespecial 3, 3) := by decide +kernel
theorem dX1_init_4 : decode cX1_init 4 = .ok (.aload_n 0, 1) := by decide +kernel
theorem dX1_init_5 : decode cX1_init 5 = .ok (.iconst 0, 1) := by decide +kernel
theorem dX1_init_6 : decode cX1_init 6 = .ok (.putfield 9, 3) := by decide +kernel
theorem dX1_init_9 : decode cX1_init 9 = .ok (.aload_n 0, 1) := by decide +kernel
theorem dX1_init_10 : decode cX1_init 10 = .ok (.bipush 12, 2) := by decide +kernel
theorem dX1_init_12 : decode cX1_init 12 = .ok (.newarray .int, 2) := by decide +kernel
theorem dX1_init_14 : decode cX1_init 14 = .ok (.putfield 15, 3) := by decide +kernel
theorem dX1_init_17 : decode cX1_init 17 = .ok (.aload_n 0, 1) := by decide +kernel
theorem dX1_init_18 : decode cX1_init 18 = .ok (.bipush 12, 2) := by decide +kernel
theorem dX1_init_20 : decode cX1_init 20 = .ok (.newarray .int, 2) := by decide +kernel
theorem dX1_init_22 : decode cX1_init 22 = .ok (.putfield 19, 3) := by decide +kernel
theorem dX1_init_25 : decode cX1_init 25 = .ok (.aload_n 0, 1) := by decide +kernel
theorem dX1_init_26 : decode cX1_init 26 = .ok (.bipush 12, 2) := by decide +kernel
theorem dX1_init_28 : decode cX1_init 28 = .ok (.newarray .int, 2) := by decide +kernel
theorem dX1_init_30 : decode cX1_init 30 = .ok (.putfield 22, 3) := by decide +kernel
theorem dX1_init_33 : decode cX1_init 33 = .ok (.aload_n 0, 1) := by decide +kernel
theorem dX1_init_34 : decode cX1_init 34 = .ok (.bipush 12, 2) := by decide +kernel
theorem dX1_init_36 : decode cX1_init 36 = .ok (.newarray .int, 2) := by decide +kernel
theorem dX1_init_38 : decode cX1_init 38 = .ok (.putfield 25, 3) := by decide +kernel
theorem dX1_init_41 : decode cX1_init 41 = .ok (.aload_n 0, 1) := by decide +kernel
theorem dX1_init_42 : decode cX1_init 42 = .ok (.iconst 0, 1) := by decide +kernel
theorem dX1_init_43 : decode cX1_init 43 = .ok (.putfield 28, 3) := by decide +kernel
theorem dX1_init_46 : decode cX1_init 46 = .ok (.aload_n 0, 1) := by decide +kernel
theorem dX1_init_47 : decode cX1_init 47 = .ok (.iconst 0, 1) := by decide +kernel
theorem dX1_init_48 : decode cX1_init 48 = .ok (.putfield 31, 3) := by decide +kernel
theorem dX1_init_51 : decode cX1_init 51 = .ok (.aload_n 0, 1) := by decide +kernel
theorem dX1_init_52 : decode cX1_init 52 = .ok (.iconst 0, 1) := by decide +kernel
theorem dX1_init_53 : decode cX1_init 53 = .ok (.putfield 34, 3) := by decide +kernel
theorem dX1_init_56 : decode cX1_init 56 = .ok (.return_, 1) := by decide +kernel
theorem dX1_solve_0 : decode cX1_solve 0 = .ok (.aload_n 0, 1) := by decide +kernel
theorem dX1_solve_1 : decode cX1_solve 1 = .ok (.iconst 0, 1) := by decide +kernel
theorem dX1_solve_2 : decode cX1_solve 2 = .ok (.putfield 9, 3) := by decide +kernel
theorem dX1_solve_5 : decode cX1_solve 5 = .ok (.iconst 0, 1) := by decide +kernel
theorem dX1_solve_6 : decode cX1_solve 6 = .ok (.istore_n 3, 1) := by decide +kernel
theorem dX1_solve_7 : decode cX1_solve 7 = .ok (.iload_n 3, 1) := by decide +kernel
theorem dX1_solve_8 : decode cX1_solve 8 = .ok (.aload_n 1, 1) := by decide +kernel
theorem dX1_solve_9 : decode cX1_solve 9 = .ok (.getfield 37, 3) := by decide +kernel
theorem dX1_solve_12 : decode cX1_solve 12 = .ok (.if_icmp .ge 53, 3) := by decide +kernel
theorem dX1_solve_65 : decode cX1_solve 65 = .ok (.aload_n 0, 1) := by decide +kernel
theorem dX1_solve_66 : decode cX1_solve 66 = .ok (.iconst 0, 1) := by decide +kernel
theorem dX1_solve_67 : decode cX1_solve 67 = .ok (.putfield 28, 3) := by decide +kernel
theorem dX1_solve_70 : decode cX1_solve 70 = .ok (.aload_n 0, 1) := by decide +kernel
theorem dX1_solve_71 : decode cX1_solve 71 = .ok (.iconst 0, 1) := by decide +kernel
theorem dX1_solve_72 : decode cX1_solve 72 = .ok (.putfield 31, 3) := by decide +kernel
theorem dX1_solve_75 : decode cX1_solve 75 = .ok (.aload_n 0, 1) := by decide +kernel
theorem dX1_solve_76 : decode cX1_solve 76 = .ok (.iconst 0, 1) := by decide +kernel
theorem dX1_solve_77 : decode cX1_solve 77 = .ok (.putfield 34, 3) := by decide +kernel
theorem dX1_solve_80 : decode cX1_solve 80 = .ok (.iconst 1, 1) := by decide +kernel
theorem dX1_solve_81 : decode cX1_solve 81 = .ok (.istore_n 3, 1) := by decide +kernel
theorem dX1_solve_82 : decode cX1_solve 82 = .ok (.iload_n 3, 1) := by decide +kernel
theorem dX1_solve_83 : decode cX1_solve 83 = .ok (.iconst 1, 1) := by decide +kernel
theorem dX1_solve_84 : decode cX1_solve 84 = .ok (.aload_n 0, 1) := by decide +kernel
theorem dX1_solve_85 : decode cX1_solve 85 = .ok (.getfield 9, 3) := by decide +kernel
theorem dX1_solve_88 : decode cX1_solve 88 = .ok (.ishl, 1) := by decide +kernel
theorem dX1_solve_89 : decode cX1_solve 89 = .ok (.if_icmp .ge 14, 3) := by decide +kernel
theorem dX1_solve_103 : decode cX1_solve 103 = .ok (.return_, 1) := by decide +kernel
theorem dX1_weigh_0 : decode cX1_weigh 0 = .ok (.iconst 0, 1) := by decide +kernel
theorem dX1_weigh_1 : decode cX1_weigh 1 = .ok (.istore_n 2, 1) := by decide +kernel
theorem dX1_weigh_2 : decode cX1_weigh 2 = .ok (.iconst 0, 1) := by decide +kernel
theorem dX1_weigh_3 : decode cX1_weigh 3 = .ok (.istore_n 3, 1) := by decide +kernel
theorem dX1_weigh_4 : decode cX1_weigh 4 = .ok (.iconst 0, 1) := by decide +kernel
theorem dX1_weigh_5 : decode cX1_weigh 5 = .ok (.istore 4, 2) := by decide +kernel
theorem dX1_weigh_7 : decode cX1_weigh 7 = .ok (.iconst 1, 1) := by decide +kernel
theorem dX1_weigh_8 : decode cX1_weigh 8 = .ok (.istore 5, 2) := by decide +kernel
theorem dX1_weigh_10 : decode cX1_weigh 10 = .ok (.iconst 0, 1) := by decide +kernel
theorem dX1_weigh_11 : decode cX1_weigh 11 = .ok (.istore 6, 2) := by decide +kernel
theorem dX1_weigh_13 : decode cX1_weigh 13 = .ok (.iload 6, 2) := by decide +kernel
theorem dX1_weigh_15 : decode cX1_weigh 15 = .ok (.aload_n 0, 1) := by decide +kernel
theorem dX1_weigh_16 : decode cX1_weigh 16 = .ok (.getfield 9, 3) := by decide +kernel
theorem dX1_weigh_19 : decode cX1_weigh 19 = .ok (.if_icmp .ge 75, 3) := by decide +kernel
theorem dX1_weigh_94 : decode cX1_weigh 94 = .ok (.iload_n 2, 1) := by decide +kernel
theorem dX1_weigh_95 : decode cX1_weigh 95 = .ok (.aload_n 0, 1) := by decide +kernel
theorem dX1_weigh_96 : decode cX1_weigh 96 = .ok (.getfield 28, 3) := by decide +kernel
theorem dX1_weigh_99 : decode cX1_weigh 99 = .ok (.if_icmp .ne 15, 3) := by decide +kernel
theorem dX1_weigh_102 : decode cX1_weigh 102 = .ok (.iload_n 3, 1) := by decide +kernel
theorem dX1_weigh_103 : decode cX1_weigh 103 = .ok (.aload_n 0, 1) := by decide +kernel
theorem dX1_weigh_104 : decode cX1_weigh 104 = .ok (.getfield 31, 3) := by decide +kernel
theorem dX1_weigh_107 : decode cX1_weigh 107 = .ok (.if_icmp .ne 7, 3) := by decide +kernel
theorem dX1_weigh_110 : decode cX1_weigh 110 = .ok (.iconst 1, 1) := by decide +kernel
theorem dX1_weigh_111 : decode cX1_weigh 111 = .ok (.goto 4, 3) := by decide +kernel
theorem dX1_weigh_115 : decode cX1_weigh 115 = .ok (.istore 6, 2) := by decide +kernel
theorem dX1_weigh_117 : decode cX1_weigh 117 = .ok (.iload_n 2, 1) := by decide +kernel
theorem dX1_weigh_118 : decode cX1_weigh 118 = .ok (.aload_n 0, 1) := by decide +kernel
theorem dX1_weigh_119 : decode cX1_weigh 119 = .ok (.getfield 28, 3) := by decide +kernel
theorem dX1_weigh_122 : decode cX1_weigh 122 = .ok (.if_icmp .gt 33, 3) := by decide +kernel
theorem dX1_weigh_125 : decode cX1_weigh 125 = .ok (.iload_n 2, 1) := by decide +kernel
theorem dX1_weigh_126 : decode cX1_weigh 126 = .ok (.aload_n 0, 1) := by decide +kernel
theorem dX1_weigh_127 : decode cX1_weigh 127 = .ok (.getfield 28, 3) := by decide +kernel
theorem dX1_weigh_130 : decode cX1_weigh 130 = .ok (.if_icmp .ne 11, 3) := by decide +kernel
theorem dX1_weigh_133 : decode cX1_weigh 133 = .ok (.iload_n 3, 1) := by decide +kernel
theorem dX1_weigh_134 : decode cX1_weigh 134 = .ok (.aload_n 0, 1) := by decide +kernel
theorem dX1_weigh_135 : decode cX1_weigh 135 = .ok (.getfield 31, 3) := by decide +kernel
theorem dX1_weigh_138 : decode cX1_weigh 138 = .ok (.if_icmp .lt 17, 3) := by decide +kernel
theorem dX1_weigh_141 : decode cX1_weigh 141 = .ok (.iload 6, 2) := by decide +kernel
theorem dX1_weigh_143 : decode cX1_weigh 143 = .ok (.ifCond .eq 16, 3) := by decide +kernel
theorem dX1_weigh_146 : decode cX1_weigh 146 = .ok (.iload 4, 2) := by decide +kernel
theorem dX1_weigh_148 : decode cX1_weigh 148 = .ok (.aload_n 0, 1) := by decide +kernel
theorem dX1_weigh_149 : decode cX1_weigh 149 = .ok (.getfield 34, 3) := by decide +kernel
theorem dX1_weigh_152 : decode cX1_weigh 152 = .ok (.if_icmp .ge 7, 3) := by decide +kernel
theorem dX1_weigh_159 : decode cX1_weigh 159 = .ok (.iconst 0, 1) := by decide +kernel
theorem dX1_weigh_160 : decode cX1_weigh 160 = .ok (.istore 7, 2) := by decide +kernel
theorem dX1_weigh_162 : decode cX1_weigh 162 = .ok (.iload 5, 2) := by decide +kernel
theorem dX1_weigh_164 : decode cX1_weigh 164 = .ok (.ifCond .eq 24, 3) := by decide +kernel
theorem dX1_weigh_167 : decode cX1_weigh 167 = .ok (.iload 7, 2) := by decide +kernel
theorem dX1_weigh_169 : decode cX1_weigh 169 = .ok (.ifCond .eq 19, 3) := by decide +kernel
theorem dX1_weigh_188 : decode cX1_weigh 188 = .ok (.return_, 1) := by decide +kernel
theorem dX1_copiesFact_0 : decode cX1_copiesFact 0 = .ok (.iload_n 1, 1) := by decide +kernel
theorem dX1_copiesFact_1 : decode cX1_copiesFact 1 = .ok (.tableswitch 42 0 2 #[27, 32, 37], 27) := by decide +kernel
theorem dX1_copiesFact_28 : decode cX1_copiesFact 28 = .ok (.aload_n 0, 1) := by decide +kernel
theorem dX1_copiesFact_29 : decode cX1_copiesFact 29 = .ok (.getfield 28, 3) := by decide +kernel
theorem dX1_copiesFact_32 : decode cX1_copiesFact 32 = .ok (.ireturn, 1) := by decide +kernel
theorem dX1_copiesFact_33 : decode cX1_copiesFact 33 = .ok (.aload_n 0, 1) := by decide +kernel
theorem dX1_copiesFact_34 : decode cX1_copiesFact 34 = .ok (.getfield 31, 3) := by decide +kernel
theorem dX1_copiesFact_37 : decode cX1_copiesFact 37 = .ok (.ireturn, 1) := by decide +kernel
theorem dX1_copiesFact_38 : decode cX1_copiesFact 38 = .ok (.aload_n 0, 1) := by decide +kernel
theorem dX1_copiesFact_39 : decode cX1_copiesFact 39 = .ok (.getfield 34, 3) := by decide +kernel
theorem dX1_copiesFact_42 : decode cX1_copiesFact 42 = .ok (.ireturn, 1) := by decide +kernel
theorem dX1_copiesFact_43 : decode cX1_copiesFact 43 = .ok (.iconst (-1), 1) := by decide +kernel
theorem dX1_copiesFact_44 : decode cX1_copiesFact 44 = .ok (.ireturn, 1) := by decide +kernel
theorem dX2_init_0 : decode cX2_init 0 = .ok (.aload_n 0, 1) := by decide +kernel
theorem dX2_init_1 : decode cX2_init 1 = .ok (.invokespecial 3, 3) := by decide +kernel
theorem dX2_init_4 : decode cX2_init 4 = .ok (.aload_n 0, 1) := by decide +kernel
theorem dX2_init_5 : decode cX2_init 5 = .ok (.sipush 500, 3) := by decide +kernel
theorem dX2_init_8 : decode cX2_init 8 = .ok (.newarray .int, 2) := by decide +kernel
theorem dX2_init_10 : decode cX2_init 10 = .ok (.putfield 11, 3) := by decide +kernel
theorem dX2_init_13 : decode cX2_init 13 = .ok (.aload_n 0, 1) := by decide +kernel
theorem dX2_init_14 : decode cX2_init 14 = .ok (.iconst 0, 1) := by decide +kernel
theorem dX2_init_15 : decode cX2_init 15 = .ok (.putfield 15, 3) := by decide +kernel
theorem dX2_init_18 : decode cX2_init 18 = .ok (.aload_n 0, 1) := by decide +kernel
theorem dX2_init_19 : decode cX2_init 19 = .ok (.iconst 0, 1) := by decide +kernel
theorem dX2_init_20 : decode cX2_init 20 = .ok (.putfield 19, 3) := by decide +kernel
theorem dX2_init_23 : decode cX2_init 23 = .ok (.aload_n 0, 1) := by decide +kernel
theorem dX2_init_24 : decode cX2_init 24 = .ok (.iconst (-1), 1) := by decide +kernel
theorem dX2_init_25 : decode cX2_init 25 = .ok (.putfield 22, 3) := by decide +kernel
theorem dX2_init_28 : decode cX2_init 28 = .ok (.aload_n 0, 1) := by decide +kernel
theorem dX2_init_29 : decode cX2_init 29 = .ok (.iconst 0, 1) := by decide +kernel
theorem dX2_init_30 : decode cX2_init 30 = .ok (.putfield 25, 3) := by decide +kernel
theorem dX2_init_33 : decode cX2_init 33 = .ok (.aload_n 0, 1) := by decide +kernel
theorem dX2_init_34 : decode cX2_init 34 = .ok (.iconst 4, 1) := by decide +kernel
theorem dX2_init_35 : decode cX2_init 35 = .ok (.newarray .int, 2) := by decide +kernel
theorem dX2_init_37 : decode cX2_init 37 = .ok (.putfield 28, 3) := by decide +kernel
theorem dX2_init_40 : decode cX2_init 40 = .ok (.aload_n 0, 1) := by decide +kernel
theorem dX2_init_41 : decode cX2_init 41 = .ok (.iconst 4, 1) := by decide +kernel
theorem dX2_init_42 : decode cX2_init 42 = .ok (.newarray .int, 2) := by decide +kernel
theorem dX2_init_44 : decode cX2_init 44 = .ok (.putfield 31, 3) := by decide +kernel
theorem dX2_init_47 : decode cX2_init 47 = .ok (.aload_n 0, 1) := by decide +kernel
theorem dX2_init_48 : decode cX2_init 48 = .ok (.bipush 80, 2) := by decide +kernel
theorem dX2_init_50 : decode cX2_init 50 = .ok (.newarray .int, 2) := by decide +kernel
theorem dX2_init_52 : decode cX2_init 52 = .ok (.putfield 34, 3) := by decide +kernel
theorem dX2_init_55 : decode cX2_init 55 = .ok (.aload_n 0, 1) := by decide +kernel
theorem dX2_init_56 : decode cX2_init 56 = .ok (.bipush 80, 2) := by decide +kernel
theorem dX2_init_58 : decode cX2_init 58 = .ok (.newarray .int, 2) := by decide +kernel
theorem dX2_init_60 : decode cX2_init 60 = .ok (.putfield 37, 3) := by decide +kernel
theorem dX2_init_63 : decode cX2_init 63 = .ok (.aload_n 0, 1) := by decide +kernel
theorem dX2_init_64 : decode cX2_init 64 = .ok (.bipush 80, 2) := by decide +kernel
theorem dX2_init_66 : decode cX2_init 66 = .ok (.newarray .int, 2) := by decide +kernel
theorem dX2_init_68 : decode cX2_init 68 = .ok (.putfield 40, 3) := by decide +kernel
theorem dX2_init_71 : decode cX2_init 71 = .ok (.aload_n 0, 1) := by decide +kernel
theorem dX2_init_72 : decode cX2_init 72 = .ok (.sipush 320, 3) := by decide +kernel
theorem dX2_init_75 : decode cX2_init 75 = .ok (.newarray .int, 2) := by decide +kernel
theorem dX2_init_77 : decode cX2_init 77 = .ok (.putfield 43, 3) := by decide +kernel
theorem dX2_init_80 : decode cX2_init 80 = .ok (.return_, 1) := by decide +kernel
theorem dX2_become_0 : decode cX2_become 0 = .ok (.aload_n 0, 1) := by decide +kernel
theorem dX2_become_1 : decode cX2_become 1 = .ok (.aload_n 1, 1) := by decide +kernel
theorem dX2_become_2 : decode cX2_become 2 = .ok (.getfield 15, 3) := by decide +kernel
theorem dX2_become_5 : decode cX2_become 5 = .ok (.putfield 15, 3) := by decide +kernel
theorem dX2_become_8 : decode cX2_become 8 = .ok (.aload_n 0, 1) := by decide +kernel
theorem dX2_become_9 : decode cX2_become 9 = .ok (.aload_n 1, 1) := by decide +kernel
theorem dX2_become_10 : decode cX2_become 10 = .ok (.getfield 19, 3) := by decide +kernel
theorem dX2_become_13 : decode cX2_become 13 = .ok (.putfield 19, 3) := by decide +kernel
theorem dX2_become_16 : decode cX2_become 16 = .ok (.aload_n 0, 1) := by decide +kernel
theorem dX2_become_17 : decode cX2_become 17 = .ok (.aload_n 1, 1) := by decide +kernel
theorem dX2_become_18 : decode cX2_become 18 = .ok (.getfield 22, 3) := by decide +kernel
theorem dX2_become_21 : decode cX2_become 21 = .ok (.putfield 22, 3) := by decide +kernel
theorem dX2_become_24 : decode cX2_become 24 = .ok (.aload_n 0, 1) := by decide +kernel
theorem dX2_become_25 : decode cX2_become 25 = .ok (.aload_n 1, 1) := by decide +kernel
theorem dX2_become_26 : decode cX2_become 26 = .ok (.getfield 25, 3) := by decide +kernel
theorem dX2_become_29 : decode cX2_become 29 = .ok (.putfield 25, 3) := by decide +kernel
theorem dX2_become_32 : decode cX2_become 32 = .ok (.aload_n 1, 1) := by decide +kernel
theorem dX2_become_33 : decode cX2_become 33 = .ok (.getfield 11, 3) := by decide +kernel
theorem dX2_become_36 : decode cX2_become 36 = .ok (.iconst 0, 1) := by decide +kernel
theorem dX2_become_37 : decode cX2_become 37 = .ok (.aload_n 0, 1) := by decide +kernel
theorem dX2_become_38 : decode cX2_become 38 = .ok (.getfield 11, 3) := by decide +kernel
theorem dX2_become_41 : decode cX2_become 41 = .ok (.iconst 0, 1) := by decide +kernel
theorem dX2_become_42 : decode cX2_become 42 = .ok (.sipush 500, 3) := by decide +kernel
theorem dX2_become_45 : decode cX2_become 45 = .ok (.invokestatic 46, 3) := by decide +kernel
theorem dX2_become_48 : decode cX2_become 48 = .ok (.aload_n 1, 1) := by decide +kernel
theorem dX2_become_49 : decode cX2_become 49 = .ok (.getfield 28, 3) := by decide +kernel
theorem dX2_become_52 : decode cX2_become 52 = .ok (.iconst 0, 1) := by decide +kernel
theorem dX2_become_53 : decode cX2_become 53 = .ok (.aload_n 0, 1) := by decide +kernel
theorem dX2_become_54 : decode cX2_become 54 = .ok (.getfield 28, 3) := by decide +kernel
theorem dX2_become_57 : decode cX2_become 57 = .ok (.iconst 0, 1) := by decide +kernel
theorem dX2_become_58 : decode cX2_become 58 = .ok (.iconst 4, 1) := by decide +kernel
theorem dX2_become_59 : decode cX2_become 59 = .ok (.invokestatic 46, 3) := by decide +kernel
theorem dX2_become_62 : decode cX2_become 62 = .ok (.aload_n 1, 1) := by decide +kernel
theorem dX2_become_63 : decode cX2_become 63 = .ok (.getfield 31, 3) := by decide +kernel
theorem dX2_become_66 : decode cX2_become 66 = .ok (.iconst 0, 1) := by decide +kernel
theorem dX2_become_67 : decode cX2_become 67 = .ok (.aload_n 0, 1) := by decide +kernel
theorem dX2_become_68 : decode cX2_become 68 = .ok (.getfield 31, 3) := by decide +kernel
theorem dX2_become_71 : decode cX2_become 71 = .ok (.iconst 0, 1) := by decide +kernel
theorem dX2_become_72 : decode cX2_become 72 = .ok (.iconst 4, 1) := by decide +kernel
theorem dX2_become_73 : decode cX2_become 73 = .ok (.invokestatic 46, 3) := by decide +kernel
theorem dX2_become_76 : decode cX2_become 76 = .ok (.aload_n 1, 1) := by decide +kernel
theorem dX2_become_77 : decode cX2_become 77 = .ok (.getfield 34, 3) := by decide +kernel
theorem dX2_become_80 : decode cX2_become 80 = .ok (.iconst 0, 1) := by decide +kernel
theorem dX2_become_81 : decode cX2_become 81 = .ok (.aload_n 0, 1) := by decide +kernel
theorem dX2_become_82 : decode cX2_become 82 = .ok (.getfield 34, 3) := by decide +kernel
theorem dX2_become_85 : decode cX2_become 85 = .ok (.iconst 0, 1) := by decide +kernel
theorem dX2_become_86 : decode cX2_become 86 = .ok (.aload_n 0, 1) := by decide +kernel
theorem dX2_become_87 : decode cX2_become 87 = .ok (.getfield 34, 3) := by decide +kernel
theorem dX2_become_90 : decode cX2_become 90 = .ok (.arraylength, 1) := by decide +kernel
theorem dX2_become_91 : decode cX2_become 91 = .ok (.invokestatic 46, 3) := by decide +kernel
theorem dX2_become_94 : decode cX2_become 94 = .ok (.aload_n 1, 1) := by decide +kernel
theorem dX2_become_95 : decode cX2_become 95 = .ok (.getfield 37, 3) := by decide +kernel
theorem dX2_become_98 : decode cX2_become 98 = .ok (.iconst 0, 1) := by decide +kernel
theorem dX2_become_99 : decode cX2_become 99 = .ok (.aload_n 0, 1) := by decide +kernel
theorem dX2_become_100 : decode cX2_become 100 = .ok (.getfield 37, 3) := by decide +kernel
theorem dX2_become_103 : decode cX2_become 103 = .ok (.iconst 0, 1) := by decide +kernel
theorem dX2_become_104 : decode cX2_become 104 = .ok (.aload_n 0, 1) := by decide +kernel
theorem dX2_become_105 : decode cX2_become 105 = .ok (.getfield 37, 3) := by decide +kernel
theorem dX2_become_108 : decode cX2_become 108 = .ok (.arraylength, 1) := by decide +kernel
theorem dX2_become_109 : decode cX2_become 109 = .ok (.invokestatic 46, 3) := by decide +kernel
theorem dX2_become_112 : decode cX2_become 112 = .ok (.aload_n 1, 1) := by decide +kernel
theorem dX2_become_113 : decode cX2_become 113 = .ok (.getfield 40, 3) := by decide +kernel
theorem dX2_become_116 : decode cX2_become 116 = .ok (.iconst 0, 1) := by decide +kernel
theorem dX2_become_117 : decode cX2_become 117 = .ok (.aload_n 0, 1) := by decide +kernel
theorem dX2_become_118 : decode cX2_become 118 = .ok (.getfield 40, 3) := by decide +kernel
theorem dX2_become_121 : decode cX2_become 121 = .ok (.iconst 0, 1) := by decide +kernel
theorem dX2_become_122 : decode cX2_become 122 = .ok (.aload_n 0, 1) := by decide +kernel
theorem dX2_become_123 : decode cX2_become 123 = .ok (.getfield 40, 3) := by decide +kernel
theorem dX2_become_126 : decode cX2_become 126 = .ok (.arraylength, 1) := by decide +kernel
theorem dX2_become_127 : decode cX2_become 127 = .ok (.invokestatic 46, 3) := by decide +kernel
theorem dX2_become_130 : decode cX2_become 130 = .ok (.aload_n 1, 1) := by decide +kernel
theorem dX2_become_131 : decode cX2_become 131 = .ok (.getfield 43, 3) := by decide +kernel
theorem dX2_become_134 : decode cX2_become 134 = .ok (.iconst 0, 1) := by decide +kernel
theorem dX2_become_135 : decode cX2_become 135 = .ok (.aload_n 0, 1) := by decide +kernel
theorem dX2_become_136 : decode cX2_become 136 = .ok (.getfield 43, 3) := by decide +kernel
theorem dX2_become_139 : decode cX2_become 139 = .ok (.iconst 0, 1) := by decide +kernel
theorem dX2_become_140 : decode cX2_become 140 = .ok (.aload_n 0, 1) := by decide +kernel
theorem dX2_become_141 : decode cX2_become 141 = .ok (.getfield 43, 3) := by decide +kernel
theorem dX2_become_144 : decode cX2_become 144 = .ok (.arraylength, 1) := by decide +kernel
theorem dX2_become_145 : decode cX2_become 145 = .ok (.invokestatic 46, 3) := by decide +kernel
theorem dX2_become_148 : decode cX2_become 148 = .ok (.return_, 1) := by decide +kernel
theorem dX2_takeBytes_0 : decode cX2_takeBytes 0 = .ok (.aload_n 0, 1) := by decide +kernel
theorem dX2_takeBytes_1 : decode cX2_takeBytes 1 = .ok (.getfield 15, 3) := by decide +kernel
theorem dX2_takeBytes_4 : decode cX2_takeBytes 4 = .ok (.bipush 20, 2) := by decide +kernel
theorem dX2_takeBytes_6 : decode cX2_takeBytes 6 = .ok (.iadd, 1) := by decide +kernel
theorem dX2_takeBytes_7 : decode cX2_takeBytes 7 = .ok (.sipush 500, 3) := by decide +kernel
theorem dX2_takeBytes_10 : decode cX2_takeBytes 10 = .ok (.if_icmp .le 5, 3) := by decide +kernel
theorem dX2_takeBytes_15 : decode cX2_takeBytes 15 = .ok (.aload_n 0, 1) := by decide +kernel
theorem dX2_takeBytes_16 : decode cX2_takeBytes 16 = .ok (.iload_n 1, 1) := by decide +kernel
theorem dX2_takeBytes_17 : decode cX2_takeBytes 17 = .ok (.invokevirtual 52, 3) := by decide +kernel
theorem dX2_takeBytes_20 : decode cX2_takeBytes 20 = .ok (.aload_n 0, 1) := by decide +kernel
theorem dX2_takeBytes_21 : decode cX2_takeBytes 21 = .ok (.iload_n 2, 1) := by decide +kernel
theorem dX2_takeBytes_22 : decode cX2_takeBytes 22 = .ok (.invokevirtual 52, 3) := by decide +kernel
theorem dX2_takeBytes_25 : decode cX2_takeBytes 25 = .ok (.aload_n 0, 1) := by decide +kernel
theorem dX2_takeBytes_26 : decode cX2_takeBytes 26 = .ok (.iload_n 3, 1) := by decide +kernel
theorem dX2_takeBytes_27 : decode cX2_takeBytes 27 = .ok (.invokevirtual 52, 3) := by decide +kernel
theorem dX2_takeBytes_30 : decode cX2_takeBytes 30 = .ok (.aload_n 0, 1) := by decide +kernel
theorem dX2_takeBytes_31 : decode cX2_takeBytes 31 = .ok (.iload 4, 2) := by decide +kernel
theorem dX2_takeBytes_33 : decode cX2_takeBytes 33 = .ok (.invokevirtual 52, 3) := by decide +kernel
theorem dX2_takeBytes_36 : decode cX2_takeBytes 36 = .ok (.aload_n 0, 1) := by decide +kernel
theorem dX2_takeBytes_37 : decode cX2_takeBytes 37 = .ok (.iload 5, 2) := by decide +kernel
theorem dX2_takeBytes_39 : decode cX2_takeBytes 39 = .ok (.invokevirtual 52, 3) := by decide +kernel
theorem dX2_takeBytes_42 : decode cX2_takeBytes 42 = .ok (.aload_n 0, 1) := by decide +kernel
theorem dX2_takeBytes_43 : decode cX2_takeBytes 43 = .ok (.getfield 15, 3) := by decide +kernel
theorem dX2_takeBytes_46 : decode cX2_takeBytes 46 = .ok (.ireturn, 1) := by decide +kernel
theorem dX2_takeFour_0 : decode cX2_takeFour 0 = .ok (.bipush 24, 2) := by decide +kernel
theorem dX2_takeFour_2 : decode cX2_takeFour 2 = .ok (.istore_n 2, 1) := by decide +kernel
theorem dX2_takeFour_3 : decode cX2_takeFour 3 = .ok (.iload_n 2, 1) := by decide +kernel
theorem dX2_takeFour_4 : decode cX2_takeFour 4 = .ok (.ifCond .lt 35, 3) := by decide +kernel
theorem dX2_takeFour_7 : decode cX2_takeFour 7 = .ok (.aload_n 0, 1) := by decide +kernel
theorem dX2_takeFour_8 : decode cX2_takeFour 8 = .ok (.getfield 11, 3) := by decide +kernel
theorem dX2_takeFour_11 : decode cX2_takeFour 11 = .ok (.aload_n 0, 1) := by decide +kernel
theorem dX2_takeFour_12 : decode cX2_takeFour 12 = .ok (.getfield 15, 3) := by decide +kernel
theorem dX2_takeFour_15 : decode cX2_takeFour 15 = .ok (.iload_n 1, 1) := by decide +kernel
theorem dX2_takeFour_16 : decode cX2_takeFour 16 = .ok (.iload_n 2, 1) := by decide +kernel
theorem dX2_takeFour_17 : decode cX2_takeFour 17 = .ok (.ishr, 1) := by decide +kernel
theorem dX2_takeFour_18 : decode cX2_takeFour 18 = .ok (.sipush 255, 3) := by decide +kernel
theorem dX2_takeFour_21 : decode cX2_takeFour 21 = .ok (.iand, 1) := by decide +kernel
theorem dX2_takeFour_22 : decode cX2_takeFour 22 = .ok (.iastore, 1) := by decide +kernel
theorem dX2_takeFour_23 : decode cX2_takeFour 23 = .ok (.aload_n 0, 1) := by decide +kernel
theorem dX2_takeFour_24 : decode cX2_takeFour 24 = .ok (.dup, 1) := by decide +kernel
theorem dX2_takeFour_25 : decode cX2_takeFour 25 = .ok (.getfield 15, 3) := by decide +kernel
theorem dX2_takeFour_28 : decode cX2_takeFour 28 = .ok (.iconst 1, 1) := by decide +kernel
theorem dX2_takeFour_29 : decode cX2_takeFour 29 = .ok (.iadd, 1) := by decide +kernel
theorem dX2_takeFour_30 : decode cX2_takeFour 30 = .ok (.putfield 15, 3) := by decide +kernel
theorem dX2_takeFour_33 : decode cX2_takeFour 33 = .ok (.iinc 2 (-8), 3) := by decide +kernel
theorem dX2_takeFour_36 : decode cX2_takeFour 36 = .ok (.goto (-33), 3) := by decide +kernel
theorem dX2_takeFour_39 : decode cX2_takeFour 39 = .ok (.return_, 1) := by decide +kernel
theorem dX2_cutTo_0 : decode cX2_cutTo 0 = .ok (.iload_n 1, 1) := by decide +kernel
theorem dX2_cutTo_1 : decode cX2_cutTo 1 = .ok (.ifCond .lt 11, 3) := by decide +kernel
theorem dX2_cutTo_4 : decode cX2_cutTo 4 = .ok (.iload_n 1, 1) := by decide +kernel
theorem dX2_cutTo_5 : decode cX2_cutTo 5 = .ok (.aload_n 0, 1) := by decide +kernel
theorem dX2_cutTo_6 : decode cX2_cutTo 6 = .ok (.getfield 15, 3) := by decide +kernel
theorem dX2_cutTo_9 : decode cX2_cutTo 9 = .ok (.if_icmp .le 5, 3) := by decide +kernel
theorem dX2_cutTo_12 : decode cX2_cutTo 12 = .ok (.iconst (-1), 1) := by decide +kernel
theorem dX2_cutTo_13 : decode cX2_cutTo 13 = .ok (.ireturn, 1) := by decide +kernel
theorem dX2_cutTo_14 : decode cX2_cutTo 14 = .ok (.aload_n 0, 1) := by decide +kernel
theorem dX2_cutTo_15 : decode cX2_cutTo 15 = .ok (.iload_n 1, 1) := by decide +kernel
theorem dX2_cutTo_16 : decode cX2_cutTo 16 = .ok (.putfield 15, 3) := by decide +kernel
theorem dX2_cutTo_19 : decode cX2_cutTo 19 = .ok (.iload_n 1, 1) := by decide +kernel
theorem dX2_cutTo_20 : decode cX2_cutTo 20 = .ok (.ireturn, 1) := by decide +kernel
theorem dX2_takeText_0 : decode cX2_takeText 0 = .ok (.aload_n 0, 1) := by decide +kernel
theorem dX2_takeText_1 : decode cX2_takeText 1 = .ok (.iconst 0, 1) := by decide +kernel
theorem dX2_takeText_2 : decode cX2_takeText 2 = .ok (.putfield 19, 3) := by decide +kernel
theorem dX2_takeText_5 : decode cX2_takeText 5 = .ok (.aload_n 0, 1) := by decide +kernel
theorem dX2_takeText_6 : decode cX2_takeText 6 = .ok (.iconst (-1), 1) := by decide +kernel
theorem dX2_takeText_7 : decode cX2_takeText 7 = .ok (.putfield 22, 3) := by decide +kernel
theorem dX2_takeText_10 : decode cX2_takeText 10 = .ok (.aload_n 0, 1) := by decide +kernel
theorem dX2_takeText_11 : decode cX2_takeText 11 = .ok (.getfield 25, 3) := by decide +kernel
theorem dX2_takeText_14 : decode cX2_takeText 14 = .ok (.iconst 4, 1) := by decide +kernel
theorem dX2_takeText_15 : decode cX2_takeText 15 = .ok (.if_icmp .ge 14, 3) := by decide +kernel
theorem dX2_takeText_18 : decode cX2_takeText 18 = .ok (.iload_n 2, 1) := by decide +kernel
theorem dX2_takeText_19 : decode cX2_takeText 19 = .ok (.iconst 0, 1) := by decide +kernel
theorem dX2_takeText_20 : decode cX2_takeText 20 = .ok (.sipush 999, 3) := by decide +kernel
theorem dX2_takeText_23 : decode cX2_takeText 23 = .ok (.invokestatic 56, 3) := by decide +kernel
theorem dX2_takeText_26 : decode cX2_takeText 26 = .ok (.ifCond .ne 11, 3) := by decide +kernel
theorem dX2_takeText_29 : decode cX2_takeText 29 = .ok (.aload_n 0, 1) := by decide +kernel
theorem dX2_takeText_30 : decode cX2_takeText 30 = .ok (.iconst 0, 1) := by decide +kernel
theorem dX2_takeText_31 : decode cX2_takeText 31 = .ok (.putfield 15, 3) := by decide +kernel
theorem dX2_takeText_34 : decode cX2_takeText 34 = .ok (.bipush (-2), 2) := by decide +kernel
theorem dX2_takeText_36 : decode cX2_takeText 36 = .ok (.ireturn, 1) := by decide +kernel
theorem dX2_takeText_37 : decode cX2_takeText 37 = .ok (.aload_n 1, 1) := by decide +kernel
theorem dX2_takeText_38 : decode cX2_takeText 38 = .ok (.invokevirtual 60, 3) := by decide +kernel
theorem dX2_takeText_41 : decode cX2_takeText 41 = .ok (.aload_n 0, 1) := by decide +kernel
theorem dX2_takeText_42 : decode cX2_takeText 42 = .ok (.aload_n 1, 1) := by decide +kernel
theorem dX2_takeText_43 : decode cX2_takeText 43 = .ok (.aload_n 0, 1) := by decide +kernel
theorem dX2_takeText_44 : decode cX2_takeText 44 = .ok (.getfield 25, 3) := by decide +kernel
theorem dX2_takeText_47 : decode cX2_takeText 47 = .ok (.invokevirtual 65, 3) := by decide +kernel
theorem dX2_takeText_50 : decode cX2_takeText 50 = .ok (.putfield 19, 3) := by decide +kernel
theorem dX2_takeText_53 : decode cX2_takeText 53 = .ok (.aload_n 0, 1) := by decide +kernel
theorem dX2_takeText_54 : decode cX2_takeText 54 = .ok (.aload_n 1, 1) := by decide +kernel
theorem dX2_takeText_55 : decode cX2_takeText 55 = .ok (.getfield 69, 3) := by decide +kernel
theorem dX2_takeText_58 : decode cX2_takeText 58 = .ok (.putfield 22, 3) := by decide +kernel
theorem dX2_takeText_61 : decode cX2_takeText 61 = .ok (.aload_n 0, 1) := by decide +kernel
theorem dX2_takeText_62 : decode cX2_takeText 62 = .ok (.iconst 0, 1) := by decide +kernel
theorem dX2_takeText_63 : decode cX2_takeText 63 = .ok (.putfield 15, 3) := by decide +kernel
theorem dX2_takeText_66 : decode cX2_takeText 66 = .ok (.aload_n 0, 1) := by decide +kernel
theorem dX2_takeText_67 : decode cX2_takeText 67 = .ok (.getfield 19, 3) := by decide +kernel
theorem dX2_takeText_70 : decode cX2_takeText 70 = .ok (.ifCond .eq 5, 3) := by decide +kernel
theorem dX2_takeText_75 : decode cX2_takeText 75 = .ok (.aload_n 0, 1) := by decide +kernel
theorem dX2_takeText_76 : decode cX2_takeText 76 = .ok (.getfield 28, 3) := by decide +kernel
theorem dX2_takeText_79 : decode cX2_takeText 79 = .ok (.aload_n 0, 1) := by decide +kernel
theorem dX2_takeText_80 : decode cX2_takeText 80 = .ok (.getfield 25, 3) := by decide +kernel
theorem dX2_takeText_83 : decode cX2_takeText 83 = .ok (.iload_n 2, 1) := by decide +kernel
theorem dX2_takeText_84 : decode cX2_takeText 84 = .ok (.iastore, 1) := by decide +kernel
theorem dX2_takeText_85 : decode cX2_takeText 85 = .ok (.aload_n 0, 1) := by decide +kernel
theorem dX2_takeText_86 : decode cX2_takeText 86 = .ok (.dup, 1) := by decide +kernel
theorem dX2_takeText_87 : decode cX2_takeText 87 = .ok (.getfield 25, 3) := by decide +kernel
theorem dX2_takeText_90 : decode cX2_takeText 90 = .ok (.iconst 1, 1) := by decide +kernel
theorem dX2_takeText_91 : decode cX2_takeText 91 = .ok (.iadd, 1) := by decide +kernel
theorem dX2_takeText_92 : decode cX2_takeText 92 = .ok (.putfield 25, 3) := by decide +kernel
theorem dX2_takeText_95 : decode cX2_takeText 95 = .ok (.aload_n 0, 1) := by decide +kernel
theorem dX2_takeText_96 : decode cX2_takeText 96 = .ok (.getfield 25, 3) := by decide +kernel
theorem dX2_takeText_99 : decode cX2_takeText 99 = .ok (.iconst 1, 1) := by decide +kernel
theorem dX2_takeText_100 : decode cX2_takeText 100 = .ok (.isub, 1) := by decide +kernel
theorem dX2_takeText_101 : decode cX2_takeText 101 = .ok (.ireturn, 1) := by decide +kernel
theorem dX2_faultFact_0 : decode cX2_faultFact 0 = .ok (.iload_n 1, 1) := by decide +kernel
theorem dX2_faultFact_1 : decode cX2_faultFact 1 = .ok (.lookupswitch 37 #[(0, 27), (1, 32)], 27) := by decide +kernel
theorem dX2_faultFact_28 : decode cX2_faultFact 28 = .ok (.aload_n 0, 1) := by decide +kernel
theorem dX2_faultFact_29 : decode cX2_faultFact 29 = .ok (.getfield 19, 3) := by decide +kernel
theorem dX2_faultFact_32 : decode cX2_faultFact 32 = .ok (.ireturn, 1) := by decide +kernel
theorem dX2_faultFact_33 : decode cX2_faultFact 33 = .ok (.aload_n 0, 1) := by decide +kernel
theorem dX2_faultFact_34 : decode cX2_faultFact 34 = .ok (.getfield 22, 3) := by decide +kernel
theorem dX2_faultFact_37 : decode cX2_faultFact 37 = .ok (.ireturn, 1) := by decide +kernel
theorem dX2_faultFact_38 : decode cX2_faultFact 38 = .ok (.iconst (-1), 1) := by decide +kernel
theorem dX2_faultFact_39 : decode cX2_faultFact 39 = .ok (.ireturn, 1) := by decide +kernel
theorem dX2_inForce_0 : decode cX2_inForce 0 = .ok (.aload_n 0, 1) := by decide +kernel
theorem dX2_inForce_1 : decode cX2_inForce 1 = .ok (.getfield 25, 3) := by decide +kernel
theorem dX2_inForce_4 : decode cX2_inForce 4 = .ok (.iconst 1, 1) := by decide +kernel
theorem dX2_inForce_5 : decode cX2_inForce 5 = .ok (.isub, 1) := by decide +kernel
theorem dX2_inForce_6 : decode cX2_inForce 6 = .ok (.istore_n 2, 1) := by decide +kernel
theorem dX2_inForce_7 : decode cX2_inForce 7 = .ok (.iload_n 2, 1) := by decide +kernel
theorem dX2_inForce_8 : decode cX2_inForce 8 = .ok (.ifCond .lt 21, 3) := by decide +kernel
theorem dX2_inForce_29 : decode cX2_inForce 29 = .ok (.iconst (-1), 1) := by decide +kernel
theorem dX2_inForce_30 : decode cX2_inForce 30 = .ok (.ireturn, 1) := by decide +kernel
theorem dX5_init_0 : decode cX5_init 0 = .ok (.aload_n 0, 1) := by decide +kernel
theorem dX5_init_1 : decode cX5_init 1 = .ok (.invokespecial 3, 3) := by decide +kernel
theorem dX5_init_4 : decode cX5_init 4 = .ok (.aload_n 0, 1) := by decide +kernel
theorem dX5_init_5 : decode cX5_init 5 = .ok (.iconst 0, 1) := by decide +kernel
theorem dX5_init_6 : decode cX5_init 6 = .ok (.putfield 9, 3) := by decide +kernel
theorem dX5_init_9 : decode cX5_init 9 = .ok (.aload_n 0, 1) := by decide +kernel
theorem dX5_init_10 : decode cX5_init 10 = .ok (.bipush 40, 2) := by decide +kernel
theorem dX5_init_12 : decode cX5_init 12 = .ok (.newarray .int, 2) := by decide +kernel
theorem dX5_init_14 : decode cX5_init 14 = .ok (.putfield 15, 3) := by decide +kernel
theorem dX5_init_17 : decode cX5_init 17 = .ok (.aload_n 0, 1) := by decide +kernel
theorem dX5_init_18 : decode cX5_init 18 = .ok (.bipush 40, 2) := by decide +kernel
theorem dX5_init_20 : decode cX5_init 20 = .ok (.newarray .int, 2) := by decide +kernel
theorem dX5_init_22 : decode cX5_init 22 = .ok (.putfield 19, 3) := by decide +kernel
theorem dX5_init_25 : decode cX5_init 25 = .ok (.aload_n 0, 1) := by decide +kernel
theorem dX5_init_26 : decode cX5_init 26 = .ok (.bipush 40, 2) := by decide +kernel
theorem dX5_init_28 : decode cX5_init 28 = .ok (.newarray .int, 2) := by decide +kernel
theorem dX5_init_30 : decode cX5_init 30 = .ok (.putfield 22, 3) := by decide +kernel
theorem dX5_init_33 : decode cX5_init 33 = .ok (.aload_n 0, 1) := by decide +kernel
theorem dX5_init_34 : decode cX5_init 34 = .ok (.bipush 40, 2) := by decide +kernel
theorem dX5_init_36 : decode cX5_init 36 = .ok (.newarray .int, 2) := by decide +kernel
theorem dX5_init_38 : decode cX5_init 38 = .ok (.putfield 25, 3) := by decide +kernel
theorem dX5_init_41 : decode cX5_init 41 = .ok (.aload_n 0, 1) := by decide +kernel
theorem dX5_init_42 : decode cX5_init 42 = .ok (.iconst 0, 1) := by decide +kernel
theorem dX5_init_43 : decode cX5_init 43 = .ok (.putfield 28, 3) := by decide +kernel
theorem dX5_init_46 : decode cX5_init 46 = .ok (.aload_n 0, 1) := by decide +kernel
theorem dX5_init_47 : decode cX5_init 47 = .ok (.bipush 8, 2) := by decide +kernel
theorem dX5_init_49 : decode cX5_init 49 = .ok (.newarray .int, 2) := by decide +kernel
theorem dX5_init_51 : decode cX5_init 51 = .ok (.putfield 31, 3) := by decide +kernel
theorem dX5_init_54 : decode cX5_init 54 = .ok (.aload_n 0, 1) := by decide +kernel
theorem dX5_init_55 : decode cX5_init 55 = .ok (.bipush 8, 2) := by decide +kernel
theorem dX5_init_57 : decode cX5_init 57 = .ok (.newarray .int, 2) := by decide +kernel
theorem dX5_init_59 : decode cX5_init 59 = .ok (.putfield 34, 3) := by decide +kernel
theorem dX5_init_62 : decode cX5_init 62 = .ok (.aload_n 0, 1) := by decide +kernel
theorem dX5_init_63 : decode cX5_init 63 = .ok (.bipush 8, 2) := by decide +kernel
theorem dX5_init_65 : decode cX5_init 65 = .ok (.newarray .int, 2) := by decide +kernel
theorem dX5_init_67 : decode cX5_init 67 = .ok (.putfield 37, 3) := by decide +kernel
theorem dX5_init_70 : decode cX5_init 70 = .ok (.return_, 1) := by decide +kernel
theorem dX5_become_0 : decode cX5_become 0 = .ok (.aload_n 0, 1) := by decide +kernel
theorem dX5_become_1 : decode cX5_become 1 = .ok (.aload_n 1, 1) := by decide +kernel
theorem dX5_become_2 : decode cX5_become 2 = .ok (.getfield 9, 3) := by decide +kernel
theorem dX5_become_5 : decode cX5_become 5 = .ok (.putfield 9, 3) := by decide +kernel
theorem dX5_become_8 : decode cX5_become 8 = .ok (.aload_n 0, 1) := by decide +kernel
theorem dX5_become_9 : decode cX5_become 9 = .ok (.aload_n 1, 1) := by decide +kernel
theorem dX5_become_10 : decode cX5_become 10 = .ok (.getfield 28, 3) := by decide +kernel
theorem dX5_become_13 : decode cX5_become 13 = .ok (.putfield 28, 3) := by decide +kernel
theorem dX5_become_16 : decode cX5_become 16 = .ok (.aload_n 1, 1) := by decide +kernel
theorem dX5_become_17 : decode cX5_become 17 = .ok (.getfield 15, 3) := by decide +kernel
theorem dX5_become_20 : decode cX5_become 20 = .ok (.iconst 0, 1) := by decide +kernel
theorem dX5_become_21 : decode cX5_become 21 = .ok (.aload_n 0, 1) := by decide +kernel
theorem dX5_become_22 : decode cX5_become 22 = .ok (.getfield 15, 3) := by decide +kernel
theorem dX5_become_25 : decode cX5_become 25 = .ok (.iconst 0, 1) := by decide +kernel
theorem dX5_become_26 : decode cX5_become 26 = .ok (.bipush 40, 2) := by decide +kernel
theorem dX5_become_28 : decode cX5_become 28 = .ok (.invokestatic 40, 3) := by decide +kernel
theorem dX5_become_31 : decode cX5_become 31 = .ok (.aload_n 1, 1) := by decide +kernel
theorem dX5_become_32 : decode cX5_become 32 = .ok (.getfield 19, 3) := by decide +kernel
theorem dX5_become_35 : decode cX5_become 35 = .ok (.iconst 0, 1) := by decide +kernel
theorem dX5_become_36 : decode cX5_become 36 = .ok (.aload_n 0, 1) := by decide +kernel
theorem dX5_become_37 : decode cX5_become 37 = .ok (.getfield 19, 3) := by decide +kernel
theorem dX5_become_40 : decode cX5_become 40 = .ok (.iconst 0, 1) := by decide +kernel
theorem dX5_become_41 : decode cX5_become 41 = .ok (.bipush 40, 2) := by decide +kernel
theorem dX5_become_43 : decode cX5_become 43 = .ok (.invokestatic 40, 3) := by decide +kernel
theorem dX5_become_46 : decode cX5_become 46 = .ok (.aload_n 1, 1) := by decide +kernel
theorem dX5_become_47 : decode cX5_become 47 = .ok (.getfield 22, 3) := by decide +kernel
theorem dX5_become_50 : decode cX5_become 50 = .ok (.iconst 0, 1) := by decide +kernel
theorem dX5_become_51 : decode cX5_become 51 = .ok (.aload_n 0, 1) := by decide +kernel
theorem dX5_become_52 : decode cX5_become 52 = .ok (.getfield 22, 3) := by decide +kernel
theorem dX5_become_55 : decode cX5_become 55 = .ok (.iconst 0, 1) := by decide +kernel
theorem dX5_become_56 : decode cX5_become 56 = .ok (.bipush 40, 2) := by decide +kernel
theorem dX5_become_58 : decode cX5_become 58 = .ok (.invokestatic 40, 3) := by decide +kernel
theorem dX5_become_61 : decode cX5_become 61 = .ok (.aload_n 1, 1) := by decide +kernel
theorem dX5_become_62 : decode cX5_become 62 = .ok (.getfield 25, 3) := by decide +kernel
theorem dX5_become_65 : decode cX5_become 65 = .ok (.iconst 0, 1) := by decide +kernel
theorem dX5_become_66 : decode cX5_become 66 = .ok (.aload_n 0, 1) := by decide +kernel
theorem dX5_become_67 : decode cX5_become 67 = .ok (.getfield 25, 3) := by decide +kernel
theorem dX5_become_70 : decode cX5_become 70 = .ok (.iconst 0, 1) := by decide +kernel
theorem dX5_become_71 : decode cX5_become 71 = .ok (.bipush 40, 2) := by decide +kernel
theorem dX5_become_73 : decode cX5_become 73 = .ok (.invokestatic 40, 3) := by decide +kernel
theorem dX5_become_76 : decode cX5_become 76 = .ok (.aload_n 1, 1) := by decide +kernel
theorem dX5_become_77 : decode cX5_become 77 = .ok (.getfield 31, 3) := by decide +kernel
theorem dX5_become_80 : decode cX5_become 80 = .ok (.iconst 0, 1) := by decide +kernel
theorem dX5_become_81 : decode cX5_become 81 = .ok (.aload_n 0, 1) := by decide +kernel
theorem dX5_become_82 : decode cX5_become 82 = .ok (.getfield 31, 3) := by decide +kernel
theorem dX5_become_85 : decode cX5_become 85 = .ok (.iconst 0, 1) := by decide +kernel
theorem dX5_become_86 : decode cX5_become 86 = .ok (.bipush 8, 2) := by decide +kernel
theorem dX5_become_88 : decode cX5_become 88 = .ok (.invokestatic 40, 3) := by decide +kernel
theorem dX5_become_91 : decode cX5_become 91 = .ok (.aload_n 1, 1) := by decide +kernel
theorem dX5_become_92 : decode cX5_become 92 = .ok (.getfield 34, 3) := by decide +kernel
theorem dX5_become_95 : decode cX5_become 95 = .ok (.iconst 0, 1) := by decide +kernel
theorem dX5_become_96 : decode cX5_become 96 = .ok (.aload_n 0, 1) := by decide +kernel
theorem dX5_become_97 : decode cX5_become 97 = .ok (.getfield 34, 3) := by decide +kernel
theorem dX5_become_100 : decode cX5_become 100 = .ok (.iconst 0, 1) := by decide +kernel
theorem dX5_become_101 : decode cX5_become 101 = .ok (.bipush 8, 2) := by decide +kernel
theorem dX5_become_103 : decode cX5_become 103 = .ok (.invokestatic 40, 3) := by decide +kernel
theorem dX5_become_106 : decode cX5_become 106 = .ok (.aload_n 1, 1) := by decide +kernel
theorem dX5_become_107 : decode cX5_become 107 = .ok (.getfield 37, 3) := by decide +kernel
theorem dX5_become_110 : decode cX5_become 110 = .ok (.iconst 0, 1) := by decide +kernel
theorem dX5_become_111 : decode cX5_become 111 = .ok (.aload_n 0, 1) := by decide +kernel
theorem dX5_become_112 : decode cX5_become 112 = .ok (.getfield 37, 3) := by decide +kernel
theorem dX5_become_115 : decode cX5_become 115 = .ok (.iconst 0, 1) := by decide +kernel
theorem dX5_become_116 : decode cX5_become 116 = .ok (.bipush 8, 2) := by decide +kernel
theorem dX5_become_118 : decode cX5_become 118 = .ok (.invokestatic 40, 3) := by decide +kernel
theorem dX5_become_121 : decode cX5_become 121 = .ok (.return_, 1) := by decide +kernel
theorem dX5_fallen_0 : decode cX5_fallen 0 = .ok (.iconst 0, 1) := by decide +kernel
theorem dX5_fallen_1 : decode cX5_fallen 1 = .ok (.istore_n 2, 1) := by decide +kernel
theorem dX5_fallen_2 : decode cX5_fallen 2 = .ok (.iconst 0, 1) := by decide +kernel
theorem dX5_fallen_3 : decode cX5_fallen 3 = .ok (.istore_n 3, 1) := by decide +kernel
theorem dX5_fallen_4 : decode cX5_fallen 4 = .ok (.iload_n 3, 1) := by decide +kernel
theorem dX5_fallen_5 : decode cX5_fallen 5 = .ok (.aload_n 0, 1) := by decide +kernel
theorem dX5_fallen_6 : decode cX5_fallen 6 = .ok (.getfield 9, 3) := by decide +kernel
theorem dX5_fallen_9 : decode cX5_fallen 9 = .ok (.if_icmp .ge 21, 3) := by decide +kernel
theorem dX5_fallen_30 : decode cX5_fallen 30 = .ok (.iload_n 2, 1) := by decide +kernel
theorem dX5_fallen_31 : decode cX5_fallen 31 = .ok (.ireturn, 1) := by decide +kernel
theorem dX5_printedFact_0 : decode cX5_printedFact 0 = .ok (.iload_n 1, 1) := by decide +kernel
theorem dX5_printedFact_1 : decode cX5_printedFact 1 = .ok (.ifCond .lt 11, 3) := by decide +kernel
theorem dX5_printedFact_4 : decode cX5_printedFact 4 = .ok (.iload_n 1, 1) := by decide +kernel
theorem dX5_printedFact_5 : decode cX5_printedFact 5 = .ok (.aload_n 0, 1) := by decide +kernel
theorem dX5_printedFact_6 : decode cX5_printedFact 6 = .ok (.getfield 9, 3) := by decide +kernel
theorem dX5_printedFact_9 : decode cX5_printedFact 9 = .ok (.if_icmp .lt 5, 3) := by decide +kernel
theorem dX5_printedFact_12 : decode cX5_printedFact 12 = .ok (.iconst (-1), 1) := by decide +kernel
theorem dX5_printedFact_13 : decode cX5_printedFact 13 = .ok (.ireturn, 1) := by decide +kernel
theorem dX5_hasGrant_0 : decode cX5_hasGrant 0 = .ok (.iload_n 1, 1) := by decide +kernel
theorem dX5_hasGrant_1 : decode cX5_hasGrant 1 = .ok (.ifCond .lt 15, 3) := by decide +kernel
theorem dX5_hasGrant_4 : decode cX5_hasGrant 4 = .ok (.iload_n 1, 1) := by decide +kernel
theorem dX5_hasGrant_5 : decode cX5_hasGrant 5 = .ok (.aload_n 0, 1) := by decide +kernel
theorem dX5_hasGrant_6 : decode cX5_hasGrant 6 = .ok (.getfield 28, 3) := by decide +kernel
theorem dX5_hasGrant_9 : decode cX5_hasGrant 9 = .ok (.if_icmp .ge 7, 3) := by decide +kernel
theorem dX5_hasGrant_16 : decode cX5_hasGrant 16 = .ok (.iconst 0, 1) := by decide +kernel
theorem dX5_hasGrant_17 : decode cX5_hasGrant 17 = .ok (.ireturn, 1) := by decide +kernel
theorem dX6_init_0 : decode cX6_init 0 = .ok (.aload_n 0, 1) := by decide +kernel
theorem dX6_init_1 : decode cX6_init 1 = .ok (.invokespecial 3, 3) := by decide +kernel
theorem dX6_init_4 : decode cX6_init 4 = .ok (.aload_n 0, 1) := by decide +kernel
theorem dX6_init_5 : decode cX6_init 5 = .ok (.iconst 0, 1) := by decide +kernel
theorem dX6_init_6 : decode cX6_init 6 = .ok (.putfield 9, 3) := by decide +kernel
theorem dX6_init_9 : decode cX6_init 9 = .ok (.aload_n 0, 1) := by decide +kernel
theorem dX6_init_10 : decode cX6_init 10 = .ok (.bipush 16, 2) := by decide +kernel
theorem dX6_init_12 : decode cX6_init 12 = .ok (.newarray .int, 2) := by decide +kernel
theorem dX6_init_14 : decode cX6_init 14 = .ok (.putfield 15, 3) := by decide +kernel
theorem dX6_init_17 : decode cX6_init 17 = .ok (.aload_n 0, 1) := by decide +kernel
theorem dX6_init_18 : decode cX6_init 18 = .ok (.bipush 16, 2) := by decide +kernel
theorem dX6_init_20 : decode cX6_init 20 = .ok (.newarray .int, 2) := by decide +kernel
theorem dX6_init_22 : decode cX6_init 22 = .ok (.putfield 19, 3) := by decide +kernel
theorem dX6_init_25 : decode cX6_init 25 = .ok (.aload_n 0, 1) := by decide +kernel
theorem dX6_init_26 : decode cX6_init 26 = .ok (.bipush 16, 2) := by decide +kernel
theorem dX6_init_28 : decode cX6_init 28 = .ok (.newarray .int, 2) := by decide +kernel
theorem dX6_init_30 : decode cX6_init 30 = .ok (.putfield 22, 3) := by decide +kernel
theorem dX6_init_33 : decode cX6_init 33 = .ok (.aload_n 0, 1) := by decide +kernel
theorem dX6_init_34 : decode cX6_init 34 = .ok (.bipush 16, 2) := by decide +kernel
theorem dX6_init_36 : decode cX6_init 36 = .ok (.newarray .int, 2) := by decide +kernel
theorem dX6_init_38 : decode cX6_init 38 = .ok (.putfield 25, 3) := by decide +kernel
theorem dX6_init_41 : decode cX6_init 41 = .ok (.aload_n 0, 1) := by decide +kernel
theorem dX6_init_42 : decode cX6_init 42 = .ok (.bipush 16, 2) := by decide +kernel
theorem dX6_init_44 : decode cX6_init 44 = .ok (.newarray .int, 2) := by decide +kernel
theorem dX6_init_46 : decode cX6_init 46 = .ok (.putfield 28, 3) := by decide +kernel
theorem dX6_init_49 : decode cX6_init 49 = .ok (.aload_n 0, 1) := by decide +kernel
theorem dX6_init_50 : decode cX6_init 50 = .ok (.bipush 16, 2) := by decide +kernel
theorem dX6_init_52 : decode cX6_init 52 = .ok (.newarray .int, 2) := by decide +kernel
theorem dX6_init_54 : decode cX6_init 54 = .ok (.putfield 31, 3) := by decide +kernel
theorem dX6_init_57 : decode cX6_init 57 = .ok (.aload_n 0, 1) := by decide +kernel
theorem dX6_init_58 : decode cX6_init 58 = .ok (.bipush 16, 2) := by decide +kernel
theorem dX6_init_60 : decode cX6_init 60 = .ok (.newarray .int, 2) := by decide +kernel
theorem dX6_init_62 : decode cX6_init 62 = .ok (.putfield 34, 3) := by decide +kernel
theorem dX6_init_65 : decode cX6_init 65 = .ok (.aload_n 0, 1) := by decide +kernel
theorem dX6_init_66 : decode cX6_init 66 = .ok (.bipush 16, 2) := by decide +kernel
theorem dX6_init_68 : decode cX6_init 68 = .ok (.newarray .int, 2) := by decide +kernel
theorem dX6_init_70 : decode cX6_init 70 = .ok (.putfield 37, 3) := by decide +kernel
theorem dX6_init_73 : decode cX6_init 73 = .ok (.aload_n 0, 1) := by decide +kernel
theorem dX6_init_74 : decode cX6_init 74 = .ok (.bipush 16, 2) := by decide +kernel
theorem dX6_init_76 : decode cX6_init 76 = .ok (.newarray .int, 2) := by decide +kernel
theorem dX6_init_78 : decode cX6_init 78 = .ok (.putfield 40, 3) := by decide +kernel
theorem dX6_init_81 : decode cX6_init 81 = .ok (.aload_n 0, 1) := by decide +kernel
theorem dX6_init_82 : decode cX6_init 82 = .ok (.bipush 16, 2) := by decide +kernel
theorem dX6_init_84 : decode cX6_init 84 = .ok (.newarray .int, 2) := by decide +kernel
theorem dX6_init_86 : decode cX6_init 86 = .ok (.putfield 43, 3) := by decide +kernel
theorem dX6_init_89 : decode cX6_init 89 = .ok (.aload_n 0, 1) := by decide +kernel
theorem dX6_init_90 : decode cX6_init 90 = .ok (.bipush 16, 2) := by decide +kernel
theorem dX6_init_92 : decode cX6_init 92 = .ok (.newarray .int, 2) := by decide +kernel
theorem dX6_init_94 : decode cX6_init 94 = .ok (.putfield 46, 3) := by decide +kernel
theorem dX6_init_97 : decode cX6_init 97 = .ok (.aload_n 0, 1) := by decide +kernel
theorem dX6_init_98 : decode cX6_init 98 = .ok (.bipush 16, 2) := by decide +kernel
theorem dX6_init_100 : decode cX6_init 100 = .ok (.newarray .int, 2) := by decide +kernel
theorem dX6_init_102 : decode cX6_init 102 = .ok (.putfield 49, 3) := by decide +kernel
theorem dX6_init_105 : decode cX6_init 105 = .ok (.aload_n 0, 1) := by decide +kernel
theorem dX6_init_106 : decode cX6_init 106 = .ok (.bipush 16, 2) := by decide +kernel
theorem dX6_init_108 : decode cX6_init 108 = .ok (.newarray .int, 2) := by decide +kernel
theorem dX6_init_110 : decode cX6_init 110 = .ok (.putfield 52, 3) := by decide +kernel
theorem dX6_init_113 : decode cX6_init 113 = .ok (.aload_n 0, 1) := by decide +kernel
theorem dX6_init_114 : decode cX6_init 114 = .ok (.bipush 36, 2) := by decide +kernel
theorem dX6_init_116 : decode cX6_init 116 = .ok (.newarray .int, 2) := by decide +kernel
theorem dX6_init_118 : decode cX6_init 118 = .ok (.putfield 55, 3) := by decide +kernel
theorem dX6_init_121 : decode cX6_init 121 = .ok (.aload_n 0, 1) := by decide +kernel
theorem dX6_init_122 : decode cX6_init 122 = .ok (.getfield 55, 3) := by decide +kernel
theorem dX6_init_125 : decode cX6_init 125 = .ok (.iconst 1, 1) := by decide +kernel
theorem dX6_init_126 : decode cX6_init 126 = .ok (.invokestatic 58, 3) := by decide +kernel
theorem dX6_init_129 : decode cX6_init 129 = .ok (.iconst 0, 1) := by decide +kernel
theorem dX6_init_130 : decode cX6_init 130 = .ok (.istore_n 1, 1) := by decide +kernel
theorem dX6_init_131 : decode cX6_init 131 = .ok (.iload_n 1, 1) := by decide +kernel
theorem dX6_init_132 : decode cX6_init 132 = .ok (.bipush 6, 2) := by decide +kernel
theorem dX6_init_134 : decode cX6_init 134 = .ok (.if_icmp .ge 21, 3) := by decide +kernel
theorem dX6_init_137 : decode cX6_init 137 = .ok (.aload_n 0, 1) := by decide +kernel
theorem dX6_init_138 : decode cX6_init 138 = .ok (.getfield 55, 3) := by decide +kernel
theorem dX6_init_141 : decode cX6_init 141 = .ok (.iload_n 1, 1) := by decide +kernel
theorem dX6_init_142 : decode cX6_init 142 = .ok (.bipush 6, 2) := by decide +kernel
theorem dX6_init_144 : decode cX6_init 144 = .ok (.imul, 1) := by decide +kernel
theorem dX6_init_145 : decode cX6_init 145 = .ok (.iload_n 1, 1) := by decide +kernel
theorem dX6_init_146 : decode cX6_init 146 = .ok (.iadd, 1) := by decide +kernel
theorem dX6_init_147 : decode cX6_init 147 = .ok (.iconst 0, 1) := by decide +kernel
theorem dX6_init_148 : decode cX6_init 148 = .ok (.iastore, 1) := by decide +kernel
theorem dX6_init_149 : decode cX6_init 149 = .ok (.iinc 1 1, 3) := by decide +kernel
theorem dX6_init_152 : decode cX6_init 152 = .ok (.goto (-21), 3) := by decide +kernel
theorem dX6_init_155 : decode cX6_init 155 = .ok (.return_, 1) := by decide +kernel
theorem dX6_become_0 : decode cX6_become 0 = .ok (.aload_n 0, 1) := by decide +kernel
theorem dX6_become_1 : decode cX6_become 1 = .ok (.aload_n 1, 1) := by decide +kernel
theorem dX6_become_2 : decode cX6_become 2 = .ok (.getfield 9, 3) := by decide +kernel
theorem dX6_become_5 : decode cX6_become 5 = .ok (.putfield 9, 3) := by decide +kernel
theorem dX6_become_8 : decode cX6_become 8 = .ok (.aload_n 1, 1) := by decide +kernel
theorem dX6_become_9 : decode cX6_become 9 = .ok (.getfield 15, 3) := by decide +kernel
theorem dX6_become_12 : decode cX6_become 12 = .ok (.iconst 0, 1) := by decide +kernel
theorem dX6_become_13 : decode cX6_become 13 = .ok (.aload_n 0, 1) := by decide +kernel
theorem dX6_become_14 : decode cX6_become 14 = .ok (.getfield 15, 3) := by decide +kernel
theorem dX6_become_17 : decode cX6_become 17 = .ok (.iconst 0, 1) := by decide +kernel
theorem dX6_become_18 : decode cX6_become 18 = .ok (.bipush 16, 2) := by decide +kernel
theorem dX6_become_20 : decode cX6_become 20 = .ok (.invokestatic 64, 3) := by decide +kernel
theorem dX6_become_23 : decode cX6_become 23 = .ok (.aload_n 1, 1) := by decide +kernel
theorem dX6_become_24 : decode cX6_become 24 = .ok (.getfield 19, 3) := by decide +kernel
theorem dX6_become_27 : decode cX6_become 27 = .ok (.iconst 0, 1) := by decide +kernel
theorem dX6_become_28 : decode cX6_become 28 = .ok (.aload_n 0, 1) := by decide +kernel
theorem dX6_become_29 : decode cX6_become 29 = .ok (.getfield 19, 3) := by decide +kernel
theorem dX6_become_32 : decode cX6_become 32 = .ok (.iconst 0, 1) := by decide +kernel
theorem dX6_become_33 : decode cX6_become 33 = .ok (.bipush 16, 2) := by decide +kernel
theorem dX6_become_35 : decode cX6_become 35 = .ok (.invokestatic 64, 3) := by decide +kernel
theorem dX6_become_38 : decode cX6_become 38 = .ok (.aload_n 1, 1) := by decide +kernel
theorem dX6_become_39 : decode cX6_become 39 = .ok (.getfield 22, 3) := by decide +kernel
theorem dX6_become_42 : decode cX6_become 42 = .ok (.iconst 0, 1) := by decide +kernel
theorem dX6_become_43 : decode cX6_become 43 = .ok (.aload_n 0, 1) := by decide +kernel
theorem dX6_become_44 : decode cX6_become 44 = .ok (.getfield 22, 3) := by decide +kernel
theorem dX6_become_47 : decode cX6_become 47 = .ok (.iconst 0, 1) := by decide +kernel
theorem dX6_become_48 : decode cX6_become 48 = .ok (.bipush 16, 2) := by decide +kernel
theorem dX6_become_50 : decode cX6_become 50 = .ok (.invokestatic 64, 3) := by decide +kernel
theorem dX6_become_53 : decode cX6_become 53 = .ok (.aload_n 1, 1) := by decide +kernel
theorem dX6_become_54 : decode cX6_become 54 = .ok (.getfield 25, 3) := by decide +kernel
theorem dX6_become_57 : decode cX6_become 57 = .ok (.iconst 0, 1) := by decide +kernel
theorem dX6_become_58 : decode cX6_become 58 = .ok (.aload_n 0, 1) := by decide +kernel
theorem dX6_become_59 : decode cX6_become 59 = .ok (.getfield 25, 3) := by decide +kernel
theorem dX6_become_62 : decode cX6_become 62 = .ok (.iconst 0, 1) := by decide +kernel
theorem dX6_become_63 : decode cX6_become 63 = .ok (.bipush 16, 2) := by decide +kernel
theorem dX6_become_65 : decode cX6_become 65 = .ok (.invokestatic 64, 3) := by decide +kernel
theorem dX6_become_68 : decode cX6_become 68 = .ok (.aload_n 1, 1) := by decide +kernel
theorem dX6_become_69 : decode cX6_become 69 = .ok (.getfield 28, 3) := by decide +kernel
theorem dX6_become_72 : decode cX6_become 72 = .ok (.iconst 0, 1) := by decide +kernel
theorem dX6_become_73 : decode cX6_become 73 = .ok (.aload_n 0, 1) := by decide +kernel
theorem dX6_become_74 : decode cX6_become 74 = .ok (.getfield 28, 3) := by decide +kernel
theorem dX6_become_77 : decode cX6_become 77 = .ok (.iconst 0, 1) := by decide +kernel
theorem dX6_become_78 : decode cX6_become 78 = .ok (.bipush 16, 2) := by decide +kernel
theorem dX6_become_80 : decode cX6_become 80 = .ok (.invokestatic 64, 3) := by decide +kernel
theorem dX6_become_83 : decode cX6_become 83 = .ok (.aload_n 1, 1) := by decide +kernel
theorem dX6_become_84 : decode cX6_become 84 = .ok (.getfield 31, 3) := by decide +kernel
theorem dX6_become_87 : decode cX6_become 87 = .ok (.iconst 0, 1) := by decide +kernel
theorem dX6_become_88 : decode cX6_become 88 = .ok (.aload_n 0, 1) := by decide +kernel
theorem dX6_become_89 : decode cX6_become 89 = .ok (.getfield 31, 3) := by decide +kernel
theorem dX6_become_92 : decode cX6_become 92 = .ok (.iconst 0, 1) := by decide +kernel
theorem dX6_become_93 : decode cX6_become 93 = .ok (.bipush 16, 2) := by decide +kernel
theorem dX6_become_95 : decode cX6_become 95 = .ok (.invokestatic 64, 3) := by decide +kernel
theorem dX6_become_98 : decode cX6_become 98 = .ok (.aload_n 1, 1) := by decide +kernel
theorem dX6_become_99 : decode cX6_become 99 = .ok (.getfield 34, 3) := by decide +kernel
theorem dX6_become_102 : decode cX6_become 102 = .ok (.iconst 0, 1) := by decide +kernel
theorem dX6_become_103 : decode cX6_become 103 = .ok (.aload_n 0, 1) := by decide +kernel
theorem dX6_become_104 : decode cX6_become 104 = .ok (.getfield 34, 3) := by decide +kernel
theorem dX6_become_107 : decode cX6_become 107 = .ok (.iconst 0, 1) := by decide +kernel
theorem dX6_become_108 : decode cX6_become 108 = .ok (.bipush 16, 2) := by decide +kernel
theorem dX6_become_110 : decode cX6_become 110 = .ok (.invokestatic 64, 3) := by decide +kernel
theorem dX6_become_113 : decode cX6_become 113 = .ok (.aload_n 1, 1) := by decide +kernel
theorem dX6_become_114 : decode cX6_become 114 = .ok (.getfield 37, 3) := by decide +kernel
theorem dX6_become_117 : decode cX6_become 117 = .ok (.iconst 0, 1) := by decide +kernel
theorem dX6_become_118 : decode cX6_become 118 = .ok (.aload_n 0, 1) := by decide +kernel
theorem dX6_become_119 : decode cX6_become 119 = .ok (.getfield 37, 3) := by decide +kernel
theorem dX6_become_122 : decode cX6_become 122 = .ok (.iconst 0, 1) := by decide +kernel
theorem dX6_become_123 : decode cX6_become 123 = .ok (.bipush 16, 2) := by decide +kernel
theorem dX6_become_125 : decode cX6_become 125 = .ok (.invokestatic 64, 3) := by decide +kernel
theorem dX6_become_128 : decode cX6_become 128 = .ok (.aload_n 1, 1) := by decide +kernel
theorem dX6_become_129 : decode cX6_become 129 = .ok (.getfield 40, 3) := by decide +kernel
theorem dX6_become_132 : decode cX6_become 132 = .ok (.iconst 0, 1) := by decide +kernel
theorem dX6_become_133 : decode cX6_become 133 = .ok (.aload_n 0, 1) := by decide +kernel
theorem dX6_become_134 : decode cX6_become 134 = .ok (.getfield 40, 3) := by decide +kernel
theorem dX6_become_137 : decode cX6_become 137 = .ok (.iconst 0, 1) := by decide +kernel
theorem dX6_become_138 : decode cX6_become 138 = .ok (.bipush 16, 2) := by decide +kernel
theorem dX6_become_140 : decode cX6_become 140 = .ok (.invokestatic 64, 3) := by decide +kernel
theorem dX6_become_143 : decode cX6_become 143 = .ok (.aload_n 1, 1) := by decide +kernel
theorem dX6_become_144 : decode cX6_become 144 = .ok (.getfield 43, 3) := by decide +kernel
theorem dX6_become_147 : decode cX6_become 147 = .ok (.iconst 0, 1) := by decide +kernel
theorem dX6_become_148 : decode cX6_become 148 = .ok (.aload_n 0, 1) := by decide +kernel
theorem dX6_become_149 : decode cX6_become 149 = .ok (.getfield 43, 3) := by decide +kernel
theorem dX6_become_152 : decode cX6_become 152 = .ok (.iconst 0, 1) := by decide +kernel
theorem dX6_become_153 : decode cX6_become 153 = .ok (.bipush 16, 2) := by decide +kernel
theorem dX6_become_155 : decode cX6_become 155 = .ok (.invokestatic 64, 3) := by decide +kernel
theorem dX6_become_158 : decode cX6_become 158 = .ok (.aload_n 1, 1) := by decide +kernel
theorem dX6_become_159 : decode cX6_become 159 = .ok (.getfield 46, 3) := by decide +kernel
theorem dX6_become_162 : decode cX6_become 162 = .ok (.iconst 0, 1) := by decide +kernel
theorem dX6_become_163 : decode cX6_become 163 = .ok (.aload_n 0, 1) := by decide +kernel
theorem dX6_become_164 : decode cX6_become 164 = .ok (.getfield 46, 3) := by decide +kernel
theorem dX6_become_167 : decode cX6_become 167 = .ok (.iconst 0, 1) := by decide +kernel
theorem dX6_become_168 : decode cX6_become 168 = .ok (.bipush 16, 2) := by decide +kernel
theorem dX6_become_170 : decode cX6_become 170 = .ok (.invokestatic 64, 3) := by decide +kernel
theorem dX6_become_173 : decode cX6_become 173 = .ok (.aload_n 1, 1) := by decide +kernel
theorem dX6_become_174 : decode cX6_become 174 = .ok (.getfield 49, 3) := by decide +kernel
theorem dX6_become_177 : decode cX6_become 177 = .ok (.iconst 0, 1) := by decide +kernel
theorem dX6_become_178 : decode cX6_become 178 = .ok (.aload_n 0, 1) := by decide +kernel
theorem dX6_become_179 : decode cX6_become 179 = .ok (.getfield 49, 3) := by decide +kernel
theorem dX6_become_182 : decode cX6_become 182 = .ok (.iconst 0, 1) := by decide +kernel
theorem dX6_become_183 : decode cX6_become 183 = .ok (.bipush 16, 2) := by decide +kernel
theorem dX6_become_185 : decode cX6_become 185 = .ok (.invokestatic 64, 3) := by decide +kernel
theorem dX6_become_188 : decode cX6_become 188 = .ok (.aload_n 1, 1) := by decide +kernel
theorem dX6_become_189 : decode cX6_become 189 = .ok (.getfield 52, 3) := by decide +kernel
theorem dX6_become_192 : decode cX6_become 192 = .ok (.iconst 0, 1) := by decide +kernel
theorem dX6_become_193 : decode cX6_become 193 = .ok (.aload_n 0, 1) := by decide +kernel
theorem dX6_become_194 : decode cX6_become 194 = .ok (.getfield 52, 3) := by decide +kernel
theorem dX6_become_197 : decode cX6_become 197 = .ok (.iconst 0, 1) := by decide +kernel
theorem dX6_become_198 : decode cX6_become 198 = .ok (.bipush 16, 2) := by decide +kernel
theorem dX6_become_200 : decode cX6_become 200 = .ok (.invokestatic 64, 3) := by decide +kernel
theorem dX6_become_203 : decode cX6_become 203 = .ok (.aload_n 1, 1) := by decide +kernel
theorem dX6_become_204 : decode cX6_become 204 = .ok (.getfield 55, 3) := by decide +kernel
theorem dX6_become_207 : decode cX6_become 207 = .ok (.iconst 0, 1) := by decide +kernel
theorem dX6_become_208 : decode cX6_become 208 = .ok (.aload_n 0, 1) := by decide +kernel
theorem dX6_become_209 : decode cX6_become 209 = .ok (.getfield 55, 3) := by decide +kernel
theorem dX6_become_212 : decode cX6_become 212 = .ok (.iconst 0, 1) := by decide +kernel
theorem dX6_become_213 : decode cX6_become 213 = .ok (.aload_n 0, 1) := by decide +kernel
theorem dX6_become_214 : decode cX6_become 214 = .ok (.getfield 55, 3) := by decide +kernel
theorem dX6_become_217 : decode cX6_become 217 = .ok (.arraylength, 1) := by decide +kernel
theorem dX6_become_218 : decode cX6_become 218 = .ok (.invokestatic 64, 3) := by decide +kernel
theorem dX6_become_221 : decode cX6_become 221 = .ok (.return_, 1) := by decide +kernel
theorem dX6_has_0 : decode cX6_has 0 = .ok (.iload_n 1, 1) := by decide +kernel
theorem dX6_has_1 : decode cX6_has 1 = .ok (.ifCond .lt 15, 3) := by decide +kernel
theorem dX6_has_4 : decode cX6_has 4 = .ok (.iload_n 1, 1) := by decide +kernel
theorem dX6_has_5 : decode cX6_has 5 = .ok (.aload_n 0, 1) := by decide +kernel
theorem dX6_has_6 : decode cX6_has 6 = .ok (.getfield 9, 3) := by decide +kernel
theorem dX6_has_9 : decode cX6_has 9 = .ok (.if_icmp .ge 7, 3) := by decide +kernel
theorem dX6_has_16 : decode cX6_has 16 = .ok (.iconst 0, 1) := by decide +kernel
theorem dX6_has_17 : decode cX6_has 17 = .ok (.ireturn, 1) := by decide +kernel
theorem dX6_isAlive_0 : decode cX6_isAlive 0 = .ok (.iload_n 1, 1) := by decide +kernel
theorem dX6_isAlive_1 : decode cX6_isAlive 1 = .ok (.ifCond .lt 25, 3) := by decide +kernel
theorem dX6_isAlive_4 : decode cX6_isAlive 4 = .ok (.iload_n 1, 1) := by decide +kernel
theorem dX6_isAlive_5 : decode cX6_isAlive 5 = .ok (.aload_n 0, 1) := by decide +kernel
theorem dX6_isAlive_6 : decode cX6_isAlive 6 = .ok (.getfield 9, 3) := by decide +kernel
theorem dX6_isAlive_9 : decode cX6_isAlive 9 = .ok (.if_icmp .ge 17, 3) := by decide +kernel
theorem dX6_isAlive_26 : decode cX6_isAlive 26 = .ok (.iconst 0, 1) := by decide +kernel
theorem dX6_isAlive_27 : decode cX6_isAlive 27 = .ok (.ireturn, 1) := by decide +kernel
theorem dX6_isWorker_0 : decode cX6_isWorker 0 = .ok (.aload_n 0, 1) := by decide +kernel
theorem dX6_isWorker_1 : decode cX6_isWorker 1 = .ok (.iload_n 1, 1) := by decide +kernel
theorem dX6_isWorker_2 : decode cX6_isWorker 2 = .ok (.invokevirtual 70, 3) := by decide +kernel
theorem dX6_isWorker_5 : decode cX6_isWorker 5 = .ok (.ifCond .eq 17, 3) := by decide +kernel
theorem dX6_isWorker_22 : decode cX6_isWorker 22 = .ok (.iconst 0, 1) := by decide +kernel
theorem dX6_isWorker_23 : decode cX6_isWorker 23 = .ok (.ireturn, 1) := by decide +kernel
theorem dX6_isLivingWorker_0 : decode cX6_isLivingWorker 0 = .ok (.aload_n 0, 1) := by decide +kernel
theorem dX6_isLivingWorker_1 : decode cX6_isLivingWorker 1 = .ok (.iload_n 1, 1) := by decide +kernel
theorem dX6_isLivingWorker_2 : decode cX6_isLivingWorker 2 = .ok (.invokevirtual 74, 3) := by decide +kernel
theorem dX6_isLivingWorker_5 : decode cX6_isLivingWorker 5 = .ok (.ifCond .eq 15, 3) := by decide +kernel
theorem dX6_isLivingWorker_20 : decode cX6_isLivingWorker 20 = .ok (.iconst 0, 1) := by decide +kernel
theorem dX6_isLivingWorker_21 : decode cX6_isLivingWorker 21 = .ok (.ireturn, 1) := by decide +kernel
theorem dX6_living_0 : decode cX6_living 0 = .ok (.iconst 0, 1) := by decide +kernel
theorem dX6_living_1 : decode cX6_living 1 = .ok (.istore_n 1, 1) := by decide +kernel
theorem dX6_living_2 : decode cX6_living 2 = .ok (.iconst 0, 1) := by decide +kernel
theorem dX6_living_3 : decode cX6_living 3 = .ok (.istore_n 2, 1) := by decide +kernel
theorem dX6_living_4 : decode cX6_living 4 = .ok (.iload_n 2, 1) := by decide +kernel
theorem dX6_living_5 : decode cX6_living 5 = .ok (.aload_n 0, 1) := by decide +kernel
theorem dX6_living_6 : decode cX6_living 6 = .ok (.getfield 9, 3) := by decide +kernel
theorem dX6_living_9 : decode cX6_living 9 = .ok (.if_icmp .ge 20, 3) := by decide +kernel
theorem dX6_living_29 : decode cX6_living 29 = .ok (.iload_n 1, 1) := by decide +kernel
theorem dX6_living_30 : decode cX6_living 30 = .ok (.ireturn, 1) := by decide +kernel
theorem dX6_setRoad_0 : decode cX6_setRoad 0 = .ok (.iload_n 1, 1) := by decide +kernel
theorem dX6_setRoad_1 : decode cX6_setRoad 1 = .ok (.iconst 0, 1) := by decide +kernel
theorem dX6_setRoad_2 : decode cX6_setRoad 2 = .ok (.iconst 5, 1) := by decide +kernel
theorem dX6_setRoad_3 : decode cX6_setRoad 3 = .ok (.invokestatic 80, 3) := by decide +kernel
theorem dX6_setRoad_6 : decode cX6_setRoad 6 = .ok (.ifCond .eq 31, 3) := by decide +kernel
theorem dX6_setRoad_9 : decode cX6_setRoad 9 = .ok (.iload_n 2, 1) := by decide +kernel
theorem dX6_setRoad_10 : decode cX6_setRoad 10 = .ok (.iconst 0, 1) := by decide +kernel
theorem dX6_setRoad_11 : decode cX6_setRoad 11 = .ok (.iconst 5, 1) := by decide +kernel
theorem dX6_setRoad_12 : decode cX6_setRoad 12 = .ok (.invokestatic 80, 3) := by decide +kernel
theorem dX6_setRoad_15 : decode cX6_setRoad 15 = .ok (.ifCond .eq 22, 3) := by decide +kernel
theorem dX6_setRoad_18 : decode cX6_setRoad 18 = .ok (.iload_n 1, 1) := by decide +kernel
theorem dX6_setRoad_19 : decode cX6_setRoad 19 = .ok (.iload_n 2, 1) := by decide +kernel
theorem dX6_setRoad_20 : decode cX6_setRoad 20 = .ok (.if_icmp .eq 17, 3) := by decide +kernel
theorem dX6_setRoad_23 : decode cX6_setRoad 23 = .ok (.iload_n 3, 1) := by decide +kernel
theorem dX6_setRoad_24 : decode cX6_setRoad 24 = .ok (.iconst 0, 1) := by decide +kernel
theorem dX6_setRoad_25 : decode cX6_setRoad 25 = .ok (.bipush 9, 2) := by decide +kernel
theorem dX6_setRoad_27 : decode cX6_setRoad 27 = .ok (.invokestatic 80, 3) := by decide +kernel
theorem dX6_setRoad_30 : decode cX6_setRoad 30 = .ok (.ifCond .eq 7, 3) := by decide +kernel
theorem dX6_setRoad_33 : decode cX6_setRoad 33 = .ok (.iconst 1, 1) := by decide +kernel
theorem dX6_setRoad_34 : decode cX6_setRoad 34 = .ok (.goto 4, 3) := by decide +kernel
theorem dX6_setRoad_37 : decode cX6_setRoad 37 = .ok (.iconst 0, 1) := by decide +kernel
theorem dX6_setRoad_38 : decode cX6_setRoad 38 = .ok (.istore 4, 2) := by decide +kernel
theorem dX6_setRoad_40 : decode cX6_setRoad 40 = .ok (.iload 4, 2) := by decide +kernel
theorem dX6_setRoad_42 : decode cX6_setRoad 42 = .ok (.ifCond .ne 5, 3) := by decide +kernel
theorem dX6_setRoad_45 : decode cX6_setRoad 45 = .ok (.iconst 0, 1) := by decide +kernel
theorem dX6_setRoad_46 : decode cX6_setRoad 46 = .ok (.ireturn, 1) := by decide +kernel
theorem dX6_setRoad_47 : decode cX6_setRoad 47 = .ok (.aload_n 0, 1) := by decide +kernel
theorem dX6_setRoad_48 : decode cX6_setRoad 48 = .ok (.getfield 55, 3) := by decide +kernel
theorem dX6_setRoad_51 : decode cX6_setRoad 51 = .ok (.iload_n 1, 1) := by decide +kernel
theorem dX6_setRoad_52 : decode cX6_setRoad 52 = .ok (.bipush 6, 2) := by decide +kernel
theorem dX6_setRoad_54 : decode cX6_setRoad 54 = .ok (.imul, 1) := by decide +kernel
theorem dX6_setRoad_55 : decode cX6_setRoad 55 = .ok (.iload_n 2, 1) := by decide +kernel
theorem dX6_setRoad_56 : decode cX6_setRoad 56 = .ok (.iadd, 1) := by decide +kernel
theorem dX6_setRoad_57 : decode cX6_setRoad 57 = .ok (.iload_n 3, 1) := by decide +kernel
theorem dX6_setRoad_58 : decode cX6_setRoad 58 = .ok (.iastore, 1) := by decide +kernel
theorem dX6_setRoad_59 : decode cX6_setRoad 59 = .ok (.aload_n 0, 1) := by decide +kernel
theorem dX6_setRoad_60 : decode cX6_setRoad 60 = .ok (.getfield 55, 3) := by decide +kernel
theorem dX6_setRoad_63 : decode cX6_setRoad 63 = .ok (.iload_n 2, 1) := by decide +kernel
theorem dX6_setRoad_64 : decode cX6_setRoad 64 = .ok (.bipush 6, 2) := by decide +kernel
theorem dX6_setRoad_66 : decode cX6_setRoad 66 = .ok (.imul, 1) := by decide +kernel
theorem dX6_setRoad_67 : decode cX6_setRoad 67 = .ok (.iload_n 1, 1) := by decide +kernel
theorem dX6_setRoad_68 : decode cX6_setRoad 68 = .ok (.iadd, 1) := by decide +kernel
theorem dX6_setRoad_69 : decode cX6_setRoad 69 = .ok (.iload_n 3, 1) := by decide +kernel
theorem dX6_setRoad_70 : decode cX6_setRoad 70 = .ok (.iastore, 1) := by decide +kernel
theorem dX6_setRoad_71 : decode cX6_setRoad 71 = .ok (.iconst 1, 1) := by decide +kernel
theorem dX6_setRoad_72 : decode cX6_setRoad 72 = .ok (.ireturn, 1) := by decide +kernel
theorem dX6_setMeanings_0 : decode cX6_setMeanings 0 = .ok (.aload_n 0, 1) := by decide +kernel
theorem dX6_setMeanings_1 : decode cX6_setMeanings 1 = .ok (.iload_n 1, 1) := by decide +kernel
theorem dX6_setMeanings_2 : decode cX6_setMeanings 2 = .ok (.invokevirtual 70, 3) := by decide +kernel
theorem dX6_setMeanings_5 : decode cX6_setMeanings 5 = .ok (.ifCond .eq 10, 3) := by decide +kernel
theorem dX6_setMeanings_15 : decode cX6_setMeanings 15 = .ok (.iconst 0, 1) := by decide +kernel
theorem dX6_setMeanings_16 : decode cX6_setMeanings 16 = .ok (.ireturn, 1) := by decide +kernel
theorem dX6_setHealth_0 : decode cX6_setHealth 0 = .ok (.aload_n 0, 1) := by decide +kernel
theorem dX6_setHealth_1 : decode cX6_setHealth 1 = .ok (.iload_n 1, 1) := by decide +kernel
theorem dX6_setHealth_2 : decode cX6_setHealth 2 = .ok (.invokevirtual 77, 3) := by decide +kernel
theorem dX6_setHealth_5 : decode cX6_setHealth 5 = .ok (.ifCond .eq 13, 3) := by decide +kernel
theorem dX6_setHealth_18 : decode cX6_setHealth 18 = .ok (.iconst 0, 1) := by decide +kernel
theorem dX6_setHealth_19 : decode cX6_setHealth 19 = .ok (.ireturn, 1) := by decide +kernel
theorem dX6_setWriting_0 : decode cX6_setWriting 0 = .ok (.aload_n 0, 1) := by decide +kernel
theorem dX6_setWriting_1 : decode cX6_setWriting 1 = .ok (.iload_n 1, 1) := by decide +kernel
theorem dX6_setWriting_2 : decode cX6_setWriting 2 = .ok (.invokevirtual 74, 3) := by decide +kernel
theorem dX6_setWriting_5 : decode cX6_setWriting 5 = .ok (.ifCond .eq 12, 3) := by decide +kernel
theorem dX6_setWriting_17 : decode cX6_setWriting 17 = .ok (.iconst 0, 1) := by decide +kernel
theorem dX6_setWriting_18 : decode cX6_setWriting 18 = .ok (.ireturn, 1) := by decide +kernel
theorem dX6_send_0 : decode cX6_send 0 = .ok (.aload_n 0, 1) := by decide +kernel
theorem dX6_send_1 : decode cX6_send 1 = .ok (.iload_n 1, 1) := by decide +kernel
theorem dX6_send_2 : decode cX6_send 2 = .ok (.invokevirtual 77, 3) := by decide +kernel
theorem dX6_send_5 : decode cX6_send 5 = .ok (.ifCond .eq 16, 3) := by decide +kernel
theorem dX6_send_21 : decode cX6_send 21 = .ok (.iconst 0, 1) := by decide +kernel
theorem dX6_send_22 : decode cX6_send 22 = .ok (.istore 4, 2) := by decide +kernel
theorem dX6_send_24 : decode cX6_send 24 = .ok (.iload 4, 2) := by decide +kernel
theorem dX6_send_26 : decode cX6_send 26 = .ok (.ifCond .eq 23, 3) := by decide +kernel
theorem dX6_send_49 : decode cX6_send 49 = .ok (.iconst 0, 1) := by decide +kernel
theorem dX6_send_50 : decode cX6_send 50 = .ok (.ireturn, 1) := by decide +kernel
theorem dX6_endDay_0 : decode cX6_endDay 0 = .ok (.iconst 0, 1) := by decide +kernel
theorem dX6_endDay_1 : decode cX6_endDay 1 = .ok (.istore_n 1, 1) := by decide +kernel
theorem dX6_endDay_2 : decode cX6_endDay 2 = .ok (.iload_n 1, 1) := by decide +kernel
theorem dX6_endDay_3 : decode cX6_endDay 3 = .ok (.aload_n 0, 1) := by decide +kernel
theorem dX6_endDay_4 : decode cX6_endDay 4 = .ok (.getfield 9, 3) := by decide +kernel
theorem dX6_endDay_7 : decode cX6_endDay 7 = .ok (.if_icmp .ge 70, 3) := by decide +kernel
theorem dX6_endDay_77 : decode cX6_endDay 77 = .ok (.return_, 1) := by decide +kernel
theorem dX6_arrive_0 : decode cX6_arrive 0 = .ok (.iconst 0, 1) := by decide +kernel
theorem dX6_arrive_1 : decode cX6_arrive 1 = .ok (.istore_n 2, 1) := by decide +kernel
theorem dX6_arrive_2 : decode cX6_arrive 2 = .ok (.iload_n 2, 1) := by decide +kernel
theorem dX6_arrive_3 : decode cX6_arrive 3 = .ok (.aload_n 0, 1) := by decide +kernel
theorem dX6_arrive_4 : decode cX6_arrive 4 = .ok (.getfield 9, 3) := by decide +kernel
theorem dX6_arrive_7 : decode cX6_arrive 7 = .ok (.if_icmp .ge 49, 3) := by decide +kernel
theorem dX6_arrive_56 : decode cX6_arrive 56 = .ok (.return_, 1) := by decide +kernel
theorem dX6_learnFrom_0 : decode cX6_learnFrom 0 = .ok (.aload_n 0, 1) := by decide +kernel
theorem dX6_learnFrom_1 : decode cX6_learnFrom 1 = .ok (.iload_n 1, 1) := by decide +kernel
theorem dX6_learnFrom_2 : decode cX6_learnFrom 2 = .ok (.iload_n 2, 1) := by decide +kernel
theorem dX6_learnFrom_3 : decode cX6_learnFrom 3 = .ok (.invokevirtual 89, 3) := by decide +kernel
theorem dX6_learnFrom_6 : decode cX6_learnFrom 6 = .ok (.ifCond .eq 28, 3) := by decide +kernel
theorem dX6_learnFrom_34 : decode cX6_learnFrom 34 = .ok (.iconst (-1), 1) := by decide +kernel
theorem dX6_learnFrom_35 : decode cX6_learnFrom 35 = .ok (.ireturn, 1) := by decide +kernel
theorem dX6_canLearn_0 : decode cX6_canLearn 0 = .ok (.aload_n 0, 1) := by decide +kernel
theorem dX6_canLearn_1 : decode cX6_canLearn 1 = .ok (.iload_n 1, 1) := by decide +kernel
theorem dX6_canLearn_2 : decode cX6_canLearn 2 = .ok (.invokevirtual 77, 3) := by decide +kernel
theorem dX6_canLearn_5 : decode cX6_canLearn 5 = .ok (.ifCond .eq 21, 3) := by decide +kernel
theorem dX6_canLearn_26 : decode cX6_canLearn 26 = .ok (.iconst 0, 1) := by decide +kernel
theorem dX6_canLearn_27 : decode cX6_canLearn 27 = .ok (.ireturn, 1) := by decide +kernel
theorem dX7_init_0 : decode cX7_init 0 = .ok (.aload_n 0, 1) := by decide +kernel
theorem dX7_init_1 : decode cX7_init 1 = .ok (.invokespecial 3, 3) := by decide +kernel
theorem dX7_init_4 : decode cX7_init 4 = .ok (.aload_n 0, 1) := by decide +kernel
theorem dX7_init_5 : decode cX7_init 5 = .ok (.sipush 501, 3) := by decide +kernel
theorem dX7_init_8 : decode cX7_init 8 = .ok (.newarray .int, 2) := by decide +kernel
theorem dX7_init_10 : decode cX7_init 10 = .ok (.putfield 11, 3) := by decide +kernel
theorem dX7_init_13 : decode cX7_init 13 = .ok (.aload_n 0, 1) := by decide +kernel
theorem dX7_init_14 : decode cX7_init 14 = .ok (.sipush 501, 3) := by decide +kernel
theorem dX7_init_17 : decode cX7_init 17 = .ok (.newarray .int, 2) := by decide +kernel
theorem dX7_init_19 : decode cX7_init 19 = .ok (.putfield 17, 3) := by decide +kernel
theorem dX7_init_22 : decode cX7_init 22 = .ok (.aload_n 0, 1) := by decide +kernel
theorem dX7_init_23 : decode cX7_init 23 = .ok (.iconst 0, 1) := by decide +kernel
theorem dX7_init_24 : decode cX7_init 24 = .ok (.putfield 20, 3) := by decide +kernel
theorem dX7_init_27 : decode cX7_init 27 = .ok (.aload_n 0, 1) := by decide +kernel
theorem dX7_init_28 : decode cX7_init 28 = .ok (.iconst 0, 1) := by decide +kernel
theorem dX7_init_29 : decode cX7_init 29 = .ok (.putfield 24, 3) := by decide +kernel
theorem dX7_init_32 : decode cX7_init 32 = .ok (.aload_n 0, 1) := by decide +kernel
theorem dX7_init_33 : decode cX7_init 33 = .ok (.iconst (-1), 1) := by decide +kernel
theorem dX7_init_34 : decode cX7_init 34 = .ok (.putfield 27, 3) := by decide +kernel
theorem dX7_init_37 : decode cX7_init 37 = .ok (.aload_n 0, 1) := by decide +kernel
theorem dX7_init_38 : decode cX7_init 38 = .ok (.iconst (-1), 1) := by decide +kernel
theorem dX7_init_39 : decode cX7_init 39 = .ok (.putfield 30, 3) := by decide +kernel
theorem dX7_init_42 : decode cX7_init 42 = .ok (.aload_n 0, 1) := by decide +kernel
theorem dX7_init_43 : decode cX7_init 43 = .ok (.aload_n 1, 1) := by decide +kernel
theorem dX7_init_44 : decode cX7_init 44 = .ok (.putfield 33, 3) := by decide +kernel
theorem dX7_init_47 : decode cX7_init 47 = .ok (.return_, 1) := by decide +kernel
theorem dX7_readText_0 : decode cX7_readText 0 = .ok (.aload_n 0, 1) := by decide +kernel
theorem dX7_readText_1 : decode cX7_readText 1 = .ok (.iload_n 1, 1) := by decide +kernel
theorem dX7_readText_2 : decode cX7_readText 2 = .ok (.putfield 24, 3) := by decide +kernel
theorem dX7_readText_5 : decode cX7_readText 5 = .ok (.aload_n 0, 1) := by decide +kernel
theorem dX7_readText_6 : decode cX7_readText 6 = .ok (.iconst 0, 1) := by decide +kernel
theorem dX7_readText_7 : decode cX7_readText 7 = .ok (.putfield 20, 3) := by decide +kernel
theorem dX7_readText_10 : decode cX7_readText 10 = .ok (.aload_n 0, 1) := by decide +kernel
theorem dX7_readText_11 : decode cX7_readText 11 = .ok (.iconst (-1), 1) := by decide +kernel
theorem dX7_readText_12 : decode cX7_readText 12 = .ok (.putfield 30, 3) := by decide +kernel
theorem dX7_readText_15 : decode cX7_readText 15 = .ok (.aload_n 0, 1) := by decide +kernel
theorem dX7_readText_16 : decode cX7_readText 16 = .ok (.getfield 33, 3) := by decide +kernel
theorem dX7_readText_19 : decode cX7_readText 19 = .ok (.getfield 37, 3) := by decide +kernel
theorem dX7_readText_22 : decode cX7_readText 22 = .ok (.iload_n 1, 1) := by decide +kernel
theorem dX7_readText_23 : decode cX7_readText 23 = .ok (.iconst 0, 1) := by decide +kernel
theorem dX7_readText_24 : decode cX7_readText 24 = .ok (.iastore, 1) := by decide +kernel
theorem dX7_readText_25 : decode cX7_readText 25 = .ok (.iconst 0, 1) := by decide +kernel
theorem dX7_readText_26 : decode cX7_readText 26 = .ok (.istore_n 2, 1) := by decide +kernel
theorem dX7_readText_27 : decode cX7_readText 27 = .ok (.iload_n 2, 1) := by decide +kernel
theorem dX7_readText_28 : decode cX7_readText 28 = .ok (.sipush 500, 3) := by decide +kernel
theorem dX7_readText_31 : decode cX7_readText 31 = .ok (.if_icmp .ge 56, 3) := by decide +kernel
theorem dX7_readText_34 : decode cX7_readText 34 = .ok (.aload_n 0, 1) := by decide +kernel
theorem dX7_readText_35 : decode cX7_readText 35 = .ok (.getfield 11, 3) := by decide +kernel
theorem dX7_readText_38 : decode cX7_readText 38 = .ok (.aload_n 0, 1) := by decide +kernel
theorem dX7_readText_39 : decode cX7_readText 39 = .ok (.getfield 20, 3) := by decide +kernel
theorem dX7_readText_42 : decode cX7_readText 42 = .ok (.iaload, 1) := by decide +kernel
theorem dX7_readText_43 : decode cX7_readText 43 = .ok (.bipush 50, 2) := by decide +kernel
theorem dX7_readText_45 : decode cX7_readText 45 = .ok (.if_icmp .eq 42, 3) := by decide +kernel
theorem dX7_readText_87 : decode cX7_readText 87 = .ok (.aload_n 0, 1) := by decide +kernel
theorem dX7_readText_88 : decode cX7_readText 88 = .ok (.aload_n 0, 1) := by decide +kernel
theorem dX7_readText_89 : decode cX7_readText 89 = .ok (.getfield 30, 3) := by decide +kernel
theorem dX7_readText_92 : decode cX7_readText 92 = .ok (.putfield 27, 3) := by decide +kernel
theorem dX7_readText_95 : decode cX7_readText 95 = .ok (.aload_n 0, 1) := by decide +kernel
theorem dX7_readText_96 : decode cX7_readText 96 = .ok (.getfield 30, 3) := by decide +kernel
theorem dX7_readText_99 : decode cX7_readText 99 = .ok (.iconst (-1), 1) := by decide +kernel
theorem dX7_readText_100 : decode cX7_readText 100 = .ok (.if_icmp .ne 7, 3) := by decide +kernel
theorem dX7_readText_103 : decode cX7_readText 103 = .ok (.iconst 0, 1) := by decide +kernel
theorem dX7_readText_104 : decode cX7_readText 104 = .ok (.goto 4, 3) := by decide +kernel
theorem dX7_readText_108 : decode cX7_readText 108 = .ok (.ireturn, 1) := by decide +kernel
theorem dX7_split_0 : decode cX7_split 0 = .ok (.iconst 0, 1) := by decide +kernel
theorem dX7_split_1 : decode cX7_split 1 = .ok (.istore_n 1, 1) := by decide +kernel
theorem dX7_split_2 : decode cX7_split 2 = .ok (.iconst 0, 1) := by decide +kernel
theorem dX7_split_3 : decode cX7_split 3 = .ok (.istore_n 2, 1) := by decide +kernel
theorem dX7_split_4 : decode cX7_split 4 = .ok (.iconst 1, 1) := by decide +kernel
theorem dX7_split_5 : decode cX7_split 5 = .ok (.istore_n 3, 1) := by decide +kernel
theorem dX7_split_6 : decode cX7_split 6 = .ok (.iconst 0, 1) := by decide +kernel
theorem dX7_split_7 : decode cX7_split 7 = .ok (.istore 4, 2) := by decide +kernel
theorem dX7_split_9 : decode cX7_split 9 = .ok (.iload 4, 2) := by decide +kernel
theorem dX7_split_11 : decode cX7_split 11 = .ok (.sipush 500, 3) := by decide +kernel
theorem dX7_split_14 : decode cX7_split 14 = .ok (.if_icmp .gt 102, 3) := by decide +kernel
theorem dX7_split_17 : decode cX7_split 17 = .ok (.iload_n 3, 1) := by decide +kernel
theorem dX7_split_18 : decode cX7_split 18 = .ok (.ifCond .eq 98, 3) := by decide +kernel
theorem dX7_split_21 : decode cX7_split 21 = .ok (.iload_n 1, 1) := by decide +kernel
theorem dX7_split_22 : decode cX7_split 22 = .ok (.aload_n 0, 1) := by decide +kernel
theorem dX7_split_23 : decode cX7_split 23 = .ok (.getfield 33, 3) := by decide +kernel
theorem dX7_split_26 : decode cX7_split 26 = .ok (.getfield 74, 3) := by decide +kernel
theorem dX7_split_29 : decode cX7_split 29 = .ok (.if_icmp .ge 20, 3) := by decide +kernel
theorem dX7_split_49 : decode cX7_split 49 = .ok (.aload_n 0, 1) := by decide +kernel
theorem dX7_split_50 : decode cX7_split 50 = .ok (.iload_n 1, 1) := by decide +kernel
theorem dX7_split_51 : decode cX7_split 51 = .ok (.invokevirtual 83, 3) := by decide +kernel
theorem dX7_split_54 : decode cX7_split 54 = .ok (.istore 5, 2) := by decide +kernel
theorem dX7_split_56 : decode cX7_split 56 = .ok (.aload_n 0, 1) := by decide +kernel
theorem dX7_split_57 : decode cX7_split 57 = .ok (.getfield 17, 3) := by decide +kernel
theorem dX7_split_60 : decode cX7_split 60 = .ok (.iload_n 2, 1) := by decide +kernel
theorem dX7_split_61 : decode cX7_split 61 = .ok (.iload_n 1, 1) := by decide +kernel
theorem dX7_split_62 : decode cX7_split 62 = .ok (.iastore, 1) := by decide +kernel
theorem dX7_split_63 : decode cX7_split 63 = .ok (.aload_n 0, 1) := by decide +kernel
theorem dX7_split_64 : decode cX7_split 64 = .ok (.getfield 11, 3) := by decide +kernel
theorem dX7_split_67 : decode cX7_split 67 = .ok (.iload_n 2, 1) := by decide +kernel
theorem dX7_split_68 : decode cX7_split 68 = .ok (.aload_n 0, 1) := by decide +kernel
theorem dX7_split_69 : decode cX7_split 69 = .ok (.iload_n 1, 1) := by decide +kernel
theorem dX7_split_70 : decode cX7_split 70 = .ok (.iload 5, 2) := by decide +kernel
theorem dX7_split_72 : decode cX7_split 72 = .ok (.invokevirtual 86, 3) := by decide +kernel
theorem dX7_split_75 : decode cX7_split 75 = .ok (.iastore, 1) := by decide +kernel
theorem dX7_split_76 : decode cX7_split 76 = .ok (.aload_n 0, 1) := by decide +kernel
theorem dX7_split_77 : decode cX7_split 77 = .ok (.getfield 11, 3) := by decide +kernel
theorem dX7_split_80 : decode cX7_split 80 = .ok (.iload_n 2, 1) := by decide +kernel
theorem dX7_split_81 : decode cX7_split 81 = .ok (.iaload, 1) := by decide +kernel
theorem dX7_split_82 : decode cX7_split 82 = .ok (.bipush 50, 2) := by decide +kernel
theorem dX7_split_84 : decode cX7_split 84 = .ok (.if_icmp .eq 18, 3) := by decide +kernel
theorem dX7_split_102 : decode cX7_split 102 = .ok (.iconst 0, 1) := by decide +kernel
theorem dX7_split_103 : decode cX7_split 103 = .ok (.istore_n 3, 1) := by decide +kernel
theorem dX7_split_104 : decode cX7_split 104 = .ok (.iinc 2 1, 3) := by decide +kernel
theorem dX7_split_107 : decode cX7_split 107 = .ok (.iload 5, 2) := by decide +kernel
theorem dX7_split_109 : decode cX7_split 109 = .ok (.istore_n 1, 1) := by decide +kernel
theorem dX7_split_110 : decode cX7_split 110 = .ok (.iinc 4 1, 3) := by decide +kernel
theorem dX7_split_113 : decode cX7_split 113 = .ok (.goto (-104), 3) := by decide +kernel
theorem dX7_split_116 : decode cX7_split 116 = .ok (.return_, 1) := by decide +kernel
theorem dX7_stopOf_0 : decode cX7_stopOf 0 = .ok (.iload_n 1, 1) := by decide +kernel
theorem dX7_stopOf_1 : decode cX7_stopOf 1 = .ok (.istore_n 2, 1) := by decide +kernel
theorem dX7_stopOf_2 : decode cX7_stopOf 2 = .ok (.aload_n 0, 1) := by decide +kernel
theorem dX7_stopOf_3 : decode cX7_stopOf 3 = .ok (.iload_n 1, 1) := by decide +kernel
theorem dX7_stopOf_4 : decode cX7_stopOf 4 = .ok (.invokevirtual 77, 3) := by decide +kernel
theorem dX7_stopOf_7 : decode cX7_stopOf 7 = .ok (.invokestatic 90, 3) := by decide +kernel
theorem dX7_stopOf_10 : decode cX7_stopOf 10 = .ok (.ifCond .eq 33, 3) := by decide +kernel
theorem dX7_stopOf_43 : decode cX7_stopOf 43 = .ok (.iload_n 2, 1) := by decide +kernel
theorem dX7_stopOf_44 : decode cX7_stopOf 44 = .ok (.aload_n 0, 1) := by decide +kernel
theorem dX7_stopOf_45 : decode cX7_stopOf 45 = .ok (.getfield 33, 3) := by decide +kernel
theorem dX7_stopOf_48 : decode cX7_stopOf 48 = .ok (.getfield 74, 3) := by decide +kernel
theorem dX7_stopOf_51 : decode cX7_stopOf 51 = .ok (.if_icmp .ge 20, 3) := by decide +kernel
theorem dX7_stopOf_71 : decode cX7_stopOf 71 = .ok (.iload_n 2, 1) := by decide +kernel
theorem dX7_stopOf_72 : decode cX7_stopOf 72 = .ok (.iload_n 1, 1) := by decide +kernel
theorem dX7_stopOf_73 : decode cX7_stopOf 73 = .ok (.iconst 1, 1) := by decide +kernel
theorem dX7_stopOf_74 : decode cX7_stopOf 74 = .ok (.iadd, 1) := by decide +kernel
theorem dX7_stopOf_75 : decode cX7_stopOf 75 = .ok (.invokestatic 96, 3) := by decide +kernel
theorem dX7_stopOf_78 : decode cX7_stopOf 78 = .ok (.aload_n 0, 1) := by decide +kernel
theorem dX7_stopOf_79 : decode cX7_stopOf 79 = .ok (.getfield 33, 3) := by decide +kernel
theorem dX7_stopOf_82 : decode cX7_stopOf 82 = .ok (.getfield 74, 3) := by decide +kernel
theorem dX7_stopOf_85 : decode cX7_stopOf 85 = .ok (.invokestatic 101, 3) := by decide +kernel
theorem dX7_stopOf_88 : decode cX7_stopOf 88 = .ok (.ireturn, 1) := by decide +kernel
theorem dX7_tokenOf_0 : decode cX7_tokenOf 0 = .ok (.aload_n 0, 1) := by decide +kernel
theorem dX7_tokenOf_1 : decode cX7_tokenOf 1 = .ok (.iload_n 1, 1) := by decide +kernel
theorem dX7_tokenOf_2 : decode cX7_tokenOf 2 = .ok (.invokevirtual 77, 3) := by decide +kernel
theorem dX7_tokenOf_5 : decode cX7_tokenOf 5 = .ok (.istore_n 3, 1) := by decide +kernel
theorem dX7_tokenOf_6 : decode cX7_tokenOf 6 = .ok (.iload_n 1, 1) := by decide +kernel
theorem dX7_tokenOf_7 : decode cX7_tokenOf 7 = .ok (.aload_n 0, 1) := by decide +kernel
theorem dX7_tokenOf_8 : decode cX7_tokenOf 8 = .ok (.getfield 33, 3) := by decide +kernel
theorem dX7_tokenOf_11 : decode cX7_tokenOf 11 = .ok (.getfield 74, 3) := by decide +kernel
theorem dX7_tokenOf_14 : decode cX7_tokenOf 14 = .ok (.if_icmp .lt 6, 3) := by decide +kernel
theorem dX7_tokenOf_17 : decode cX7_tokenOf 17 = .ok (.bipush 50, 2) := by decide +kernel
theorem dX7_tokenOf_19 : decode cX7_tokenOf 19 = .ok (.ireturn, 1) := by decide +kernel
theorem dX7_byteAt_0 : decode cX7_byteAt 0 = .ok (.iload_n 1, 1) := by decide +kernel
theorem dX7_byteAt_1 : decode cX7_byteAt 1 = .ok (.ifCond .lt 26, 3) := by decide +kernel
theorem dX7_byteAt_4 : decode cX7_byteAt 4 = .ok (.iload_n 1, 1) := by decide +kernel
theorem dX7_byteAt_5 : decode cX7_byteAt 5 = .ok (.aload_n 0, 1) := by decide +kernel
theorem dX7_byteAt_6 : decode cX7_byteAt 6 = .ok (.getfield 33, 3) := by decide +kernel
theorem dX7_byteAt_9 : decode cX7_byteAt 9 = .ok (.getfield 74, 3) := by decide +kernel
theorem dX7_byteAt_12 : decode cX7_byteAt 12 = .ok (.if_icmp .ge 15, 3) := by decide +kernel
theorem dX7_byteAt_27 : decode cX7_byteAt 27 = .ok (.iconst (-1), 1) := by decide +kernel
theorem dX7_byteAt_28 : decode cX7_byteAt 28 = .ok (.ireturn, 1) := by decide +kernel
theorem dX7_isBlank_0 : decode cX7_isBlank 0 = .ok (.iload_n 0, 1) := by decide +kernel
theorem dX7_isBlank_1 : decode cX7_isBlank 1 = .ok (.bipush 10, 2) := by decide +kernel
theorem dX7_isBlank_3 : decode cX7_isBlank 3 = .ok (.if_icmp .eq 9, 3) := by decide +kernel
theorem dX7_isBlank_6 : decode cX7_isBlank 6 = .ok (.iload_n 0, 1) := by decide +kernel
theorem dX7_isBlank_7 : decode cX7_isBlank 7 = .ok (.bipush 32, 2) := by decide +kernel
theorem dX7_isBlank_9 : decode cX7_isBlank 9 = .ok (.if_icmp .ne 7, 3) := by decide +kernel
theorem dX7_isBlank_16 : decode cX7_isBlank 16 = .ok (.iconst 0, 1) := by decide +kernel
theorem dX7_isBlank_17 : decode cX7_isBlank 17 = .ok (.ireturn, 1) := by decide +kernel
theorem dX7_isLetter_0 : decode cX7_isLetter 0 = .ok (.iload_n 0, 1) := by decide +kernel
theorem dX7_isLetter_1 : decode cX7_isLetter 1 = .ok (.bipush 97, 2) := by decide +kernel
theorem dX7_isLetter_3 : decode cX7_isLetter 3 = .ok (.if_icmp .lt 13, 3) := by decide +kernel
theorem dX7_isLetter_16 : decode cX7_isLetter 16 = .ok (.iconst 0, 1) := by decide +kernel
theorem dX7_isLetter_17 : decode cX7_isLetter 17 = .ok (.ireturn, 1) := by decide +kernel
theorem dX7_isDigit_0 : decode cX7_isDigit 0 = .ok (.iload_n 0, 1) := by decide +kernel
theorem dX7_isDigit_1 : decode cX7_isDigit 1 = .ok (.bipush 48, 2) := by decide +kernel
theorem dX7_isDigit_3 : decode cX7_isDigit 3 = .ok (.if_icmp .lt 13, 3) := by decide +kernel
theorem dX7_isDigit_16 : decode cX7_isDigit 16 = .ok (.iconst 0, 1) := by decide +kernel
theorem dX7_isDigit_17 : decode cX7_isDigit 17 = .ok (.ireturn, 1) := by decide +kernel
theorem dX9_init_0 : decode cX9_init 0 = .ok (.aload_n 0, 1) := by decide +kernel
theorem dX9_init_1 : decode cX9_init 1 = .ok (.invokespecial 3, 3) := by decide +kernel
theorem dX9_init_4 : decode cX9_init 4 = .ok (.aload_n 0, 1) := by decide +kernel
theorem dX9_init_5 : decode cX9_init 5 = .ok (.iconst 0, 1) := by decide +kernel
theorem dX9_init_6 : decode cX9_init 6 = .ok (.putfield 9, 3) := by decide +kernel
theorem dX9_init_9 : decode cX9_init 9 = .ok (.aload_n 0, 1) := by decide +kernel
theorem dX9_init_10 : decode cX9_init 10 = .ok (.bipush 6, 2) := by decide +kernel
theorem dX9_init_12 : decode cX9_init 12 = .ok (.newarray .int, 2) := by decide +kernel
theorem dX9_init_14 : decode cX9_init 14 = .ok (.putfield 15, 3) := by decide +kernel
theorem dX9_init_17 : decode cX9_init 17 = .ok (.aload_n 0, 1) := by decide +kernel
theorem dX9_init_18 : decode cX9_init 18 = .ok (.bipush 6, 2) := by decide +kernel
theorem dX9_init_20 : decode cX9_init 20 = .ok (.newarray .int, 2) := by decide +kernel
theorem dX9_init_22 : decode cX9_init 22 = .ok (.putfield 19, 3) := by decide +kernel
theorem dX9_init_25 : decode cX9_init 25 = .ok (.aload_n 0, 1) := by decide +kernel
theorem dX9_init_26 : decode cX9_init 26 = .ok (.bipush 6, 2) := by decide +kernel
theorem dX9_init_28 : decode cX9_init 28 = .ok (.newarray .int, 2) := by decide +kernel
theorem dX9_init_30 : decode cX9_init 30 = .ok (.putfield 22, 3) := by decide +kernel
theorem dX9_init_33 : decode cX9_init 33 = .ok (.aload_n 0, 1) := by decide +kernel
theorem dX9_init_34 : decode cX9_init 34 = .ok (.bipush 36, 2) := by decide +kernel
theorem dX9_init_36 : decode cX9_init 36 = .ok (.newarray .int, 2) := by decide +kernel
theorem dX9_init_38 : decode cX9_init 38 = .ok (.putfield 25, 3) := by decide +kernel
theorem dX9_init_41 : decode cX9_init 41 = .ok (.aload_n 0, 1) := by decide +kernel
theorem dX9_init_42 : decode cX9_init 42 = .ok (.sipush 144, 3) := by decide +kernel
theorem dX9_init_45 : decode cX9_init 45 = .ok (.newarray .int, 2) := by decide +kernel
theorem dX9_init_47 : decode cX9_init 47 = .ok (.putfield 28, 3) := by decide +kernel
theorem dX9_init_50 : decode cX9_init 50 = .ok (.aload_n 0, 1) := by decide +kernel
theorem dX9_init_51 : decode cX9_init 51 = .ok (.sipush 144, 3) := by decide +kernel
theorem dX9_init_54 : decode cX9_init 54 = .ok (.newarray .int, 2) := by decide +kernel
theorem dX9_init_56 : decode cX9_init 56 = .ok (.putfield 31, 3) := by decide +kernel
theorem dX9_init_59 : decode cX9_init 59 = .ok (.aload_n 0, 1) := by decide +kernel
theorem dX9_init_60 : decode cX9_init 60 = .ok (.bipush 6, 2) := by decide +kernel
theorem dX9_init_62 : decode cX9_init 62 = .ok (.newarray .int, 2) := by decide +kernel
theorem dX9_init_64 : decode cX9_init 64 = .ok (.putfield 34, 3) := by decide +kernel
theorem dX9_init_67 : decode cX9_init 67 = .ok (.aload_n 0, 1) := by decide +kernel
theorem dX9_init_68 : decode cX9_init 68 = .ok (.bipush 24, 2) := by decide +kernel
theorem dX9_init_70 : decode cX9_init 70 = .ok (.newarray .int, 2) := by decide +kernel
theorem dX9_init_72 : decode cX9_init 72 = .ok (.putfield 37, 3) := by decide +kernel
theorem dX9_init_75 : decode cX9_init 75 = .ok (.return_, 1) := by decide +kernel
theorem dX9_become_0 : decode cX9_become 0 = .ok (.aload_n 0, 1) := by decide +kernel
theorem dX9_become_1 : decode cX9_become 1 = .ok (.aload_n 1, 1) := by decide +kernel
theorem dX9_become_2 : decode cX9_become 2 = .ok (.getfield 9, 3) := by decide +kernel
theorem dX9_become_5 : decode cX9_become 5 = .ok (.putfield 9, 3) := by decide +kernel
theorem dX9_become_8 : decode cX9_become 8 = .ok (.aload_n 1, 1) := by decide +kernel
theorem dX9_become_9 : decode cX9_become 9 = .ok (.getfield 15, 3) := by decide +kernel
theorem dX9_become_12 : decode cX9_become 12 = .ok (.iconst 0, 1) := by decide +kernel
theorem dX9_become_13 : decode cX9_become 13 = .ok (.aload_n 0, 1) := by decide +kernel
theorem dX9_become_14 : decode cX9_become 14 = .ok (.getfield 15, 3) := by decide +kernel
theorem dX9_become_17 : decode cX9_become 17 = .ok (.iconst 0, 1) := by decide +kernel
theorem dX9_become_18 : decode cX9_become 18 = .ok (.aload_n 0, 1) := by decide +kernel
theorem dX9_become_19 : decode cX9_become 19 = .ok (.getfield 15, 3) := by decide +kernel
theorem dX9_become_22 : decode cX9_become 22 = .ok (.arraylength, 1) := by decide +kernel
theorem dX9_become_23 : decode cX9_become 23 = .ok (.invokestatic 40, 3) := by decide +kernel
theorem dX9_become_26 : decode cX9_become 26 = .ok (.aload_n 1, 1) := by decide +kernel
theorem dX9_become_27 : decode cX9_become 27 = .ok (.getfield 19, 3) := by decide +kernel
theorem dX9_become_30 : decode cX9_become 30 = .ok (.iconst 0, 1) := by decide +kernel
theorem dX9_become_31 : decode cX9_become 31 = .ok (.aload_n 0, 1) := by decide +kernel
theorem dX9_become_32 : decode cX9_become 32 = .ok (.getfield 19, 3) := by decide +kernel
theorem dX9_become_35 : decode cX9_become 35 = .ok (.iconst 0, 1) := by decide +kernel
theorem dX9_become_36 : decode cX9_become 36 = .ok (.aload_n 0, 1) := by decide +kernel
theorem dX9_become_37 : decode cX9_become 37 = .ok (.getfield 19, 3) := by decide +kernel
theorem dX9_become_40 : decode cX9_become 40 = .ok (.arraylength, 1) := by decide +kernel
theorem dX9_become_41 : decode cX9_become 41 = .ok (.invokestatic 40, 3) := by decide +kernel
theorem dX9_become_44 : decode cX9_become 44 = .ok (.aload_n 1, 1) := by decide +kernel
theorem dX9_become_45 : decode cX9_become 45 = .ok (.getfield 22, 3) := by decide +kernel
theorem dX9_become_48 : decode cX9_become 48 = .ok (.iconst 0, 1) := by decide +kernel
theorem dX9_become_49 : decode cX9_become 49 = .ok (.aload_n 0, 1) := by decide +kernel
theorem dX9_become_50 : decode cX9_become 50 = .ok (.getfield 22, 3) := by decide +kernel
theorem dX9_become_53 : decode cX9_become 53 = .ok (.iconst 0, 1) := by decide +kernel
theorem dX9_become_54 : decode cX9_become 54 = .ok (.aload_n 0, 1) := by decide +kernel
theorem dX9_become_55 : decode cX9_become 55 = .ok (.getfield 22, 3) := by decide +kernel
theorem dX9_become_58 : decode cX9_become 58 = .ok (.arraylength, 1) := by decide +kernel
theorem dX9_become_59 : decode cX9_become 59 = .ok (.invokestatic 40, 3) := by decide +kernel
theorem dX9_become_62 : decode cX9_become 62 = .ok (.aload_n 1, 1) := by decide +kernel
theorem dX9_become_63 : decode cX9_become 63 = .ok (.getfield 25, 3) := by decide +kernel
theorem dX9_become_66 : decode cX9_become 66 = .ok (.iconst 0, 1) := by decide +kernel
theorem dX9_become_67 : decode cX9_become 67 = .ok (.aload_n 0, 1) := by decide +kernel
theorem dX9_become_68 : decode cX9_become 68 = .ok (.getfield 25, 3) := by decide +kernel
theorem dX9_become_71 : decode cX9_become 71 = .ok (.iconst 0, 1) := by decide +kernel
theorem dX9_become_72 : decode cX9_become 72 = .ok (.aload_n 0, 1) := by decide +kernel
theorem dX9_become_73 : decode cX9_become 73 = .ok (.getfield 25, 3) := by decide +kernel
theorem dX9_become_76 : decode cX9_become 76 = .ok (.arraylength, 1) := by decide +kernel
theorem dX9_become_77 : decode cX9_become 77 = .ok (.invokestatic 40, 3) := by decide +kernel
theorem dX9_become_80 : decode cX9_become 80 = .ok (.aload_n 1, 1) := by decide +kernel
theorem dX9_become_81 : decode cX9_become 81 = .ok (.getfield 28, 3) := by decide +kernel
theorem dX9_become_84 : decode cX9_become 84 = .ok (.iconst 0, 1) := by decide +kernel
theorem dX9_become_85 : decode cX9_become 85 = .ok (.aload_n 0, 1) := by decide +kernel
theorem dX9_become_86 : decode cX9_become 86 = .ok (.getfield 28, 3) := by decide +kernel
theorem dX9_become_89 : decode cX9_become 89 = .ok (.iconst 0, 1) := by decide +kernel
theorem dX9_become_90 : decode cX9_become 90 = .ok (.aload_n 0, 1) := by decide +kernel
theorem dX9_become_91 : decode cX9_become 91 = .ok (.getfield 28, 3) := by decide +kernel
theorem dX9_become_94 : decode cX9_become 94 = .ok (.arraylength, 1) := by decide +kernel
theorem dX9_become_95 : decode cX9_become 95 = .ok (.invokestatic 40, 3) := by decide +kernel
theorem dX9_become_98 : decode cX9_become 98 = .ok (.aload_n 1, 1) := by decide +kernel
theorem dX9_become_99 : decode cX9_become 99 = .ok (.getfield 31, 3) := by decide +kernel
theorem dX9_become_102 : decode cX9_become 102 = .ok (.iconst 0, 1) := by decide +kernel
theorem dX9_become_103 : decode cX9_become 103 = .ok (.aload_n 0, 1) := by decide +kernel
theorem dX9_become_104 : decode cX9_become 104 = .ok (.getfield 31, 3) := by decide +kernel
theorem dX9_become_107 : decode cX9_become 107 = .ok (.iconst 0, 1) := by decide +kernel
theorem dX9_become_108 : decode cX9_become 108 = .ok (.aload_n 0, 1) := by decide +kernel
theorem dX9_become_109 : decode cX9_become 109 = .ok (.getfield 31, 3) := by decide +kernel
theorem dX9_become_112 : decode cX9_become 112 = .ok (.arraylength, 1) := by decide +kernel
theorem dX9_become_113 : decode cX9_become 113 = .ok (.invokestatic 40, 3) := by decide +kernel
theorem dX9_become_116 : decode cX9_become 116 = .ok (.aload_n 1, 1) := by decide +kernel
theorem dX9_become_117 : decode cX9_become 117 = .ok (.getfield 34, 3) := by decide +kernel
theorem dX9_become_120 : decode cX9_become 120 = .ok (.iconst 0, 1) := by decide +kernel
theorem dX9_become_121 : decode cX9_become 121 = .ok (.aload_n 0, 1) := by decide +kernel
theorem dX9_become_122 : decode cX9_become 122 = .ok (.getfield 34, 3) := by decide +kernel
theorem dX9_become_125 : decode cX9_become 125 = .ok (.iconst 0, 1) := by decide +kernel
theorem dX9_become_126 : decode cX9_become 126 = .ok (.aload_n 0, 1) := by decide +kernel
theorem dX9_become_127 : decode cX9_become 127 = .ok (.getfield 34, 3) := by decide +kernel
theorem dX9_become_130 : decode cX9_become 130 = .ok (.arraylength, 1) := by decide +kernel
theorem dX9_become_131 : decode cX9_become 131 = .ok (.invokestatic 40, 3) := by decide +kernel
theorem dX9_become_134 : decode cX9_become 134 = .ok (.aload_n 1, 1) := by decide +kernel
theorem dX9_become_135 : decode cX9_become 135 = .ok (.getfield 37, 3) := by decide +kernel
theorem dX9_become_138 : decode cX9_become 138 = .ok (.iconst 0, 1) := by decide +kernel
theorem dX9_become_139 : decode cX9_become 139 = .ok (.aload_n 0, 1) := by decide +kernel
theorem dX9_become_140 : decode cX9_become 140 = .ok (.getfield 37, 3) := by decide +kernel
theorem dX9_become_143 : decode cX9_become 143 = .ok (.iconst 0, 1) := by decide +kernel
theorem dX9_become_144 : decode cX9_become 144 = .ok (.aload_n 0, 1) := by decide +kernel
theorem dX9_become_145 : decode cX9_become 145 = .ok (.getfield 37, 3) := by decide +kernel
theorem dX9_become_148 : decode cX9_become 148 = .ok (.arraylength, 1) := by decide +kernel
theorem dX9_become_149 : decode cX9_become 149 = .ok (.invokestatic 40, 3) := by decide +kernel
theorem dX9_become_152 : decode cX9_become 152 = .ok (.return_, 1) := by decide +kernel
theorem dX9_has_0 : decode cX9_has 0 = .ok (.iload_n 1, 1) := by decide +kernel
theorem dX9_has_1 : decode cX9_has 1 = .ok (.ifCond .lt 15, 3) := by decide +kernel
theorem dX9_has_4 : decode cX9_has 4 = .ok (.iload_n 1, 1) := by decide +kernel
theorem dX9_has_5 : decode cX9_has 5 = .ok (.aload_n 0, 1) := by decide +kernel
theorem dX9_has_6 : decode cX9_has 6 = .ok (.getfield 9, 3) := by decide +kernel
theorem dX9_has_9 : decode cX9_has 9 = .ok (.if_icmp .ge 7, 3) := by decide +kernel
theorem dX9_has_16 : decode cX9_has 16 = .ok (.iconst 0, 1) := by decide +kernel
theorem dX9_has_17 : decode cX9_has 17 = .ok (.ireturn, 1) := by decide +kernel
theorem dX9_hasParent_0 : decode cX9_hasParent 0 = .ok (.aload_n 0, 1) := by decide +kernel
theorem dX9_hasParent_1 : decode cX9_hasParent 1 = .ok (.iload_n 1, 1) := by decide +kernel
theorem dX9_hasParent_2 : decode cX9_hasParent 2 = .ok (.invokevirtual 46, 3) := by decide +kernel
theorem dX9_hasParent_5 : decode cX9_hasParent 5 = .ok (.ifCond .eq 20, 3) := by decide +kernel
theorem dX9_hasParent_25 : decode cX9_hasParent 25 = .ok (.iconst 0, 1) := by decide +kernel
theorem dX9_hasParent_26 : decode cX9_hasParent 26 = .ok (.ireturn, 1) := by decide +kernel
theorem dX9_addTongue_0 : decode cX9_addTongue 0 = .ok (.aload_n 0, 1) := by decide +kernel
theorem dX9_addTongue_1 : decode cX9_addTongue 1 = .ok (.getfield 9, 3) := by decide +kernel
theorem dX9_addTongue_4 : decode cX9_addTongue 4 = .ok (.bipush 6, 2) := by decide +kernel
theorem dX9_addTongue_6 : decode cX9_addTongue 6 = .ok (.if_icmp .ge 16, 3) := by decide +kernel
theorem dX9_addTongue_9 : decode cX9_addTongue 9 = .ok (.iload_n 1, 1) := by decide +kernel
theorem dX9_addTongue_10 : decode cX9_addTongue 10 = .ok (.iconst (-1), 1) := by decide +kernel
theorem dX9_addTongue_11 : decode cX9_addTongue 11 = .ok (.if_icmp .eq 13, 3) := by decide +kernel
theorem dX9_addTongue_14 : decode cX9_addTongue 14 = .ok (.aload_n 0, 1) := by decide +kernel
theorem dX9_addTongue_15 : decode cX9_addTongue 15 = .ok (.iload_n 1, 1) := by decide +kernel
theorem dX9_addTongue_16 : decode cX9_addTongue 16 = .ok (.invokevirtual 46, 3) := by decide +kernel
theorem dX9_addTongue_19 : decode cX9_addTongue 19 = .ok (.ifCond .ne 5, 3) := by decide +kernel
theorem dX9_addTongue_22 : decode cX9_addTongue 22 = .ok (.iconst (-1), 1) := by decide +kernel
theorem dX9_addTongue_23 : decode cX9_addTongue 23 = .ok (.ireturn, 1) := by decide +kernel
theorem dX9_addTongue_24 : decode cX9_addTongue 24 = .ok (.aload_n 0, 1) := by decide +kernel
theorem dX9_addTongue_25 : decode cX9_addTongue 25 = .ok (.getfield 9, 3) := by decide +kernel
theorem dX9_addTongue_28 : decode cX9_addTongue 28 = .ok (.istore_n 2, 1) := by decide +kernel
theorem dX9_addTongue_29 : decode cX9_addTongue 29 = .ok (.aload_n 0, 1) := by decide +kernel
theorem dX9_addTongue_30 : decode cX9_addTongue 30 = .ok (.getfield 15, 3) := by decide +kernel
theorem dX9_addTongue_33 : decode cX9_addTongue 33 = .ok (.iload_n 2, 1) := by decide +kernel
theorem dX9_addTongue_34 : decode cX9_addTongue 34 = .ok (.iload_n 1, 1) := by decide +kernel
theorem dX9_addTongue_35 : decode cX9_addTongue 35 = .ok (.iastore, 1) := by decide +kernel
theorem dX9_addTongue_36 : decode cX9_addTongue 36 = .ok (.aload_n 0, 1) := by decide +kernel
theorem dX9_addTongue_37 : decode cX9_addTongue 37 = .ok (.getfield 19, 3) := by decide +kernel
theorem dX9_addTongue_40 : decode cX9_addTongue 40 = .ok (.iload_n 2, 1) := by decide +kernel
theorem dX9_addTongue_41 : decode cX9_addTongue 41 = .ok (.bipush 100, 2) := by decide +kernel
theorem dX9_addTongue_43 : decode cX9_addTongue 43 = .ok (.iastore, 1) := by decide +kernel
theorem dX9_addTongue_44 : decode cX9_addTongue 44 = .ok (.aload_n 0, 1) := by decide +kernel
theorem dX9_addTongue_45 : decode cX9_addTongue 45 = .ok (.dup, 1) := by decide +kernel
theorem dX9_addTongue_46 : decode cX9_addTongue 46 = .ok (.getfield 9, 3) := by decide +kernel
theorem dX9_addTongue_49 : decode cX9_addTongue 49 = .ok (.iconst 1, 1) := by decide +kernel
theorem dX9_addTongue_50 : decode cX9_addTongue 50 = .ok (.iadd, 1) := by decide +kernel
theorem dX9_addTongue_51 : decode cX9_addTongue 51 = .ok (.putfield 9, 3) := by decide +kernel
theorem dX9_addTongue_54 : decode cX9_addTongue 54 = .ok (.aload_n 0, 1) := by decide +kernel
theorem dX9_addTongue_55 : decode cX9_addTongue 55 = .ok (.iload_n 2, 1) := by decide +kernel
theorem dX9_addTongue_56 : decode cX9_addTongue 56 = .ok (.invokevirtual 50, 3) := by decide +kernel
theorem dX9_addTongue_59 : decode cX9_addTongue 59 = .ok (.iload_n 2, 1) := by decide +kernel
theorem dX9_addTongue_60 : decode cX9_addTongue 60 = .ok (.ireturn, 1) := by decide +kernel
theorem dX9_addRule_0 : decode cX9_addRule 0 = .ok (.iload_n 2, 1) := by decide +kernel
theorem dX9_addRule_1 : decode cX9_addRule 1 = .ok (.iconst 1, 1) := by decide +kernel
theorem dX9_addRule_2 : decode cX9_addRule 2 = .ok (.bipush 8, 2) := by decide +kernel
theorem dX9_addRule_4 : decode cX9_addRule 4 = .ok (.invokestatic 54, 3) := by decide +kernel
theorem dX9_addRule_7 : decode cX9_addRule 7 = .ok (.ifCond .eq 44, 3) := by decide +kernel
theorem dX9_addRule_10 : decode cX9_addRule 10 = .ok (.iload_n 3, 1) := by decide +kernel
theorem dX9_addRule_11 : decode cX9_addRule 11 = .ok (.iconst 0, 1) := by decide +kernel
theorem dX9_addRule_12 : decode cX9_addRule 12 = .ok (.bipush 8, 2) := by decide +kernel
theorem dX9_addRule_14 : decode cX9_addRule 14 = .ok (.invokestatic 54, 3) := by decide +kernel
theorem dX9_addRule_17 : decode cX9_addRule 17 = .ok (.ifCond .eq 34, 3) := by decide +kernel
theorem dX9_addRule_20 : decode cX9_addRule 20 = .ok (.iload_n 3, 1) := by decide +kernel
theorem dX9_addRule_21 : decode cX9_addRule 21 = .ok (.iload_n 2, 1) := by decide +kernel
theorem dX9_addRule_22 : decode cX9_addRule 22 = .ok (.if_icmp .eq 29, 3) := by decide +kernel
theorem dX9_addRule_25 : decode cX9_addRule 25 = .ok (.iload 4, 2) := by decide +kernel
theorem dX9_addRule_27 : decode cX9_addRule 27 = .ok (.iconst 0, 1) := by decide +kernel
theorem dX9_addRule_28 : decode cX9_addRule 28 = .ok (.bipush 9, 2) := by decide +kernel
theorem dX9_addRule_30 : decode cX9_addRule 30 = .ok (.invokestatic 54, 3) := by decide +kernel
theorem dX9_addRule_33 : decode cX9_addRule 33 = .ok (.ifCond .eq 18, 3) := by decide +kernel
theorem dX9_addRule_36 : decode cX9_addRule 36 = .ok (.iload 5, 2) := by decide +kernel
theorem dX9_addRule_38 : decode cX9_addRule 38 = .ok (.iconst 0, 1) := by decide +kernel
theorem dX9_addRule_39 : decode cX9_addRule 39 = .ok (.bipush 9, 2) := by decide +kernel
theorem dX9_addRule_41 : decode cX9_addRule 41 = .ok (.invokestatic 54, 3) := by decide +kernel
theorem dX9_addRule_44 : decode cX9_addRule 44 = .ok (.ifCond .eq 7, 3) := by decide +kernel
theorem dX9_addRule_47 : decode cX9_addRule 47 = .ok (.iconst 1, 1) := by decide +kernel
theorem dX9_addRule_48 : decode cX9_addRule 48 = .ok (.goto 4, 3) := by decide +kernel
theorem dX9_addRule_51 : decode cX9_addRule 51 = .ok (.iconst 0, 1) := by decide +kernel
theorem dX9_addRule_52 : decode cX9_addRule 52 = .ok (.istore 6, 2) := by decide +kernel
theorem dX9_addRule_54 : decode cX9_addRule 54 = .ok (.iload 6, 2) := by decide +kernel
theorem dX9_addRule_56 : decode cX9_addRule 56 = .ok (.ifCond .eq 22, 3) := by decide +kernel
theorem dX9_addRule_59 : decode cX9_addRule 59 = .ok (.aload_n 0, 1) := by decide +kernel
theorem dX9_addRule_60 : decode cX9_addRule 60 = .ok (.iload_n 1, 1) := by decide +kernel
theorem dX9_addRule_61 : decode cX9_addRule 61 = .ok (.invokevirtual 46, 3) := by decide +kernel
theorem dX9_addRule_64 : decode cX9_addRule 64 = .ok (.ifCond .eq 14, 3) := by decide +kernel
theorem dX9_addRule_78 : decode cX9_addRule 78 = .ok (.iconst (-1), 1) := by decide +kernel
theorem dX9_addRule_79 : decode cX9_addRule 79 = .ok (.ireturn, 1) := by decide +kernel
theorem dX9_dropRule_0 : decode cX9_dropRule 0 = .ok (.aload_n 0, 1) := by decide +kernel
theorem dX9_dropRule_1 : decode cX9_dropRule 1 = .ok (.iload_n 1, 1) := by decide +kernel
theorem dX9_dropRule_2 : decode cX9_dropRule 2 = .ok (.invokevirtual 46, 3) := by decide +kernel
theorem dX9_dropRule_5 : decode cX9_dropRule 5 = .ok (.ifCond .eq 12, 3) := by decide +kernel
theorem dX9_dropRule_17 : decode cX9_dropRule 17 = .ok (.iconst 0, 1) := by decide +kernel
theorem dX9_dropRule_18 : decode cX9_dropRule 18 = .ok (.ireturn, 1) := by decide +kernel
theorem dX9_setBreak_0 : decode cX9_setBreak 0 = .ok (.aload_n 0, 1) := by decide +kernel
theorem dX9_setBreak_1 : decode cX9_setBreak 1 = .ok (.iload_n 1, 1) := by decide +kernel
theorem dX9_setBreak_2 : decode cX9_setBreak 2 = .ok (.invokevirtual 46, 3) := by decide +kernel
theorem dX9_setBreak_5 : decode cX9_setBreak 5 = .ok (.ifCond .eq 28, 3) := by decide +kernel
theorem dX9_setBreak_33 : decode cX9_setBreak 33 = .ok (.iconst 0, 1) := by decide +kernel
theorem dX9_setBreak_34 : decode cX9_setBreak 34 = .ok (.istore 4, 2) := by decide +kernel
theorem dX9_setBreak_36 : decode cX9_setBreak 36 = .ok (.iload 4, 2) := by decide +kernel
theorem dX9_setBreak_38 : decode cX9_setBreak 38 = .ok (.ifCond .ne 5, 3) := by decide +kernel
theorem dX9_setBreak_41 : decode cX9_setBreak 41 = .ok (.iconst 0, 1) := by decide +kernel
theorem dX9_setBreak_42 : decode cX9_setBreak 42 = .ok (.ireturn, 1) := by decide +kernel
theorem dX9_setField_0 : decode cX9_setField 0 = .ok (.iload_n 1, 1) := by decide +kernel
theorem dX9_setField_1 : decode cX9_setField 1 = .ok (.iconst 0, 1) := by decide +kernel
theorem dX9_setField_2 : decode cX9_setField 2 = .ok (.bipush 23, 2) := by decide +kernel
theorem dX9_setField_4 : decode cX9_setField 4 = .ok (.invokestatic 54, 3) := by decide +kernel
theorem dX9_setField_7 : decode cX9_setField 7 = .ok (.ifCond .eq 12, 3) := by decide +kernel
theorem dX9_setField_10 : decode cX9_setField 10 = .ok (.iload_n 2, 1) := by decide +kernel
theorem dX9_setField_11 : decode cX9_setField 11 = .ok (.iconst 0, 1) := by decide +kernel
theorem dX9_setField_12 : decode cX9_setField 12 = .ok (.iconst 3, 1) := by decide +kernel
theorem dX9_setField_13 : decode cX9_setField 13 = .ok (.invokestatic 54, 3) := by decide +kernel
theorem dX9_setField_16 : decode cX9_setField 16 = .ok (.ifCond .ne 5, 3) := by decide +kernel
theorem dX9_setField_19 : decode cX9_setField 19 = .ok (.iconst 0, 1) := by decide +kernel
theorem dX9_setField_20 : decode cX9_setField 20 = .ok (.ireturn, 1) := by decide +kernel
theorem dX9_setField_21 : decode cX9_setField 21 = .ok (.aload_n 0, 1) := by decide +kernel
theorem dX9_setField_22 : decode cX9_setField 22 = .ok (.getfield 37, 3) := by decide +kernel
theorem dX9_setField_25 : decode cX9_setField 25 = .ok (.iload_n 1, 1) := by decide +kernel
theorem dX9_setField_26 : decode cX9_setField 26 = .ok (.iload_n 2, 1) := by decide +kernel
theorem dX9_setField_27 : decode cX9_setField 27 = .ok (.iastore, 1) := by decide +kernel
theorem dX9_setField_28 : decode cX9_setField 28 = .ok (.iconst 1, 1) := by decide +kernel
theorem dX9_setField_29 : decode cX9_setField 29 = .ok (.ireturn, 1) := by decide +kernel
theorem dX9_setCost_0 : decode cX9_setCost 0 = .ok (.aload_n 0, 1) := by decide +kernel
theorem dX9_setCost_1 : decode cX9_setCost 1 = .ok (.iload_n 1, 1) := by decide +kernel
theorem dX9_setCost_2 : decode cX9_setCost 2 = .ok (.invokevirtual 46, 3) := by decide +kernel
theorem dX9_setCost_5 : decode cX9_setCost 5 = .ok (.ifCond .eq 14, 3) := by decide +kernel
theorem dX9_setCost_19 : decode cX9_setCost 19 = .ok (.iconst 0, 1) := by decide +kernel
theorem dX9_setCost_20 : decode cX9_setCost 20 = .ok (.ireturn, 1) := by decide +kernel
theorem dX9_wordOf_0 : decode cX9_wordOf 0 = .ok (.aload_n 0, 1) := by decide +kernel
theorem dX9_wordOf_1 : decode cX9_wordOf 1 = .ok (.iload_n 1, 1) := by decide +kernel
theorem dX9_wordOf_2 : decode cX9_wordOf 2 = .ok (.invokevirtual 46, 3) := by decide +kernel
theorem dX9_wordOf_5 : decode cX9_wordOf 5 = .ok (.ifCond .eq 27, 3) := by decide +kernel
theorem dX9_wordOf_32 : decode cX9_wordOf 32 = .ok (.iconst 0, 1) := by decide +kernel
theorem dX9_wordOf_33 : decode cX9_wordOf 33 = .ok (.ireturn, 1) := by decide +kernel
theorem dX9_refreshFrom_0 : decode cX9_refreshFrom 0 = .ok (.iconst 0, 1) := by decide +kernel
theorem dX9_refreshFrom_1 : decode cX9_refreshFrom 1 = .ok (.istore_n 2, 1) := by decide +kernel
theorem dX9_refreshFrom_2 : decode cX9_refreshFrom 2 = .ok (.iload_n 2, 1) := by decide +kernel
theorem dX9_refreshFrom_3 : decode cX9_refreshFrom 3 = .ok (.bipush 24, 2) := by decide +kernel
theorem dX9_refreshFrom_5 : decode cX9_refreshFrom 5 = .ok (.if_icmp .ge 15, 3) := by decide +kernel
theorem dX9_refreshFrom_8 : decode cX9_refreshFrom 8 = .ok (.aload_n 0, 1) := by decide +kernel
theorem dX9_refreshFrom_9 : decode cX9_refreshFrom 9 = .ok (.iload_n 1, 1) := by decide +kernel
theorem dX9_refreshFrom_10 : decode cX9_refreshFrom 10 = .ok (.iload_n 2, 1) := by decide +kernel
theorem dX9_refreshFrom_11 : decode cX9_refreshFrom 11 = .ok (.invokevirtual 65, 3) := by decide +kernel
theorem dX9_refreshFrom_14 : decode cX9_refreshFrom 14 = .ok (.iinc 2 1, 3) := by decide +kernel
theorem dX9_refreshFrom_17 : decode cX9_refreshFrom 17 = .ok (.goto (-15), 3) := by decide +kernel
theorem dX9_refreshFrom_20 : decode cX9_refreshFrom 20 = .ok (.return_, 1) := by decide +kernel
theorem dX9_refreshMeaning_0 : decode cX9_refreshMeaning 0 = .ok (.iload_n 1, 1) := by decide +kernel
theorem dX9_refreshMeaning_1 : decode cX9_refreshMeaning 1 = .ok (.istore_n 3, 1) := by decide +kernel
theorem dX9_refreshMeaning_2 : decode cX9_refreshMeaning 2 = .ok (.iload_n 3, 1) := by decide +kernel
theorem dX9_refreshMeaning_3 : decode cX9_refreshMeaning 3 = .ok (.aload_n 0, 1) := by decide +kernel
theorem dX9_refreshMeaning_4 : decode cX9_refreshMeaning 4 = .ok (.getfield 9, 3) := by decide +kernel
theorem dX9_refreshMeaning_7 : decode cX9_refreshMeaning 7 = .ok (.if_icmp .ge 71, 3) := by decide +kernel
theorem dX9_refreshMeaning_10 : decode cX9_refreshMeaning 10 = .ok (.aload_n 0, 1) := by decide +kernel
theorem dX9_refreshMeaning_11 : decode cX9_refreshMeaning 11 = .ok (.getfield 28, 3) := by decide +kernel
theorem dX9_refreshMeaning_14 : decode cX9_refreshMeaning 14 = .ok (.iload_n 3, 1) := by decide +kernel
theorem dX9_refreshMeaning_15 : decode cX9_refreshMeaning 15 = .ok (.bipush 24, 2) := by decide +kernel
theorem dX9_refreshMeaning_17 : decode cX9_refreshMeaning 17 = .ok (.imul, 1) := by decide +kernel
theorem dX9_refreshMeaning_18 : decode cX9_refreshMeaning 18 = .ok (.iload_n 2, 1) := by decide +kernel
theorem dX9_refreshMeaning_19 : decode cX9_refreshMeaning 19 = .ok (.iadd, 1) := by decide +kernel
theorem dX9_refreshMeaning_20 : decode cX9_refreshMeaning 20 = .ok (.iaload, 1) := by decide +kernel
theorem dX9_refreshMeaning_21 : decode cX9_refreshMeaning 21 = .ok (.istore 4, 2) := by decide +kernel
theorem dX9_refreshMeaning_23 : decode cX9_refreshMeaning 23 = .ok (.aload_n 0, 1) := by decide +kernel
theorem dX9_refreshMeaning_24 : decode cX9_refreshMeaning 24 = .ok (.aload_n 0, 1) := by decide +kernel
theorem dX9_refreshMeaning_25 : decode cX9_refreshMeaning 25 = .ok (.getfield 15, 3) := by decide +kernel
theorem dX9_refreshMeaning_28 : decode cX9_refreshMeaning 28 = .ok (.iload_n 3, 1) := by decide +kernel
theorem dX9_refreshMeaning_29 : decode cX9_refreshMeaning 29 = .ok (.iaload, 1) := by decide +kernel
theorem dX9_refreshMeaning_30 : decode cX9_refreshMeaning 30 = .ok (.iload_n 2, 1) := by decide +kernel
theorem dX9_refreshMeaning_31 : decode cX9_refreshMeaning 31 = .ok (.invokevirtual 69, 3) := by decide +kernel
theorem dX9_refreshMeaning_34 : decode cX9_refreshMeaning 34 = .ok (.istore 5, 2) := by decide +kernel
theorem dX9_refreshMeaning_36 : decode cX9_refreshMeaning 36 = .ok (.iload 5, 2) := by decide +kernel
theorem dX9_refreshMeaning_38 : decode cX9_refreshMeaning 38 = .ok (.ifCond .ne 7, 3) := by decide +kernel
theorem dX9_refreshMeaning_41 : decode cX9_refreshMeaning 41 = .ok (.iconst 0, 1) := by decide +kernel
theorem dX9_refreshMeaning_42 : decode cX9_refreshMeaning 42 = .ok (.goto 10, 3) := by decide +kernel
theorem dX9_refreshMeaning_52 : decode cX9_refreshMeaning 52 = .ok (.istore 6, 2) := by decide +kernel
theorem dX9_refreshMeaning_54 : decode cX9_refreshMeaning 54 = .ok (.aload_n 0, 1) := by decide +kernel
theorem dX9_refreshMeaning_55 : decode cX9_refreshMeaning 55 = .ok (.iload_n 3, 1) := by decide +kernel
theorem dX9_refreshMeaning_56 : decode cX9_refreshMeaning 56 = .ok (.iload_n 2, 1) := by decide +kernel
theorem dX9_refreshMeaning_57 : decode cX9_refreshMeaning 57 = .ok (.iload 4, 2) := by decide +kernel
theorem dX9_refreshMeaning_59 : decode cX9_refreshMeaning 59 = .ok (.ifCond .eq 8, 3) := by decide +kernel
theorem dX9_refreshMeaning_67 : decode cX9_refreshMeaning 67 = .ok (.iload 6, 2) := by decide +kernel
theorem dX9_refreshMeaning_69 : decode cX9_refreshMeaning 69 = .ok (.invokevirtual 79, 3) := by decide +kernel
theorem dX9_refreshMeaning_72 : decode cX9_refreshMeaning 72 = .ok (.iinc 3 1, 3) := by decide +kernel
theorem dX9_refreshMeaning_75 : decode cX9_refreshMeaning 75 = .ok (.goto (-73), 3) := by decide +kernel
theorem dX9_refreshMeaning_78 : decode cX9_refreshMeaning 78 = .ok (.return_, 1) := by decide +kernel
theorem dX9_setWord_0 : decode cX9_setWord 0 = .ok (.aload_n 0, 1) := by decide +kernel
theorem dX9_setWord_1 : decode cX9_setWord 1 = .ok (.getfield 31, 3) := by decide +kernel
theorem dX9_setWord_4 : decode cX9_setWord 4 = .ok (.iload_n 1, 1) := by decide +kernel
theorem dX9_setWord_5 : decode cX9_setWord 5 = .ok (.bipush 24, 2) := by decide +kernel
theorem dX9_setWord_7 : decode cX9_setWord 7 = .ok (.imul, 1) := by decide +kernel
theorem dX9_setWord_8 : decode cX9_setWord 8 = .ok (.iload_n 2, 1) := by decide +kernel
theorem dX9_setWord_9 : decode cX9_setWord 9 = .ok (.iadd, 1) := by decide +kernel
theorem dX9_setWord_10 : decode cX9_setWord 10 = .ok (.iload_n 3, 1) := by decide +kernel
theorem dX9_setWord_11 : decode cX9_setWord 11 = .ok (.iastore, 1) := by decide +kernel
theorem dX9_setWord_12 : decode cX9_setWord 12 = .ok (.aload_n 0, 1) := by decide +kernel
theorem dX9_setWord_13 : decode cX9_setWord 13 = .ok (.getfield 34, 3) := by decide +kernel
theorem dX9_setWord_16 : decode cX9_setWord 16 = .ok (.iload_n 1, 1) := by decide +kernel
theorem dX9_setWord_17 : decode cX9_setWord 17 = .ok (.iaload, 1) := by decide +kernel
theorem dX9_setWord_18 : decode cX9_setWord 18 = .ok (.iconst 1, 1) := by decide +kernel
theorem dX9_setWord_19 : decode cX9_setWord 19 = .ok (.iload_n 2, 1) := by decide +kernel
theorem dX9_setWord_20 : decode cX9_setWord 20 = .ok (.ishl, 1) := by decide +kernel
theorem dX9_setWord_21 : decode cX9_setWord 21 = .ok (.iconst (-1), 1) := by decide +kernel
theorem dX9_setWord_22 : decode cX9_setWord 22 = .ok (.ixor, 1) := by decide +kernel
theorem dX9_setWord_23 : decode cX9_setWord 23 = .ok (.iand, 1) := by decide +kernel
theorem dX9_setWord_24 : decode cX9_setWord 24 = .ok (.istore 4, 2) := by decide +kernel
theorem dX9_setWord_26 : decode cX9_setWord 26 = .ok (.aload_n 0, 1) := by decide +kernel
theorem dX9_setWord_27 : decode cX9_setWord 27 = .ok (.getfield 34, 3) := by decide +kernel
theorem dX9_setWord_30 : decode cX9_setWord 30 = .ok (.iload_n 1, 1) := by decide +kernel
theorem dX9_setWord_31 : decode cX9_setWord 31 = .ok (.iload_n 3, 1) := by decide +kernel
theorem dX9_setWord_32 : decode cX9_setWord 32 = .ok (.ifCond .ne 8, 3) := by decide +kernel
theorem dX9_setWord_35 : decode cX9_setWord 35 = .ok (.iload 4, 2) := by decide +kernel
theorem dX9_setWord_37 : decode cX9_setWord 37 = .ok (.goto 9, 3) := by decide +kernel
theorem dX9_setWord_46 : decode cX9_setWord 46 = .ok (.iastore, 1) := by decide +kernel
theorem dX9_setWord_47 : decode cX9_setWord 47 = .ok (.return_, 1) := by decide +kernel
theorem dX10_init_0 : decode cX10_init 0 = .ok (.aload_n 0, 1) := by decide +kernel
theorem dX10_init_1 : decode cX10_init 1 = .ok (.invokespecial 3, 3) := by decide +kernel
theorem dX10_init_4 : decode cX10_init 4 = .ok (.aload_n 0, 1) := by decide +kernel
theorem dX10_init_5 : decode cX10_init 5 = .ok (.iconst 0, 1) := by decide +kernel
theorem dX10_init_6 : decode cX10_init 6 = .ok (.putfield 9, 3) := by decide +kernel
theorem dX10_init_9 : decode cX10_init 9 = .ok (.aload_n 0, 1) := by decide +kernel
theorem dX10_init_10 : decode cX10_init 10 = .ok (.new 15, 3) := by decide +kernel
theorem dX10_init_13 : decode cX10_init 13 = .ok (.dup, 1) := by decide +kernel
theorem dX10_init_14 : decode cX10_init 14 = .ok (.invokespecial 17, 3) := by decide +kernel
theorem dX10_init_17 : decode cX10_init 17 = .ok (.putfield 18, 3) := by decide +kernel
theorem dX10_init_20 : decode cX10_init 20 = .ok (.aload_n 0, 1) := by decide +kernel
theorem dX10_init_21 : decode cX10_init 21 = .ok (.new 22, 3) := by decide +kernel
theorem dX10_init_24 : decode cX10_init 24 = .ok (.dup, 1) := by decide +kernel
theorem dX10_init_25 : decode cX10_init 25 = .ok (.invokespecial 24, 3) := by decide +kernel
theorem dX10_init_28 : decode cX10_init 28 = .ok (.putfield 25, 3) := by decide +kernel
theorem dX10_init_31 : decode cX10_init 31 = .ok (.aload_n 0, 1) := by decide +kernel
theorem dX10_init_32 : decode cX10_init 32 = .ok (.new 29, 3) := by decide +kernel
theorem dX10_init_35 : decode cX10_init 35 = .ok (.dup, 1) := by decide +kernel
theorem dX10_init_36 : decode cX10_init 36 = .ok (.invokespecial 31, 3) := by decide +kernel
theorem dX10_init_39 : decode cX10_init 39 = .ok (.putfield 32, 3) := by decide +kernel
theorem dX10_init_42 : decode cX10_init 42 = .ok (.aload_n 0, 1) := by decide +kernel
theorem dX10_init_43 : decode cX10_init 43 = .ok (.new 36, 3) := by decide +kernel
theorem dX10_init_46 : decode cX10_init 46 = .ok (.dup, 1) := by decide +kernel
theorem dX10_init_47 : decode cX10_init 47 = .ok (.invokespecial 38, 3) := by decide +kernel
theorem dX10_init_50 : decode cX10_init 50 = .ok (.putfield 39, 3) := by decide +kernel
theorem dX10_init_53 : decode cX10_init 53 = .ok (.aload_n 0, 1) := by decide +kernel
theorem dX10_init_54 : decode cX10_init 54 = .ok (.new 43, 3) := by decide +kernel
theorem dX10_init_57 : decode cX10_init 57 = .ok (.dup, 1) := by decide +kernel
theorem dX10_init_58 : decode cX10_init 58 = .ok (.invokespecial 45, 3) := by decide +kernel
theorem dX10_init_61 : decode cX10_init 61 = .ok (.putfield 46, 3) := by decide +kernel
theorem dX10_init_64 : decode cX10_init 64 = .ok (.return_, 1) := by decide +kernel
theorem dX10_become_0 : decode cX10_become 0 = .ok (.aload_n 0, 1) := by decide +kernel
theorem dX10_become_1 : decode cX10_become 1 = .ok (.aload_n 1, 1) := by decide +kernel
theorem dX10_become_2 : decode cX10_become 2 = .ok (.getfield 9, 3) := by decide +kernel
theorem dX10_become_5 : decode cX10_become 5 = .ok (.putfield 9, 3) := by decide +kernel
theorem dX10_become_8 : decode cX10_become 8 = .ok (.aload_n 0, 1) := by decide +kernel
theorem dX10_become_9 : decode cX10_become 9 = .ok (.getfield 18, 3) := by decide +kernel
theorem dX10_become_12 : decode cX10_become 12 = .ok (.aload_n 1, 1) := by decide +kernel
theorem dX10_become_13 : decode cX10_become 13 = .ok (.getfield 18, 3) := by decide +kernel
theorem dX10_become_16 : decode cX10_become 16 = .ok (.invokevirtual 50, 3) := by decide +kernel
theorem dX10_become_19 : decode cX10_become 19 = .ok (.aload_n 0, 1) := by decide +kernel
theorem dX10_become_20 : decode cX10_become 20 = .ok (.getfield 25, 3) := by decide +kernel
theorem dX10_become_23 : decode cX10_become 23 = .ok (.aload_n 1, 1) := by decide +kernel
theorem dX10_become_24 : decode cX10_become 24 = .ok (.getfield 25, 3) := by decide +kernel
theorem dX10_become_27 : decode cX10_become 27 = .ok (.invokevirtual 54, 3) := by decide +kernel
theorem dX10_become_30 : decode cX10_become 30 = .ok (.aload_n 0, 1) := by decide +kernel
theorem dX10_become_31 : decode cX10_become 31 = .ok (.getfield 32, 3) := by decide +kernel
theorem dX10_become_34 : decode cX10_become 34 = .ok (.aload_n 1, 1) := by decide +kernel
theorem dX10_become_35 : decode cX10_become 35 = .ok (.getfield 32, 3) := by decide +kernel
theorem dX10_become_38 : decode cX10_become 38 = .ok (.invokevirtual 57, 3) := by decide +kernel
theorem dX10_become_41 : decode cX10_become 41 = .ok (.aload_n 0, 1) := by decide +kernel
theorem dX10_become_42 : decode cX10_become 42 = .ok (.getfield 39, 3) := by decide +kernel
theorem dX10_become_45 : decode cX10_become 45 = .ok (.aload_n 1, 1) := by decide +kernel
theorem dX10_become_46 : decode cX10_become 46 = .ok (.getfield 39, 3) := by decide +kernel
theorem dX10_become_49 : decode cX10_become 49 = .ok (.invokevirtual 60, 3) := by decide +kernel
theorem dX10_become_52 : decode cX10_become 52 = .ok (.aload_n 0, 1) := by decide +kernel
theorem dX10_become_53 : decode cX10_become 53 = .ok (.getfield 46, 3) := by decide +kernel
theorem dX10_become_56 : decode cX10_become 56 = .ok (.aload_n 1, 1) := by decide +kernel
theorem dX10_become_57 : decode cX10_become 57 = .ok (.getfield 46, 3) := by decide +kernel
theorem dX10_become_60 : decode cX10_become 60 = .ok (.invokevirtual 63, 3) := by decide +kernel
theorem dX10_become_63 : decode cX10_become 63 = .ok (.return_, 1) := by decide +kernel
theorem dX10_passDay_0 : decode cX10_passDay 0 = .ok (.aload_n 0, 1) := by decide +kernel
theorem dX10_passDay_1 : decode cX10_passDay 1 = .ok (.getfield 9, 3) := by decide +kernel
theorem dX10_passDay_4 : decode cX10_passDay 4 = .ok (.sipush 999, 3) := by decide +kernel
theorem dX10_passDay_7 : decode cX10_passDay 7 = .ok (.if_icmp .lt 5, 3) := by decide +kernel
theorem dX10_passDay_12 : decode cX10_passDay 12 = .ok (.aload_n 0, 1) := by decide +kernel
theorem dX10_passDay_13 : decode cX10_passDay 13 = .ok (.getfield 25, 3) := by decide +kernel
theorem dX10_passDay_16 : decode cX10_passDay 16 = .ok (.invokevirtual 66, 3) := by decide +kernel
theorem dX10_passDay_19 : decode cX10_passDay 19 = .ok (.aload_n 0, 1) := by decide +kernel
theorem dX10_passDay_20 : decode cX10_passDay 20 = .ok (.dup, 1) := by decide +kernel
theorem dX10_passDay_21 : decode cX10_passDay 21 = .ok (.getfield 9, 3) := by decide +kernel
theorem dX10_passDay_24 : decode cX10_passDay 24 = .ok (.iconst 1, 1) := by decide +kernel
theorem dX10_passDay_25 : decode cX10_passDay 25 = .ok (.iadd, 1) := by decide +kernel
theorem dX10_passDay_26 : decode cX10_passDay 26 = .ok (.putfield 9, 3) := by decide +kernel
theorem dX10_passDay_29 : decode cX10_passDay 29 = .ok (.aload_n 0, 1) := by decide +kernel
theorem dX10_passDay_30 : decode cX10_passDay 30 = .ok (.getfield 25, 3) := by decide +kernel
theorem dX10_passDay_33 : decode cX10_passDay 33 = .ok (.aload_n 0, 1) := by decide +kernel
theorem dX10_passDay_34 : decode cX10_passDay 34 = .ok (.getfield 9, 3) := by decide +kernel
theorem dX10_passDay_37 : decode cX10_passDay 37 = .ok (.invokevirtual 69, 3) := by decide +kernel
theorem dX10_passDay_40 : decode cX10_passDay 40 = .ok (.aload_n 0, 1) := by decide +kernel
theorem dX10_passDay_41 : decode cX10_passDay 41 = .ok (.getfield 9, 3) := by decide +kernel
theorem dX10_passDay_44 : decode cX10_passDay 44 = .ok (.ireturn, 1) := by decide +kernel
theorem dX10_personFact_0 : decode cX10_personFact 0 = .ok (.aload_n 0, 1) := by decide +kernel
theorem dX10_personFact_1 : decode cX10_personFact 1 = .ok (.getfield 25, 3) := by decide +kernel
theorem dX10_personFact_4 : decode cX10_personFact 4 = .ok (.iload_n 1, 1) := by decide +kernel
theorem dX10_personFact_5 : decode cX10_personFact 5 = .ok (.invokevirtual 115, 3) := by decide +kernel
theorem dX10_personFact_8 : decode cX10_personFact 8 = .ok (.ifCond .ne 6, 3) := by decide +kernel
theorem dX10_personFact_11 : decode cX10_personFact 11 = .ok (.bipush (-100), 2) := by decide +kernel
theorem dX10_personFact_13 : decode cX10_personFact 13 = .ok (.ireturn, 1) := by decide +kernel
theorem dX10_canBeTold_0 : decode cX10_canBeTold 0 = .ok (.iload_n 1, 1) := by decide +kernel
theorem dX10_canBeTold_1 : decode cX10_canBeTold 1 = .ok (.iconst 0, 1) := by decide +kernel
theorem dX10_canBeTold_2 : decode cX10_canBeTold 2 = .ok (.iconst 4, 1) := by decide +kernel
theorem dX10_canBeTold_3 : decode cX10_canBeTold 3 = .ok (.invokestatic 142, 3) := by decide +kernel
theorem dX10_canBeTold_6 : decode cX10_canBeTold 6 = .ok (.ifCond .eq 40, 3) := by decide +kernel
theorem dX10_canBeTold_9 : decode cX10_canBeTold 9 = .ok (.aload_n 0, 1) := by decide +kernel
theorem dX10_canBeTold_10 : decode cX10_canBeTold 10 = .ok (.getfield 25, 3) := by decide +kernel
theorem dX10_canBeTold_13 : decode cX10_canBeTold 13 = .ok (.iload_n 2, 1) := by decide +kernel
theorem dX10_canBeTold_14 : decode cX10_canBeTold 14 = .ok (.invokevirtual 115, 3) := by decide +kernel
theorem dX10_canBeTold_17 : decode cX10_canBeTold 17 = .ok (.ifCond .eq 29, 3) := by decide +kernel
theorem dX10_canBeTold_46 : decode cX10_canBeTold 46 = .ok (.iconst 0, 1) := by decide +kernel
theorem dX10_canBeTold_47 : decode cX10_canBeTold 47 = .ok (.ireturn, 1) := by decide +kernel
theorem dX10_askFor_0 : decode cX10_askFor 0 = .ok (.aload_n 0, 1) := by decide +kernel
theorem dX10_askFor_1 : decode cX10_askFor 1 = .ok (.iload_n 1, 1) := by decide +kernel
theorem dX10_askFor_2 : decode cX10_askFor 2 = .ok (.iload_n 2, 1) := by decide +kernel
theorem dX10_askFor_3 : decode cX10_askFor 3 = .ok (.iload_n 3, 1) := by decide +kernel
theorem dX10_askFor_4 : decode cX10_askFor 4 = .ok (.invokevirtual 185, 3) := by decide +kernel
theorem dX10_askFor_7 : decode cX10_askFor 7 = .ok (.ifCond .eq 15, 3) := by decide +kernel
theorem dX10_askFor_22 : decode cX10_askFor 22 = .ok (.iconst (-1), 1) := by decide +kernel
theorem dX10_askFor_23 : decode cX10_askFor 23 = .ok (.ireturn, 1) := by decide +kernel
theorem dX10_canMeet_0 : decode cX10_canMeet 0 = .ok (.aload_n 0, 1) := by decide +kernel
theorem dX10_canMeet_1 : decode cX10_canMeet 1 = .ok (.getfield 25, 3) := by decide +kernel
theorem dX10_canMeet_4 : decode cX10_canMeet 4 = .ok (.iload_n 1, 1) := by decide +kernel
theorem dX10_canMeet_5 : decode cX10_canMeet 5 = .ok (.invokevirtual 201, 3) := by decide +kernel
theorem dX10_canMeet_8 : decode cX10_canMeet 8 = .ok (.ifCond .eq 28, 3) := by decide +kernel
theorem dX10_canMeet_36 : decode cX10_canMeet 36 = .ok (.iconst 0, 1) := by decide +kernel
theorem dX10_canMeet_37 : decode cX10_canMeet 37 = .ok (.istore 4, 2) := by decide +kernel
theorem dX10_canMeet_39 : decode cX10_canMeet 39 = .ok (.iload 4, 2) := by decide +kernel
theorem dX10_canMeet_41 : decode cX10_canMeet 41 = .ok (.ifCond .eq 20, 3) := by decide +kernel
theorem dX10_canMeet_61 : decode cX10_canMeet 61 = .ok (.iconst 0, 1) := by decide +kernel
theorem dX10_canMeet_62 : decode cX10_canMeet 62 = .ok (.ireturn, 1) := by decide +kernel
theorem dX10_playTo_0 : decode cX10_playTo 0 = .ok (.aload_n 0, 1) := by decide +kernel
theorem dX10_playTo_1 : decode cX10_playTo 1 = .ok (.getfield 25, 3) := by decide +kernel
theorem dX10_playTo_4 : decode cX10_playTo 4 = .ok (.iload_n 1, 1) := by decide +kernel
theorem dX10_playTo_5 : decode cX10_playTo 5 = .ok (.invokevirtual 201, 3) := by decide +kernel
theorem dX10_playTo_8 : decode cX10_playTo 8 = .ok (.ifCond .eq 18, 3) := by decide +kernel
theorem dX10_playTo_26 : decode cX10_playTo 26 = .ok (.iconst (-1), 1) := by decide +kernel
theorem dX10_playTo_27 : decode cX10_playTo 27 = .ok (.ireturn, 1) := by decide +kernel
theorem dX10_schoolsFact_0 : decode cX10_schoolsFact 0 = .ok (.bipush 6, 2) := by decide +kernel
theorem dX10_schoolsFact_2 : decode cX10_schoolsFact 2 = .ok (.newarray .int, 2) := by decide +kernel
theorem dX10_schoolsFact_4 : decode cX10_schoolsFact 4 = .ok (.astore_n 3, 1) := by decide +kernel
theorem dX10_schoolsFact_5 : decode cX10_schoolsFact 5 = .ok (.iconst 0, 1) := by decide +kernel
theorem dX10_schoolsFact_6 : decode cX10_schoolsFact 6 = .ok (.istore 4, 2) := by decide +kernel
theorem dX10_schoolsFact_8 : decode cX10_schoolsFact 8 = .ok (.iload 4, 2) := by decide +kernel
theorem dX10_schoolsFact_10 : decode cX10_schoolsFact 10 = .ok (.aload_n 0, 1) := by decide +kernel
theorem dX10_schoolsFact_11 : decode cX10_schoolsFact 11 = .ok (.getfield 18, 3) := by decide +kernel
theorem dX10_schoolsFact_14 : decode cX10_schoolsFact 14 = .ok (.getfield 237, 3) := by decide +kernel
theorem dX10_schoolsFact_17 : decode cX10_schoolsFact 17 = .ok (.if_icmp .ge 23, 3) := by decide +kernel
theorem dX10_schoolsFact_40 : decode cX10_schoolsFact 40 = .ok (.iconst 0, 1) := by decide +kernel
theorem dX10_schoolsFact_41 : decode cX10_schoolsFact 41 = .ok (.istore 4, 2) := by decide +kernel
theorem dX10_schoolsFact_43 : decode cX10_schoolsFact 43 = .ok (.iconst 0, 1) := by decide +kernel
theorem dX10_schoolsFact_44 : decode cX10_schoolsFact 44 = .ok (.istore 5, 2) := by decide +kernel
theorem dX10_schoolsFact_46 : decode cX10_schoolsFact 46 = .ok (.iconst 0, 1) := by decide +kernel
theorem dX10_schoolsFact_47 : decode cX10_schoolsFact 47 = .ok (.istore 6, 2) := by decide +kernel
theorem dX10_schoolsFact_49 : decode cX10_schoolsFact 49 = .ok (.iconst 0, 1) := by decide +kernel
theorem dX10_schoolsFact_50 : decode cX10_schoolsFact 50 = .ok (.istore 7, 2) := by decide +kernel
theorem dX10_schoolsFact_52 : decode cX10_schoolsFact 52 = .ok (.iload 7, 2) := by decide +kernel
theorem dX10_schoolsFact_54 : decode cX10_schoolsFact 54 = .ok (.iconst 1, 1) := by decide +kernel
theorem dX10_schoolsFact_55 : decode cX10_schoolsFact 55 = .ok (.aload_n 0, 1) := by decide +kernel
theorem dX10_schoolsFact_56 : decode cX10_schoolsFact 56 = .ok (.getfield 18, 3) := by decide +kernel
theorem dX10_schoolsFact_59 : decode cX10_schoolsFact 59 = .ok (.getfield 237, 3) := by decide +kernel
theorem dX10_schoolsFact_62 : decode cX10_schoolsFact 62 = .ok (.ishl, 1) := by decide +kernel
theorem dX10_schoolsFact_63 : decode cX10_schoolsFact 63 = .ok (.if_icmp .ge 121, 3) := by decide +kernel
theorem dX10_schoolsFact_66 : decode cX10_schoolsFact 66 = .ok (.iconst 0, 1) := by decide +kernel
theorem dX10_schoolsFact_67 : decode cX10_schoolsFact 67 = .ok (.istore 8, 2) := by decide +kernel
theorem dX10_schoolsFact_69 : decode cX10_schoolsFact 69 = .ok (.iconst 0, 1) := by decide +kernel
theorem dX10_schoolsFact_70 : decode cX10_schoolsFact 70 = .ok (.istore 9, 2) := by decide +kernel
theorem dX10_schoolsFact_72 : decode cX10_schoolsFact 72 = .ok (.iconst 0, 1) := by decide +kernel
theorem dX10_schoolsFact_73 : decode cX10_schoolsFact 73 = .ok (.istore 10, 2) := by decide +kernel
theorem dX10_schoolsFact_75 : decode cX10_schoolsFact 75 = .ok (.iload 10, 2) := by decide +kernel
theorem dX10_schoolsFact_77 : decode cX10_schoolsFact 77 = .ok (.aload_n 0, 1) := by decide +kernel
theorem dX10_schoolsFact_78 : decode cX10_schoolsFact 78 = .ok (.getfield 18, 3) := by decide +kernel
theorem dX10_schoolsFact_81 : decode cX10_schoolsFact 81 = .ok (.getfield 237, 3) := by decide +kernel
theorem dX10_schoolsFact_84 : decode cX10_schoolsFact 84 = .ok (.if_icmp .ge 43, 3) := by decide +kernel
theorem dX10_schoolsFact_127 : decode cX10_schoolsFact 127 = .ok (.iload 8, 2) := by decide +kernel
theorem dX10_schoolsFact_129 : decode cX10_schoolsFact 129 = .ok (.iload 4, 2) := by decide +kernel
theorem dX10_schoolsFact_131 : decode cX10_schoolsFact 131 = .ok (.if_icmp .gt 17, 3) := by decide +kernel
theorem dX10_schoolsFact_134 : decode cX10_schoolsFact 134 = .ok (.iload 8, 2) := by decide +kernel
theorem dX10_schoolsFact_136 : decode cX10_schoolsFact 136 = .ok (.iload 4, 2) := by decide +kernel
theorem dX10_schoolsFact_138 : decode cX10_schoolsFact 138 = .ok (.if_icmp .ne 14, 3) := by decide +kernel
theorem dX10_schoolsFact_141 : decode cX10_schoolsFact 141 = .ok (.iload 9, 2) := by decide +kernel
theorem dX10_schoolsFact_143 : decode cX10_schoolsFact 143 = .ok (.iload 5, 2) := by decide +kernel
theorem dX10_schoolsFact_145 : decode cX10_schoolsFact 145 = .ok (.if_icmp .ge 7, 3) := by decide +kernel
theorem dX10_schoolsFact_152 : decode cX10_schoolsFact 152 = .ok (.iconst 0, 1) := by decide +kernel
theorem dX10_schoolsFact_153 : decode cX10_schoolsFact 153 = .ok (.istore 10, 2) := by decide +kernel
theorem dX10_schoolsFact_155 : decode cX10_schoolsFact 155 = .ok (.iload 9, 2) := by decide +kernel
theorem dX10_schoolsFact_157 : decode cX10_schoolsFact 157 = .ok (.iload_n 1, 1) := by decide +kernel
theorem dX10_schoolsFact_158 : decode cX10_schoolsFact 158 = .ok (.if_icmp .gt 20, 3) := by decide +kernel
theorem dX10_schoolsFact_161 : decode cX10_schoolsFact 161 = .ok (.iload 10, 2) := by decide +kernel
theorem dX10_schoolsFact_163 : decode cX10_schoolsFact 163 = .ok (.ifCond .eq 15, 3) := by decide +kernel
theorem dX10_schoolsFact_178 : decode cX10_schoolsFact 178 = .ok (.iinc 7 1, 3) := by decide +kernel
theorem dX10_schoolsFact_181 : decode cX10_schoolsFact 181 = .ok (.goto (-129), 3) := by decide +kernel
theorem dX10_schoolsFact_184 : decode cX10_schoolsFact 184 = .ok (.iload_n 2, 1) := by decide +kernel
theorem dX10_schoolsFact_185 : decode cX10_schoolsFact 185 = .ok (.ifCond .ne 8, 3) := by decide +kernel
theorem dX10_schoolsFact_188 : decode cX10_schoolsFact 188 = .ok (.iload 4, 2) := by decide +kernel
theorem dX10_schoolsFact_190 : decode cX10_schoolsFact 190 = .ok (.goto 15, 3) := by decide +kernel
theorem dX10_schoolsFact_193 : decode cX10_schoolsFact 193 = .ok (.iload_n 2, 1) := by decide +kernel
theorem dX10_schoolsFact_194 : decode cX10_schoolsFact 194 = .ok (.iconst 1, 1) := by decide +kernel
theorem dX10_schoolsFact_195 : decode cX10_schoolsFact 195 = .ok (.if_icmp .ne 8, 3) := by decide +kernel
theorem dX10_schoolsFact_198 : decode cX10_schoolsFact 198 = .ok (.iload 5, 2) := by decide +kernel
theorem dX10_schoolsFact_200 : decode cX10_schoolsFact 200 = .ok (.goto 5, 3) := by decide +kernel
theorem dX10_schoolsFact_203 : decode cX10_schoolsFact 203 = .ok (.iload 6, 2) := by decide +kernel
theorem dX10_schoolsFact_205 : decode cX10_schoolsFact 205 = .ok (.ireturn, 1) := by decide +kernel
theorem dX10_printBy_0 : decode cX10_printBy 0 = .ok (.aload_n 0, 1) := by decide +kernel
theorem dX10_printBy_1 : decode cX10_printBy 1 = .ok (.getfield 18, 3) := by decide +kernel
theorem dX10_printBy_4 : decode cX10_printBy 4 = .ok (.iload_n 2, 1) := by decide +kernel
theorem dX10_printBy_5 : decode cX10_printBy 5 = .ok (.iload_n 3, 1) := by decide +kernel
theorem dX10_printBy_6 : decode cX10_printBy 6 = .ok (.invokevirtual 241, 3) := by decide +kernel
theorem dX10_printBy_9 : decode cX10_printBy 9 = .ok (.istore 4, 2) := by decide +kernel
theorem dX10_printBy_11 : decode cX10_printBy 11 = .ok (.aload_n 0, 1) := by decide +kernel
theorem dX10_printBy_12 : decode cX10_printBy 12 = .ok (.getfield 39, 3) := by decide +kernel
theorem dX10_printBy_15 : decode cX10_printBy 15 = .ok (.iload_n 2, 1) := by decide +kernel
theorem dX10_printBy_16 : decode cX10_printBy 16 = .ok (.iload_n 3, 1) := by decide +kernel
theorem dX10_printBy_17 : decode cX10_printBy 17 = .ok (.invokevirtual 244, 3) := by decide +kernel
theorem dX10_printBy_20 : decode cX10_printBy 20 = .ok (.istore 5, 2) := by decide +kernel
theorem dX10_printBy_22 : decode cX10_printBy 22 = .ok (.aload_n 0, 1) := by decide +kernel
theorem dX10_printBy_23 : decode cX10_printBy 23 = .ok (.getfield 25, 3) := by decide +kernel
theorem dX10_printBy_26 : decode cX10_printBy 26 = .ok (.iload_n 1, 1) := by decide +kernel
theorem dX10_printBy_27 : decode cX10_printBy 27 = .ok (.invokevirtual 115, 3) := by decide +kernel
theorem dX10_printBy_30 : decode cX10_printBy 30 = .ok (.ifCond .eq 14, 3) := by decide +kernel
theorem dX10_printBy_44 : decode cX10_printBy 44 = .ok (.iconst (-1), 1) := by decide +kernel
theorem dX10_printBy_45 : decode cX10_printBy 45 = .ok (.ireturn, 1) := by decide +kernel
theorem dX10_grantFact_0 : decode cX10_grantFact 0 = .ok (.aload_n 0, 1) := by decide +kernel
theorem dX10_grantFact_1 : decode cX10_grantFact 1 = .ok (.getfield 46, 3) := by decide +kernel
theorem dX10_grantFact_4 : decode cX10_grantFact 4 = .ok (.iload_n 1, 1) := by decide +kernel
theorem dX10_grantFact_5 : decode cX10_grantFact 5 = .ok (.invokevirtual 250, 3) := by decide +kernel
theorem dX10_grantFact_8 : decode cX10_grantFact 8 = .ok (.ifCond .ne 5, 3) := by decide +kernel
theorem dX10_grantFact_11 : decode cX10_grantFact 11 = .ok (.iconst (-1), 1) := by decide +kernel
theorem dX10_grantFact_12 : decode cX10_grantFact 12 = .ok (.ireturn, 1) := by decide +kernel
theorem dX10_countOf_0 : decode cX10_countOf 0 = .ok (.iload_n 1, 1) := by decide +kernel
theorem dX10_countOf_1 : decode cX10_countOf 1 = .ok (.tableswitch 152 0 10 #[59, 67, 75, 83, 91, 99, 104, 112, 124, 132, 144], 59) := by decide +kernel
theorem dX10_countOf_60 : decode cX10_countOf 60 = .ok (.aload_n 0, 1) := by decide +kernel
theorem dX10_countOf_61 : decode cX10_countOf 61 = .ok (.getfield 18, 3) := by decide +kernel
theorem dX10_countOf_64 : decode cX10_countOf 64 = .ok (.getfield 237, 3) := by decide +kernel
theorem dX10_countOf_67 : decode cX10_countOf 67 = .ok (.ireturn, 1) := by decide +kernel
theorem dX10_countOf_68 : decode cX10_countOf 68 = .ok (.aload_n 0, 1) := by decide +kernel
theorem dX10_countOf_69 : decode cX10_countOf 69 = .ok (.getfield 25, 3) := by decide +kernel
theorem dX10_countOf_72 : decode cX10_countOf 72 = .ok (.getfield 97, 3) := by decide +kernel
theorem dX10_countOf_75 : decode cX10_countOf 75 = .ok (.ireturn, 1) := by decide +kernel
theorem dX10_countOf_76 : decode cX10_countOf 76 = .ok (.aload_n 0, 1) := by decide +kernel
theorem dX10_countOf_77 : decode cX10_countOf 77 = .ok (.getfield 32, 3) := by decide +kernel
theorem dX10_countOf_80 : decode cX10_countOf 80 = .ok (.getfield 268, 3) := by decide +kernel
theorem dX10_countOf_83 : decode cX10_countOf 83 = .ok (.ireturn, 1) := by decide +kernel
theorem dX10_countOf_84 : decode cX10_countOf 84 = .ok (.aload_n 0, 1) := by decide +kernel
theorem dX10_countOf_85 : decode cX10_countOf 85 = .ok (.getfield 39, 3) := by decide +kernel
theorem dX10_countOf_88 : decode cX10_countOf 88 = .ok (.getfield 269, 3) := by decide +kernel
theorem dX10_countOf_91 : decode cX10_countOf 91 = .ok (.ireturn, 1) := by decide +kernel
theorem dX10_countOf_92 : decode cX10_countOf 92 = .ok (.aload_n 0, 1) := by decide +kernel
theorem dX10_countOf_93 : decode cX10_countOf 93 = .ok (.getfield 39, 3) := by decide +kernel
theorem dX10_countOf_96 : decode cX10_countOf 96 = .ok (.getfield 188, 3) := by decide +kernel
theorem dX10_countOf_99 : decode cX10_countOf 99 = .ok (.ireturn, 1) := by decide +kernel
theorem dX10_countOf_100 : decode cX10_countOf 100 = .ok (.aload_n 0, 1) := by decide +kernel
theorem dX10_countOf_101 : decode cX10_countOf 101 = .ok (.getfield 9, 3) := by decide +kernel
theorem dX10_countOf_104 : decode cX10_countOf 104 = .ok (.ireturn, 1) := by decide +kernel
theorem dX10_countOf_105 : decode cX10_countOf 105 = .ok (.aload_n 0, 1) := by decide +kernel
theorem dX10_countOf_106 : decode cX10_countOf 106 = .ok (.getfield 46, 3) := by decide +kernel
theorem dX10_countOf_109 : decode cX10_countOf 109 = .ok (.getfield 272, 3) := by decide +kernel
theorem dX10_countOf_112 : decode cX10_countOf 112 = .ok (.ireturn, 1) := by decide +kernel
theorem dX10_countOf_113 : decode cX10_countOf 113 = .ok (.aload_n 0, 1) := by decide +kernel
theorem dX10_countOf_114 : decode cX10_countOf 114 = .ok (.getfield 46, 3) := by decide +kernel
theorem dX10_countOf_117 : decode cX10_countOf 117 = .ok (.aload_n 0, 1) := by decide +kernel
theorem dX10_countOf_118 : decode cX10_countOf 118 = .ok (.getfield 18, 3) := by decide +kernel
theorem dX10_countOf_121 : decode cX10_countOf 121 = .ok (.invokevirtual 275, 3) := by decide +kernel
theorem dX10_countOf_124 : decode cX10_countOf 124 = .ok (.ireturn, 1) := by decide +kernel
theorem dX10_countOf_125 : decode cX10_countOf 125 = .ok (.aload_n 0, 1) := by decide +kernel
theorem dX10_countOf_126 : decode cX10_countOf 126 = .ok (.getfield 46, 3) := by decide +kernel
theorem dX10_countOf_129 : decode cX10_countOf 129 = .ok (.getfield 279, 3) := by decide +kernel
theorem dX10_countOf_132 : decode cX10_countOf 132 = .ok (.ireturn, 1) := by decide +kernel
theorem dX10_countOf_133 : decode cX10_countOf 133 = .ok (.aload_n 0, 1) := by decide +kernel
theorem dX10_countOf_134 : decode cX10_countOf 134 = .ok (.getfield 32, 3) := by decide +kernel
theorem dX10_countOf_137 : decode cX10_countOf 137 = .ok (.aload_n 0, 1) := by decide +kernel
theorem dX10_countOf_138 : decode cX10_countOf 138 = .ok (.getfield 9, 3) := by decide +kernel
theorem dX10_countOf_141 : decode cX10_countOf 141 = .ok (.invokevirtual 154, 3) := by decide +kernel
theorem dX10_countOf_144 : decode cX10_countOf 144 = .ok (.ireturn, 1) := by decide +kernel
theorem dX10_countOf_145 : decode cX10_countOf 145 = .ok (.aload_n 0, 1) := by decide +kernel
theorem dX10_countOf_146 : decode cX10_countOf 146 = .ok (.getfield 25, 3) := by decide +kernel
theorem dX10_countOf_149 : decode cX10_countOf 149 = .ok (.invokevirtual 282, 3) := by decide +kernel
theorem dX10_countOf_152 : decode cX10_countOf 152 = .ok (.ireturn, 1) := by decide +kernel
theorem dX10_countOf_153 : decode cX10_countOf 153 = .ok (.bipush (-100), 2) := by decide +kernel
theorem dX10_countOf_155 : decode cX10_countOf 155 = .ok (.ireturn, 1) := by decide +kernel
theorem dX11_init_0 : decode cX11_init 0 = .ok (.aload_n 0, 1) := by decide +kernel
theorem dX11_init_1 : decode cX11_init 1 = .ok (.invokespecial 1, 3) := by decide +kernel
theorem dX11_init_4 : decode cX11_init 4 = .ok (.aload_n 0, 1) := by decide +kernel
theorem dX11_init_5 : decode cX11_init 5 = .ok (.new 7, 3) := by decide +kernel
theorem dX11_init_8 : decode cX11_init 8 = .ok (.dup, 1) := by decide +kernel
theorem dX11_init_9 : decode cX11_init 9 = .ok (.invokespecial 9, 3) := by decide +kernel
theorem dX11_init_12 : decode cX11_init 12 = .ok (.putfield 10, 3) := by decide +kernel
theorem dX11_init_15 : decode cX11_init 15 = .ok (.aload_n 0, 1) := by decide +kernel
theorem dX11_init_16 : decode cX11_init 16 = .ok (.iconst 3, 1) := by decide +kernel
theorem dX11_init_17 : decode cX11_init 17 = .ok (.anewarray 7, 3) := by decide +kernel
theorem dX11_init_20 : decode cX11_init 20 = .ok (.putfield 16, 3) := by decide +kernel
theorem dX11_init_23 : decode cX11_init 23 = .ok (.return_, 1) := by decide +kernel
theorem dX11_tongue_0 : decode cX11_tongue 0 = .ok (.aload_n 0, 1) := by decide +kernel
theorem dX11_tongue_1 : decode cX11_tongue 1 = .ok (.getfield 10, 3) := by decide +kernel
theorem dX11_tongue_4 : decode cX11_tongue 4 = .ok (.getfield 20, 3) := by decide +kernel
theorem dX11_tongue_7 : decode cX11_tongue 7 = .ok (.iload_n 1, 1) := by decide +kernel
theorem dX11_tongue_8 : decode cX11_tongue 8 = .ok (.invokevirtual 24, 3) := by decide +kernel
theorem dX11_tongue_11 : decode cX11_tongue 11 = .ok (.ireturn, 1) := by decide +kernel
theorem dX11_rule_0 : decode cX11_rule 0 = .ok (.aload_n 0, 1) := by decide +kernel
theorem dX11_rule_1 : decode cX11_rule 1 = .ok (.getfield 10, 3) := by decide +kernel
theorem dX11_rule_4 : decode cX11_rule 4 = .ok (.getfield 20, 3) := by decide +kernel
theorem dX11_rule_7 : decode cX11_rule 7 = .ok (.iload_n 1, 1) := by decide +kernel
theorem dX11_rule_8 : decode cX11_rule 8 = .ok (.iload_n 2, 1) := by decide +kernel
theorem dX11_rule_9 : decode cX11_rule 9 = .ok (.iload_n 3, 1) := by decide +kernel
theorem dX11_rule_10 : decode cX11_rule 10 = .ok (.iload 4, 2) := by decide +kernel
theorem dX11_rule_12 : decode cX11_rule 12 = .ok (.iload 5, 2) := by decide +kernel
theorem dX11_rule_14 : decode cX11_rule 14 = .ok (.invokevirtual 30, 3) := by decide +kernel
theorem dX11_rule_17 : decode cX11_rule 17 = .ok (.ireturn, 1) := by decide +kernel
theorem dX11_unrule_0 : decode cX11_unrule 0 = .ok (.aload_n 0, 1) := by decide +kernel
theorem dX11_unrule_1 : decode cX11_unrule 1 = .ok (.getfield 10, 3) := by decide +kernel
theorem dX11_unrule_4 : decode cX11_unrule 4 = .ok (.getfield 20, 3) := by decide +kernel
theorem dX11_unrule_7 : decode cX11_unrule 7 = .ok (.iload_n 1, 1) := by decide +kernel
theorem dX11_unrule_8 : decode cX11_unrule 8 = .ok (.invokevirtual 34, 3) := by decide +kernel
theorem dX11_unrule_11 : decode cX11_unrule 11 = .ok (.ireturn, 1) := by decide +kernel
theorem dX11_word_0 : decode cX11_word 0 = .ok (.aload_n 0, 1) := by decide +kernel
theorem dX11_word_1 : decode cX11_word 1 = .ok (.getfield 10, 3) := by decide +kernel
theorem dX11_word_4 : decode cX11_word 4 = .ok (.getfield 20, 3) := by decide +kernel
theorem dX11_word_7 : decode cX11_word 7 = .ok (.iload_n 1, 1) := by decide +kernel
theorem dX11_word_8 : decode cX11_word 8 = .ok (.iload_n 2, 1) := by decide +kernel
theorem dX11_word_9 : decode cX11_word 9 = .ok (.iload_n 3, 1) := by decide +kernel
theorem dX11_word_10 : decode cX11_word 10 = .ok (.invokevirtual 38, 3) := by decide +kernel
theorem dX11_word_13 : decode cX11_word 13 = .ok (.ireturn, 1) := by decide +kernel
theorem dX11_form_0 : decode cX11_form 0 = .ok (.aload_n 0, 1) := by decide +kernel
theorem dX11_form_1 : decode cX11_form 1 = .ok (.getfield 10, 3) := by decide +kernel
theorem dX11_form_4 : decode cX11_form 4 = .ok (.getfield 20, 3) := by decide +kernel
theorem dX11_form_7 : decode cX11_form 7 = .ok (.iload_n 1, 1) := by decide +kernel
theorem dX11_form_8 : decode cX11_form 8 = .ok (.iload_n 2, 1) := by decide +kernel
theorem dX11_form_9 : decode cX11_form 9 = .ok (.invokevirtual 42, 3) := by decide +kernel
theorem dX11_form_12 : decode cX11_form 12 = .ok (.ireturn, 1) := by decide +kernel
theorem dX11_field_0 : decode cX11_field 0 = .ok (.aload_n 0, 1) := by decide +kernel
theorem dX11_field_1 : decode cX11_field 1 = .ok (.getfield 10, 3) := by decide +kernel
theorem dX11_field_4 : decode cX11_field 4 = .ok (.getfield 20, 3) := by decide +kernel
theorem dX11_field_7 : decode cX11_field 7 = .ok (.iload_n 1, 1) := by decide +kernel
theorem dX11_field_8 : decode cX11_field 8 = .ok (.iload_n 2, 1) := by decide +kernel
theorem dX11_field_9 : decode cX11_field 9 = .ok (.invokevirtual 46, 3) := by decide +kernel
theorem dX11_field_12 : decode cX11_field 12 = .ok (.ireturn, 1) := by decide +kernel
theorem dX11_road_0 : decode cX11_road 0 = .ok (.aload_n 0, 1) := by decide +kernel
theorem dX11_road_1 : decode cX11_road 1 = .ok (.getfield 10, 3) := by decide +kernel
theorem dX11_road_4 : decode cX11_road 4 = .ok (.getfield 50, 3) := by decide +kernel
theorem dX11_road_7 : decode cX11_road 7 = .ok (.iload_n 1, 1) := by decide +kernel
theorem dX11_road_8 : decode cX11_road 8 = .ok (.iload_n 2, 1) := by decide +kernel
theorem dX11_road_9 : decode cX11_road 9 = .ok (.iload_n 3, 1) := by decide +kernel
theorem dX11_road_10 : decode cX11_road 10 = .ok (.invokevirtual 54, 3) := by decide +kernel
theorem dX11_road_13 : decode cX11_road 13 = .ok (.ireturn, 1) := by decide +kernel
theorem dX11_person_0 : decode cX11_person 0 = .ok (.aload_n 0, 1) := by decide +kernel
theorem dX11_person_1 : decode cX11_person 1 = .ok (.getfield 10, 3) := by decide +kernel
theorem dX11_person_4 : decode cX11_person 4 = .ok (.getfield 20, 3) := by decide +kernel
theorem dX11_person_7 : decode cX11_person 7 = .ok (.iload_n 3, 1) := by decide +kernel
theorem dX11_person_8 : decode cX11_person 8 = .ok (.invokevirtual 59, 3) := by decide +kernel
theorem dX11_person_11 : decode cX11_person 11 = .ok (.ifCond .eq 21, 3) := by decide +kernel
theorem dX11_person_32 : decode cX11_person 32 = .ok (.iconst (-1), 1) := by decide +kernel
theorem dX11_person_33 : decode cX11_person 33 = .ok (.ireturn, 1) := by decide +kernel
theorem dX11_have_0 : decode cX11_have 0 = .ok (.aload_n 0, 1) := by decide +kernel
theorem dX11_have_1 : decode cX11_have 1 = .ok (.getfield 10, 3) := by decide +kernel
theorem dX11_have_4 : decode cX11_have 4 = .ok (.getfield 50, 3) := by decide +kernel
theorem dX11_have_7 : decode cX11_have 7 = .ok (.iload_n 1, 1) := by decide +kernel
theorem dX11_have_8 : decode cX11_have 8 = .ok (.iload_n 2, 1) := by decide +kernel
theorem dX11_have_9 : decode cX11_have 9 = .ok (.invokevirtual 66, 3) := by decide +kernel
theorem dX11_have_12 : decode cX11_have 12 = .ok (.ireturn, 1) := by decide +kernel
theorem dX11_health_0 : decode cX11_health 0 = .ok (.aload_n 0, 1) := by decide +kernel
theorem dX11_health_1 : decode cX11_health 1 = .ok (.getfield 10, 3) := by decide +kernel
theorem dX11_health_4 : decode cX11_health 4 = .ok (.getfield 50, 3) := by decide +kernel
theorem dX11_health_7 : decode cX11_health 7 = .ok (.iload_n 1, 1) := by decide +kernel
theorem dX11_health_8 : decode cX11_health 8 = .ok (.iload_n 2, 1) := by decide +kernel
theorem dX11_health_9 : decode cX11_health 9 = .ok (.aload_n 0, 1) := by decide +kernel
theorem dX11_health_10 : decode cX11_health 10 = .ok (.getfield 10, 3) := by decide +kernel
theorem dX11_health_13 : decode cX11_health 13 = .ok (.getfield 69, 3) := by decide +kernel
theorem dX11_health_16 : decode cX11_health 16 = .ok (.invokevirtual 73, 3) := by decide +kernel
theorem dX11_health_19 : decode cX11_health 19 = .ok (.ireturn, 1) := by decide +kernel
theorem dX11_go_0 : decode cX11_go 0 = .ok (.aload_n 0, 1) := by decide +kernel
theorem dX11_go_1 : decode cX11_go 1 = .ok (.getfield 10, 3) := by decide +kernel
theorem dX11_go_4 : decode cX11_go 4 = .ok (.getfield 50, 3) := by decide +kernel
theorem dX11_go_7 : decode cX11_go 7 = .ok (.iload_n 1, 1) := by decide +kernel
theorem dX11_go_8 : decode cX11_go 8 = .ok (.iload_n 2, 1) := by decide +kernel
theorem dX11_go_9 : decode cX11_go 9 = .ok (.aload_n 0, 1) := by decide +kernel
theorem dX11_go_10 : decode cX11_go 10 = .ok (.getfield 10, 3) := by decide +kernel
theorem dX11_go_13 : decode cX11_go 13 = .ok (.getfield 69, 3) := by decide +kernel
theorem dX11_go_16 : decode cX11_go 16 = .ok (.invokevirtual 76, 3) := by decide +kernel
theorem dX11_go_19 : decode cX11_go 19 = .ok (.ireturn, 1) := by decide +kernel
theorem dX11_day_0 : decode cX11_day 0 = .ok (.aload_n 0, 1) := by decide +kernel
theorem dX11_day_1 : decode cX11_day 1 = .ok (.getfield 10, 3) := by decide +kernel
theorem dX11_day_4 : decode cX11_day 4 = .ok (.invokevirtual 79, 3) := by decide +kernel
theorem dX11_day_7 : decode cX11_day 7 = .ok (.ireturn, 1) := by decide +kernel
theorem dX11_tell_0 : decode cX11_tell 0 = .ok (.aload_n 0, 1) := by decide +kernel
theorem dX11_tell_1 : decode cX11_tell 1 = .ok (.getfield 10, 3) := by decide +kernel
theorem dX11_tell_4 : decode cX11_tell 4 = .ok (.iload_n 1, 1) := by decide +kernel
theorem dX11_tell_5 : decode cX11_tell 5 = .ok (.iload_n 2, 1) := by decide +kernel
theorem dX11_tell_6 : decode cX11_tell 6 = .ok (.invokevirtual 83, 3) := by decide +kernel
theorem dX11_tell_9 : decode cX11_tell 9 = .ok (.ireturn, 1) := by decide +kernel
theorem dX11_feed_0 : decode cX11_feed 0 = .ok (.aload_n 0, 1) := by decide +kernel
theorem dX11_feed_1 : decode cX11_feed 1 = .ok (.getfield 10, 3) := by decide +kernel
theorem dX11_feed_4 : decode cX11_feed 4 = .ok (.getfield 86, 3) := by decide +kernel
theorem dX11_feed_7 : decode cX11_feed 7 = .ok (.iload_n 1, 1) := by decide +kernel
theorem dX11_feed_8 : decode cX11_feed 8 = .ok (.iload_n 2, 1) := by decide +kernel
theorem dX11_feed_9 : decode cX11_feed 9 = .ok (.iload_n 3, 1) := by decide +kernel
theorem dX11_feed_10 : decode cX11_feed 10 = .ok (.iload 4, 2) := by decide +kernel
theorem dX11_feed_12 : decode cX11_feed 12 = .ok (.iload 5, 2) := by decide +kernel
theorem dX11_feed_14 : decode cX11_feed 14 = .ok (.invokevirtual 90, 3) := by decide +kernel
theorem dX11_feed_17 : decode cX11_feed 17 = .ok (.ireturn, 1) := by decide +kernel
theorem dX11_end_0 : decode cX11_end 0 = .ok (.aload_n 0, 1) := by decide +kernel
theorem dX11_end_1 : decode cX11_end 1 = .ok (.getfield 10, 3) := by decide +kernel
theorem dX11_end_4 : decode cX11_end 4 = .ok (.getfield 86, 3) := by decide +kernel
theorem dX11_end_7 : decode cX11_end 7 = .ok (.iload_n 1, 1) := by decide +kernel
theorem dX11_end_8 : decode cX11_end 8 = .ok (.invokevirtual 95, 3) := by decide +kernel
theorem dX11_end_11 : decode cX11_end 11 = .ok (.ireturn, 1) := by decide +kernel
theorem dX11_custom_0 : decode cX11_custom 0 = .ok (.aload_n 0, 1) := by decide +kernel
theorem dX11_custom_1 : decode cX11_custom 1 = .ok (.getfield 98, 3) := by decide +kernel
theorem dX11_custom_4 : decode cX11_custom 4 = .ok (.ifnonnull 21, 3) := by decide +kernel
theorem dX11_custom_7 : decode cX11_custom 7 = .ok (.aload_n 0, 1) := by decide +kernel
theorem dX11_custom_8 : decode cX11_custom 8 = .ok (.new 102, 3) := by decide +kernel
theorem dX11_custom_11 : decode cX11_custom 11 = .ok (.dup, 1) := by decide +kernel
theorem dX11_custom_12 : decode cX11_custom 12 = .ok (.aload_n 0, 1) := by decide +kernel
theorem dX11_custom_13 : decode cX11_custom 13 = .ok (.getfield 10, 3) := by decide +kernel
theorem dX11_custom_16 : decode cX11_custom 16 = .ok (.getfield 86, 3) := by decide +kernel
theorem dX11_custom_19 : decode cX11_custom 19 = .ok (.invokespecial 104, 3) := by decide +kernel
theorem dX11_custom_22 : decode cX11_custom 22 = .ok (.putfield 98, 3) := by decide +kernel
theorem dX11_custom_25 : decode cX11_custom 25 = .ok (.aload_n 0, 1) := by decide +kernel
theorem dX11_custom_26 : decode cX11_custom 26 = .ok (.getfield 10, 3) := by decide +kernel
theorem dX11_custom_29 : decode cX11_custom 29 = .ok (.getfield 86, 3) := by decide +kernel
theorem dX11_custom_32 : decode cX11_custom 32 = .ok (.aload_n 0, 1) := by decide +kernel
theorem dX11_custom_33 : decode cX11_custom 33 = .ok (.getfield 98, 3) := by decide +kernel
theorem dX11_custom_36 : decode cX11_custom 36 = .ok (.iload_n 1, 1) := by decide +kernel
theorem dX11_custom_37 : decode cX11_custom 37 = .ok (.invokevirtual 107, 3) := by decide +kernel
theorem dX11_custom_40 : decode cX11_custom 40 = .ok (.ireturn, 1) := by decide +kernel
theorem dX11_fault_0 : decode cX11_fault 0 = .ok (.aload_n 0, 1) := by decide +kernel
theorem dX11_fault_1 : decode cX11_fault 1 = .ok (.getfield 10, 3) := by decide +kernel
theorem dX11_fault_4 : decode cX11_fault 4 = .ok (.getfield 86, 3) := by decide +kernel
theorem dX11_fault_7 : decode cX11_fault 7 = .ok (.iload_n 1, 1) := by decide +kernel
theorem dX11_fault_8 : decode cX11_fault 8 = .ok (.invokevirtual 111, 3) := by decide +kernel
theorem dX11_fault_11 : decode cX11_fault 11 = .ok (.ireturn, 1) := by decide +kernel
theorem dX11_may_0 : decode cX11_may 0 = .ok (.aload_n 0, 1) := by decide +kernel
theorem dX11_may_1 : decode cX11_may 1 = .ok (.getfield 10, 3) := by decide +kernel
theorem dX11_may_4 : decode cX11_may 4 = .ok (.iload_n 1, 1) := by decide +kernel
theorem dX11_may_5 : decode cX11_may 5 = .ok (.iload_n 2, 1) := by decide +kernel
theorem dX11_may_6 : decode cX11_may 6 = .ok (.iload_n 3, 1) := by decide +kernel
theorem dX11_may_7 : decode cX11_may 7 = .ok (.iload 4, 2) := by decide +kernel
theorem dX11_may_9 : decode cX11_may 9 = .ok (.invokevirtual 114, 3) := by decide +kernel
theorem dX11_may_12 : decode cX11_may 12 = .ok (.ifCond .eq 22, 3) := by decide +kernel
theorem dX11_may_34 : decode cX11_may 34 = .ok (.iconst 0, 1) := by decide +kernel
theorem dX11_may_35 : decode cX11_may 35 = .ok (.ireturn, 1) := by decide +kernel
theorem dX11_why_0 : decode cX11_why 0 = .ok (.aload_n 0, 1) := by decide +kernel
theorem dX11_why_1 : decode cX11_why 1 = .ok (.getfield 10, 3) := by decide +kernel
theorem dX11_why_4 : decode cX11_why 4 = .ok (.iload_n 1, 1) := by decide +kernel
theorem dX11_why_5 : decode cX11_why 5 = .ok (.iload_n 2, 1) := by decide +kernel
theorem dX11_why_6 : decode cX11_why 6 = .ok (.iload_n 3, 1) := by decide +kernel
theorem dX11_why_7 : decode cX11_why 7 = .ok (.iload 4, 2) := by decide +kernel
theorem dX11_why_9 : decode cX11_why 9 = .ok (.invokevirtual 114, 3) := by decide +kernel
theorem dX11_why_12 : decode cX11_why 12 = .ok (.ifCond .eq 18, 3) := by decide +kernel
theorem dX11_why_30 : decode cX11_why 30 = .ok (.iconst (-1), 1) := by decide +kernel
theorem dX11_why_31 : decode cX11_why 31 = .ok (.ireturn, 1) := by decide +kernel
theorem dX11_writes_0 : decode cX11_writes 0 = .ok (.aload_n 0, 1) := by decide +kernel
theorem dX11_writes_1 : decode cX11_writes 1 = .ok (.getfield 10, 3) := by decide +kernel
theorem dX11_writes_4 : decode cX11_writes 4 = .ok (.getfield 50, 3) := by decide +kernel
theorem dX11_writes_7 : decode cX11_writes 7 = .ok (.iload_n 1, 1) := by decide +kernel
theorem dX11_writes_8 : decode cX11_writes 8 = .ok (.iload_n 2, 1) := by decide +kernel
theorem dX11_writes_9 : decode cX11_writes 9 = .ok (.invokevirtual 124, 3) := by decide +kernel
theorem dX11_writes_12 : decode cX11_writes 12 = .ok (.ireturn, 1) := by decide +kernel
theorem dX11_letter_0 : decode cX11_letter 0 = .ok (.aload_n 0, 1) := by decide +kernel
theorem dX11_letter_1 : decode cX11_letter 1 = .ok (.getfield 10, 3) := by decide +kernel
theorem dX11_letter_4 : decode cX11_letter 4 = .ok (.getfield 127, 3) := by decide +kernel
theorem dX11_letter_7 : decode cX11_letter 7 = .ok (.iload_n 1, 1) := by decide +kernel
theorem dX11_letter_8 : decode cX11_letter 8 = .ok (.iload_n 2, 1) := by decide +kernel
theorem dX11_letter_9 : decode cX11_letter 9 = .ok (.iload_n 3, 1) := by decide +kernel
theorem dX11_letter_10 : decode cX11_letter 10 = .ok (.invokevirtual 131, 3) := by decide +kernel
theorem dX11_letter_13 : decode cX11_letter 13 = .ok (.ireturn, 1) := by decide +kernel
theorem dX11_tape_0 : decode cX11_tape 0 = .ok (.aload_n 0, 1) := by decide +kernel
theorem dX11_tape_1 : decode cX11_tape 1 = .ok (.getfield 10, 3) := by decide +kernel
theorem dX11_tape_4 : decode cX11_tape 4 = .ok (.getfield 127, 3) := by decide +kernel
theorem dX11_tape_7 : decode cX11_tape 7 = .ok (.iload_n 1, 1) := by decide +kernel
theorem dX11_tape_8 : decode cX11_tape 8 = .ok (.aload_n 0, 1) := by decide +kernel
theorem dX11_tape_9 : decode cX11_tape 9 = .ok (.getfield 10, 3) := by decide +kernel
theorem dX11_tape_12 : decode cX11_tape 12 = .ok (.getfield 69, 3) := by decide +kernel
theorem dX11_tape_15 : decode cX11_tape 15 = .ok (.invokevirtual 136, 3) := by decide +kernel
theorem dX11_tape_18 : decode cX11_tape 18 = .ok (.ireturn, 1) := by decide +kernel
theorem dX11_copy_0 : decode cX11_copy 0 = .ok (.aload_n 0, 1) := by decide +kernel
theorem dX11_copy_1 : decode cX11_copy 1 = .ok (.getfield 10, 3) := by decide +kernel
theorem dX11_copy_4 : decode cX11_copy 4 = .ok (.getfield 127, 3) := by decide +kernel
theorem dX11_copy_7 : decode cX11_copy 7 = .ok (.iload_n 1, 1) := by decide +kernel
theorem dX11_copy_8 : decode cX11_copy 8 = .ok (.aload_n 0, 1) := by decide +kernel
theorem dX11_copy_9 : decode cX11_copy 9 = .ok (.getfield 10, 3) := by decide +kernel
theorem dX11_copy_12 : decode cX11_copy 12 = .ok (.getfield 69, 3) := by decide +kernel
theorem dX11_copy_15 : decode cX11_copy 15 = .ok (.invokevirtual 139, 3) := by decide +kernel
theorem dX11_copy_18 : decode cX11_copy 18 = .ok (.ireturn, 1) := by decide +kernel
theorem dX11_about_0 : decode cX11_about 0 = .ok (.aload_n 0, 1) := by decide +kernel
theorem dX11_about_1 : decode cX11_about 1 = .ok (.getfield 10, 3) := by decide +kernel
theorem dX11_about_4 : decode cX11_about 4 = .ok (.getfield 127, 3) := by decide +kernel
theorem dX11_about_7 : decode cX11_about 7 = .ok (.iload_n 1, 1) := by decide +kernel
theorem dX11_about_8 : decode cX11_about 8 = .ok (.iload_n 2, 1) := by decide +kernel
theorem dX11_about_9 : decode cX11_about 9 = .ok (.aload_n 0, 1) := by decide +kernel
theorem dX11_about_10 : decode cX11_about 10 = .ok (.getfield 10, 3) := by decide +kernel
theorem dX11_about_13 : decode cX11_about 13 = .ok (.getfield 69, 3) := by decide +kernel
theorem dX11_about_16 : decode cX11_about 16 = .ok (.invokevirtual 142, 3) := by decide +kernel
theorem dX11_about_19 : decode cX11_about 19 = .ok (.ireturn, 1) := by decide +kernel
theorem dX11_ask_0 : decode cX11_ask 0 = .ok (.aload_n 0, 1) := by decide +kernel
theorem dX11_ask_1 : decode cX11_ask 1 = .ok (.getfield 10, 3) := by decide +kernel
theorem dX11_ask_4 : decode cX11_ask 4 = .ok (.iload_n 1, 1) := by decide +kernel
theorem dX11_ask_5 : decode cX11_ask 5 = .ok (.iload_n 2, 1) := by decide +kernel
theorem dX11_ask_6 : decode cX11_ask 6 = .ok (.iload_n 3, 1) := by decide +kernel
theorem dX11_ask_7 : decode cX11_ask 7 = .ok (.iload 4, 2) := by decide +kernel
theorem dX11_ask_9 : decode cX11_ask 9 = .ok (.invokevirtual 146, 3) := by decide +kernel
theorem dX11_ask_12 : decode cX11_ask 12 = .ok (.ireturn, 1) := by decide +kernel
theorem dX11_row_0 : decode cX11_row 0 = .ok (.aload_n 0, 1) := by decide +kernel
theorem dX11_row_1 : decode cX11_row 1 = .ok (.getfield 10, 3) := by decide +kernel
theorem dX11_row_4 : decode cX11_row 4 = .ok (.getfield 127, 3) := by decide +kernel
theorem dX11_row_7 : decode cX11_row 7 = .ok (.iload_n 1, 1) := by decide +kernel
theorem dX11_row_8 : decode cX11_row 8 = .ok (.iload_n 2, 1) := by decide +kernel
theorem dX11_row_9 : decode cX11_row 9 = .ok (.aload_n 0, 1) := by decide +kernel
theorem dX11_row_10 : decode cX11_row 10 = .ok (.getfield 10, 3) := by decide +kernel
theorem dX11_row_13 : decode cX11_row 13 = .ok (.getfield 69, 3) := by decide +kernel
theorem dX11_row_16 : decode cX11_row 16 = .ok (.invokevirtual 149, 3) := by decide +kernel
theorem dX11_row_19 : decode cX11_row 19 = .ok (.ireturn, 1) := by decide +kernel
theorem dX11_play_0 : decode cX11_play 0 = .ok (.aload_n 0, 1) := by decide +kernel
theorem dX11_play_1 : decode cX11_play 1 = .ok (.getfield 10, 3) := by decide +kernel
theorem dX11_play_4 : decode cX11_play 4 = .ok (.iload_n 1, 1) := by decide +kernel
theorem dX11_play_5 : decode cX11_play 5 = .ok (.iload_n 2, 1) := by decide +kernel
theorem dX11_play_6 : decode cX11_play 6 = .ok (.invokevirtual 152, 3) := by decide +kernel
theorem dX11_play_9 : decode cX11_play 9 = .ok (.ireturn, 1) := by decide +kernel
theorem dX11_known_0 : decode cX11_known 0 = .ok (.aload_n 0, 1) := by decide +kernel
theorem dX11_known_1 : decode cX11_known 1 = .ok (.getfield 10, 3) := by decide +kernel
theorem dX11_known_4 : decode cX11_known 4 = .ok (.getfield 50, 3) := by decide +kernel
theorem dX11_known_7 : decode cX11_known 7 = .ok (.iload_n 1, 1) := by decide +kernel
theorem dX11_known_8 : decode cX11_known 8 = .ok (.invokevirtual 155, 3) := by decide +kernel
theorem dX11_known_11 : decode cX11_known 11 = .ok (.ifCond .eq 37, 3) := by decide +kernel
theorem dX11_known_48 : decode cX11_known 48 = .ok (.iconst 0, 1) := by decide +kernel
theorem dX11_known_49 : decode cX11_known 49 = .ok (.istore 5, 2) := by decide +kernel
theorem dX11_known_51 : decode cX11_known 51 = .ok (.iload 5, 2) := by decide +kernel
theorem dX11_known_53 : decode cX11_known 53 = .ok (.ifCond .eq 21, 3) := by decide +kernel
theorem dX11_known_74 : decode cX11_known 74 = .ok (.iconst (-1), 1) := by decide +kernel
theorem dX11_known_75 : decode cX11_known 75 = .ok (.ireturn, 1) := by decide +kernel
theorem dX11_same_0 : decode cX11_same 0 = .ok (.iload_n 1, 1) := by decide +kernel
theorem dX11_same_1 : decode cX11_same 1 = .ok (.iload_n 2, 1) := by decide +kernel
theorem dX11_same_2 : decode cX11_same 2 = .ok (.if_icmp .eq 31, 3) := by decide +kernel
theorem dX11_same_5 : decode cX11_same 5 = .ok (.aload_n 0, 1) := by decide +kernel
theorem dX11_same_6 : decode cX11_same 6 = .ok (.getfield 10, 3) := by decide +kernel
theorem dX11_same_9 : decode cX11_same 9 = .ok (.getfield 127, 3) := by decide +kernel
theorem dX11_same_12 : decode cX11_same 12 = .ok (.iload_n 1, 1) := by decide +kernel
theorem dX11_same_13 : decode cX11_same 13 = .ok (.invokevirtual 162, 3) := by decide +kernel
theorem dX11_same_16 : decode cX11_same 16 = .ok (.ifCond .eq 17, 3) := by decide +kernel
theorem dX11_same_33 : decode cX11_same 33 = .ok (.iconst (-1), 1) := by decide +kernel
theorem dX11_same_34 : decode cX11_same 34 = .ok (.ireturn, 1) := by decide +kernel
theorem dX11_find_0 : decode cX11_find 0 = .ok (.aload_n 0, 1) := by decide +kernel
theorem dX11_find_1 : decode cX11_find 1 = .ok (.iload_n 1, 1) := by decide +kernel
theorem dX11_find_2 : decode cX11_find 2 = .ok (.invokevirtual 168, 3) := by decide +kernel
theorem dX11_find_5 : decode cX11_find 5 = .ok (.ifCond .eq 14, 3) := by decide +kernel
theorem dX11_find_19 : decode cX11_find 19 = .ok (.iconst (-1), 1) := by decide +kernel
theorem dX11_find_20 : decode cX11_find 20 = .ok (.ireturn, 1) := by decide +kernel
theorem dX11_reading_0 : decode cX11_reading 0 = .ok (.aload_n 0, 1) := by decide +kernel
theorem dX11_reading_1 : decode cX11_reading 1 = .ok (.iload_n 1, 1) := by decide +kernel
theorem dX11_reading_2 : decode cX11_reading 2 = .ok (.invokevirtual 168, 3) := by decide +kernel
theorem dX11_reading_5 : decode cX11_reading 5 = .ok (.ifCond .eq 14, 3) := by decide +kernel
theorem dX11_reading_19 : decode cX11_reading 19 = .ok (.iconst (-1), 1) := by decide +kernel
theorem dX11_reading_20 : decode cX11_reading 20 = .ok (.ireturn, 1) := by decide +kernel
theorem dX11_next_0 : decode cX11_next 0 = .ok (.aload_n 0, 1) := by decide +kernel
theorem dX11_next_1 : decode cX11_next 1 = .ok (.iload_n 1, 1) := by decide +kernel
theorem dX11_next_2 : decode cX11_next 2 = .ok (.invokevirtual 168, 3) := by decide +kernel
theorem dX11_next_5 : decode cX11_next 5 = .ok (.ifCond .eq 19, 3) := by decide +kernel
theorem dX11_next_24 : decode cX11_next 24 = .ok (.iconst (-1), 1) := by decide +kernel
theorem dX11_next_25 : decode cX11_next 25 = .ok (.ireturn, 1) := by decide +kernel
theorem dX11_visits_0 : decode cX11_visits 0 = .ok (.aload_n 0, 1) := by decide +kernel
theorem dX11_visits_1 : decode cX11_visits 1 = .ok (.iload_n 1, 1) := by decide +kernel
theorem dX11_visits_2 : decode cX11_visits 2 = .ok (.iload_n 2, 1) := by decide +kernel
theorem dX11_visits_3 : decode cX11_visits 3 = .ok (.invokevirtual 187, 3) := by decide +kernel
theorem dX11_visits_6 : decode cX11_visits 6 = .ok (.ifCond .eq 14, 3) := by decide +kernel
theorem dX11_visits_20 : decode cX11_visits 20 = .ok (.iconst (-1), 1) := by decide +kernel
theorem dX11_visits_21 : decode cX11_visits 21 = .ok (.ireturn, 1) := by decide +kernel
theorem dX11_visited_0 : decode cX11_visited 0 = .ok (.aload_n 0, 1) := by decide +kernel
theorem dX11_visited_1 : decode cX11_visited 1 = .ok (.iload_n 1, 1) := by decide +kernel
theorem dX11_visited_2 : decode cX11_visited 2 = .ok (.iload_n 2, 1) := by decide +kernel
theorem dX11_visited_3 : decode cX11_visited 3 = .ok (.invokevirtual 187, 3) := by decide +kernel
theorem dX11_visited_6 : decode cX11_visited 6 = .ok (.ifCond .eq 14, 3) := by decide +kernel
theorem dX11_visited_20 : decode cX11_visited 20 = .ok (.iconst (-1), 1) := by decide +kernel
theorem dX11_visited_21 : decode cX11_visited 21 = .ok (.ireturn, 1) := by decide +kernel
theorem dX11_copies_0 : decode cX11_copies 0 = .ok (.aload_n 0, 1) := by decide +kernel
theorem dX11_copies_1 : decode cX11_copies 1 = .ok (.getfield 202, 3) := by decide +kernel
theorem dX11_copies_4 : decode cX11_copies 4 = .ok (.ifnonnull 14, 3) := by decide +kernel
theorem dX11_copies_7 : decode cX11_copies 7 = .ok (.aload_n 0, 1) := by decide +kernel
theorem dX11_copies_8 : decode cX11_copies 8 = .ok (.new 206, 3) := by decide +kernel
theorem dX11_copies_11 : decode cX11_copies 11 = .ok (.dup, 1) := by decide +kernel
theorem dX11_copies_12 : decode cX11_copies 12 = .ok (.invokespecial 208, 3) := by decide +kernel
theorem dX11_copies_15 : decode cX11_copies 15 = .ok (.putfield 202, 3) := by decide +kernel
theorem dX11_copies_18 : decode cX11_copies 18 = .ok (.aload_n 0, 1) := by decide +kernel
theorem dX11_copies_19 : decode cX11_copies 19 = .ok (.getfield 202, 3) := by decide +kernel
theorem dX11_copies_22 : decode cX11_copies 22 = .ok (.aload_n 0, 1) := by decide +kernel
theorem dX11_copies_23 : decode cX11_copies 23 = .ok (.getfield 10, 3) := by decide +kernel
theorem dX11_copies_26 : decode cX11_copies 26 = .ok (.getfield 127, 3) := by decide +kernel
theorem dX11_copies_29 : decode cX11_copies 29 = .ok (.aload_n 0, 1) := by decide +kernel
theorem dX11_copies_30 : decode cX11_copies 30 = .ok (.getfield 10, 3) := by decide +kernel
theorem dX11_copies_33 : decode cX11_copies 33 = .ok (.getfield 69, 3) := by decide +kernel
theorem dX11_copies_36 : decode cX11_copies 36 = .ok (.invokevirtual 209, 3) := by decide +kernel
theorem dX11_copies_39 : decode cX11_copies 39 = .ok (.aload_n 0, 1) := by decide +kernel
theorem dX11_copies_40 : decode cX11_copies 40 = .ok (.getfield 202, 3) := by decide +kernel
theorem dX11_copies_43 : decode cX11_copies 43 = .ok (.iload_n 1, 1) := by decide +kernel
theorem dX11_copies_44 : decode cX11_copies 44 = .ok (.invokevirtual 213, 3) := by decide +kernel
theorem dX11_copies_47 : decode cX11_copies 47 = .ok (.ireturn, 1) := by decide +kernel
theorem dX11_cost_0 : decode cX11_cost 0 = .ok (.aload_n 0, 1) := by decide +kernel
theorem dX11_cost_1 : decode cX11_cost 1 = .ok (.getfield 10, 3) := by decide +kernel
theorem dX11_cost_4 : decode cX11_cost 4 = .ok (.getfield 20, 3) := by decide +kernel
theorem dX11_cost_7 : decode cX11_cost 7 = .ok (.iload_n 1, 1) := by decide +kernel
theorem dX11_cost_8 : decode cX11_cost 8 = .ok (.iload_n 2, 1) := by decide +kernel
theorem dX11_cost_9 : decode cX11_cost 9 = .ok (.invokevirtual 216, 3) := by decide +kernel
theorem dX11_cost_12 : decode cX11_cost 12 = .ok (.ireturn, 1) := by decide +kernel
theorem dX11_schools_0 : decode cX11_schools 0 = .ok (.iload_n 1, 1) := by decide +kernel
theorem dX11_schools_1 : decode cX11_schools 1 = .ok (.iconst 0, 1) := by decide +kernel
theorem dX11_schools_2 : decode cX11_schools 2 = .ok (.sipush 10000, 3) := by decide +kernel
theorem dX11_schools_5 : decode cX11_schools 5 = .ok (.invokestatic 156, 3) := by decide +kernel
theorem dX11_schools_8 : decode cX11_schools 8 = .ok (.ifCond .eq 24, 3) := by decide +kernel
theorem dX11_schools_11 : decode cX11_schools 11 = .ok (.iload_n 2, 1) := by decide +kernel
theorem dX11_schools_12 : decode cX11_schools 12 = .ok (.iconst 0, 1) := by decide +kernel
theorem dX11_schools_13 : decode cX11_schools 13 = .ok (.iconst 2, 1) := by decide +kernel
theorem dX11_schools_14 : decode cX11_schools 14 = .ok (.invokestatic 156, 3) := by decide +kernel
theorem dX11_schools_17 : decode cX11_schools 17 = .ok (.ifCond .eq 15, 3) := by decide +kernel
theorem dX11_schools_20 : decode cX11_schools 20 = .ok (.aload_n 0, 1) := by decide +kernel
theorem dX11_schools_21 : decode cX11_schools 21 = .ok (.getfield 10, 3) := by decide +kernel
theorem dX11_schools_24 : decode cX11_schools 24 = .ok (.iload_n 1, 1) := by decide +kernel
theorem dX11_schools_25 : decode cX11_schools 25 = .ok (.iload_n 2, 1) := by decide +kernel
theorem dX11_schools_26 : decode cX11_schools 26 = .ok (.invokevirtual 219, 3) := by decide +kernel
theorem dX11_schools_29 : decode cX11_schools 29 = .ok (.goto 4, 3) := by decide +kernel
theorem dX11_schools_32 : decode cX11_schools 32 = .ok (.iconst (-1), 1) := by decide +kernel
theorem dX11_schools_33 : decode cX11_schools 33 = .ok (.ireturn, 1) := by decide +kernel
theorem dX11_teach_0 : decode cX11_teach 0 = .ok (.aload_n 0, 1) := by decide +kernel
theorem dX11_teach_1 : decode cX11_teach 1 = .ok (.getfield 10, 3) := by decide +kernel
theorem dX11_teach_4 : decode cX11_teach 4 = .ok (.getfield 50, 3) := by decide +kernel
theorem dX11_teach_7 : decode cX11_teach 7 = .ok (.iload_n 1, 1) := by decide +kernel
theorem dX11_teach_8 : decode cX11_teach 8 = .ok (.iload_n 2, 1) := by decide +kernel
theorem dX11_teach_9 : decode cX11_teach 9 = .ok (.iload_n 3, 1) := by decide +kernel
theorem dX11_teach_10 : decode cX11_teach 10 = .ok (.invokevirtual 222, 3) := by decide +kernel
theorem dX11_teach_13 : decode cX11_teach 13 = .ok (.ireturn, 1) := by decide +kernel
theorem dX11_make_0 : decode cX11_make 0 = .ok (.aload_n 0, 1) := by decide +kernel
theorem dX11_make_1 : decode cX11_make 1 = .ok (.getfield 10, 3) := by decide +kernel
theorem dX11_make_4 : decode cX11_make 4 = .ok (.iconst 4, 1) := by decide +kernel
theorem dX11_make_5 : decode cX11_make 5 = .ok (.iload_n 1, 1) := by decide +kernel
theorem dX11_make_6 : decode cX11_make 6 = .ok (.iload_n 1, 1) := by decide +kernel
theorem dX11_make_7 : decode cX11_make 7 = .ok (.iload_n 3, 1) := by decide +kernel
theorem dX11_make_8 : decode cX11_make 8 = .ok (.invokevirtual 114, 3) := by decide +kernel
theorem dX11_make_11 : decode cX11_make 11 = .ok (.ifCond .eq 21, 3) := by decide +kernel
theorem dX11_make_32 : decode cX11_make 32 = .ok (.iconst 0, 1) := by decide +kernel
theorem dX11_make_33 : decode cX11_make 33 = .ok (.istore 5, 2) := by decide +kernel
theorem dX11_make_35 : decode cX11_make 35 = .ok (.iload 5, 2) := by decide +kernel
theorem dX11_make_37 : decode cX11_make 37 = .ok (.ifCond .eq 17, 3) := by decide +kernel
theorem dX11_make_54 : decode cX11_make 54 = .ok (.iconst (-1), 1) := by decide +kernel
theorem dX11_make_55 : decode cX11_make 55 = .ok (.ireturn, 1) := by decide +kernel
theorem dX11_print_0 : decode cX11_print 0 = .ok (.aload_n 0, 1) := by decide +kernel
theorem dX11_print_1 : decode cX11_print 1 = .ok (.getfield 10, 3) := by decide +kernel
theorem dX11_print_4 : decode cX11_print 4 = .ok (.iload_n 1, 1) := by decide +kernel
theorem dX11_print_5 : decode cX11_print 5 = .ok (.iload_n 2, 1) := by decide +kernel
theorem dX11_print_6 : decode cX11_print 6 = .ok (.iload_n 3, 1) := by decide +kernel
theorem dX11_print_7 : decode cX11_print 7 = .ok (.invokevirtual 239, 3) := by decide +kernel
theorem dX11_print_10 : decode cX11_print 10 = .ok (.ireturn, 1) := by decide +kernel
theorem dX11_printed_0 : decode cX11_printed 0 = .ok (.aload_n 0, 1) := by decide +kernel
theorem dX11_printed_1 : decode cX11_printed 1 = .ok (.getfield 10, 3) := by decide +kernel
theorem dX11_printed_4 : decode cX11_printed 4 = .ok (.getfield 242, 3) := by decide +kernel
theorem dX11_printed_7 : decode cX11_printed 7 = .ok (.iload_n 1, 1) := by decide +kernel
theorem dX11_printed_8 : decode cX11_printed 8 = .ok (.iload_n 2, 1) := by decide +kernel
theorem dX11_printed_9 : decode cX11_printed 9 = .ok (.aload_n 0, 1) := by decide +kernel
theorem dX11_printed_10 : decode cX11_printed 10 = .ok (.getfield 10, 3) := by decide +kernel
theorem dX11_printed_13 : decode cX11_printed 13 = .ok (.getfield 20, 3) := by decide +kernel
theorem dX11_printed_16 : decode cX11_printed 16 = .ok (.invokevirtual 246, 3) := by decide +kernel
theorem dX11_printed_19 : decode cX11_printed 19 = .ok (.ireturn, 1) := by decide +kernel
theorem dX11_grant_0 : decode cX11_grant 0 = .ok (.aload_n 0, 1) := by decide +kernel
theorem dX11_grant_1 : decode cX11_grant 1 = .ok (.getfield 10, 3) := by decide +kernel
theorem dX11_grant_4 : decode cX11_grant 4 = .ok (.getfield 20, 3) := by decide +kernel
theorem dX11_grant_7 : decode cX11_grant 7 = .ok (.iload_n 1, 1) := by decide +kernel
theorem dX11_grant_8 : decode cX11_grant 8 = .ok (.invokevirtual 59, 3) := by decide +kernel
theorem dX11_grant_11 : decode cX11_grant 11 = .ok (.ifCond .eq 19, 3) := by decide +kernel
theorem dX11_grant_30 : decode cX11_grant 30 = .ok (.iconst (-1), 1) := by decide +kernel
theorem dX11_grant_31 : decode cX11_grant 31 = .ok (.ireturn, 1) := by decide +kernel
theorem dX11_granted_0 : decode cX11_granted 0 = .ok (.aload_n 0, 1) := by decide +kernel
theorem dX11_granted_1 : decode cX11_granted 1 = .ok (.getfield 10, 3) := by decide +kernel
theorem dX11_granted_4 : decode cX11_granted 4 = .ok (.iload_n 1, 1) := by decide +kernel
theorem dX11_granted_5 : decode cX11_granted 5 = .ok (.iload_n 2, 1) := by decide +kernel
theorem dX11_granted_6 : decode cX11_granted 6 = .ok (.invokevirtual 255, 3) := by decide +kernel
theorem dX11_granted_9 : decode cX11_granted 9 = .ok (.ireturn, 1) := by decide +kernel
theorem dX11_count_0 : decode cX11_count 0 = .ok (.aload_n 0, 1) := by decide +kernel
theorem dX11_count_1 : decode cX11_count 1 = .ok (.getfield 10, 3) := by decide +kernel
theorem dX11_count_4 : decode cX11_count 4 = .ok (.iload_n 1, 1) := by decide +kernel
theorem dX11_count_5 : decode cX11_count 5 = .ok (.invokevirtual 258, 3) := by decide +kernel
theorem dX11_count_8 : decode cX11_count 8 = .ok (.ireturn, 1) := by decide +kernel
theorem dX11_image_0 : decode cX11_image 0 = .ok (.iload_n 1, 1) := by decide +kernel
theorem dX11_image_1 : decode cX11_image 1 = .ok (.iconst 0, 1) := by decide +kernel
theorem dX11_image_2 : decode cX11_image 2 = .ok (.iconst 2, 1) := by decide +kernel
theorem dX11_image_3 : decode cX11_image 3 = .ok (.invokestatic 156, 3) := by decide +kernel
theorem dX11_image_6 : decode cX11_image 6 = .ok (.ifCond .ne 5, 3) := by decide +kernel
theorem dX11_image_9 : decode cX11_image 9 = .ok (.iconst 0, 1) := by decide +kernel
theorem dX11_image_10 : decode cX11_image 10 = .ok (.ireturn, 1) := by decide +kernel
theorem dX11_image_11 : decode cX11_image 11 = .ok (.aload_n 0, 1) := by decide +kernel
theorem dX11_image_12 : decode cX11_image 12 = .ok (.getfield 16, 3) := by decide +kernel
theorem dX11_image_15 : decode cX11_image 15 = .ok (.iload_n 1, 1) := by decide +kernel
theorem dX11_image_16 : decode cX11_image 16 = .ok (.aaload, 1) := by decide +kernel
theorem dX11_image_17 : decode cX11_image 17 = .ok (.ifnonnull 16, 3) := by decide +kernel
theorem dX11_image_20 : decode cX11_image 20 = .ok (.aload_n 0, 1) := by decide +kernel
theorem dX11_image_21 : decode cX11_image 21 = .ok (.getfield 16, 3) := by decide +kernel
theorem dX11_image_24 : decode cX11_image 24 = .ok (.iload_n 1, 1) := by decide +kernel
theorem dX11_image_25 : decode cX11_image 25 = .ok (.new 7, 3) := by decide +kernel
theorem dX11_image_28 : decode cX11_image 28 = .ok (.dup, 1) := by decide +kernel
theorem dX11_image_29 : decode cX11_image 29 = .ok (.invokespecial 9, 3) := by decide +kernel
theorem dX11_image_32 : decode cX11_image 32 = .ok (.aastore, 1) := by decide +kernel
theorem dX11_image_33 : decode cX11_image 33 = .ok (.aload_n 0, 1) := by decide +kernel
theorem dX11_image_34 : decode cX11_image 34 = .ok (.getfield 16, 3) := by decide +kernel
theorem dX11_image_37 : decode cX11_image 37 = .ok (.iload_n 1, 1) := by decide +kernel
theorem dX11_image_38 : decode cX11_image 38 = .ok (.aaload, 1) := by decide +kernel
theorem dX11_image_39 : decode cX11_image 39 = .ok (.aload_n 0, 1) := by decide +kernel
theorem dX11_image_40 : decode cX11_image 40 = .ok (.getfield 10, 3) := by decide +kernel
theorem dX11_image_43 : decode cX11_image 43 = .ok (.invokevirtual 261, 3) := by decide +kernel
theorem dX11_image_46 : decode cX11_image 46 = .ok (.iconst 1, 1) := by decide +kernel
theorem dX11_image_47 : decode cX11_image 47 = .ok (.ireturn, 1) := by decide +kernel
theorem dX11_again_0 : decode cX11_again 0 = .ok (.iload_n 1, 1) := by decide +kernel
theorem dX11_again_1 : decode cX11_again 1 = .ok (.iconst 0, 1) := by decide +kernel
theorem dX11_again_2 : decode cX11_again 2 = .ok (.iconst 2, 1) := by decide +kernel
theorem dX11_again_3 : decode cX11_again 3 = .ok (.invokestatic 156, 3) := by decide +kernel
theorem dX11_again_6 : decode cX11_again 6 = .ok (.ifCond .eq 12, 3) := by decide +kernel
theorem dX11_again_9 : decode cX11_again 9 = .ok (.aload_n 0, 1) := by decide +kernel
theorem dX11_again_10 : decode cX11_again 10 = .ok (.getfield 16, 3) := by decide +kernel
theorem dX11_again_13 : decode cX11_again 13 = .ok (.iload_n 1, 1) := by decide +kernel
theorem dX11_again_14 : decode cX11_again 14 = .ok (.aaload, 1) := by decide +kernel
theorem dX11_again_15 : decode cX11_again 15 = .ok (.ifnonnull 5, 3) := by decide +kernel
theorem dX11_again_18 : decode cX11_again 18 = .ok (.iconst 0, 1) := by decide +kernel
theorem dX11_again_19 : decode cX11_again 19 = .ok (.ireturn, 1) := by decide +kernel
theorem dX11_prepareFinder_0 : decode cX11_prepareFinder 0 = .ok (.aload_n 0, 1) := by decide +kernel
theorem dX11_prepareFinder_1 : decode cX11_prepareFinder 1 = .ok (.getfield 10, 3) := by decide +kernel
theorem dX11_prepareFinder_4 : decode cX11_prepareFinder 4 = .ok (.getfield 20, 3) := by decide +kernel
theorem dX11_prepareFinder_7 : decode cX11_prepareFinder 7 = .ok (.iload_n 1, 1) := by decide +kernel
theorem dX11_prepareFinder_8 : decode cX11_prepareFinder 8 = .ok (.invokevirtual 265, 3) := by decide +kernel
theorem dX11_prepareFinder_11 : decode cX11_prepareFinder 11 = .ok (.ifCond .ne 5, 3) := by decide +kernel
theorem dX11_prepareFinder_14 : decode cX11_prepareFinder 14 = .ok (.iconst 0, 1) := by decide +kernel
theorem dX11_prepareFinder_15 : decode cX11_prepareFinder 15 = .ok (.ireturn, 1) := by decide +kernel
theorem dX11_prepareRoute_0 : decode cX11_prepareRoute 0 = .ok (.aload_n 0, 1) := by decide +kernel
theorem dX11_prepareRoute_1 : decode cX11_prepareRoute 1 = .ok (.getfield 10, 3) := by decide +kernel
theorem dX11_prepareRoute_4 : decode cX11_prepareRoute 4 = .ok (.getfield 50, 3) := by decide +kernel
theorem dX11_prepareRoute_7 : decode cX11_prepareRoute 7 = .ok (.astore_n 3, 1) := by decide +kernel
theorem dX11_prepareRoute_8 : decode cX11_prepareRoute 8 = .ok (.aload_n 3, 1) := by decide +kernel
theorem dX11_prepareRoute_9 : decode cX11_prepareRoute 9 = .ok (.iload_n 1, 1) := by decide +kernel
theorem dX11_prepareRoute_10 : decode cX11_prepareRoute 10 = .ok (.invokevirtual 272, 3) := by decide +kernel
theorem dX11_prepareRoute_13 : decode cX11_prepareRoute 13 = .ok (.ifCond .eq 17, 3) := by decide +kernel
theorem dX11_prepareRoute_30 : decode cX11_prepareRoute 30 = .ok (.iconst 0, 1) := by decide +kernel
theorem dX11_prepareRoute_31 : decode cX11_prepareRoute 31 = .ok (.istore 4, 2) := by decide +kernel
theorem dX11_prepareRoute_33 : decode cX11_prepareRoute 33 = .ok (.iload 4, 2) := by decide +kernel
theorem dX11_prepareRoute_35 : decode cX11_prepareRoute 35 = .ok (.ifCond .eq 13, 3) := by decide +kernel
theorem dX11_prepareRoute_48 : decode cX11_prepareRoute 48 = .ok (.iconst 0, 1) := by decide +kernel
theorem dX11_prepareRoute_49 : decode cX11_prepareRoute 49 = .ok (.ireturn, 1) := by decide +kernel
theorem dX11_within_0 : decode cX11_within 0 = .ok (.iload_n 0, 1) := by decide +kernel
theorem dX11_within_1 : decode cX11_within 1 = .ok (.iload_n 1, 1) := by decide +kernel
theorem dX11_within_2 : decode cX11_within 2 = .ok (.if_icmp .lt 12, 3) := by decide +kernel
theorem dX11_within_5 : decode cX11_within 5 = .ok (.iload_n 0, 1) := by decide +kernel
theorem dX11_within_6 : decode cX11_within 6 = .ok (.iload_n 2, 1) := by decide +kernel
theorem dX11_within_7 : decode cX11_within 7 = .ok (.if_icmp .gt 7, 3) := by decide +kernel
theorem dX11_within_10 : decode cX11_within 10 = .ok (.iconst 1, 1) := by decide +kernel
theorem dX11_within_11 : decode cX11_within 11 = .ok (.goto 4, 3) := by decide +kernel
theorem dX11_within_14 : decode cX11_within 14 = .ok (.iconst 0, 1) := by decide +kernel
theorem dX11_within_15 : decode cX11_within 15 = .ok (.ireturn, 1) := by decide +kernel
theorem dX12_init_0 : decode cX12_init 0 = .ok (.aload_n 0, 1) := by decide +kernel
theorem dX12_init_1 : decode cX12_init 1 = .ok (.invokespecial 1, 3) := by decide +kernel
theorem dX12_init_4 : decode cX12_init 4 = .ok (.aload_n 0, 1) := by decide +kernel
theorem dX12_init_5 : decode cX12_init 5 = .ok (.sipush 2000, 3) := by decide +kernel
theorem dX12_init_8 : decode cX12_init 8 = .ok (.newarray .byte, 2) := by decide +kernel
theorem dX12_init_10 : decode cX12_init 10 = .ok (.putfield 7, 3) := by decide +kernel
theorem dX12_init_13 : decode cX12_init 13 = .ok (.aload_n 0, 1) := by decide +kernel
theorem dX12_init_14 : decode cX12_init 14 = .ok (.iconst 4, 1) := by decide +kernel
theorem dX12_init_15 : decode cX12_init 15 = .ok (.newarray .int, 2) := by decide +kernel
theorem dX12_init_17 : decode cX12_init 17 = .ok (.putfield 13, 3) := by decide +kernel
theorem dX12_init_20 : decode cX12_init 20 = .ok (.aload_n 0, 1) := by decide +kernel
theorem dX12_init_21 : decode cX12_init 21 = .ok (.iconst 4, 1) := by decide +kernel
theorem dX12_init_22 : decode cX12_init 22 = .ok (.newarray .int, 2) := by decide +kernel
theorem dX12_init_24 : decode cX12_init 24 = .ok (.putfield 17, 3) := by decide +kernel
theorem dX12_init_27 : decode cX12_init 27 = .ok (.aload_n 0, 1) := by decide +kernel
theorem dX12_init_28 : decode cX12_init 28 = .ok (.iconst 4, 1) := by decide +kernel
theorem dX12_init_29 : decode cX12_init 29 = .ok (.newarray .int, 2) := by decide +kernel
theorem dX12_init_31 : decode cX12_init 31 = .ok (.putfield 20, 3) := by decide +kernel
theorem dX12_init_34 : decode cX12_init 34 = .ok (.aload_n 0, 1) := by decide +kernel
theorem dX12_init_35 : decode cX12_init 35 = .ok (.iconst 4, 1) := by decide +kernel
theorem dX12_init_36 : decode cX12_init 36 = .ok (.newarray .int, 2) := by decide +kernel
theorem dX12_init_38 : decode cX12_init 38 = .ok (.putfield 23, 3) := by decide +kernel
theorem dX12_init_41 : decode cX12_init 41 = .ok (.aload_n 0, 1) := by decide +kernel
theorem dX12_init_42 : decode cX12_init 42 = .ok (.iconst 4, 1) := by decide +kernel
theorem dX12_init_43 : decode cX12_init 43 = .ok (.newarray .int, 2) := by decide +kernel
theorem dX12_init_45 : decode cX12_init 45 = .ok (.putfield 26, 3) := by decide +kernel
theorem dX12_init_48 : decode cX12_init 48 = .ok (.aload_n 0, 1) := by decide +kernel
theorem dX12_init_49 : decode cX12_init 49 = .ok (.bipush 24, 2) := by decide +kernel
theorem dX12_init_51 : decode cX12_init 51 = .ok (.newarray .int, 2) := by decide +kernel
theorem dX12_init_53 : decode cX12_init 53 = .ok (.putfield 29, 3) := by decide +kernel
theorem dX12_init_56 : decode cX12_init 56 = .ok (.aload_n 0, 1) := by decide +kernel
theorem dX12_init_57 : decode cX12_init 57 = .ok (.bipush 24, 2) := by decide +kernel
theorem dX12_init_59 : decode cX12_init 59 = .ok (.newarray .int, 2) := by decide +kernel
theorem dX12_init_61 : decode cX12_init 61 = .ok (.putfield 32, 3) := by decide +kernel
theorem dX12_init_64 : decode cX12_init 64 = .ok (.aload_n 0, 1) := by decide +kernel
theorem dX12_init_65 : decode cX12_init 65 = .ok (.sipush 144, 3) := by decide +kernel
theorem dX12_init_68 : decode cX12_init 68 = .ok (.newarray .int, 2) := by decide +kernel
theorem dX12_init_70 : decode cX12_init 70 = .ok (.putfield 35, 3) := by decide +kernel
theorem dX12_init_73 : decode cX12_init 73 = .ok (.aload_n 0, 1) := by decide +kernel
theorem dX12_init_74 : decode cX12_init 74 = .ok (.sipush 576, 3) := by decide +kernel
theorem dX12_init_77 : decode cX12_init 77 = .ok (.newarray .int, 2) := by decide +kernel
theorem dX12_init_79 : decode cX12_init 79 = .ok (.putfield 38, 3) := by decide +kernel
theorem dX12_init_82 : decode cX12_init 82 = .ok (.aload_n 0, 1) := by decide +kernel
theorem dX12_init_83 : decode cX12_init 83 = .ok (.bipush 24, 2) := by decide +kernel
theorem dX12_init_85 : decode cX12_init 85 = .ok (.newarray .int, 2) := by decide +kernel
theorem dX12_init_87 : decode cX12_init 87 = .ok (.putfield 41, 3) := by decide +kernel
theorem dX12_init_90 : decode cX12_init 90 = .ok (.aload_n 0, 1) := by decide +kernel
theorem dX12_init_91 : decode cX12_init 91 = .ok (.bipush 96, 2) := by decide +kernel
theorem dX12_init_93 : decode cX12_init 93 = .ok (.newarray .int, 2) := by decide +kernel
theorem dX12_init_95 : decode cX12_init 95 = .ok (.putfield 44, 3) := by decide +kernel
theorem dX12_init_98 : decode cX12_init 98 = .ok (.aload_n 0, 1) := by decide +kernel
theorem dX12_init_99 : decode cX12_init 99 = .ok (.sipush 144, 3) := by decide +kernel
theorem dX12_init_102 : decode cX12_init 102 = .ok (.newarray .int, 2) := by decide +kernel
theorem dX12_init_104 : decode cX12_init 104 = .ok (.putfield 47, 3) := by decide +kernel
theorem dX12_init_107 : decode cX12_init 107 = .ok (.aload_n 0, 1) := by decide +kernel
theorem dX12_init_108 : decode cX12_init 108 = .ok (.iconst 4, 1) := by decide +kernel
theorem dX12_init_109 : decode cX12_init 109 = .ok (.newarray .int, 2) := by decide +kernel
theorem dX12_init_111 : decode cX12_init 111 = .ok (.putfield 50, 3) := by decide +kernel
theorem dX12_init_114 : decode cX12_init 114 = .ok (.aload_n 0, 1) := by decide +kernel
theorem dX12_init_115 : decode cX12_init 115 = .ok (.bipush 64, 2) := by decide +kernel
theorem dX12_init_117 : decode cX12_init 117 = .ok (.newarray .int, 2) := by decide +kernel
theorem dX12_init_119 : decode cX12_init 119 = .ok (.putfield 53, 3) := by decide +kernel
theorem dX12_init_122 : decode cX12_init 122 = .ok (.aload_n 0, 1) := by decide +kernel
theorem dX12_init_123 : decode cX12_init 123 = .ok (.bipush 64, 2) := by decide +kernel
theorem dX12_init_125 : decode cX12_init 125 = .ok (.newarray .int, 2) := by decide +kernel
theorem dX12_init_127 : decode cX12_init 127 = .ok (.putfield 56, 3) := by decide +kernel
theorem dX12_init_130 : decode cX12_init 130 = .ok (.aload_n 0, 1) := by decide +kernel
theorem dX12_init_131 : decode cX12_init 131 = .ok (.bipush 64, 2) := by decide +kernel
theorem dX12_init_133 : decode cX12_init 133 = .ok (.newarray .int, 2) := by decide +kernel
theorem dX12_init_135 : decode cX12_init 135 = .ok (.putfield 59, 3) := by decide +kernel
theorem dX12_init_138 : decode cX12_init 138 = .ok (.aload_n 0, 1) := by decide +kernel
theorem dX12_init_139 : decode cX12_init 139 = .ok (.bipush 64, 2) := by decide +kernel
theorem dX12_init_141 : decode cX12_init 141 = .ok (.newarray .int, 2) := by decide +kernel
theorem dX12_init_143 : decode cX12_init 143 = .ok (.putfield 62, 3) := by decide +kernel
theorem dX12_init_146 : decode cX12_init 146 = .ok (.aload_n 0, 1) := by decide +kernel
theorem dX12_init_147 : decode cX12_init 147 = .ok (.bipush 64, 2) := by decide +kernel
theorem dX12_init_149 : decode cX12_init 149 = .ok (.newarray .int, 2) := by decide +kernel
theorem dX12_init_151 : decode cX12_init 151 = .ok (.putfield 65, 3) := by decide +kernel
theorem dX12_init_154 : decode cX12_init 154 = .ok (.aload_n 0, 1) := by decide +kernel
theorem dX12_init_155 : decode cX12_init 155 = .ok (.bipush 64, 2) := by decide +kernel
theorem dX12_init_157 : decode cX12_init 157 = .ok (.newarray .int, 2) := by decide +kernel
theorem dX12_init_159 : decode cX12_init 159 = .ok (.putfield 68, 3) := by decide +kernel
theorem dX12_init_162 : decode cX12_init 162 = .ok (.aload_n 0, 1) := by decide +kernel
theorem dX12_init_163 : decode cX12_init 163 = .ok (.bipush 64, 2) := by decide +kernel
theorem dX12_init_165 : decode cX12_init 165 = .ok (.newarray .int, 2) := by decide +kernel
theorem dX12_init_167 : decode cX12_init 167 = .ok (.putfield 71, 3) := by decide +kernel
theorem dX12_init_170 : decode cX12_init 170 = .ok (.aload_n 0, 1) := by decide +kernel
theorem dX12_init_171 : decode cX12_init 171 = .ok (.bipush 64, 2) := by decide +kernel
theorem dX12_init_173 : decode cX12_init 173 = .ok (.newarray .int, 2) := by decide +kernel
theorem dX12_init_175 : decode cX12_init 175 = .ok (.putfield 74, 3) := by decide +kernel
theorem dX12_init_178 : decode cX12_init 178 = .ok (.aload_n 0, 1) := by decide +kernel
theorem dX12_init_179 : decode cX12_init 179 = .ok (.bipush 64, 2) := by decide +kernel
theorem dX12_init_181 : decode cX12_init 181 = .ok (.newarray .int, 2) := by decide +kernel
theorem dX12_init_183 : decode cX12_init 183 = .ok (.putfield 77, 3) := by decide +kernel
theorem dX12_init_186 : decode cX12_init 186 = .ok (.aload_n 0, 1) := by decide +kernel
theorem dX12_init_187 : decode cX12_init 187 = .ok (.bipush 64, 2) := by decide +kernel
theorem dX12_init_189 : decode cX12_init 189 = .ok (.newarray .int, 2) := by decide +kernel
theorem dX12_init_191 : decode cX12_init 191 = .ok (.putfield 80, 3) := by decide +kernel
theorem dX12_init_194 : decode cX12_init 194 = .ok (.aload_n 0, 1) := by decide +kernel
theorem dX12_init_195 : decode cX12_init 195 = .ok (.bipush 64, 2) := by decide +kernel
theorem dX12_init_197 : decode cX12_init 197 = .ok (.newarray .int, 2) := by decide +kernel
theorem dX12_init_199 : decode cX12_init 199 = .ok (.putfield 83, 3) := by decide +kernel
theorem dX12_init_202 : decode cX12_init 202 = .ok (.aload_n 0, 1) := by decide +kernel
theorem dX12_init_203 : decode cX12_init 203 = .ok (.bipush 64, 2) := by decide +kernel
theorem dX12_init_205 : decode cX12_init 205 = .ok (.newarray .boolean, 2) := by decide +kernel
theorem dX12_init_207 : decode cX12_init 207 = .ok (.putfield 86, 3) := by decide +kernel
theorem dX12_init_210 : decode cX12_init 210 = .ok (.aload_n 0, 1) := by decide +kernel
theorem dX12_init_211 : decode cX12_init 211 = .ok (.bipush 64, 2) := by decide +kernel
theorem dX12_init_213 : decode cX12_init 213 = .ok (.newarray .int, 2) := by decide +kernel
theorem dX12_init_215 : decode cX12_init 215 = .ok (.putfield 90, 3) := by decide +kernel
theorem dX12_init_218 : decode cX12_init 218 = .ok (.aload_n 0, 1) := by decide +kernel
theorem dX12_init_219 : decode cX12_init 219 = .ok (.sipush 128, 3) := by decide +kernel
theorem dX12_init_222 : decode cX12_init 222 = .ok (.newarray .int, 2) := by decide +kernel
theorem dX12_init_224 : decode cX12_init 224 = .ok (.putfield 93, 3) := by decide +kernel
theorem dX12_init_227 : decode cX12_init 227 = .ok (.aload_n 0, 1) := by decide +kernel
theorem dX12_init_228 : decode cX12_init 228 = .ok (.iconst 4, 1) := by decide +kernel
theorem dX12_init_229 : decode cX12_init 229 = .ok (.newarray .int, 2) := by decide +kernel
theorem dX12_init_231 : decode cX12_init 231 = .ok (.putfield 96, 3) := by decide +kernel
theorem dX12_init_234 : decode cX12_init 234 = .ok (.aload_n 0, 1) := by decide +kernel
theorem dX12_init_235 : decode cX12_init 235 = .ok (.bipush 16, 2) := by decide +kernel
theorem dX12_init_237 : decode cX12_init 237 = .ok (.newarray .int, 2) := by decide +kernel
theorem dX12_init_239 : decode cX12_init 239 = .ok (.putfield 99, 3) := by decide +kernel
theorem dX12_init_242 : decode cX12_init 242 = .ok (.aload_n 0, 1) := by decide +kernel
theorem dX12_init_243 : decode cX12_init 243 = .ok (.bipush 16, 2) := by decide +kernel
theorem dX12_init_245 : decode cX12_init 245 = .ok (.newarray .int, 2) := by decide +kernel
theorem dX12_init_247 : decode cX12_init 247 = .ok (.putfield 102, 3) := by decide +kernel
theorem dX12_init_250 : decode cX12_init 250 = .ok (.aload_n 0, 1) := by decide +kernel
theorem dX12_init_251 : decode cX12_init 251 = .ok (.sipush 320, 3) := by decide +kernel
theorem dX12_init_254 : decode cX12_init 254 = .ok (.newarray .int, 2) := by decide +kernel
theorem dX12_init_256 : decode cX12_init 256 = .ok (.putfield 105, 3) := by decide +kernel
theorem dX12_init_259 : decode cX12_init 259 = .ok (.aload_n 0, 1) := by decide +kernel
theorem dX12_init_260 : decode cX12_init 260 = .ok (.sipush 320, 3) := by decide +kernel
theorem dX12_init_263 : decode cX12_init 263 = .ok (.newarray .int, 2) := by decide +kernel
theorem dX12_init_265 : decode cX12_init 265 = .ok (.putfield 108, 3) := by decide +kernel
theorem dX12_init_268 : decode cX12_init 268 = .ok (.aload_n 0, 1) := by decide +kernel
theorem dX12_init_269 : decode cX12_init 269 = .ok (.sipush 320, 3) := by decide +kernel
theorem dX12_init_272 : decode cX12_init 272 = .ok (.newarray .boolean, 2) := by decide +kernel
theorem dX12_init_274 : decode cX12_init 274 = .ok (.putfield 111, 3) := by decide +kernel
theorem dX12_init_277 : decode cX12_init 277 = .ok (.aload_n 0, 1) := by decide +kernel
theorem dX12_init_278 : decode cX12_init 278 = .ok (.sipush 1280, 3) := by decide +kernel
theorem dX12_init_281 : decode cX12_init 281 = .ok (.newarray .int, 2) := by decide +kernel
theorem dX12_init_283 : decode cX12_init 283 = .ok (.putfield 114, 3) := by decide +kernel
theorem dX12_init_286 : decode cX12_init 286 = .ok (.aload_n 0, 1) := by decide +kernel
theorem dX12_init_287 : decode cX12_init 287 = .ok (.sipush 1280, 3) := by decide +kernel
theorem dX12_init_290 : decode cX12_init 290 = .ok (.newarray .int, 2) := by decide +kernel
theorem dX12_init_292 : decode cX12_init 292 = .ok (.putfield 117, 3) := by decide +kernel
theorem dX12_init_295 : decode cX12_init 295 = .ok (.aload_n 0, 1) := by decide +kernel
theorem dX12_init_296 : decode cX12_init 296 = .ok (.sipush 1280, 3) := by decide +kernel
theorem dX12_init_299 : decode cX12_init 299 = .ok (.newarray .int, 2) := by decide +kernel
theorem dX12_init_301 : decode cX12_init 301 = .ok (.putfield 120, 3) := by decide +kernel
theorem dX12_init_304 : decode cX12_init 304 = .ok (.aload_n 0, 1) := by decide +kernel
theorem dX12_init_305 : decode cX12_init 305 = .ok (.iconst 4, 1) := by decide +kernel
theorem dX12_init_306 : decode cX12_init 306 = .ok (.newarray .int, 2) := by decide +kernel
theorem dX12_init_308 : decode cX12_init 308 = .ok (.putfield 123, 3) := by decide +kernel
theorem dX12_init_311 : decode cX12_init 311 = .ok (.aload_n 0, 1) := by decide +kernel
theorem dX12_init_312 : decode cX12_init 312 = .ok (.bipush 64, 2) := by decide +kernel
theorem dX12_init_314 : decode cX12_init 314 = .ok (.newarray .int, 2) := by decide +kernel
theorem dX12_init_316 : decode cX12_init 316 = .ok (.putfield 126, 3) := by decide +kernel
theorem dX12_init_319 : decode cX12_init 319 = .ok (.aload_n 0, 1) := by decide +kernel
theorem dX12_init_320 : decode cX12_init 320 = .ok (.bipush 64, 2) := by decide +kernel
theorem dX12_init_322 : decode cX12_init 322 = .ok (.newarray .int, 2) := by decide +kernel
theorem dX12_init_324 : decode cX12_init 324 = .ok (.putfield 129, 3) := by decide +kernel
theorem dX12_init_327 : decode cX12_init 327 = .ok (.aload_n 0, 1) := by decide +kernel
theorem dX12_init_328 : decode cX12_init 328 = .ok (.iconst 4, 1) := by decide +kernel
theorem dX12_init_329 : decode cX12_init 329 = .ok (.newarray .int, 2) := by decide +kernel
theorem dX12_init_331 : decode cX12_init 331 = .ok (.putfield 132, 3) := by decide +kernel
theorem dX12_init_334 : decode cX12_init 334 = .ok (.aload_n 0, 1) := by decide +kernel
theorem dX12_init_335 : decode cX12_init 335 = .ok (.sipush 480, 3) := by decide +kernel
theorem dX12_init_338 : decode cX12_init 338 = .ok (.newarray .int, 2) := by decide +kernel
theorem dX12_init_340 : decode cX12_init 340 = .ok (.putfield 135, 3) := by decide +kernel
theorem dX12_init_343 : decode cX12_init 343 = .ok (.aload_n 0, 1) := by decide +kernel
theorem dX12_init_344 : decode cX12_init 344 = .ok (.sipush 480, 3) := by decide +kernel
theorem dX12_init_347 : decode cX12_init 347 = .ok (.newarray .int, 2) := by decide +kernel
theorem dX12_init_349 : decode cX12_init 349 = .ok (.putfield 138, 3) := by decide +kernel
theorem dX12_init_352 : decode cX12_init 352 = .ok (.aload_n 0, 1) := by decide +kernel
theorem dX12_init_353 : decode cX12_init 353 = .ok (.sipush 480, 3) := by decide +kernel
theorem dX12_init_356 : decode cX12_init 356 = .ok (.newarray .int, 2) := by decide +kernel
theorem dX12_init_358 : decode cX12_init 358 = .ok (.putfield 141, 3) := by decide +kernel
theorem dX12_init_361 : decode cX12_init 361 = .ok (.aload_n 0, 1) := by decide +kernel
theorem dX12_init_362 : decode cX12_init 362 = .ok (.sipush 480, 3) := by decide +kernel
theorem dX12_init_365 : decode cX12_init 365 = .ok (.newarray .int, 2) := by decide +kernel
theorem dX12_init_367 : decode cX12_init 367 = .ok (.putfield 144, 3) := by decide +kernel
theorem dX12_init_370 : decode cX12_init 370 = .ok (.aload_n 0, 1) := by decide +kernel
theorem dX12_init_371 : decode cX12_init 371 = .ok (.sipush 480, 3) := by decide +kernel
theorem dX12_init_374 : decode cX12_init 374 = .ok (.newarray .int, 2) := by decide +kernel
theorem dX12_init_376 : decode cX12_init 376 = .ok (.putfield 147, 3) := by decide +kernel
theorem dX12_init_379 : decode cX12_init 379 = .ok (.aload_n 0, 1) := by decide +kernel
theorem dX12_init_380 : decode cX12_init 380 = .ok (.sipush 480, 3) := by decide +kernel
theorem dX12_init_383 : decode cX12_init 383 = .ok (.newarray .int, 2) := by decide +kernel
theorem dX12_init_385 : decode cX12_init 385 = .ok (.putfield 150, 3) := by decide +kernel
theorem dX12_init_388 : decode cX12_init 388 = .ok (.aload_n 0, 1) := by decide +kernel
theorem dX12_init_389 : decode cX12_init 389 = .ok (.sipush 480, 3) := by decide +kernel
theorem dX12_init_392 : decode cX12_init 392 = .ok (.newarray .int, 2) := by decide +kernel
theorem dX12_init_394 : decode cX12_init 394 = .ok (.putfield 153, 3) := by decide +kernel
theorem dX12_init_397 : decode cX12_init 397 = .ok (.aload_n 0, 1) := by decide +kernel
theorem dX12_init_398 : decode cX12_init 398 = .ok (.sipush 480, 3) := by decide +kernel
theorem dX12_init_401 : decode cX12_init 401 = .ok (.newarray .int, 2) := by decide +kernel
theorem dX12_init_403 : decode cX12_init 403 = .ok (.putfield 156, 3) := by decide +kernel
theorem dX12_init_406 : decode cX12_init 406 = .ok (.aload_n 0, 1) := by decide +kernel
theorem dX12_init_407 : decode cX12_init 407 = .ok (.sipush 7680, 3) := by decide +kernel
theorem dX12_init_410 : decode cX12_init 410 = .ok (.newarray .short, 2) := by decide +kernel
theorem dX12_init_412 : decode cX12_init 412 = .ok (.putfield 159, 3) := by decide +kernel
theorem dX12_init_415 : decode cX12_init 415 = .ok (.aload_n 0, 1) := by decide +kernel
theorem dX12_init_416 : decode cX12_init 416 = .ok (.iconst 4, 1) := by decide +kernel
theorem dX12_init_417 : decode cX12_init 417 = .ok (.newarray .int, 2) := by decide +kernel
theorem dX12_init_419 : decode cX12_init 419 = .ok (.putfield 163, 3) := by decide +kernel
theorem dX12_init_422 : decode cX12_init 422 = .ok (.aload_n 0, 1) := by decide +kernel
theorem dX12_init_423 : decode cX12_init 423 = .ok (.sipush 160, 3) := by decide +kernel
theorem dX12_init_426 : decode cX12_init 426 = .ok (.newarray .int, 2) := by decide +kernel
theorem dX12_init_428 : decode cX12_init 428 = .ok (.putfield 166, 3) := by decide +kernel
theorem dX12_init_431 : decode cX12_init 431 = .ok (.aload_n 0, 1) := by decide +kernel
theorem dX12_init_432 : decode cX12_init 432 = .ok (.sipush 160, 3) := by decide +kernel
theorem dX12_init_435 : decode cX12_init 435 = .ok (.newarray .int, 2) := by decide +kernel
theorem dX12_init_437 : decode cX12_init 437 = .ok (.putfield 169, 3) := by decide +kernel
theorem dX12_init_440 : decode cX12_init 440 = .ok (.aload_n 0, 1) := by decide +kernel
theorem dX12_init_441 : decode cX12_init 441 = .ok (.sipush 160, 3) := by decide +kernel
theorem dX12_init_444 : decode cX12_init 444 = .ok (.newarray .int, 2) := by decide +kernel
theorem dX12_init_446 : decode cX12_init 446 = .ok (.putfield 172, 3) := by decide +kernel
theorem dX12_init_449 : decode cX12_init 449 = .ok (.aload_n 0, 1) := by decide +kernel
theorem dX12_init_450 : decode cX12_init 450 = .ok (.sipush 160, 3) := by decide +kernel
theorem dX12_init_453 : decode cX12_init 453 = .ok (.newarray .int, 2) := by decide +kernel
theorem dX12_init_455 : decode cX12_init 455 = .ok (.putfield 175, 3) := by decide +kernel
theorem dX12_init_458 : decode cX12_init 458 = .ok (.aload_n 0, 1) := by decide +kernel
theorem dX12_init_459 : decode cX12_init 459 = .ok (.iconst 4, 1) := by decide +kernel
theorem dX12_init_460 : decode cX12_init 460 = .ok (.newarray .int, 2) := by decide +kernel
theorem dX12_init_462 : decode cX12_init 462 = .ok (.putfield 178, 3) := by decide +kernel
theorem dX12_init_465 : decode cX12_init 465 = .ok (.aload_n 0, 1) := by decide +kernel
theorem dX12_init_466 : decode cX12_init 466 = .ok (.bipush 32, 2) := by decide +kernel
theorem dX12_init_468 : decode cX12_init 468 = .ok (.newarray .int, 2) := by decide +kernel
theorem dX12_init_470 : decode cX12_init 470 = .ok (.putfield 181, 3) := by decide +kernel
theorem dX12_init_473 : decode cX12_init 473 = .ok (.aload_n 0, 1) := by decide +kernel
theorem dX12_init_474 : decode cX12_init 474 = .ok (.bipush 32, 2) := by decide +kernel
theorem dX12_init_476 : decode cX12_init 476 = .ok (.newarray .int, 2) := by decide +kernel
theorem dX12_init_478 : decode cX12_init 478 = .ok (.putfield 184, 3) := by decide +kernel
theorem dX12_init_481 : decode cX12_init 481 = .ok (.aload_n 0, 1) := by decide +kernel
theorem dX12_init_482 : decode cX12_init 482 = .ok (.bipush 32, 2) := by decide +kernel
theorem dX12_init_484 : decode cX12_init 484 = .ok (.newarray .int, 2) := by decide +kernel
theorem dX12_init_486 : decode cX12_init 486 = .ok (.putfield 187, 3) := by decide +kernel
theorem dX12_init_489 : decode cX12_init 489 = .ok (.aload_n 0, 1) := by decide +kernel
theorem dX12_init_490 : decode cX12_init 490 = .ok (.bipush 14, 2) := by decide +kernel
theorem dX12_init_492 : decode cX12_init 492 = .ok (.newarray .int, 2) := by decide +kernel
theorem dX12_init_494 : decode cX12_init 494 = .ok (.putfield 190, 3) := by decide +kernel
theorem dX12_init_497 : decode cX12_init 497 = .ok (.aload_n 0, 1) := by decide +kernel
theorem dX12_init_498 : decode cX12_init 498 = .ok (.bipush 6, 2) := by decide +kernel
theorem dX12_init_500 : decode cX12_init 500 = .ok (.newarray .int, 2) := by decide +kernel
theorem dX12_init_502 : decode cX12_init 502 = .ok (.putfield 193, 3) := by decide +kernel
theorem dX12_init_505 : decode cX12_init 505 = .ok (.aload_n 0, 1) := by decide +kernel
theorem dX12_init_506 : decode cX12_init 506 = .ok (.bipush 21, 2) := by decide +kernel
theorem dX12_init_508 : decode cX12_init 508 = .ok (.newarray .int, 2) := by decide +kernel
theorem dX12_init_510 : decode cX12_init 510 = .ok (.putfield 196, 3) := by decide +kernel
theorem dX12_init_513 : decode cX12_init 513 = .ok (.aload_n 0, 1) := by decide +kernel
theorem dX12_init_514 : decode cX12_init 514 = .ok (.bipush 21, 2) := by decide +kernel
theorem dX12_init_516 : decode cX12_init 516 = .ok (.newarray .int, 2) := by decide +kernel
theorem dX12_init_518 : decode cX12_init 518 = .ok (.putfield 199, 3) := by decide +kernel
theorem dX12_init_521 : decode cX12_init 521 = .ok (.aload_n 0, 1) := by decide +kernel
theorem dX12_init_522 : decode cX12_init 522 = .ok (.bipush 21, 2) := by decide +kernel
theorem dX12_init_524 : decode cX12_init 524 = .ok (.newarray .boolean, 2) := by decide +kernel
theorem dX12_init_526 : decode cX12_init 526 = .ok (.putfield 202, 3) := by decide +kernel
theorem dX12_init_529 : decode cX12_init 529 = .ok (.aload_n 0, 1) := by decide +kernel
theorem dX12_init_530 : decode cX12_init 530 = .ok (.bipush 80, 2) := by decide +kernel
theorem dX12_init_532 : decode cX12_init 532 = .ok (.newarray .int, 2) := by decide +kernel
theorem dX12_init_534 : decode cX12_init 534 = .ok (.putfield 205, 3) := by decide +kernel
theorem dX12_init_537 : decode cX12_init 537 = .ok (.aload_n 0, 1) := by decide +kernel
theorem dX12_init_538 : decode cX12_init 538 = .ok (.bipush 80, 2) := by decide +kernel
theorem dX12_init_540 : decode cX12_init 540 = .ok (.newarray .int, 2) := by decide +kernel
theorem dX12_init_542 : decode cX12_init 542 = .ok (.putfield 208, 3) := by decide +kernel
theorem dX12_init_545 : decode cX12_init 545 = .ok (.aload_n 0, 1) := by decide +kernel
theorem dX12_init_546 : decode cX12_init 546 = .ok (.bipush 80, 2) := by decide +kernel
theorem dX12_init_548 : decode cX12_init 548 = .ok (.newarray .int, 2) := by decide +kernel
theorem dX12_init_550 : decode cX12_init 550 = .ok (.putfield 211, 3) := by decide +kernel
theorem dX12_init_553 : decode cX12_init 553 = .ok (.aload_n 0, 1) := by decide +kernel
theorem dX12_init_554 : decode cX12_init 554 = .ok (.bipush 7, 2) := by decide +kernel
theorem dX12_init_556 : decode cX12_init 556 = .ok (.newarray .int, 2) := by decide +kernel
theorem dX12_init_558 : decode cX12_init 558 = .ok (.putfield 214, 3) := by decide +kernel
theorem dX12_init_561 : decode cX12_init 561 = .ok (.aload_n 0, 1) := by decide +kernel
theorem dX12_init_562 : decode cX12_init 562 = .ok (.bipush 24, 2) := by decide +kernel
theorem dX12_init_564 : decode cX12_init 564 = .ok (.newarray .int, 2) := by decide +kernel
theorem dX12_init_566 : decode cX12_init 566 = .ok (.putfield 217, 3) := by decide +kernel
theorem dX12_init_569 : decode cX12_init 569 = .ok (.aload_n 0, 1) := by decide +kernel
theorem dX12_init_570 : decode cX12_init 570 = .ok (.bipush 24, 2) := by decide +kernel
theorem dX12_init_572 : decode cX12_init 572 = .ok (.newarray .int, 2) := by decide +kernel
theorem dX12_init_574 : decode cX12_init 574 = .ok (.putfield 220, 3) := by decide +kernel
theorem dX12_init_577 : decode cX12_init 577 = .ok (.aload_n 0, 1) := by decide +kernel
theorem dX12_init_578 : decode cX12_init 578 = .ok (.bipush 64, 2) := by decide +kernel
theorem dX12_init_580 : decode cX12_init 580 = .ok (.newarray .int, 2) := by decide +kernel
theorem dX12_init_582 : decode cX12_init 582 = .ok (.putfield 223, 3) := by decide +kernel
theorem dX12_init_585 : decode cX12_init 585 = .ok (.aload_n 0, 1) := by decide +kernel
theorem dX12_init_586 : decode cX12_init 586 = .ok (.sipush 1200, 3) := by decide +kernel
theorem dX12_init_589 : decode cX12_init 589 = .ok (.newarray .int, 2) := by decide +kernel
theorem dX12_init_591 : decode cX12_init 591 = .ok (.putfield 226, 3) := by decide +kernel
theorem dX12_init_594 : decode cX12_init 594 = .ok (.aload_n 0, 1) := by decide +kernel
theorem dX12_init_595 : decode cX12_init 595 = .ok (.bipush 9, 2) := by decide +kernel
theorem dX12_init_597 : decode cX12_init 597 = .ok (.newarray .int, 2) := by decide +kernel
theorem dX12_init_599 : decode cX12_init 599 = .ok (.putfield 229, 3) := by decide +kernel
theorem dX12_init_602 : decode cX12_init 602 = .ok (.aload_n 0, 1) := by decide +kernel
theorem dX12_init_603 : decode cX12_init 603 = .ok (.bipush 9, 2) := by decide +kernel
theorem dX12_init_605 : decode cX12_init 605 = .ok (.newarray .int, 2) := by decide +kernel
theorem dX12_init_607 : decode cX12_init 607 = .ok (.putfield 232, 3) := by decide +kernel
theorem dX12_init_610 : decode cX12_init 610 = .ok (.aload_n 0, 1) := by decide +kernel
theorem dX12_init_611 : decode cX12_init 611 = .ok (.sipush 3072, 3) := by decide +kernel
theorem dX12_init_614 : decode cX12_init 614 = .ok (.newarray .int, 2) := by decide +kernel
theorem dX12_init_616 : decode cX12_init 616 = .ok (.putfield 235, 3) := by decide +kernel
theorem dX12_init_619 : decode cX12_init 619 = .ok (.aload_n 0, 1) := by decide +kernel
theorem dX12_init_620 : decode cX12_init 620 = .ok (.bipush 12, 2) := by decide +kernel
theorem dX12_init_622 : decode cX12_init 622 = .ok (.newarray .int, 2) := by decide +kernel
theorem dX12_init_624 : decode cX12_init 624 = .ok (.putfield 238, 3) := by decide +kernel
theorem dX12_init_627 : decode cX12_init 627 = .ok (.aload_n 0, 1) := by decide +kernel
theorem dX12_init_628 : decode cX12_init 628 = .ok (.bipush 12, 2) := by decide +kernel
theorem dX12_init_630 : decode cX12_init 630 = .ok (.newarray .int, 2) := by decide +kernel
theorem dX12_init_632 : decode cX12_init 632 = .ok (.putfield 241, 3) := by decide +kernel
theorem dX12_init_635 : decode cX12_init 635 = .ok (.aload_n 0, 1) := by decide +kernel
theorem dX12_init_636 : decode cX12_init 636 = .ok (.bipush 12, 2) := by decide +kernel
theorem dX12_init_638 : decode cX12_init 638 = .ok (.newarray .int, 2) := by decide +kernel
theorem dX12_init_640 : decode cX12_init 640 = .ok (.putfield 244, 3) := by decide +kernel
theorem dX12_init_643 : decode cX12_init 643 = .ok (.aload_n 0, 1) := by decide +kernel
theorem dX12_init_644 : decode cX12_init 644 = .ok (.iconst 3, 1) := by decide +kernel
theorem dX12_init_645 : decode cX12_init 645 = .ok (.newarray .boolean, 2) := by decide +kernel
theorem dX12_init_647 : decode cX12_init 647 = .ok (.putfield 247, 3) := by decide +kernel
theorem dX12_init_650 : decode cX12_init 650 = .ok (.aload_n 0, 1) := by decide +kernel
theorem dX12_init_651 : decode cX12_init 651 = .ok (.getfield 20, 3) := by decide +kernel
theorem dX12_init_654 : decode cX12_init 654 = .ok (.iconst 0, 1) := by decide +kernel
theorem dX12_init_655 : decode cX12_init 655 = .ok (.iconst (-1), 1) := by decide +kernel
theorem dX12_init_656 : decode cX12_init 656 = .ok (.iastore, 1) := by decide +kernel
theorem dX12_init_657 : decode cX12_init 657 = .ok (.iconst 0, 1) := by decide +kernel
theorem dX12_init_658 : decode cX12_init 658 = .ok (.istore_n 1, 1) := by decide +kernel
theorem dX12_init_659 : decode cX12_init 659 = .ok (.iload_n 1, 1) := by decide +kernel
theorem dX12_init_660 : decode cX12_init 660 = .ok (.bipush 36, 2) := by decide +kernel
theorem dX12_init_662 : decode cX12_init 662 = .ok (.if_icmp .ge 16, 3) := by decide +kernel
theorem dX12_init_665 : decode cX12_init 665 = .ok (.aload_n 0, 1) := by decide +kernel
theorem dX12_init_666 : decode cX12_init 666 = .ok (.getfield 47, 3) := by decide +kernel
theorem dX12_init_669 : decode cX12_init 669 = .ok (.iload_n 1, 1) := by decide +kernel
theorem dX12_init_670 : decode cX12_init 670 = .ok (.iconst 1, 1) := by decide +kernel
theorem dX12_init_671 : decode cX12_init 671 = .ok (.iastore, 1) := by decide +kernel
theorem dX12_init_672 : decode cX12_init 672 = .ok (.iinc 1 1, 3) := by decide +kernel
theorem dX12_init_675 : decode cX12_init 675 = .ok (.goto (-16), 3) := by decide +kernel
theorem dX12_init_678 : decode cX12_init 678 = .ok (.iconst 0, 1) := by decide +kernel
theorem dX12_init_679 : decode cX12_init 679 = .ok (.istore_n 1, 1) := by decide +kernel
theorem dX12_init_680 : decode cX12_init 680 = .ok (.iload_n 1, 1) := by decide +kernel
theorem dX12_init_681 : decode cX12_init 681 = .ok (.iconst 4, 1) := by decide +kernel
theorem dX12_init_682 : decode cX12_init 682 = .ok (.if_icmp .ge 37, 3) := by decide +kernel
theorem dX12_init_685 : decode cX12_init 685 = .ok (.iconst 0, 1) := by decide +kernel
theorem dX12_init_686 : decode cX12_init 686 = .ok (.istore_n 2, 1) := by decide +kernel
theorem dX12_init_687 : decode cX12_init 687 = .ok (.iload_n 2, 1) := by decide +kernel
theorem dX12_init_688 : decode cX12_init 688 = .ok (.bipush 8, 2) := by decide +kernel
theorem dX12_init_690 : decode cX12_init 690 = .ok (.if_icmp .ge 23, 3) := by decide +kernel
theorem dX12_init_693 : decode cX12_init 693 = .ok (.aload_n 0, 1) := by decide +kernel
theorem dX12_init_694 : decode cX12_init 694 = .ok (.getfield 93, 3) := by decide +kernel
theorem dX12_init_697 : decode cX12_init 697 = .ok (.bipush 8, 2) := by decide +kernel
theorem dX12_init_699 : decode cX12_init 699 = .ok (.iload_n 1, 1) := by decide +kernel
theorem dX12_init_700 : decode cX12_init 700 = .ok (.imul, 1) := by decide +kernel
theorem dX12_init_701 : decode cX12_init 701 = .ok (.iload_n 2, 1) := by decide +kernel
theorem dX12_init_702 : decode cX12_init 702 = .ok (.iadd, 1) := by decide +kernel
theorem dX12_init_703 : decode cX12_init 703 = .ok (.iload_n 2, 1) := by decide +kernel
theorem dX12_init_704 : decode cX12_init 704 = .ok (.iconst 1, 1) := by decide +kernel
theorem dX12_init_705 : decode cX12_init 705 = .ok (.iadd, 1) := by decide +kernel
theorem dX12_init_706 : decode cX12_init 706 = .ok (.iastore, 1) := by decide +kernel
theorem dX12_init_707 : decode cX12_init 707 = .ok (.iinc 2 1, 3) := by decide +kernel
theorem dX12_init_710 : decode cX12_init 710 = .ok (.goto (-23), 3) := by decide +kernel
theorem dX12_init_713 : decode cX12_init 713 = .ok (.iinc 1 1, 3) := by decide +kernel
theorem dX12_init_716 : decode cX12_init 716 = .ok (.goto (-36), 3) := by decide +kernel
theorem dX12_init_719 : decode cX12_init 719 = .ok (.return_, 1) := by decide +kernel
theorem dX12_in_0 : decode cX12_in 0 = .ok (.iload_n 0, 1) := by decide +kernel
theorem dX12_in_1 : decode cX12_in 1 = .ok (.iload_n 1, 1) := by decide +kernel
theorem dX12_in_2 : decode cX12_in 2 = .ok (.if_icmp .lt 12, 3) := by decide +kernel
theorem dX12_in_5 : decode cX12_in 5 = .ok (.iload_n 0, 1) := by decide +kernel
theorem dX12_in_6 : decode cX12_in 6 = .ok (.iload_n 2, 1) := by decide +kernel
theorem dX12_in_7 : decode cX12_in 7 = .ok (.if_icmp .gt 7, 3) := by decide +kernel
theorem dX12_in_10 : decode cX12_in 10 = .ok (.iconst 1, 1) := by decide +kernel
theorem dX12_in_11 : decode cX12_in 11 = .ok (.goto 4, 3) := by decide +kernel
theorem dX12_in_14 : decode cX12_in 14 = .ok (.iconst 0, 1) := by decide +kernel
theorem dX12_in_15 : decode cX12_in 15 = .ok (.ireturn, 1) := by decide +kernel
theorem dX12_move_0 : decode cX12_move 0 = .ok (.iconst 0, 1) := by decide +kernel
theorem dX12_move_1 : decode cX12_move 1 = .ok (.istore 4, 2) := by decide +kernel
theorem dX12_move_3 : decode cX12_move 3 = .ok (.iload 4, 2) := by decide +kernel
theorem dX12_move_5 : decode cX12_move 5 = .ok (.iload_n 1, 1) := by decide +kernel
theorem dX12_move_6 : decode cX12_move 6 = .ok (.if_icmp .ge 25, 3) := by decide +kernel
theorem dX12_move_9 : decode cX12_move 9 = .ok (.aload_n 0, 1) := by decide +kernel
theorem dX12_move_10 : decode cX12_move 10 = .ok (.iload_n 1, 1) := by decide +kernel
theorem dX12_move_11 : decode cX12_move 11 = .ok (.iload_n 3, 1) := by decide +kernel
theorem dX12_move_12 : decode cX12_move 12 = .ok (.imul, 1) := by decide +kernel
theorem dX12_move_13 : decode cX12_move 13 = .ok (.iload 4, 2) := by decide +kernel
theorem dX12_move_15 : decode cX12_move 15 = .ok (.iadd, 1) := by decide +kernel
theorem dX12_move_16 : decode cX12_move 16 = .ok (.aload_n 0, 1) := by decide +kernel
theorem dX12_move_17 : decode cX12_move 17 = .ok (.iload_n 1, 1) := by decide +kernel
theorem dX12_move_18 : decode cX12_move 18 = .ok (.iload_n 2, 1) := by decide +kernel
theorem dX12_move_19 : decode cX12_move 19 = .ok (.imul, 1) := by decide +kernel
theorem dX12_move_20 : decode cX12_move 20 = .ok (.iload 4, 2) := by decide +kernel
theorem dX12_move_22 : decode cX12_move 22 = .ok (.iadd, 1) := by decide +kernel
theorem dX12_move_23 : decode cX12_move 23 = .ok (.iaload, 1) := by decide +kernel
theorem dX12_move_24 : decode cX12_move 24 = .ok (.iastore, 1) := by decide +kernel
theorem dX12_move_25 : decode cX12_move 25 = .ok (.iinc 4 1, 3) := by decide +kernel
theorem dX12_move_28 : decode cX12_move 28 = .ok (.goto (-25), 3) := by decide +kernel
theorem dX12_move_31 : decode cX12_move 31 = .ok (.return_, 1) := by decide +kernel
theorem dX12_moveBits_0 : decode cX12_moveBits 0 = .ok (.iconst 0, 1) := by decide +kernel
theorem dX12_moveBits_1 : decode cX12_moveBits 1 = .ok (.istore 4, 2) := by decide +kernel
theorem dX12_moveBits_3 : decode cX12_moveBits 3 = .ok (.iload 4, 2) := by decide +kernel
theorem dX12_moveBits_5 : decode cX12_moveBits 5 = .ok (.iload_n 1, 1) := by decide +kernel
theorem dX12_moveBits_6 : decode cX12_moveBits 6 = .ok (.if_icmp .ge 25, 3) := by decide +kernel
theorem dX12_moveBits_9 : decode cX12_moveBits 9 = .ok (.aload_n 0, 1) := by decide +kernel
theorem dX12_moveBits_10 : decode cX12_moveBits 10 = .ok (.iload_n 1, 1) := by decide +kernel
theorem dX12_moveBits_11 : decode cX12_moveBits 11 = .ok (.iload_n 3, 1) := by decide +kernel
theorem dX12_moveBits_12 : decode cX12_moveBits 12 = .ok (.imul, 1) := by decide +kernel
theorem dX12_moveBits_13 : decode cX12_moveBits 13 = .ok (.iload 4, 2) := by decide +kernel
theorem dX12_moveBits_15 : decode cX12_moveBits 15 = .ok (.iadd, 1) := by decide +kernel
theorem dX12_moveBits_16 : decode cX12_moveBits 16 = .ok (.aload_n 0, 1) := by decide +kernel
theorem dX12_moveBits_17 : decode cX12_moveBits 17 = .ok (.iload_n 1, 1) := by decide +kernel
theorem dX12_moveBits_18 : decode cX12_moveBits 18 = .ok (.iload_n 2, 1) := by decide +kernel
theorem dX12_moveBits_19 : decode cX12_moveBits 19 = .ok (.imul, 1) := by decide +kernel
theorem dX12_moveBits_20 : decode cX12_moveBits 20 = .ok (.iload 4, 2) := by decide +kernel
theorem dX12_moveBits_22 : decode cX12_moveBits 22 = .ok (.iadd, 1) := by decide +kernel
theorem dX12_moveBits_23 : decode cX12_moveBits 23 = .ok (.baload, 1) := by decide +kernel
theorem dX12_moveBits_24 : decode cX12_moveBits 24 = .ok (.bastore, 1) := by decide +kernel
theorem dX12_moveBits_25 : decode cX12_moveBits 25 = .ok (.iinc 4 1, 3) := by decide +kernel
theorem dX12_moveBits_28 : decode cX12_moveBits 28 = .ok (.goto (-25), 3) := by decide +kernel
theorem dX12_moveBits_31 : decode cX12_moveBits 31 = .ok (.return_, 1) := by decide +kernel
theorem dX12_copyAll_0 : decode cX12_copyAll 0 = .ok (.iconst 0, 1) := by decide +kernel
theorem dX12_copyAll_1 : decode cX12_copyAll 1 = .ok (.istore_n 3, 1) := by decide +kernel
theorem dX12_copyAll_2 : decode cX12_copyAll 2 = .ok (.iload_n 3, 1) := by decide +kernel
theorem dX12_copyAll_3 : decode cX12_copyAll 3 = .ok (.sipush 500, 3) := by decide +kernel
theorem dX12_copyAll_6 : decode cX12_copyAll 6 = .ok (.if_icmp .ge 33, 3) := by decide +kernel
theorem dX12_copyAll_9 : decode cX12_copyAll 9 = .ok (.aload_n 0, 1) := by decide +kernel
theorem dX12_copyAll_10 : decode cX12_copyAll 10 = .ok (.getfield 7, 3) := by decide +kernel
theorem dX12_copyAll_13 : decode cX12_copyAll 13 = .ok (.sipush 500, 3) := by decide +kernel
theorem dX12_copyAll_16 : decode cX12_copyAll 16 = .ok (.iload_n 2, 1) := by decide +kernel
theorem dX12_copyAll_17 : decode cX12_copyAll 17 = .ok (.imul, 1) := by decide +kernel
theorem dX12_copyAll_18 : decode cX12_copyAll 18 = .ok (.iload_n 3, 1) := by decide +kernel
theorem dX12_copyAll_19 : decode cX12_copyAll 19 = .ok (.iadd, 1) := by decide +kernel
theorem dX12_copyAll_20 : decode cX12_copyAll 20 = .ok (.aload_n 0, 1) := by decide +kernel
theorem dX12_copyAll_21 : decode cX12_copyAll 21 = .ok (.getfield 7, 3) := by decide +kernel
theorem dX12_copyAll_24 : decode cX12_copyAll 24 = .ok (.sipush 500, 3) := by decide +kernel
theorem dX12_copyAll_27 : decode cX12_copyAll 27 = .ok (.iload_n 1, 1) := by decide +kernel
theorem dX12_copyAll_28 : decode cX12_copyAll 28 = .ok (.imul, 1) := by decide +kernel
theorem dX12_copyAll_29 : decode cX12_copyAll 29 = .ok (.iload_n 3, 1) := by decide +kernel
theorem dX12_copyAll_30 : decode cX12_copyAll 30 = .ok (.iadd, 1) := by decide +kernel
theorem dX12_copyAll_31 : decode cX12_copyAll 31 = .ok (.baload, 1) := by decide +kernel
theorem dX12_copyAll_32 : decode cX12_copyAll 32 = .ok (.bastore, 1) := by decide +kernel
theorem dX12_copyAll_33 : decode cX12_copyAll 33 = .ok (.iinc 3 1, 3) := by decide +kernel
theorem dX12_copyAll_36 : decode cX12_copyAll 36 = .ok (.goto (-34), 3) := by decide +kernel
theorem dX12_copyAll_39 : decode cX12_copyAll 39 = .ok (.aload_n 0, 1) := by decide +kernel
theorem dX12_copyAll_40 : decode cX12_copyAll 40 = .ok (.getfield 13, 3) := by decide +kernel
theorem dX12_copyAll_43 : decode cX12_copyAll 43 = .ok (.iconst 1, 1) := by decide +kernel
theorem dX12_copyAll_44 : decode cX12_copyAll 44 = .ok (.iload_n 1, 1) := by decide +kernel
theorem dX12_copyAll_45 : decode cX12_copyAll 45 = .ok (.iload_n 2, 1) := by decide +kernel
theorem dX12_copyAll_46 : decode cX12_copyAll 46 = .ok (.invokestatic 254, 3) := by decide +kernel
theorem dX12_copyAll_49 : decode cX12_copyAll 49 = .ok (.aload_n 0, 1) := by decide +kernel
theorem dX12_copyAll_50 : decode cX12_copyAll 50 = .ok (.getfield 17, 3) := by decide +kernel
theorem dX12_copyAll_53 : decode cX12_copyAll 53 = .ok (.iconst 1, 1) := by decide +kernel
theorem dX12_copyAll_54 : decode cX12_copyAll 54 = .ok (.iload_n 1, 1) := by decide +kernel
theorem dX12_copyAll_55 : decode cX12_copyAll 55 = .ok (.iload_n 2, 1) := by decide +kernel
theorem dX12_copyAll_56 : decode cX12_copyAll 56 = .ok (.invokestatic 254, 3) := by decide +kernel
theorem dX12_copyAll_59 : decode cX12_copyAll 59 = .ok (.aload_n 0, 1) := by decide +kernel
theorem dX12_copyAll_60 : decode cX12_copyAll 60 = .ok (.getfield 20, 3) := by decide +kernel
theorem dX12_copyAll_63 : decode cX12_copyAll 63 = .ok (.iconst 1, 1) := by decide +kernel
theorem dX12_copyAll_64 : decode cX12_copyAll 64 = .ok (.iload_n 1, 1) := by decide +kernel
theorem dX12_copyAll_65 : decode cX12_copyAll 65 = .ok (.iload_n 2, 1) := by decide +kernel
theorem dX12_copyAll_66 : decode cX12_copyAll 66 = .ok (.invokestatic 254, 3) := by decide +kernel
theorem dX12_copyAll_69 : decode cX12_copyAll 69 = .ok (.aload_n 0, 1) := by decide +kernel
theorem dX12_copyAll_70 : decode cX12_copyAll 70 = .ok (.getfield 23, 3) := by decide +kernel
theorem dX12_copyAll_73 : decode cX12_copyAll 73 = .ok (.iconst 1, 1) := by decide +kernel
theorem dX12_copyAll_74 : decode cX12_copyAll 74 = .ok (.iload_n 1, 1) := by decide +kernel
theorem dX12_copyAll_75 : decode cX12_copyAll 75 = .ok (.iload_n 2, 1) := by decide +kernel
theorem dX12_copyAll_76 : decode cX12_copyAll 76 = .ok (.invokestatic 254, 3) := by decide +kernel
theorem dX12_copyAll_79 : decode cX12_copyAll 79 = .ok (.aload_n 0, 1) := by decide +kernel
theorem dX12_copyAll_80 : decode cX12_copyAll 80 = .ok (.getfield 26, 3) := by decide +kernel
theorem dX12_copyAll_83 : decode cX12_copyAll 83 = .ok (.iconst 1, 1) := by decide +kernel
theorem dX12_copyAll_84 : decode cX12_copyAll 84 = .ok (.iload_n 1, 1) := by decide +kernel
theorem dX12_copyAll_85 : decode cX12_copyAll 85 = .ok (.iload_n 2, 1) := by decide +kernel
theorem dX12_copyAll_86 : decode cX12_copyAll 86 = .ok (.invokestatic 254, 3) := by decide +kernel
theorem dX12_copyAll_89 : decode cX12_copyAll 89 = .ok (.aload_n 0, 1) := by decide +kernel
theorem dX12_copyAll_90 : decode cX12_copyAll 90 = .ok (.getfield 29, 3) := by decide +kernel
theorem dX12_copyAll_93 : decode cX12_copyAll 93 = .ok (.bipush 6, 2) := by decide +kernel
theorem dX12_copyAll_95 : decode cX12_copyAll 95 = .ok (.iload_n 1, 1) := by decide +kernel
theorem dX12_copyAll_96 : decode cX12_copyAll 96 = .ok (.iload_n 2, 1) := by decide +kernel
theorem dX12_copyAll_97 : decode cX12_copyAll 97 = .ok (.invokestatic 254, 3) := by decide +kernel
theorem dX12_copyAll_100 : decode cX12_copyAll 100 = .ok (.aload_n 0, 1) := by decide +kernel
theorem dX12_copyAll_101 : decode cX12_copyAll 101 = .ok (.getfield 32, 3) := by decide +kernel
theorem dX12_copyAll_104 : decode cX12_copyAll 104 = .ok (.bipush 6, 2) := by decide +kernel
theorem dX12_copyAll_106 : decode cX12_copyAll 106 = .ok (.iload_n 1, 1) := by decide +kernel
theorem dX12_copyAll_107 : decode cX12_copyAll 107 = .ok (.iload_n 2, 1) := by decide +kernel
theorem dX12_copyAll_108 : decode cX12_copyAll 108 = .ok (.invokestatic 254, 3) := by decide +kernel
theorem dX12_copyAll_111 : decode cX12_copyAll 111 = .ok (.aload_n 0, 1) := by decide +kernel
theorem dX12_copyAll_112 : decode cX12_copyAll 112 = .ok (.getfield 35, 3) := by decide +kernel
theorem dX12_copyAll_115 : decode cX12_copyAll 115 = .ok (.bipush 36, 2) := by decide +kernel
theorem dX12_copyAll_117 : decode cX12_copyAll 117 = .ok (.iload_n 1, 1) := by decide +kernel
theorem dX12_copyAll_118 : decode cX12_copyAll 118 = .ok (.iload_n 2, 1) := by decide +kernel
theorem dX12_copyAll_119 : decode cX12_copyAll 119 = .ok (.invokestatic 254, 3) := by decide +kernel
theorem dX12_copyAll_122 : decode cX12_copyAll 122 = .ok (.aload_n 0, 1) := by decide +kernel
theorem dX12_copyAll_123 : decode cX12_copyAll 123 = .ok (.getfield 38, 3) := by decide +kernel
theorem dX12_copyAll_126 : decode cX12_copyAll 126 = .ok (.sipush 144, 3) := by decide +kernel
theorem dX12_copyAll_129 : decode cX12_copyAll 129 = .ok (.iload_n 1, 1) := by decide +kernel
theorem dX12_copyAll_130 : decode cX12_copyAll 130 = .ok (.iload_n 2, 1) := by decide +kernel
theorem dX12_copyAll_131 : decode cX12_copyAll 131 = .ok (.invokestatic 254, 3) := by decide +kernel
theorem dX12_copyAll_134 : decode cX12_copyAll 134 = .ok (.aload_n 0, 1) := by decide +kernel
theorem dX12_copyAll_135 : decode cX12_copyAll 135 = .ok (.getfield 41, 3) := by decide +kernel
theorem dX12_copyAll_138 : decode cX12_copyAll 138 = .ok (.bipush 6, 2) := by decide +kernel
theorem dX12_copyAll_140 : decode cX12_copyAll 140 = .ok (.iload_n 1, 1) := by decide +kernel
theorem dX12_copyAll_141 : decode cX12_copyAll 141 = .ok (.iload_n 2, 1) := by decide +kernel
theorem dX12_copyAll_142 : decode cX12_copyAll 142 = .ok (.invokestatic 254, 3) := by decide +kernel
theorem dX12_copyAll_145 : decode cX12_copyAll 145 = .ok (.aload_n 0, 1) := by decide +kernel
theorem dX12_copyAll_146 : decode cX12_copyAll 146 = .ok (.getfield 44, 3) := by decide +kernel
theorem dX12_copyAll_149 : decode cX12_copyAll 149 = .ok (.bipush 24, 2) := by decide +kernel
theorem dX12_copyAll_151 : decode cX12_copyAll 151 = .ok (.iload_n 1, 1) := by decide +kernel
theorem dX12_copyAll_152 : decode cX12_copyAll 152 = .ok (.iload_n 2, 1) := by decide +kernel
theorem dX12_copyAll_153 : decode cX12_copyAll 153 = .ok (.invokestatic 254, 3) := by decide +kernel
theorem dX12_copyAll_156 : decode cX12_copyAll 156 = .ok (.aload_n 0, 1) := by decide +kernel
theorem dX12_copyAll_157 : decode cX12_copyAll 157 = .ok (.getfield 47, 3) := by decide +kernel
theorem dX12_copyAll_160 : decode cX12_copyAll 160 = .ok (.bipush 36, 2) := by decide +kernel
theorem dX12_copyAll_162 : decode cX12_copyAll 162 = .ok (.iload_n 1, 1) := by decide +kernel
theorem dX12_copyAll_163 : decode cX12_copyAll 163 = .ok (.iload_n 2, 1) := by decide +kernel
theorem dX12_copyAll_164 : decode cX12_copyAll 164 = .ok (.invokestatic 254, 3) := by decide +kernel
theorem dX12_copyAll_167 : decode cX12_copyAll 167 = .ok (.aload_n 0, 1) := by decide +kernel
theorem dX12_copyAll_168 : decode cX12_copyAll 168 = .ok (.iload_n 1, 1) := by decide +kernel
theorem dX12_copyAll_169 : decode cX12_copyAll 169 = .ok (.iload_n 2, 1) := by decide +kernel
theorem dX12_copyAll_170 : decode cX12_copyAll 170 = .ok (.invokevirtual 258, 3) := by decide +kernel
theorem dX12_copyAll_173 : decode cX12_copyAll 173 = .ok (.aload_n 0, 1) := by decide +kernel
theorem dX12_copyAll_174 : decode cX12_copyAll 174 = .ok (.getfield 93, 3) := by decide +kernel
theorem dX12_copyAll_177 : decode cX12_copyAll 177 = .ok (.bipush 32, 2) := by decide +kernel
theorem dX12_copyAll_179 : decode cX12_copyAll 179 = .ok (.iload_n 1, 1) := by decide +kernel
theorem dX12_copyAll_180 : decode cX12_copyAll 180 = .ok (.iload_n 2, 1) := by decide +kernel
theorem dX12_copyAll_181 : decode cX12_copyAll 181 = .ok (.invokestatic 254, 3) := by decide +kernel
theorem dX12_copyAll_184 : decode cX12_copyAll 184 = .ok (.aload_n 0, 1) := by decide +kernel
theorem dX12_copyAll_185 : decode cX12_copyAll 185 = .ok (.getfield 96, 3) := by decide +kernel
theorem dX12_copyAll_188 : decode cX12_copyAll 188 = .ok (.iconst 1, 1) := by decide +kernel
theorem dX12_copyAll_189 : decode cX12_copyAll 189 = .ok (.iload_n 1, 1) := by decide +kernel
theorem dX12_copyAll_190 : decode cX12_copyAll 190 = .ok (.iload_n 2, 1) := by decide +kernel
theorem dX12_copyAll_191 : decode cX12_copyAll 191 = .ok (.invokestatic 254, 3) := by decide +kernel
theorem dX12_copyAll_194 : decode cX12_copyAll 194 = .ok (.aload_n 0, 1) := by decide +kernel
theorem dX12_copyAll_195 : decode cX12_copyAll 195 = .ok (.getfield 99, 3) := by decide +kernel
theorem dX12_copyAll_198 : decode cX12_copyAll 198 = .ok (.iconst 4, 1) := by decide +kernel
theorem dX12_copyAll_199 : decode cX12_copyAll 199 = .ok (.iload_n 1, 1) := by decide +kernel
theorem dX12_copyAll_200 : decode cX12_copyAll 200 = .ok (.iload_n 2, 1) := by decide +kernel
theorem dX12_copyAll_201 : decode cX12_copyAll 201 = .ok (.invokestatic 254, 3) := by decide +kernel
theorem dX12_copyAll_204 : decode cX12_copyAll 204 = .ok (.aload_n 0, 1) := by decide +kernel
theorem dX12_copyAll_205 : decode cX12_copyAll 205 = .ok (.getfield 102, 3) := by decide +kernel
theorem dX12_copyAll_208 : decode cX12_copyAll 208 = .ok (.iconst 4, 1) := by decide +kernel
theorem dX12_copyAll_209 : decode cX12_copyAll 209 = .ok (.iload_n 1, 1) := by decide +kernel
theorem dX12_copyAll_210 : decode cX12_copyAll 210 = .ok (.iload_n 2, 1) := by decide +kernel
theorem dX12_copyAll_211 : decode cX12_copyAll 211 = .ok (.invokestatic 254, 3) := by decide +kernel
theorem dX12_copyAll_214 : decode cX12_copyAll 214 = .ok (.aload_n 0, 1) := by decide +kernel
theorem dX12_copyAll_215 : decode cX12_copyAll 215 = .ok (.getfield 105, 3) := by decide +kernel
theorem dX12_copyAll_218 : decode cX12_copyAll 218 = .ok (.bipush 80, 2) := by decide +kernel
theorem dX12_copyAll_220 : decode cX12_copyAll 220 = .ok (.iload_n 1, 1) := by decide +kernel
theorem dX12_copyAll_221 : decode cX12_copyAll 221 = .ok (.iload_n 2, 1) := by decide +kernel
theorem dX12_copyAll_222 : decode cX12_copyAll 222 = .ok (.invokestatic 254, 3) := by decide +kernel
theorem dX12_copyAll_225 : decode cX12_copyAll 225 = .ok (.aload_n 0, 1) := by decide +kernel
theorem dX12_copyAll_226 : decode cX12_copyAll 226 = .ok (.getfield 108, 3) := by decide +kernel
theorem dX12_copyAll_229 : decode cX12_copyAll 229 = .ok (.bipush 80, 2) := by decide +kernel
theorem dX12_copyAll_231 : decode cX12_copyAll 231 = .ok (.iload_n 1, 1) := by decide +kernel
theorem dX12_copyAll_232 : decode cX12_copyAll 232 = .ok (.iload_n 2, 1) := by decide +kernel
theorem dX12_copyAll_233 : decode cX12_copyAll 233 = .ok (.invokestatic 254, 3) := by decide +kernel
theorem dX12_copyAll_236 : decode cX12_copyAll 236 = .ok (.aload_n 0, 1) := by decide +kernel
theorem dX12_copyAll_237 : decode cX12_copyAll 237 = .ok (.getfield 111, 3) := by decide +kernel
theorem dX12_copyAll_240 : decode cX12_copyAll 240 = .ok (.bipush 80, 2) := by decide +kernel
theorem dX12_copyAll_242 : decode cX12_copyAll 242 = .ok (.iload_n 1, 1) := by decide +kernel
theorem dX12_copyAll_243 : decode cX12_copyAll 243 = .ok (.iload_n 2, 1) := by decide +kernel
theorem dX12_copyAll_244 : decode cX12_copyAll 244 = .ok (.invokestatic 262, 3) := by decide +kernel
theorem dX12_copyAll_247 : decode cX12_copyAll 247 = .ok (.aload_n 0, 1) := by decide +kernel
theorem dX12_copyAll_248 : decode cX12_copyAll 248 = .ok (.getfield 114, 3) := by decide +kernel
theorem dX12_copyAll_251 : decode cX12_copyAll 251 = .ok (.sipush 320, 3) := by decide +kernel
theorem dX12_copyAll_254 : decode cX12_copyAll 254 = .ok (.iload_n 1, 1) := by decide +kernel
theorem dX12_copyAll_255 : decode cX12_copyAll 255 = .ok (.iload_n 2, 1) := by decide +kernel
theorem dX12_copyAll_256 : decode cX12_copyAll 256 = .ok (.invokestatic 254, 3) := by decide +kernel
theorem dX12_copyAll_259 : decode cX12_copyAll 259 = .ok (.aload_n 0, 1) := by decide +kernel
theorem dX12_copyAll_260 : decode cX12_copyAll 260 = .ok (.getfield 117, 3) := by decide +kernel
theorem dX12_copyAll_263 : decode cX12_copyAll 263 = .ok (.sipush 320, 3) := by decide +kernel
theorem dX12_copyAll_266 : decode cX12_copyAll 266 = .ok (.iload_n 1, 1) := by decide +kernel
theorem dX12_copyAll_267 : decode cX12_copyAll 267 = .ok (.iload_n 2, 1) := by decide +kernel
theorem dX12_copyAll_268 : decode cX12_copyAll 268 = .ok (.invokestatic 254, 3) := by decide +kernel
theorem dX12_copyAll_271 : decode cX12_copyAll 271 = .ok (.aload_n 0, 1) := by decide +kernel
theorem dX12_copyAll_272 : decode cX12_copyAll 272 = .ok (.getfield 120, 3) := by decide +kernel
theorem dX12_copyAll_275 : decode cX12_copyAll 275 = .ok (.sipush 320, 3) := by decide +kernel
theorem dX12_copyAll_278 : decode cX12_copyAll 278 = .ok (.iload_n 1, 1) := by decide +kernel
theorem dX12_copyAll_279 : decode cX12_copyAll 279 = .ok (.iload_n 2, 1) := by decide +kernel
theorem dX12_copyAll_280 : decode cX12_copyAll 280 = .ok (.invokestatic 254, 3) := by decide +kernel
theorem dX12_copyAll_283 : decode cX12_copyAll 283 = .ok (.aload_n 0, 1) := by decide +kernel
theorem dX12_copyAll_284 : decode cX12_copyAll 284 = .ok (.iload_n 1, 1) := by decide +kernel
theorem dX12_copyAll_285 : decode cX12_copyAll 285 = .ok (.iload_n 2, 1) := by decide +kernel
theorem dX12_copyAll_286 : decode cX12_copyAll 286 = .ok (.invokevirtual 266, 3) := by decide +kernel
theorem dX12_copyAll_289 : decode cX12_copyAll 289 = .ok (.return_, 1) := by decide +kernel
theorem dX12_copyPersons_0 : decode cX12_copyPersons 0 = .ok (.aload_n 0, 1) := by decide +kernel
theorem dX12_copyPersons_1 : decode cX12_copyPersons 1 = .ok (.getfield 50, 3) := by decide +kernel
theorem dX12_copyPersons_4 : decode cX12_copyPersons 4 = .ok (.iconst 1, 1) := by decide +kernel
theorem dX12_copyPersons_5 : decode cX12_copyPersons 5 = .ok (.iload_n 1, 1) := by decide +kernel
theorem dX12_copyPersons_6 : decode cX12_copyPersons 6 = .ok (.iload_n 2, 1) := by decide +kernel
theorem dX12_copyPersons_7 : decode cX12_copyPersons 7 = .ok (.invokestatic 254, 3) := by decide +kernel
theorem dX12_copyPersons_10 : decode cX12_copyPersons 10 = .ok (.aload_n 0, 1) := by decide +kernel
theorem dX12_copyPersons_11 : decode cX12_copyPersons 11 = .ok (.getfield 53, 3) := by decide +kernel
theorem dX12_copyPersons_14 : decode cX12_copyPersons 14 = .ok (.bipush 16, 2) := by decide +kernel
theorem dX12_copyPersons_16 : decode cX12_copyPersons 16 = .ok (.iload_n 1, 1) := by decide +kernel
theorem dX12_copyPersons_17 : decode cX12_copyPersons 17 = .ok (.iload_n 2, 1) := by decide +kernel
theorem dX12_copyPersons_18 : decode cX12_copyPersons 18 = .ok (.invokestatic 254, 3) := by decide +kernel
theorem dX12_copyPersons_21 : decode cX12_copyPersons 21 = .ok (.aload_n 0, 1) := by decide +kernel
theorem dX12_copyPersons_22 : decode cX12_copyPersons 22 = .ok (.getfield 56, 3) := by decide +kernel
theorem dX12_copyPersons_25 : decode cX12_copyPersons 25 = .ok (.bipush 16, 2) := by decide +kernel
theorem dX12_copyPersons_27 : decode cX12_copyPersons 27 = .ok (.iload_n 1, 1) := by decide +kernel
theorem dX12_copyPersons_28 : decode cX12_copyPersons 28 = .ok (.iload_n 2, 1) := by decide +kernel
theorem dX12_copyPersons_29 : decode cX12_copyPersons 29 = .ok (.invokestatic 254, 3) := by decide +kernel
theorem dX12_copyPersons_32 : decode cX12_copyPersons 32 = .ok (.aload_n 0, 1) := by decide +kernel
theorem dX12_copyPersons_33 : decode cX12_copyPersons 33 = .ok (.getfield 59, 3) := by decide +kernel
theorem dX12_copyPersons_36 : decode cX12_copyPersons 36 = .ok (.bipush 16, 2) := by decide +kernel
theorem dX12_copyPersons_38 : decode cX12_copyPersons 38 = .ok (.iload_n 1, 1) := by decide +kernel
theorem dX12_copyPersons_39 : decode cX12_copyPersons 39 = .ok (.iload_n 2, 1) := by decide +kernel
theorem dX12_copyPersons_40 : decode cX12_copyPersons 40 = .ok (.invokestatic 254, 3) := by decide +kernel
theorem dX12_copyPersons_43 : decode cX12_copyPersons 43 = .ok (.aload_n 0, 1) := by decide +kernel
theorem dX12_copyPersons_44 : decode cX12_copyPersons 44 = .ok (.getfield 62, 3) := by decide +kernel
theorem dX12_copyPersons_47 : decode cX12_copyPersons 47 = .ok (.bipush 16, 2) := by decide +kernel
theorem dX12_copyPersons_49 : decode cX12_copyPersons 49 = .ok (.iload_n 1, 1) := by decide +kernel
theorem dX12_copyPersons_50 : decode cX12_copyPersons 50 = .ok (.iload_n 2, 1) := by decide +kernel
theorem dX12_copyPersons_51 : decode cX12_copyPersons 51 = .ok (.invokestatic 254, 3) := by decide +kernel
theorem dX12_copyPersons_54 : decode cX12_copyPersons 54 = .ok (.aload_n 0, 1) := by decide +kernel
theorem dX12_copyPersons_55 : decode cX12_copyPersons 55 = .ok (.getfield 65, 3) := by decide +kernel
theorem dX12_copyPersons_58 : decode cX12_copyPersons 58 = .ok (.bipush 16, 2) := by decide +kernel
theorem dX12_copyPersons_60 : decode cX12_copyPersons 60 = .ok (.iload_n 1, 1) := by decide +kernel
theorem dX12_copyPersons_61 : decode cX12_copyPersons 61 = .ok (.iload_n 2, 1) := by decide +kernel
theorem dX12_copyPersons_62 : decode cX12_copyPersons 62 = .ok (.invokestatic 254, 3) := by decide +kernel
theorem dX12_copyPersons_65 : decode cX12_copyPersons 65 = .ok (.aload_n 0, 1) := by decide +kernel
theorem dX12_copyPersons_66 : decode cX12_copyPersons 66 = .ok (.getfield 68, 3) := by decide +kernel
theorem dX12_copyPersons_69 : decode cX12_copyPersons 69 = .ok (.bipush 16, 2) := by decide +kernel
theorem dX12_copyPersons_71 : decode cX12_copyPersons 71 = .ok (.iload_n 1, 1) := by decide +kernel
theorem dX12_copyPersons_72 : decode cX12_copyPersons 72 = .ok (.iload_n 2, 1) := by decide +kernel
theorem dX12_copyPersons_73 : decode cX12_copyPersons 73 = .ok (.invokestatic 254, 3) := by decide +kernel
theorem dX12_copyPersons_76 : decode cX12_copyPersons 76 = .ok (.aload_n 0, 1) := by decide +kernel
theorem dX12_copyPersons_77 : decode cX12_copyPersons 77 = .ok (.getfield 71, 3) := by decide +kernel
theorem dX12_copyPersons_80 : decode cX12_copyPersons 80 = .ok (.bipush 16, 2) := by decide +kernel
theorem dX12_copyPersons_82 : decode cX12_copyPersons 82 = .ok (.iload_n 1, 1) := by decide +kernel
theorem dX12_copyPersons_83 : decode cX12_copyPersons 83 = .ok (.iload_n 2, 1) := by decide +kernel
theorem dX12_copyPersons_84 : decode cX12_copyPersons 84 = .ok (.invokestatic 254, 3) := by decide +kernel
theorem dX12_copyPersons_87 : decode cX12_copyPersons 87 = .ok (.aload_n 0, 1) := by decide +kernel
theorem dX12_copyPersons_88 : decode cX12_copyPersons 88 = .ok (.getfield 74, 3) := by decide +kernel
theorem dX12_copyPersons_91 : decode cX12_copyPersons 91 = .ok (.bipush 16, 2) := by decide +kernel
theorem dX12_copyPersons_93 : decode cX12_copyPersons 93 = .ok (.iload_n 1, 1) := by decide +kernel
theorem dX12_copyPersons_94 : decode cX12_copyPersons 94 = .ok (.iload_n 2, 1) := by decide +kernel
theorem dX12_copyPersons_95 : decode cX12_copyPersons 95 = .ok (.invokestatic 254, 3) := by decide +kernel
theorem dX12_copyPersons_98 : decode cX12_copyPersons 98 = .ok (.aload_n 0, 1) := by decide +kernel
theorem dX12_copyPersons_99 : decode cX12_copyPersons 99 = .ok (.getfield 77, 3) := by decide +kernel
theorem dX12_copyPersons_102 : decode cX12_copyPersons 102 = .ok (.bipush 16, 2) := by decide +kernel
theorem dX12_copyPersons_104 : decode cX12_copyPersons 104 = .ok (.iload_n 1, 1) := by decide +kernel
theorem dX12_copyPersons_105 : decode cX12_copyPersons 105 = .ok (.iload_n 2, 1) := by decide +kernel
theorem dX12_copyPersons_106 : decode cX12_copyPersons 106 = .ok (.invokestatic 254, 3) := by decide +kernel
theorem dX12_copyPersons_109 : decode cX12_copyPersons 109 = .ok (.aload_n 0, 1) := by decide +kernel
theorem dX12_copyPersons_110 : decode cX12_copyPersons 110 = .ok (.getfield 80, 3) := by decide +kernel
theorem dX12_copyPersons_113 : decode cX12_copyPersons 113 = .ok (.bipush 16, 2) := by decide +kernel
theorem dX12_copyPersons_115 : decode cX12_copyPersons 115 = .ok (.iload_n 1, 1) := by decide +kernel
theorem dX12_copyPersons_116 : decode cX12_copyPersons 116 = .ok (.iload_n 2, 1) := by decide +kernel
theorem dX12_copyPersons_117 : decode cX12_copyPersons 117 = .ok (.invokestatic 254, 3) := by decide +kernel
theorem dX12_copyPersons_120 : decode cX12_copyPersons 120 = .ok (.aload_n 0, 1) := by decide +kernel
theorem dX12_copyPersons_121 : decode cX12_copyPersons 121 = .ok (.getfield 83, 3) := by decide +kernel
theorem dX12_copyPersons_124 : decode cX12_copyPersons 124 = .ok (.bipush 16, 2) := by decide +kernel
theorem dX12_copyPersons_126 : decode cX12_copyPersons 126 = .ok (.iload_n 1, 1) := by decide +kernel
theorem dX12_copyPersons_127 : decode cX12_copyPersons 127 = .ok (.iload_n 2, 1) := by decide +kernel
theorem dX12_copyPersons_128 : decode cX12_copyPersons 128 = .ok (.invokestatic 254, 3) := by decide +kernel
theorem dX12_copyPersons_131 : decode cX12_copyPersons 131 = .ok (.aload_n 0, 1) := by decide +kernel
theorem dX12_copyPersons_132 : decode cX12_copyPersons 132 = .ok (.getfield 86, 3) := by decide +kernel
theorem dX12_copyPersons_135 : decode cX12_copyPersons 135 = .ok (.bipush 16, 2) := by decide +kernel
theorem dX12_copyPersons_137 : decode cX12_copyPersons 137 = .ok (.iload_n 1, 1) := by decide +kernel
theorem dX12_copyPersons_138 : decode cX12_copyPersons 138 = .ok (.iload_n 2, 1) := by decide +kernel
theorem dX12_copyPersons_139 : decode cX12_copyPersons 139 = .ok (.invokestatic 262, 3) := by decide +kernel
theorem dX12_copyPersons_142 : decode cX12_copyPersons 142 = .ok (.aload_n 0, 1) := by decide +kernel
theorem dX12_copyPersons_143 : decode cX12_copyPersons 143 = .ok (.getfield 90, 3) := by decide +kernel
theorem dX12_copyPersons_146 : decode cX12_copyPersons 146 = .ok (.bipush 16, 2) := by decide +kernel
theorem dX12_copyPersons_148 : decode cX12_copyPersons 148 = .ok (.iload_n 1, 1) := by decide +kernel
theorem dX12_copyPersons_149 : decode cX12_copyPersons 149 = .ok (.iload_n 2, 1) := by decide +kernel
theorem dX12_copyPersons_150 : decode cX12_copyPersons 150 = .ok (.invokestatic 254, 3) := by decide +kernel
theorem dX12_copyPersons_153 : decode cX12_copyPersons 153 = .ok (.return_, 1) := by decide +kernel
theorem dX12_copyRows_0 : decode cX12_copyRows 0 = .ok (.aload_n 0, 1) := by decide +kernel
theorem dX12_copyRows_1 : decode cX12_copyRows 1 = .ok (.getfield 123, 3) := by decide +kernel
theorem dX12_copyRows_4 : decode cX12_copyRows 4 = .ok (.iconst 1, 1) := by decide +kernel
theorem dX12_copyRows_5 : decode cX12_copyRows 5 = .ok (.iload_n 1, 1) := by decide +kernel
theorem dX12_copyRows_6 : decode cX12_copyRows 6 = .ok (.iload_n 2, 1) := by decide +kernel
theorem dX12_copyRows_7 : decode cX12_copyRows 7 = .ok (.invokestatic 254, 3) := by decide +kernel
theorem dX12_copyRows_10 : decode cX12_copyRows 10 = .ok (.aload_n 0, 1) := by decide +kernel
theorem dX12_copyRows_11 : decode cX12_copyRows 11 = .ok (.getfield 126, 3) := by decide +kernel
theorem dX12_copyRows_14 : decode cX12_copyRows 14 = .ok (.bipush 16, 2) := by decide +kernel
theorem dX12_copyRows_16 : decode cX12_copyRows 16 = .ok (.iload_n 1, 1) := by decide +kernel
theorem dX12_copyRows_17 : decode cX12_copyRows 17 = .ok (.iload_n 2, 1) := by decide +kernel
theorem dX12_copyRows_18 : decode cX12_copyRows 18 = .ok (.invokestatic 254, 3) := by decide +kernel
theorem dX12_copyRows_21 : decode cX12_copyRows 21 = .ok (.aload_n 0, 1) := by decide +kernel
theorem dX12_copyRows_22 : decode cX12_copyRows 22 = .ok (.getfield 129, 3) := by decide +kernel
theorem dX12_copyRows_25 : decode cX12_copyRows 25 = .ok (.bipush 16, 2) := by decide +kernel
theorem dX12_copyRows_27 : decode cX12_copyRows 27 = .ok (.iload_n 1, 1) := by decide +kernel
theorem dX12_copyRows_28 : decode cX12_copyRows 28 = .ok (.iload_n 2, 1) := by decide +kernel
theorem dX12_copyRows_29 : decode cX12_copyRows 29 = .ok (.invokestatic 254, 3) := by decide +kernel
theorem dX12_copyRows_32 : decode cX12_copyRows 32 = .ok (.aload_n 0, 1) := by decide +kernel
theorem dX12_copyRows_33 : decode cX12_copyRows 33 = .ok (.getfield 132, 3) := by decide +kernel
theorem dX12_copyRows_36 : decode cX12_copyRows 36 = .ok (.iconst 1, 1) := by decide +kernel
theorem dX12_copyRows_37 : decode cX12_copyRows 37 = .ok (.iload_n 1, 1) := by decide +kernel
theorem dX12_copyRows_38 : decode cX12_copyRows 38 = .ok (.iload_n 2, 1) := by decide +kernel
theorem dX12_copyRows_39 : decode cX12_copyRows 39 = .ok (.invokestatic 254, 3) := by decide +kernel
theorem dX12_copyRows_42 : decode cX12_copyRows 42 = .ok (.aload_n 0, 1) := by decide +kernel
theorem dX12_copyRows_43 : decode cX12_copyRows 43 = .ok (.getfield 135, 3) := by decide +kernel
theorem dX12_copyRows_46 : decode cX12_copyRows 46 = .ok (.bipush 120, 2) := by decide +kernel
theorem dX12_copyRows_48 : decode cX12_copyRows 48 = .ok (.iload_n 1, 1) := by decide +kernel
theorem dX12_copyRows_49 : decode cX12_copyRows 49 = .ok (.iload_n 2, 1) := by decide +kernel
theorem dX12_copyRows_50 : decode cX12_copyRows 50 = .ok (.invokestatic 254, 3) := by decide +kernel
theorem dX12_copyRows_53 : decode cX12_copyRows 53 = .ok (.aload_n 0, 1) := by decide +kernel
theorem dX12_copyRows_54 : decode cX12_copyRows 54 = .ok (.getfield 138, 3) := by decide +kernel
theorem dX12_copyRows_57 : decode cX12_copyRows 57 = .ok (.bipush 120, 2) := by decide +kernel
theorem dX12_copyRows_59 : decode cX12_copyRows 59 = .ok (.iload_n 1, 1) := by decide +kernel
theorem dX12_copyRows_60 : decode cX12_copyRows 60 = .ok (.iload_n 2, 1) := by decide +kernel
theorem dX12_copyRows_61 : decode cX12_copyRows 61 = .ok (.invokestatic 254, 3) := by decide +kernel
theorem dX12_copyRows_64 : decode cX12_copyRows 64 = .ok (.aload_n 0, 1) := by decide +kernel
theorem dX12_copyRows_65 : decode cX12_copyRows 65 = .ok (.getfield 141, 3) := by decide +kernel
theorem dX12_copyRows_68 : decode cX12_copyRows 68 = .ok (.bipush 120, 2) := by decide +kernel
theorem dX12_copyRows_70 : decode cX12_copyRows 70 = .ok (.iload_n 1, 1) := by decide +kernel
theorem dX12_copyRows_71 : decode cX12_copyRows 71 = .ok (.iload_n 2, 1) := by decide +kernel
theorem dX12_copyRows_72 : decode cX12_copyRows 72 = .ok (.invokestatic 254, 3) := by decide +kernel
theorem dX12_copyRows_75 : decode cX12_copyRows 75 = .ok (.aload_n 0, 1) := by decide +kernel
theorem dX12_copyRows_76 : decode cX12_copyRows 76 = .ok (.getfield 144, 3) := by decide +kernel
theorem dX12_copyRows_79 : decode cX12_copyRows 79 = .ok (.bipush 120, 2) := by decide +kernel
theorem dX12_copyRows_81 : decode cX12_copyRows 81 = .ok (.iload_n 1, 1) := by decide +kernel
theorem dX12_copyRows_82 : decode cX12_copyRows 82 = .ok (.iload_n 2, 1) := by decide +kernel
theorem dX12_copyRows_83 : decode cX12_copyRows 83 = .ok (.invokestatic 254, 3) := by decide +kernel
theorem dX12_copyRows_86 : decode cX12_copyRows 86 = .ok (.aload_n 0, 1) := by decide +kernel
theorem dX12_copyRows_87 : decode cX12_copyRows 87 = .ok (.getfield 147, 3) := by decide +kernel
theorem dX12_copyRows_90 : decode cX12_copyRows 90 = .ok (.bipush 120, 2) := by decide +kernel
theorem dX12_copyRows_92 : decode cX12_copyRows 92 = .ok (.iload_n 1, 1) := by decide +kernel
theorem dX12_copyRows_93 : decode cX12_copyRows 93 = .ok (.iload_n 2, 1) := by decide +kernel
theorem dX12_copyRows_94 : decode cX12_copyRows 94 = .ok (.invokestatic 254, 3) := by decide +kernel
theorem dX12_copyRows_97 : decode cX12_copyRows 97 = .ok (.aload_n 0, 1) := by decide +kernel
theorem dX12_copyRows_98 : decode cX12_copyRows 98 = .ok (.getfield 150, 3) := by decide +kernel
theorem dX12_copyRows_101 : decode cX12_copyRows 101 = .ok (.bipush 120, 2) := by decide +kernel
theorem dX12_copyRows_103 : decode cX12_copyRows 103 = .ok (.iload_n 1, 1) := by decide +kernel
theorem dX12_copyRows_104 : decode cX12_copyRows 104 = .ok (.iload_n 2, 1) := by decide +kernel
theorem dX12_copyRows_105 : decode cX12_copyRows 105 = .ok (.invokestatic 254, 3) := by decide +kernel
theorem dX12_copyRows_108 : decode cX12_copyRows 108 = .ok (.aload_n 0, 1) := by decide +kernel
theorem dX12_copyRows_109 : decode cX12_copyRows 109 = .ok (.getfield 153, 3) := by decide +kernel
theorem dX12_copyRows_112 : decode cX12_copyRows 112 = .ok (.bipush 120, 2) := by decide +kernel
theorem dX12_copyRows_114 : decode cX12_copyRows 114 = .ok (.iload_n 1, 1) := by decide +kernel
theorem dX12_copyRows_115 : decode cX12_copyRows 115 = .ok (.iload_n 2, 1) := by decide +kernel
theorem dX12_copyRows_116 : decode cX12_copyRows 116 = .ok (.invokestatic 254, 3) := by decide +kernel
theorem dX12_copyRows_119 : decode cX12_copyRows 119 = .ok (.aload_n 0, 1) := by decide +kernel
theorem dX12_copyRows_120 : decode cX12_copyRows 120 = .ok (.getfield 156, 3) := by decide +kernel
theorem dX12_copyRows_123 : decode cX12_copyRows 123 = .ok (.bipush 120, 2) := by decide +kernel
theorem dX12_copyRows_125 : decode cX12_copyRows 125 = .ok (.iload_n 1, 1) := by decide +kernel
theorem dX12_copyRows_126 : decode cX12_copyRows 126 = .ok (.iload_n 2, 1) := by decide +kernel
theorem dX12_copyRows_127 : decode cX12_copyRows 127 = .ok (.invokestatic 254, 3) := by decide +kernel
theorem dX12_copyRows_130 : decode cX12_copyRows 130 = .ok (.iconst 0, 1) := by decide +kernel
theorem dX12_copyRows_131 : decode cX12_copyRows 131 = .ok (.istore_n 3, 1) := by decide +kernel
theorem dX12_copyRows_132 : decode cX12_copyRows 132 = .ok (.iload_n 3, 1) := by decide +kernel
theorem dX12_copyRows_133 : decode cX12_copyRows 133 = .ok (.sipush 1920, 3) := by decide +kernel
theorem dX12_copyRows_136 : decode cX12_copyRows 136 = .ok (.if_icmp .ge 33, 3) := by decide +kernel
theorem dX12_copyRows_139 : decode cX12_copyRows 139 = .ok (.aload_n 0, 1) := by decide +kernel
theorem dX12_copyRows_140 : decode cX12_copyRows 140 = .ok (.getfield 159, 3) := by decide +kernel
theorem dX12_copyRows_143 : decode cX12_copyRows 143 = .ok (.sipush 1920, 3) := by decide +kernel
theorem dX12_copyRows_146 : decode cX12_copyRows 146 = .ok (.iload_n 2, 1) := by decide +kernel
theorem dX12_copyRows_147 : decode cX12_copyRows 147 = .ok (.imul, 1) := by decide +kernel
theorem dX12_copyRows_148 : decode cX12_copyRows 148 = .ok (.iload_n 3, 1) := by decide +kernel
theorem dX12_copyRows_149 : decode cX12_copyRows 149 = .ok (.iadd, 1) := by decide +kernel
theorem dX12_copyRows_150 : decode cX12_copyRows 150 = .ok (.aload_n 0, 1) := by decide +kernel
theorem dX12_copyRows_151 : decode cX12_copyRows 151 = .ok (.getfield 159, 3) := by decide +kernel
theorem dX12_copyRows_154 : decode cX12_copyRows 154 = .ok (.sipush 1920, 3) := by decide +kernel
theorem dX12_copyRows_157 : decode cX12_copyRows 157 = .ok (.iload_n 1, 1) := by decide +kernel
theorem dX12_copyRows_158 : decode cX12_copyRows 158 = .ok (.imul, 1) := by decide +kernel
theorem dX12_copyRows_159 : decode cX12_copyRows 159 = .ok (.iload_n 3, 1) := by decide +kernel
theorem dX12_copyRows_160 : decode cX12_copyRows 160 = .ok (.iadd, 1) := by decide +kernel
theorem dX12_copyRows_161 : decode cX12_copyRows 161 = .ok (.saload, 1) := by decide +kernel
theorem dX12_copyRows_162 : decode cX12_copyRows 162 = .ok (.sastore, 1) := by decide +kernel
theorem dX12_copyRows_163 : decode cX12_copyRows 163 = .ok (.iinc 3 1, 3) := by decide +kernel
theorem dX12_copyRows_166 : decode cX12_copyRows 166 = .ok (.goto (-34), 3) := by decide +kernel
theorem dX12_copyRows_169 : decode cX12_copyRows 169 = .ok (.aload_n 0, 1) := by decide +kernel
theorem dX12_copyRows_170 : decode cX12_copyRows 170 = .ok (.getfield 163, 3) := by decide +kernel
theorem dX12_copyRows_173 : decode cX12_copyRows 173 = .ok (.iconst 1, 1) := by decide +kernel
theorem dX12_copyRows_174 : decode cX12_copyRows 174 = .ok (.iload_n 1, 1) := by decide +kernel
theorem dX12_copyRows_175 : decode cX12_copyRows 175 = .ok (.iload_n 2, 1) := by decide +kernel
theorem dX12_copyRows_176 : decode cX12_copyRows 176 = .ok (.invokestatic 254, 3) := by decide +kernel
theorem dX12_copyRows_179 : decode cX12_copyRows 179 = .ok (.aload_n 0, 1) := by decide +kernel
theorem dX12_copyRows_180 : decode cX12_copyRows 180 = .ok (.getfield 166, 3) := by decide +kernel
theorem dX12_copyRows_183 : decode cX12_copyRows 183 = .ok (.bipush 40, 2) := by decide +kernel
theorem dX12_copyRows_185 : decode cX12_copyRows 185 = .ok (.iload_n 1, 1) := by decide +kernel
theorem dX12_copyRows_186 : decode cX12_copyRows 186 = .ok (.iload_n 2, 1) := by decide +kernel
theorem dX12_copyRows_187 : decode cX12_copyRows 187 = .ok (.invokestatic 254, 3) := by decide +kernel
theorem dX12_copyRows_190 : decode cX12_copyRows 190 = .ok (.aload_n 0, 1) := by decide +kernel
theorem dX12_copyRows_191 : decode cX12_copyRows 191 = .ok (.getfield 169, 3) := by decide +kernel
theorem dX12_copyRows_194 : decode cX12_copyRows 194 = .ok (.bipush 40, 2) := by decide +kernel
theorem dX12_copyRows_196 : decode cX12_copyRows 196 = .ok (.iload_n 1, 1) := by decide +kernel
theorem dX12_copyRows_197 : decode cX12_copyRows 197 = .ok (.iload_n 2, 1) := by decide +kernel
theorem dX12_copyRows_198 : decode cX12_copyRows 198 = .ok (.invokestatic 254, 3) := by decide +kernel
theorem dX12_copyRows_201 : decode cX12_copyRows 201 = .ok (.aload_n 0, 1) := by decide +kernel
theorem dX12_copyRows_202 : decode cX12_copyRows 202 = .ok (.getfield 172, 3) := by decide +kernel
theorem dX12_copyRows_205 : decode cX12_copyRows 205 = .ok (.bipush 40, 2) := by decide +kernel
theorem dX12_copyRows_207 : decode cX12_copyRows 207 = .ok (.iload_n 1, 1) := by decide +kernel
theorem dX12_copyRows_208 : decode cX12_copyRows 208 = .ok (.iload_n 2, 1) := by decide +kernel
theorem dX12_copyRows_209 : decode cX12_copyRows 209 = .ok (.invokestatic 254, 3) := by decide +kernel
theorem dX12_copyRows_212 : decode cX12_copyRows 212 = .ok (.aload_n 0, 1) := by decide +kernel
theorem dX12_copyRows_213 : decode cX12_copyRows 213 = .ok (.getfield 175, 3) := by decide +kernel
theorem dX12_copyRows_216 : decode cX12_copyRows 216 = .ok (.bipush 40, 2) := by decide +kernel
theorem dX12_copyRows_218 : decode cX12_copyRows 218 = .ok (.iload_n 1, 1) := by decide +kernel
theorem dX12_copyRows_219 : decode cX12_copyRows 219 = .ok (.iload_n 2, 1) := by decide +kernel
theorem dX12_copyRows_220 : decode cX12_copyRows 220 = .ok (.invokestatic 254, 3) := by decide +kernel
theorem dX12_copyRows_223 : decode cX12_copyRows 223 = .ok (.aload_n 0, 1) := by decide +kernel
theorem dX12_copyRows_224 : decode cX12_copyRows 224 = .ok (.getfield 178, 3) := by decide +kernel
theorem dX12_copyRows_227 : decode cX12_copyRows 227 = .ok (.iconst 1, 1) := by decide +kernel
theorem dX12_copyRows_228 : decode cX12_copyRows 228 = .ok (.iload_n 1, 1) := by decide +kernel
theorem dX12_copyRows_229 : decode cX12_copyRows 229 = .ok (.iload_n 2, 1) := by decide +kernel
theorem dX12_copyRows_230 : decode cX12_copyRows 230 = .ok (.invokestatic 254, 3) := by decide +kernel
theorem dX12_copyRows_233 : decode cX12_copyRows 233 = .ok (.aload_n 0, 1) := by decide +kernel
theorem dX12_copyRows_234 : decode cX12_copyRows 234 = .ok (.getfield 181, 3) := by decide +kernel
theorem dX12_copyRows_237 : decode cX12_copyRows 237 = .ok (.bipush 8, 2) := by decide +kernel
theorem dX12_copyRows_239 : decode cX12_copyRows 239 = .ok (.iload_n 1, 1) := by decide +kernel
theorem dX12_copyRows_240 : decode cX12_copyRows 240 = .ok (.iload_n 2, 1) := by decide +kernel
theorem dX12_copyRows_241 : decode cX12_copyRows 241 = .ok (.invokestatic 254, 3) := by decide +kernel
theorem dX12_copyRows_244 : decode cX12_copyRows 244 = .ok (.aload_n 0, 1) := by decide +kernel
theorem dX12_copyRows_245 : decode cX12_copyRows 245 = .ok (.getfield 184, 3) := by decide +kernel
theorem dX12_copyRows_248 : decode cX12_copyRows 248 = .ok (.bipush 8, 2) := by decide +kernel
theorem dX12_copyRows_250 : decode cX12_copyRows 250 = .ok (.iload_n 1, 1) := by decide +kernel
theorem dX12_copyRows_251 : decode cX12_copyRows 251 = .ok (.iload_n 2, 1) := by decide +kernel
theorem dX12_copyRows_252 : decode cX12_copyRows 252 = .ok (.invokestatic 254, 3) := by decide +kernel
theorem dX12_copyRows_255 : decode cX12_copyRows 255 = .ok (.aload_n 0, 1) := by decide +kernel
theorem dX12_copyRows_256 : decode cX12_copyRows 256 = .ok (.getfield 187, 3) := by decide +kernel
theorem dX12_copyRows_259 : decode cX12_copyRows 259 = .ok (.bipush 8, 2) := by decide +kernel
theorem dX12_copyRows_261 : decode cX12_copyRows 261 = .ok (.iload_n 1, 1) := by decide +kernel
theorem dX12_copyRows_262 : decode cX12_copyRows 262 = .ok (.iload_n 2, 1) := by decide +kernel
theorem dX12_copyRows_263 : decode cX12_copyRows 263 = .ok (.invokestatic 254, 3) := by decide +kernel
theorem dX12_copyRows_266 : decode cX12_copyRows 266 = .ok (.return_, 1) := by decide +kernel
theorem dX12_isTongue_0 : decode cX12_isTongue 0 = .ok (.iload_n 1, 1) := by decide +kernel
theorem dX12_isTongue_1 : decode cX12_isTongue 1 = .ok (.iconst 0, 1) := by decide +kernel
theorem dX12_isTongue_2 : decode cX12_isTongue 2 = .ok (.aload_n 0, 1) := by decide +kernel
theorem dX12_isTongue_3 : decode cX12_isTongue 3 = .ok (.getfield 26, 3) := by decide +kernel
theorem dX12_isTongue_6 : decode cX12_isTongue 6 = .ok (.iconst 0, 1) := by decide +kernel
theorem dX12_isTongue_7 : decode cX12_isTongue 7 = .ok (.iaload, 1) := by decide +kernel
theorem dX12_isTongue_8 : decode cX12_isTongue 8 = .ok (.iconst 1, 1) := by decide +kernel
theorem dX12_isTongue_9 : decode cX12_isTongue 9 = .ok (.isub, 1) := by decide +kernel
theorem dX12_isTongue_10 : decode cX12_isTongue 10 = .ok (.invokestatic 269, 3) := by decide +kernel
theorem dX12_isTongue_13 : decode cX12_isTongue 13 = .ok (.ireturn, 1) := by decide +kernel
theorem dX12_isMeaning_0 : decode cX12_isMeaning 0 = .ok (.iload_n 0, 1) := by decide +kernel
theorem dX12_isMeaning_1 : decode cX12_isMeaning 1 = .ok (.iconst 0, 1) := by decide +kernel
theorem dX12_isMeaning_2 : decode cX12_isMeaning 2 = .ok (.bipush 23, 2) := by decide +kernel
theorem dX12_isMeaning_4 : decode cX12_isMeaning 4 = .ok (.invokestatic 269, 3) := by decide +kernel
theorem dX12_isMeaning_7 : decode cX12_isMeaning 7 = .ok (.ireturn, 1) := by decide +kernel
theorem dX12_isPlace_0 : decode cX12_isPlace 0 = .ok (.iload_n 0, 1) := by decide +kernel
theorem dX12_isPlace_1 : decode cX12_isPlace 1 = .ok (.iconst 0, 1) := by decide +kernel
theorem dX12_isPlace_2 : decode cX12_isPlace 2 = .ok (.iconst 5, 1) := by decide +kernel
theorem dX12_isPlace_3 : decode cX12_isPlace 3 = .ok (.invokestatic 269, 3) := by decide +kernel
theorem dX12_isPlace_6 : decode cX12_isPlace 6 = .ok (.ireturn, 1) := by decide +kernel
theorem dX12_isPerson_0 : decode cX12_isPerson 0 = .ok (.iload_n 1, 1) := by decide +kernel
theorem dX12_isPerson_1 : decode cX12_isPerson 1 = .ok (.iconst 0, 1) := by decide +kernel
theorem dX12_isPerson_2 : decode cX12_isPerson 2 = .ok (.aload_n 0, 1) := by decide +kernel
theorem dX12_isPerson_3 : decode cX12_isPerson 3 = .ok (.getfield 50, 3) := by decide +kernel
theorem dX12_isPerson_6 : decode cX12_isPerson 6 = .ok (.iconst 0, 1) := by decide +kernel
theorem dX12_isPerson_7 : decode cX12_isPerson 7 = .ok (.iaload, 1) := by decide +kernel
theorem dX12_isPerson_8 : decode cX12_isPerson 8 = .ok (.iconst 1, 1) := by decide +kernel
theorem dX12_isPerson_9 : decode cX12_isPerson 9 = .ok (.isub, 1) := by decide +kernel
theorem dX12_isPerson_10 : decode cX12_isPerson 10 = .ok (.invokestatic 269, 3) := by decide +kernel
theorem dX12_isPerson_13 : decode cX12_isPerson 13 = .ok (.ireturn, 1) := by decide +kernel
theorem dX12_isAlive_0 : decode cX12_isAlive 0 = .ok (.aload_n 0, 1) := by decide +kernel
theorem dX12_isAlive_1 : decode cX12_isAlive 1 = .ok (.iload_n 1, 1) := by decide +kernel
theorem dX12_isAlive_2 : decode cX12_isAlive 2 = .ok (.invokevirtual 273, 3) := by decide +kernel
theorem dX12_isAlive_5 : decode cX12_isAlive 5 = .ok (.ifCond .eq 17, 3) := by decide +kernel
theorem dX12_isAlive_22 : decode cX12_isAlive 22 = .ok (.iconst 0, 1) := by decide +kernel
theorem dX12_isAlive_23 : decode cX12_isAlive 23 = .ok (.ireturn, 1) := by decide +kernel
theorem dX12_isWorker_0 : decode cX12_isWorker 0 = .ok (.aload_n 0, 1) := by decide +kernel
theorem dX12_isWorker_1 : decode cX12_isWorker 1 = .ok (.iload_n 1, 1) := by decide +kernel
theorem dX12_isWorker_2 : decode cX12_isWorker 2 = .ok (.invokevirtual 273, 3) := by decide +kernel
theorem dX12_isWorker_5 : decode cX12_isWorker 5 = .ok (.ifCond .eq 17, 3) := by decide +kernel
theorem dX12_isWorker_22 : decode cX12_isWorker 22 = .ok (.iconst 0, 1) := by decide +kernel
theorem dX12_isWorker_23 : decode cX12_isWorker 23 = .ok (.ireturn, 1) := by decide +kernel
theorem dX12_isDay_0 : decode cX12_isDay 0 = .ok (.iload_n 0, 1) := by decide +kernel
theorem dX12_isDay_1 : decode cX12_isDay 1 = .ok (.iconst 0, 1) := by decide +kernel
theorem dX12_isDay_2 : decode cX12_isDay 2 = .ok (.sipush 999, 3) := by decide +kernel
theorem dX12_isDay_5 : decode cX12_isDay 5 = .ok (.invokestatic 269, 3) := by decide +kernel
theorem dX12_isDay_8 : decode cX12_isDay 8 = .ok (.ireturn, 1) := by decide +kernel
theorem dX12_tongue_0 : decode cX12_tongue 0 = .ok (.aload_n 0, 1) := by decide +kernel
theorem dX12_tongue_1 : decode cX12_tongue 1 = .ok (.iconst 0, 1) := by decide +kernel
theorem dX12_tongue_2 : decode cX12_tongue 2 = .ok (.putfield 250, 3) := by decide +kernel
theorem dX12_tongue_5 : decode cX12_tongue 5 = .ok (.aload_n 0, 1) := by decide +kernel
theorem dX12_tongue_6 : decode cX12_tongue 6 = .ok (.getfield 26, 3) := by decide +kernel
theorem dX12_tongue_9 : decode cX12_tongue 9 = .ok (.iconst 0, 1) := by decide +kernel
theorem dX12_tongue_10 : decode cX12_tongue 10 = .ok (.iaload, 1) := by decide +kernel
theorem dX12_tongue_11 : decode cX12_tongue 11 = .ok (.bipush 6, 2) := by decide +kernel
theorem dX12_tongue_13 : decode cX12_tongue 13 = .ok (.if_icmp .eq 16, 3) := by decide +kernel
theorem dX12_tongue_16 : decode cX12_tongue 16 = .ok (.iload_n 1, 1) := by decide +kernel
theorem dX12_tongue_17 : decode cX12_tongue 17 = .ok (.iconst (-1), 1) := by decide +kernel
theorem dX12_tongue_18 : decode cX12_tongue 18 = .ok (.if_icmp .eq 13, 3) := by decide +kernel
theorem dX12_tongue_21 : decode cX12_tongue 21 = .ok (.aload_n 0, 1) := by decide +kernel
theorem dX12_tongue_22 : decode cX12_tongue 22 = .ok (.iload_n 1, 1) := by decide +kernel
theorem dX12_tongue_23 : decode cX12_tongue 23 = .ok (.invokevirtual 291, 3) := by decide +kernel
theorem dX12_tongue_26 : decode cX12_tongue 26 = .ok (.ifCond .ne 5, 3) := by decide +kernel
theorem dX12_tongue_29 : decode cX12_tongue 29 = .ok (.iconst (-1), 1) := by decide +kernel
theorem dX12_tongue_30 : decode cX12_tongue 30 = .ok (.ireturn, 1) := by decide +kernel
theorem dX12_tongue_31 : decode cX12_tongue 31 = .ok (.aload_n 0, 1) := by decide +kernel
theorem dX12_tongue_32 : decode cX12_tongue 32 = .ok (.getfield 26, 3) := by decide +kernel
theorem dX12_tongue_35 : decode cX12_tongue 35 = .ok (.iconst 0, 1) := by decide +kernel
theorem dX12_tongue_36 : decode cX12_tongue 36 = .ok (.iaload, 1) := by decide +kernel
theorem dX12_tongue_37 : decode cX12_tongue 37 = .ok (.istore_n 2, 1) := by decide +kernel
theorem dX12_tongue_38 : decode cX12_tongue 38 = .ok (.aload_n 0, 1) := by decide +kernel
theorem dX12_tongue_39 : decode cX12_tongue 39 = .ok (.getfield 26, 3) := by decide +kernel
theorem dX12_tongue_42 : decode cX12_tongue 42 = .ok (.iconst 0, 1) := by decide +kernel
theorem dX12_tongue_43 : decode cX12_tongue 43 = .ok (.dup2, 1) := by decide +kernel
theorem dX12_tongue_44 : decode cX12_tongue 44 = .ok (.iaload, 1) := by decide +kernel
theorem dX12_tongue_45 : decode cX12_tongue 45 = .ok (.iconst 1, 1) := by decide +kernel
theorem dX12_tongue_46 : decode cX12_tongue 46 = .ok (.iadd, 1) := by decide +kernel
theorem dX12_tongue_47 : decode cX12_tongue 47 = .ok (.iastore, 1) := by decide +kernel
theorem dX12_tongue_48 : decode cX12_tongue 48 = .ok (.aload_n 0, 1) := by decide +kernel
theorem dX12_tongue_49 : decode cX12_tongue 49 = .ok (.getfield 29, 3) := by decide +kernel
theorem dX12_tongue_52 : decode cX12_tongue 52 = .ok (.iload_n 2, 1) := by decide +kernel
theorem dX12_tongue_53 : decode cX12_tongue 53 = .ok (.iload_n 1, 1) := by decide +kernel
theorem dX12_tongue_54 : decode cX12_tongue 54 = .ok (.iastore, 1) := by decide +kernel
theorem dX12_tongue_55 : decode cX12_tongue 55 = .ok (.aload_n 0, 1) := by decide +kernel
theorem dX12_tongue_56 : decode cX12_tongue 56 = .ok (.getfield 32, 3) := by decide +kernel
theorem dX12_tongue_59 : decode cX12_tongue 59 = .ok (.iload_n 2, 1) := by decide +kernel
theorem dX12_tongue_60 : decode cX12_tongue 60 = .ok (.iconst 0, 1) := by decide +kernel
theorem dX12_tongue_61 : decode cX12_tongue 61 = .ok (.iastore, 1) := by decide +kernel
theorem dX12_tongue_62 : decode cX12_tongue 62 = .ok (.aload_n 0, 1) := by decide +kernel
theorem dX12_tongue_63 : decode cX12_tongue 63 = .ok (.getfield 41, 3) := by decide +kernel
theorem dX12_tongue_66 : decode cX12_tongue 66 = .ok (.iload_n 2, 1) := by decide +kernel
theorem dX12_tongue_67 : decode cX12_tongue 67 = .ok (.bipush 100, 2) := by decide +kernel
theorem dX12_tongue_69 : decode cX12_tongue 69 = .ok (.iastore, 1) := by decide +kernel
theorem dX12_tongue_70 : decode cX12_tongue 70 = .ok (.iconst 0, 1) := by decide +kernel
theorem dX12_tongue_71 : decode cX12_tongue 71 = .ok (.istore_n 3, 1) := by decide +kernel
theorem dX12_tongue_72 : decode cX12_tongue 72 = .ok (.iload_n 3, 1) := by decide +kernel
theorem dX12_tongue_73 : decode cX12_tongue 73 = .ok (.bipush 24, 2) := by decide +kernel
theorem dX12_tongue_75 : decode cX12_tongue 75 = .ok (.if_icmp .ge 21, 3) := by decide +kernel
theorem dX12_tongue_78 : decode cX12_tongue 78 = .ok (.aload_n 0, 1) := by decide +kernel
theorem dX12_tongue_79 : decode cX12_tongue 79 = .ok (.getfield 38, 3) := by decide +kernel
theorem dX12_tongue_82 : decode cX12_tongue 82 = .ok (.bipush 24, 2) := by decide +kernel
theorem dX12_tongue_84 : decode cX12_tongue 84 = .ok (.iload_n 2, 1) := by decide +kernel
theorem dX12_tongue_85 : decode cX12_tongue 85 = .ok (.imul, 1) := by decide +kernel
theorem dX12_tongue_86 : decode cX12_tongue 86 = .ok (.iload_n 3, 1) := by decide +kernel
theorem dX12_tongue_87 : decode cX12_tongue 87 = .ok (.iadd, 1) := by decide +kernel
theorem dX12_tongue_88 : decode cX12_tongue 88 = .ok (.iconst 0, 1) := by decide +kernel
theorem dX12_tongue_89 : decode cX12_tongue 89 = .ok (.iastore, 1) := by decide +kernel
theorem dX12_tongue_90 : decode cX12_tongue 90 = .ok (.iinc 3 1, 3) := by decide +kernel
theorem dX12_tongue_93 : decode cX12_tongue 93 = .ok (.goto (-21), 3) := by decide +kernel
theorem dX12_tongue_96 : decode cX12_tongue 96 = .ok (.iload_n 2, 1) := by decide +kernel
theorem dX12_tongue_97 : decode cX12_tongue 97 = .ok (.ireturn, 1) := by decide +kernel
theorem dX12_rule_0 : decode cX12_rule 0 = .ok (.aload_n 0, 1) := by decide +kernel
theorem dX12_rule_1 : decode cX12_rule 1 = .ok (.iconst 0, 1) := by decide +kernel
theorem dX12_rule_2 : decode cX12_rule 2 = .ok (.putfield 250, 3) := by decide +kernel
theorem dX12_rule_5 : decode cX12_rule 5 = .ok (.aload_n 0, 1) := by decide +kernel
theorem dX12_rule_6 : decode cX12_rule 6 = .ok (.iload_n 1, 1) := by decide +kernel
theorem dX12_rule_7 : decode cX12_rule 7 = .ok (.invokevirtual 291, 3) := by decide +kernel
theorem dX12_rule_10 : decode cX12_rule 10 = .ok (.ifCond .eq 61, 3) := by decide +kernel
theorem dX12_rule_71 : decode cX12_rule 71 = .ok (.iconst (-1), 1) := by decide +kernel
theorem dX12_rule_72 : decode cX12_rule 72 = .ok (.ireturn, 1) := by decide +kernel
theorem dX12_unrule_0 : decode cX12_unrule 0 = .ok (.aload_n 0, 1) := by decide +kernel
theorem dX12_unrule_1 : decode cX12_unrule 1 = .ok (.iconst 0, 1) := by decide +kernel
theorem dX12_unrule_2 : decode cX12_unrule 2 = .ok (.putfield 250, 3) := by decide +kernel
theorem dX12_unrule_5 : decode cX12_unrule 5 = .ok (.aload_n 0, 1) := by decide +kernel
theorem dX12_unrule_6 : decode cX12_unrule 6 = .ok (.iload_n 1, 1) := by decide +kernel
theorem dX12_unrule_7 : decode cX12_unrule 7 = .ok (.invokevirtual 291, 3) := by decide +kernel
theorem dX12_unrule_10 : decode cX12_unrule 10 = .ok (.ifCond .eq 12, 3) := by decide +kernel
theorem dX12_unrule_22 : decode cX12_unrule 22 = .ok (.iconst 0, 1) := by decide +kernel
theorem dX12_unrule_23 : decode cX12_unrule 23 = .ok (.ireturn, 1) := by decide +kernel
theorem dX12_word_0 : decode cX12_word 0 = .ok (.aload_n 0, 1) := by decide +kernel
theorem dX12_word_1 : decode cX12_word 1 = .ok (.iconst 0, 1) := by decide +kernel
theorem dX12_word_2 : decode cX12_word 2 = .ok (.putfield 250, 3) := by decide +kernel
theorem dX12_word_5 : decode cX12_word 5 = .ok (.aload_n 0, 1) := by decide +kernel
theorem dX12_word_6 : decode cX12_word 6 = .ok (.iload_n 1, 1) := by decide +kernel
theorem dX12_word_7 : decode cX12_word 7 = .ok (.invokevirtual 291, 3) := by decide +kernel
theorem dX12_word_10 : decode cX12_word 10 = .ok (.ifCond .eq 21, 3) := by decide +kernel
theorem dX12_word_31 : decode cX12_word 31 = .ok (.iconst 0, 1) := by decide +kernel
theorem dX12_word_32 : decode cX12_word 32 = .ok (.ireturn, 1) := by decide +kernel
theorem dX12_form_0 : decode cX12_form 0 = .ok (.aload_n 0, 1) := by decide +kernel
theorem dX12_form_1 : decode cX12_form 1 = .ok (.iconst 0, 1) := by decide +kernel
theorem dX12_form_2 : decode cX12_form 2 = .ok (.putfield 250, 3) := by decide +kernel
theorem dX12_form_5 : decode cX12_form 5 = .ok (.aload_n 0, 1) := by decide +kernel
theorem dX12_form_6 : decode cX12_form 6 = .ok (.iload_n 1, 1) := by decide +kernel
theorem dX12_form_7 : decode cX12_form 7 = .ok (.invokevirtual 291, 3) := by decide +kernel
theorem dX12_form_10 : decode cX12_form 10 = .ok (.ifCond .eq 19, 3) := by decide +kernel
theorem dX12_form_29 : decode cX12_form 29 = .ok (.iconst 0, 1) := by decide +kernel
theorem dX12_form_30 : decode cX12_form 30 = .ok (.ireturn, 1) := by decide +kernel
theorem dX12_field_0 : decode cX12_field 0 = .ok (.aload_n 0, 1) := by decide +kernel
theorem dX12_field_1 : decode cX12_field 1 = .ok (.iconst 0, 1) := by decide +kernel
theorem dX12_field_2 : decode cX12_field 2 = .ok (.putfield 250, 3) := by decide +kernel
theorem dX12_field_5 : decode cX12_field 5 = .ok (.iload_n 1, 1) := by decide +kernel
theorem dX12_field_6 : decode cX12_field 6 = .ok (.invokestatic 294, 3) := by decide +kernel
theorem dX12_field_9 : decode cX12_field 9 = .ok (.ifCond .eq 12, 3) := by decide +kernel
theorem dX12_field_12 : decode cX12_field 12 = .ok (.iload_n 2, 1) := by decide +kernel
theorem dX12_field_13 : decode cX12_field 13 = .ok (.iconst 0, 1) := by decide +kernel
theorem dX12_field_14 : decode cX12_field 14 = .ok (.iconst 3, 1) := by decide +kernel
theorem dX12_field_15 : decode cX12_field 15 = .ok (.invokestatic 269, 3) := by decide +kernel
theorem dX12_field_18 : decode cX12_field 18 = .ok (.ifCond .ne 5, 3) := by decide +kernel
theorem dX12_field_21 : decode cX12_field 21 = .ok (.iconst 0, 1) := by decide +kernel
theorem dX12_field_22 : decode cX12_field 22 = .ok (.ireturn, 1) := by decide +kernel
theorem dX12_field_23 : decode cX12_field 23 = .ok (.aload_n 0, 1) := by decide +kernel
theorem dX12_field_24 : decode cX12_field 24 = .ok (.getfield 44, 3) := by decide +kernel
theorem dX12_field_27 : decode cX12_field 27 = .ok (.iload_n 1, 1) := by decide +kernel
theorem dX12_field_28 : decode cX12_field 28 = .ok (.iload_n 2, 1) := by decide +kernel
theorem dX12_field_29 : decode cX12_field 29 = .ok (.iastore, 1) := by decide +kernel
theorem dX12_field_30 : decode cX12_field 30 = .ok (.iconst 1, 1) := by decide +kernel
theorem dX12_field_31 : decode cX12_field 31 = .ok (.ireturn, 1) := by decide +kernel
theorem dX12_road_0 : decode cX12_road 0 = .ok (.aload_n 0, 1) := by decide +kernel
theorem dX12_road_1 : decode cX12_road 1 = .ok (.iconst 0, 1) := by decide +kernel
theorem dX12_road_2 : decode cX12_road 2 = .ok (.putfield 250, 3) := by decide +kernel
theorem dX12_road_5 : decode cX12_road 5 = .ok (.iload_n 1, 1) := by decide +kernel
theorem dX12_road_6 : decode cX12_road 6 = .ok (.invokestatic 303, 3) := by decide +kernel
theorem dX12_road_9 : decode cX12_road 9 = .ok (.ifCond .eq 25, 3) := by decide +kernel
theorem dX12_road_12 : decode cX12_road 12 = .ok (.iload_n 2, 1) := by decide +kernel
theorem dX12_road_13 : decode cX12_road 13 = .ok (.invokestatic 303, 3) := by decide +kernel
theorem dX12_road_16 : decode cX12_road 16 = .ok (.ifCond .eq 18, 3) := by decide +kernel
theorem dX12_road_19 : decode cX12_road 19 = .ok (.iload_n 1, 1) := by decide +kernel
theorem dX12_road_20 : decode cX12_road 20 = .ok (.iload_n 2, 1) := by decide +kernel
theorem dX12_road_21 : decode cX12_road 21 = .ok (.if_icmp .eq 13, 3) := by decide +kernel
theorem dX12_road_24 : decode cX12_road 24 = .ok (.iload_n 3, 1) := by decide +kernel
theorem dX12_road_25 : decode cX12_road 25 = .ok (.iconst 0, 1) := by decide +kernel
theorem dX12_road_26 : decode cX12_road 26 = .ok (.bipush 9, 2) := by decide +kernel
theorem dX12_road_28 : decode cX12_road 28 = .ok (.invokestatic 269, 3) := by decide +kernel
theorem dX12_road_31 : decode cX12_road 31 = .ok (.ifCond .ne 5, 3) := by decide +kernel
theorem dX12_road_34 : decode cX12_road 34 = .ok (.iconst 0, 1) := by decide +kernel
theorem dX12_road_35 : decode cX12_road 35 = .ok (.ireturn, 1) := by decide +kernel
theorem dX12_road_36 : decode cX12_road 36 = .ok (.aload_n 0, 1) := by decide +kernel
theorem dX12_road_37 : decode cX12_road 37 = .ok (.getfield 47, 3) := by decide +kernel
theorem dX12_road_40 : decode cX12_road 40 = .ok (.bipush 6, 2) := by decide +kernel
theorem dX12_road_42 : decode cX12_road 42 = .ok (.iload_n 1, 1) := by decide +kernel
theorem dX12_road_43 : decode cX12_road 43 = .ok (.imul, 1) := by decide +kernel
theorem dX12_road_44 : decode cX12_road 44 = .ok (.iload_n 2, 1) := by decide +kernel
theorem dX12_road_45 : decode cX12_road 45 = .ok (.iadd, 1) := by decide +kernel
theorem dX12_road_46 : decode cX12_road 46 = .ok (.iload_n 3, 1) := by decide +kernel
theorem dX12_road_47 : decode cX12_road 47 = .ok (.iastore, 1) := by decide +kernel
theorem dX12_road_48 : decode cX12_road 48 = .ok (.aload_n 0, 1) := by decide +kernel
theorem dX12_road_49 : decode cX12_road 49 = .ok (.getfield 47, 3) := by decide +kernel
theorem dX12_road_52 : decode cX12_road 52 = .ok (.bipush 6, 2) := by decide +kernel
theorem dX12_road_54 : decode cX12_road 54 = .ok (.iload_n 2, 1) := by decide +kernel
theorem dX12_road_55 : decode cX12_road 55 = .ok (.imul, 1) := by decide +kernel
theorem dX12_road_56 : decode cX12_road 56 = .ok (.iload_n 1, 1) := by decide +kernel
theorem dX12_road_57 : decode cX12_road 57 = .ok (.iadd, 1) := by decide +kernel
theorem dX12_road_58 : decode cX12_road 58 = .ok (.iload_n 3, 1) := by decide +kernel
theorem dX12_road_59 : decode cX12_road 59 = .ok (.iastore, 1) := by decide +kernel
theorem dX12_road_60 : decode cX12_road 60 = .ok (.iconst 1, 1) := by decide +kernel
theorem dX12_road_61 : decode cX12_road 61 = .ok (.ireturn, 1) := by decide +kernel
theorem dX12_person_0 : decode cX12_person 0 = .ok (.aload_n 0, 1) := by decide +kernel
theorem dX12_person_1 : decode cX12_person 1 = .ok (.iconst 0, 1) := by decide +kernel
theorem dX12_person_2 : decode cX12_person 2 = .ok (.putfield 250, 3) := by decide +kernel
theorem dX12_person_5 : decode cX12_person 5 = .ok (.aload_n 0, 1) := by decide +kernel
theorem dX12_person_6 : decode cX12_person 6 = .ok (.getfield 50, 3) := by decide +kernel
theorem dX12_person_9 : decode cX12_person 9 = .ok (.iconst 0, 1) := by decide +kernel
theorem dX12_person_10 : decode cX12_person 10 = .ok (.iaload, 1) := by decide +kernel
theorem dX12_person_11 : decode cX12_person 11 = .ok (.bipush 16, 2) := by decide +kernel
theorem dX12_person_13 : decode cX12_person 13 = .ok (.if_icmp .eq 37, 3) := by decide +kernel
theorem dX12_person_16 : decode cX12_person 16 = .ok (.iload_n 1, 1) := by decide +kernel
theorem dX12_person_17 : decode cX12_person 17 = .ok (.iconst 0, 1) := by decide +kernel
theorem dX12_person_18 : decode cX12_person 18 = .ok (.iconst 4, 1) := by decide +kernel
theorem dX12_person_19 : decode cX12_person 19 = .ok (.invokestatic 269, 3) := by decide +kernel
theorem dX12_person_22 : decode cX12_person 22 = .ok (.ifCond .eq 28, 3) := by decide +kernel
theorem dX12_person_25 : decode cX12_person 25 = .ok (.iload_n 2, 1) := by decide +kernel
theorem dX12_person_26 : decode cX12_person 26 = .ok (.iconst 0, 1) := by decide +kernel
theorem dX12_person_27 : decode cX12_person 27 = .ok (.iconst 3, 1) := by decide +kernel
theorem dX12_person_28 : decode cX12_person 28 = .ok (.invokestatic 269, 3) := by decide +kernel
theorem dX12_person_31 : decode cX12_person 31 = .ok (.ifCond .eq 19, 3) := by decide +kernel
theorem dX12_person_34 : decode cX12_person 34 = .ok (.aload_n 0, 1) := by decide +kernel
theorem dX12_person_35 : decode cX12_person 35 = .ok (.iload_n 3, 1) := by decide +kernel
theorem dX12_person_36 : decode cX12_person 36 = .ok (.invokevirtual 291, 3) := by decide +kernel
theorem dX12_person_39 : decode cX12_person 39 = .ok (.ifCond .eq 11, 3) := by decide +kernel
theorem dX12_person_50 : decode cX12_person 50 = .ok (.iconst (-1), 1) := by decide +kernel
theorem dX12_person_51 : decode cX12_person 51 = .ok (.ireturn, 1) := by decide +kernel
theorem dX12_have_0 : decode cX12_have 0 = .ok (.aload_n 0, 1) := by decide +kernel
theorem dX12_have_1 : decode cX12_have 1 = .ok (.iconst 0, 1) := by decide +kernel
theorem dX12_have_2 : decode cX12_have 2 = .ok (.putfield 250, 3) := by decide +kernel
theorem dX12_have_5 : decode cX12_have 5 = .ok (.aload_n 0, 1) := by decide +kernel
theorem dX12_have_6 : decode cX12_have 6 = .ok (.iload_n 1, 1) := by decide +kernel
theorem dX12_have_7 : decode cX12_have 7 = .ok (.invokevirtual 273, 3) := by decide +kernel
theorem dX12_have_10 : decode cX12_have 10 = .ok (.ifCond .eq 14, 3) := by decide +kernel
theorem dX12_have_24 : decode cX12_have 24 = .ok (.iconst 0, 1) := by decide +kernel
theorem dX12_have_25 : decode cX12_have 25 = .ok (.ireturn, 1) := by decide +kernel
theorem dX12_health_0 : decode cX12_health 0 = .ok (.aload_n 0, 1) := by decide +kernel
theorem dX12_health_1 : decode cX12_health 1 = .ok (.iconst 0, 1) := by decide +kernel
theorem dX12_health_2 : decode cX12_health 2 = .ok (.putfield 250, 3) := by decide +kernel
theorem dX12_health_5 : decode cX12_health 5 = .ok (.aload_n 0, 1) := by decide +kernel
theorem dX12_health_6 : decode cX12_health 6 = .ok (.iload_n 1, 1) := by decide +kernel
theorem dX12_health_7 : decode cX12_health 7 = .ok (.invokevirtual 307, 3) := by decide +kernel
theorem dX12_health_10 : decode cX12_health 10 = .ok (.ifCond .eq 13, 3) := by decide +kernel
theorem dX12_health_23 : decode cX12_health 23 = .ok (.iconst 0, 1) := by decide +kernel
theorem dX12_health_24 : decode cX12_health 24 = .ok (.ireturn, 1) := by decide +kernel
theorem dX12_go_0 : decode cX12_go 0 = .ok (.aload_n 0, 1) := by decide +kernel
theorem dX12_go_1 : decode cX12_go 1 = .ok (.iconst 0, 1) := by decide +kernel
theorem dX12_go_2 : decode cX12_go 2 = .ok (.putfield 250, 3) := by decide +kernel
theorem dX12_go_5 : decode cX12_go 5 = .ok (.aload_n 0, 1) := by decide +kernel
theorem dX12_go_6 : decode cX12_go 6 = .ok (.iload_n 1, 1) := by decide +kernel
theorem dX12_go_7 : decode cX12_go 7 = .ok (.invokevirtual 307, 3) := by decide +kernel
theorem dX12_go_10 : decode cX12_go 10 = .ok (.ifCond .eq 30, 3) := by decide +kernel
theorem dX12_go_40 : decode cX12_go 40 = .ok (.iconst 0, 1) := by decide +kernel
theorem dX12_go_41 : decode cX12_go 41 = .ok (.ireturn, 1) := by decide +kernel
theorem dX12_day_0 : decode cX12_day 0 = .ok (.aload_n 0, 1) := by decide +kernel
theorem dX12_day_1 : decode cX12_day 1 = .ok (.iconst 0, 1) := by decide +kernel
theorem dX12_day_2 : decode cX12_day 2 = .ok (.putfield 250, 3) := by decide +kernel
theorem dX12_day_5 : decode cX12_day 5 = .ok (.aload_n 0, 1) := by decide +kernel
theorem dX12_day_6 : decode cX12_day 6 = .ok (.getfield 23, 3) := by decide +kernel
theorem dX12_day_9 : decode cX12_day 9 = .ok (.iconst 0, 1) := by decide +kernel
theorem dX12_day_10 : decode cX12_day 10 = .ok (.iaload, 1) := by decide +kernel
theorem dX12_day_11 : decode cX12_day 11 = .ok (.sipush 999, 3) := by decide +kernel
theorem dX12_day_14 : decode cX12_day 14 = .ok (.if_icmp .ne 5, 3) := by decide +kernel
theorem dX12_day_19 : decode cX12_day 19 = .ok (.aload_n 0, 1) := by decide +kernel
theorem dX12_day_20 : decode cX12_day 20 = .ok (.getfield 23, 3) := by decide +kernel
theorem dX12_day_23 : decode cX12_day 23 = .ok (.iconst 0, 1) := by decide +kernel
theorem dX12_day_24 : decode cX12_day 24 = .ok (.dup2, 1) := by decide +kernel
theorem dX12_day_25 : decode cX12_day 25 = .ok (.iaload, 1) := by decide +kernel
theorem dX12_day_26 : decode cX12_day 26 = .ok (.iconst 1, 1) := by decide +kernel
theorem dX12_day_27 : decode cX12_day 27 = .ok (.iadd, 1) := by decide +kernel
theorem dX12_day_28 : decode cX12_day 28 = .ok (.iastore, 1) := by decide +kernel
theorem dX12_day_29 : decode cX12_day 29 = .ok (.iconst 0, 1) := by decide +kernel
theorem dX12_day_30 : decode cX12_day 30 = .ok (.istore_n 1, 1) := by decide +kernel
theorem dX12_day_31 : decode cX12_day 31 = .ok (.iload_n 1, 1) := by decide +kernel
theorem dX12_day_32 : decode cX12_day 32 = .ok (.aload_n 0, 1) := by decide +kernel
theorem dX12_day_33 : decode cX12_day 33 = .ok (.getfield 50, 3) := by decide +kernel
theorem dX12_day_36 : decode cX12_day 36 = .ok (.iconst 0, 1) := by decide +kernel
theorem dX12_day_37 : decode cX12_day 37 = .ok (.iaload, 1) := by decide +kernel
theorem dX12_day_38 : decode cX12_day 38 = .ok (.if_icmp .ge 100, 3) := by decide +kernel
theorem dX12_day_138 : decode cX12_day 138 = .ok (.aload_n 0, 1) := by decide +kernel
theorem dX12_day_139 : decode cX12_day 139 = .ok (.getfield 23, 3) := by decide +kernel
theorem dX12_day_142 : decode cX12_day 142 = .ok (.iconst 0, 1) := by decide +kernel
theorem dX12_day_143 : decode cX12_day 143 = .ok (.iaload, 1) := by decide +kernel
theorem dX12_day_144 : decode cX12_day 144 = .ok (.ireturn, 1) := by decide +kernel
theorem dX12_tell_0 : decode cX12_tell 0 = .ok (.aload_n 0, 1) := by decide +kernel
theorem dX12_tell_1 : decode cX12_tell 1 = .ok (.iconst 0, 1) := by decide +kernel
theorem dX12_tell_2 : decode cX12_tell 2 = .ok (.putfield 250, 3) := by decide +kernel
theorem dX12_tell_5 : decode cX12_tell 5 = .ok (.aload_n 0, 1) := by decide +kernel
theorem dX12_tell_6 : decode cX12_tell 6 = .ok (.iload_n 1, 1) := by decide +kernel
theorem dX12_tell_7 : decode cX12_tell 7 = .ok (.invokevirtual 273, 3) := by decide +kernel
theorem dX12_tell_10 : decode cX12_tell 10 = .ok (.ifCond .ne 6, 3) := by decide +kernel
theorem dX12_tell_13 : decode cX12_tell 13 = .ok (.bipush (-100), 2) := by decide +kernel
theorem dX12_tell_15 : decode cX12_tell 15 = .ok (.ireturn, 1) := by decide +kernel
theorem dX12_feed_0 : decode cX12_feed 0 = .ok (.aload_n 0, 1) := by decide +kernel
theorem dX12_feed_1 : decode cX12_feed 1 = .ok (.iconst 0, 1) := by decide +kernel
theorem dX12_feed_2 : decode cX12_feed 2 = .ok (.putfield 250, 3) := by decide +kernel
theorem dX12_feed_5 : decode cX12_feed 5 = .ok (.aload_n 0, 1) := by decide +kernel
theorem dX12_feed_6 : decode cX12_feed 6 = .ok (.getfield 13, 3) := by decide +kernel
theorem dX12_feed_9 : decode cX12_feed 9 = .ok (.iconst 0, 1) := by decide +kernel
theorem dX12_feed_10 : decode cX12_feed 10 = .ok (.iaload, 1) := by decide +kernel
theorem dX12_feed_11 : decode cX12_feed 11 = .ok (.bipush 20, 2) := by decide +kernel
theorem dX12_feed_13 : decode cX12_feed 13 = .ok (.iadd, 1) := by decide +kernel
theorem dX12_feed_14 : decode cX12_feed 14 = .ok (.sipush 500, 3) := by decide +kernel
theorem dX12_feed_17 : decode cX12_feed 17 = .ok (.if_icmp .le 5, 3) := by decide +kernel
theorem dX12_feed_22 : decode cX12_feed 22 = .ok (.aload_n 0, 1) := by decide +kernel
theorem dX12_feed_23 : decode cX12_feed 23 = .ok (.iload_n 1, 1) := by decide +kernel
theorem dX12_feed_24 : decode cX12_feed 24 = .ok (.invokevirtual 339, 3) := by decide +kernel
theorem dX12_feed_27 : decode cX12_feed 27 = .ok (.aload_n 0, 1) := by decide +kernel
theorem dX12_feed_28 : decode cX12_feed 28 = .ok (.iload_n 2, 1) := by decide +kernel
theorem dX12_feed_29 : decode cX12_feed 29 = .ok (.invokevirtual 339, 3) := by decide +kernel
theorem dX12_feed_32 : decode cX12_feed 32 = .ok (.aload_n 0, 1) := by decide +kernel
theorem dX12_feed_33 : decode cX12_feed 33 = .ok (.iload_n 3, 1) := by decide +kernel
theorem dX12_feed_34 : decode cX12_feed 34 = .ok (.invokevirtual 339, 3) := by decide +kernel
theorem dX12_feed_37 : decode cX12_feed 37 = .ok (.aload_n 0, 1) := by decide +kernel
theorem dX12_feed_38 : decode cX12_feed 38 = .ok (.iload 4, 2) := by decide +kernel
theorem dX12_feed_40 : decode cX12_feed 40 = .ok (.invokevirtual 339, 3) := by decide +kernel
theorem dX12_feed_43 : decode cX12_feed 43 = .ok (.aload_n 0, 1) := by decide +kernel
theorem dX12_feed_44 : decode cX12_feed 44 = .ok (.iload 5, 2) := by decide +kernel
theorem dX12_feed_46 : decode cX12_feed 46 = .ok (.invokevirtual 339, 3) := by decide +kernel
theorem dX12_feed_49 : decode cX12_feed 49 = .ok (.aload_n 0, 1) := by decide +kernel
theorem dX12_feed_50 : decode cX12_feed 50 = .ok (.getfield 13, 3) := by decide +kernel
theorem dX12_feed_53 : decode cX12_feed 53 = .ok (.iconst 0, 1) := by decide +kernel
theorem dX12_feed_54 : decode cX12_feed 54 = .ok (.iaload, 1) := by decide +kernel
theorem dX12_feed_55 : decode cX12_feed 55 = .ok (.ireturn, 1) := by decide +kernel
theorem dX12_four_0 : decode cX12_four 0 = .ok (.bipush 24, 2) := by decide +kernel
theorem dX12_four_2 : decode cX12_four 2 = .ok (.istore_n 2, 1) := by decide +kernel
theorem dX12_four_3 : decode cX12_four 3 = .ok (.iload_n 2, 1) := by decide +kernel
theorem dX12_four_4 : decode cX12_four 4 = .ok (.ifCond .lt 34, 3) := by decide +kernel
theorem dX12_four_7 : decode cX12_four 7 = .ok (.aload_n 0, 1) := by decide +kernel
theorem dX12_four_8 : decode cX12_four 8 = .ok (.getfield 7, 3) := by decide +kernel
theorem dX12_four_11 : decode cX12_four 11 = .ok (.aload_n 0, 1) := by decide +kernel
theorem dX12_four_12 : decode cX12_four 12 = .ok (.getfield 13, 3) := by decide +kernel
theorem dX12_four_15 : decode cX12_four 15 = .ok (.iconst 0, 1) := by decide +kernel
theorem dX12_four_16 : decode cX12_four 16 = .ok (.iaload, 1) := by decide +kernel
theorem dX12_four_17 : decode cX12_four 17 = .ok (.iload_n 1, 1) := by decide +kernel
theorem dX12_four_18 : decode cX12_four 18 = .ok (.iload_n 2, 1) := by decide +kernel
theorem dX12_four_19 : decode cX12_four 19 = .ok (.ishr, 1) := by decide +kernel
theorem dX12_four_20 : decode cX12_four 20 = .ok (.i2b, 1) := by decide +kernel
theorem dX12_four_21 : decode cX12_four 21 = .ok (.bastore, 1) := by decide +kernel
theorem dX12_four_22 : decode cX12_four 22 = .ok (.aload_n 0, 1) := by decide +kernel
theorem dX12_four_23 : decode cX12_four 23 = .ok (.getfield 13, 3) := by decide +kernel
theorem dX12_four_26 : decode cX12_four 26 = .ok (.iconst 0, 1) := by decide +kernel
theorem dX12_four_27 : decode cX12_four 27 = .ok (.dup2, 1) := by decide +kernel
theorem dX12_four_28 : decode cX12_four 28 = .ok (.iaload, 1) := by decide +kernel
theorem dX12_four_29 : decode cX12_four 29 = .ok (.iconst 1, 1) := by decide +kernel
theorem dX12_four_30 : decode cX12_four 30 = .ok (.iadd, 1) := by decide +kernel
theorem dX12_four_31 : decode cX12_four 31 = .ok (.iastore, 1) := by decide +kernel
theorem dX12_four_32 : decode cX12_four 32 = .ok (.iinc 2 (-8), 3) := by decide +kernel
theorem dX12_four_35 : decode cX12_four 35 = .ok (.goto (-32), 3) := by decide +kernel
theorem dX12_four_38 : decode cX12_four 38 = .ok (.return_, 1) := by decide +kernel
theorem dX12_end_0 : decode cX12_end 0 = .ok (.aload_n 0, 1) := by decide +kernel
theorem dX12_end_1 : decode cX12_end 1 = .ok (.iconst 0, 1) := by decide +kernel
theorem dX12_end_2 : decode cX12_end 2 = .ok (.putfield 250, 3) := by decide +kernel
theorem dX12_end_5 : decode cX12_end 5 = .ok (.iload_n 1, 1) := by decide +kernel
theorem dX12_end_6 : decode cX12_end 6 = .ok (.iconst 0, 1) := by decide +kernel
theorem dX12_end_7 : decode cX12_end 7 = .ok (.aload_n 0, 1) := by decide +kernel
theorem dX12_end_8 : decode cX12_end 8 = .ok (.getfield 13, 3) := by decide +kernel
theorem dX12_end_11 : decode cX12_end 11 = .ok (.iconst 0, 1) := by decide +kernel
theorem dX12_end_12 : decode cX12_end 12 = .ok (.iaload, 1) := by decide +kernel
theorem dX12_end_13 : decode cX12_end 13 = .ok (.invokestatic 269, 3) := by decide +kernel
theorem dX12_end_16 : decode cX12_end 16 = .ok (.ifCond .ne 5, 3) := by decide +kernel
theorem dX12_end_19 : decode cX12_end 19 = .ok (.iconst (-1), 1) := by decide +kernel
theorem dX12_end_20 : decode cX12_end 20 = .ok (.ireturn, 1) := by decide +kernel
theorem dX12_end_21 : decode cX12_end 21 = .ok (.aload_n 0, 1) := by decide +kernel
theorem dX12_end_22 : decode cX12_end 22 = .ok (.getfield 13, 3) := by decide +kernel
theorem dX12_end_25 : decode cX12_end 25 = .ok (.iconst 0, 1) := by decide +kernel
theorem dX12_end_26 : decode cX12_end 26 = .ok (.iload_n 1, 1) := by decide +kernel
theorem dX12_end_27 : decode cX12_end 27 = .ok (.iastore, 1) := by decide +kernel
theorem dX12_end_28 : decode cX12_end 28 = .ok (.iload_n 1, 1) := by decide +kernel
theorem dX12_end_29 : decode cX12_end 29 = .ok (.ireturn, 1) := by decide +kernel
theorem dX12_see_0 : decode cX12_see 0 = .ok (.aload_n 0, 1) := by decide +kernel
theorem dX12_see_1 : decode cX12_see 1 = .ok (.getfield 342, 3) := by decide +kernel
theorem dX12_see_4 : decode cX12_see 4 = .ok (.aload_n 0, 1) := by decide +kernel
theorem dX12_see_5 : decode cX12_see 5 = .ok (.getfield 345, 3) := by decide +kernel
theorem dX12_see_8 : decode cX12_see 8 = .ok (.if_icmp .ge 19, 3) := by decide +kernel
theorem dX12_see_27 : decode cX12_see 27 = .ok (.iconst (-1), 1) := by decide +kernel
theorem dX12_see_28 : decode cX12_see 28 = .ok (.ireturn, 1) := by decide +kernel
theorem dX12_token_0 : decode cX12_token 0 = .ok (.aload_n 0, 1) := by decide +kernel
theorem dX12_token_1 : decode cX12_token 1 = .ok (.invokevirtual 348, 3) := by decide +kernel
theorem dX12_token_4 : decode cX12_token 4 = .ok (.bipush 10, 2) := by decide +kernel
theorem dX12_token_6 : decode cX12_token 6 = .ok (.if_icmp .eq 12, 3) := by decide +kernel
theorem dX12_token_9 : decode cX12_token 9 = .ok (.aload_n 0, 1) := by decide +kernel
theorem dX12_token_10 : decode cX12_token 10 = .ok (.invokevirtual 348, 3) := by decide +kernel
theorem dX12_token_13 : decode cX12_token 13 = .ok (.bipush 32, 2) := by decide +kernel
theorem dX12_token_15 : decode cX12_token 15 = .ok (.if_icmp .ne 16, 3) := by decide +kernel
theorem dX12_token_31 : decode cX12_token 31 = .ok (.aload_n 0, 1) := by decide +kernel
theorem dX12_token_32 : decode cX12_token 32 = .ok (.aload_n 0, 1) := by decide +kernel
theorem dX12_token_33 : decode cX12_token 33 = .ok (.getfield 342, 3) := by decide +kernel
theorem dX12_token_36 : decode cX12_token 36 = .ok (.putfield 352, 3) := by decide +kernel
theorem dX12_token_39 : decode cX12_token 39 = .ok (.aload_n 0, 1) := by decide +kernel
theorem dX12_token_40 : decode cX12_token 40 = .ok (.invokevirtual 348, 3) := by decide +kernel
theorem dX12_token_43 : decode cX12_token 43 = .ok (.istore_n 1, 1) := by decide +kernel
theorem dX12_token_44 : decode cX12_token 44 = .ok (.aload_n 0, 1) := by decide +kernel
theorem dX12_token_45 : decode cX12_token 45 = .ok (.iload_n 1, 1) := by decide +kernel
theorem dX12_token_46 : decode cX12_token 46 = .ok (.putfield 355, 3) := by decide +kernel
theorem dX12_token_49 : decode cX12_token 49 = .ok (.aload_n 0, 1) := by decide +kernel
theorem dX12_token_50 : decode cX12_token 50 = .ok (.lconst 0, 1) := by decide +kernel
theorem dX12_token_51 : decode cX12_token 51 = .ok (.putfield 358, 3) := by decide +kernel
theorem dX12_token_54 : decode cX12_token 54 = .ok (.iconst 0, 1) := by decide +kernel
theorem dX12_token_55 : decode cX12_token 55 = .ok (.istore_n 2, 1) := by decide +kernel
theorem dX12_token_56 : decode cX12_token 56 = .ok (.iload_n 1, 1) := by decide +kernel
theorem dX12_token_57 : decode cX12_token 57 = .ok (.ifCond .ge 11, 3) := by decide +kernel
theorem dX12_token_60 : decode cX12_token 60 = .ok (.aload_n 0, 1) := by decide +kernel
theorem dX12_token_61 : decode cX12_token 61 = .ok (.iconst 0, 1) := by decide +kernel
theorem dX12_token_62 : decode cX12_token 62 = .ok (.putfield 362, 3) := by decide +kernel
theorem dX12_token_65 : decode cX12_token 65 = .ok (.goto 230, 3) := by decide +kernel
theorem dX12_token_295 : decode cX12_token 295 = .ok (.return_, 1) := by decide +kernel
theorem dX12_custom_0 : decode cX12_custom 0 = .ok (.aload_n 0, 1) := by decide +kernel
theorem dX12_custom_1 : decode cX12_custom 1 = .ok (.iconst 0, 1) := by decide +kernel
theorem dX12_custom_2 : decode cX12_custom 2 = .ok (.putfield 250, 3) := by decide +kernel
theorem dX12_custom_5 : decode cX12_custom 5 = .ok (.aload_n 0, 1) := by decide +kernel
theorem dX12_custom_6 : decode cX12_custom 6 = .ok (.aload_n 0, 1) := by decide +kernel
theorem dX12_custom_7 : decode cX12_custom 7 = .ok (.getfield 13, 3) := by decide +kernel
theorem dX12_custom_10 : decode cX12_custom 10 = .ok (.iconst 0, 1) := by decide +kernel
theorem dX12_custom_11 : decode cX12_custom 11 = .ok (.iaload, 1) := by decide +kernel
theorem dX12_custom_12 : decode cX12_custom 12 = .ok (.putfield 345, 3) := by decide +kernel
theorem dX12_custom_15 : decode cX12_custom 15 = .ok (.aload_n 0, 1) := by decide +kernel
theorem dX12_custom_16 : decode cX12_custom 16 = .ok (.getfield 13, 3) := by decide +kernel
theorem dX12_custom_19 : decode cX12_custom 19 = .ok (.iconst 0, 1) := by decide +kernel
theorem dX12_custom_20 : decode cX12_custom 20 = .ok (.iconst 0, 1) := by decide +kernel
theorem dX12_custom_21 : decode cX12_custom 21 = .ok (.iastore, 1) := by decide +kernel
theorem dX12_custom_22 : decode cX12_custom 22 = .ok (.aload_n 0, 1) := by decide +kernel
theorem dX12_custom_23 : decode cX12_custom 23 = .ok (.getfield 17, 3) := by decide +kernel
theorem dX12_custom_26 : decode cX12_custom 26 = .ok (.iconst 0, 1) := by decide +kernel
theorem dX12_custom_27 : decode cX12_custom 27 = .ok (.iconst 0, 1) := by decide +kernel
theorem dX12_custom_28 : decode cX12_custom 28 = .ok (.iastore, 1) := by decide +kernel
theorem dX12_custom_29 : decode cX12_custom 29 = .ok (.aload_n 0, 1) := by decide +kernel
theorem dX12_custom_30 : decode cX12_custom 30 = .ok (.getfield 20, 3) := by decide +kernel
theorem dX12_custom_33 : decode cX12_custom 33 = .ok (.iconst 0, 1) := by decide +kernel
theorem dX12_custom_34 : decode cX12_custom 34 = .ok (.iconst (-1), 1) := by decide +kernel
theorem dX12_custom_35 : decode cX12_custom 35 = .ok (.iastore, 1) := by decide +kernel
theorem dX12_custom_36 : decode cX12_custom 36 = .ok (.aload_n 0, 1) := by decide +kernel
theorem dX12_custom_37 : decode cX12_custom 37 = .ok (.getfield 96, 3) := by decide +kernel
theorem dX12_custom_40 : decode cX12_custom 40 = .ok (.iconst 0, 1) := by decide +kernel
theorem dX12_custom_41 : decode cX12_custom 41 = .ok (.iaload, 1) := by decide +kernel
theorem dX12_custom_42 : decode cX12_custom 42 = .ok (.iconst 4, 1) := by decide +kernel
theorem dX12_custom_43 : decode cX12_custom 43 = .ok (.if_icmp .eq 10, 3) := by decide +kernel
theorem dX12_custom_46 : decode cX12_custom 46 = .ok (.iload_n 1, 1) := by decide +kernel
theorem dX12_custom_47 : decode cX12_custom 47 = .ok (.invokestatic 428, 3) := by decide +kernel
theorem dX12_custom_50 : decode cX12_custom 50 = .ok (.ifCond .ne 6, 3) := by decide +kernel
theorem dX12_custom_53 : decode cX12_custom 53 = .ok (.bipush (-2), 2) := by decide +kernel
theorem dX12_custom_55 : decode cX12_custom 55 = .ok (.ireturn, 1) := by decide +kernel
theorem dX12_custom_56 : decode cX12_custom 56 = .ok (.aload_n 0, 1) := by decide +kernel
theorem dX12_custom_57 : decode cX12_custom 57 = .ok (.iconst 0, 1) := by decide +kernel
theorem dX12_custom_58 : decode cX12_custom 58 = .ok (.putfield 342, 3) := by decide +kernel
theorem dX12_custom_61 : decode cX12_custom 61 = .ok (.aload_n 0, 1) := by decide +kernel
theorem dX12_custom_62 : decode cX12_custom 62 = .ok (.iconst (-1), 1) := by decide +kernel
theorem dX12_custom_63 : decode cX12_custom 63 = .ok (.putfield 365, 3) := by decide +kernel
theorem dX12_custom_66 : decode cX12_custom 66 = .ok (.aload_n 0, 1) := by decide +kernel
theorem dX12_custom_67 : decode cX12_custom 67 = .ok (.iconst (-1), 1) := by decide +kernel
theorem dX12_custom_68 : decode cX12_custom 68 = .ok (.putfield 368, 3) := by decide +kernel
theorem dX12_custom_71 : decode cX12_custom 71 = .ok (.aload_n 0, 1) := by decide +kernel
theorem dX12_custom_72 : decode cX12_custom 72 = .ok (.iconst 0, 1) := by decide +kernel
theorem dX12_custom_73 : decode cX12_custom 73 = .ok (.putfield 401, 3) := by decide +kernel
theorem dX12_custom_76 : decode cX12_custom 76 = .ok (.iconst 1, 1) := by decide +kernel
theorem dX12_custom_77 : decode cX12_custom 77 = .ok (.istore_n 2, 1) := by decide +kernel
theorem dX12_custom_78 : decode cX12_custom 78 = .ok (.aload_n 0, 1) := by decide +kernel
theorem dX12_custom_79 : decode cX12_custom 79 = .ok (.invokevirtual 375, 3) := by decide +kernel
theorem dX12_custom_82 : decode cX12_custom 82 = .ok (.iload_n 2, 1) := by decide +kernel
theorem dX12_custom_83 : decode cX12_custom 83 = .ok (.ifCond .eq 18, 3) := by decide +kernel
theorem dX12_custom_86 : decode cX12_custom 86 = .ok (.aload_n 0, 1) := by decide +kernel
theorem dX12_custom_87 : decode cX12_custom 87 = .ok (.getfield 362, 3) := by decide +kernel
theorem dX12_custom_90 : decode cX12_custom 90 = .ok (.ifCond .eq 11, 3) := by decide +kernel
theorem dX12_custom_101 : decode cX12_custom 101 = .ok (.iload_n 2, 1) := by decide +kernel
theorem dX12_custom_102 : decode cX12_custom 102 = .ok (.ifCond .eq 11, 3) := by decide +kernel
theorem dX12_custom_105 : decode cX12_custom 105 = .ok (.aload_n 0, 1) := by decide +kernel
theorem dX12_custom_106 : decode cX12_custom 106 = .ok (.getfield 368, 3) := by decide +kernel
theorem dX12_custom_109 : decode cX12_custom 109 = .ok (.iconst (-1), 1) := by decide +kernel
theorem dX12_custom_110 : decode cX12_custom 110 = .ok (.if_icmp .eq 41, 3) := by decide +kernel
theorem dX12_custom_151 : decode cX12_custom 151 = .ok (.aload_n 0, 1) := by decide +kernel
theorem dX12_custom_152 : decode cX12_custom 152 = .ok (.getfield 96, 3) := by decide +kernel
theorem dX12_custom_155 : decode cX12_custom 155 = .ok (.iconst 0, 1) := by decide +kernel
theorem dX12_custom_156 : decode cX12_custom 156 = .ok (.iaload, 1) := by decide +kernel
theorem dX12_custom_157 : decode cX12_custom 157 = .ok (.istore_n 3, 1) := by decide +kernel
theorem dX12_custom_158 : decode cX12_custom 158 = .ok (.aload_n 0, 1) := by decide +kernel
theorem dX12_custom_159 : decode cX12_custom 159 = .ok (.getfield 96, 3) := by decide +kernel
theorem dX12_custom_162 : decode cX12_custom 162 = .ok (.iconst 0, 1) := by decide +kernel
theorem dX12_custom_163 : decode cX12_custom 163 = .ok (.dup2, 1) := by decide +kernel
theorem dX12_custom_164 : decode cX12_custom 164 = .ok (.iaload, 1) := by decide +kernel
theorem dX12_custom_165 : decode cX12_custom 165 = .ok (.iconst 1, 1) := by decide +kernel
theorem dX12_custom_166 : decode cX12_custom 166 = .ok (.iadd, 1) := by decide +kernel
theorem dX12_custom_167 : decode cX12_custom 167 = .ok (.iastore, 1) := by decide +kernel
theorem dX12_custom_168 : decode cX12_custom 168 = .ok (.aload_n 0, 1) := by decide +kernel
theorem dX12_custom_169 : decode cX12_custom 169 = .ok (.getfield 99, 3) := by decide +kernel
theorem dX12_custom_172 : decode cX12_custom 172 = .ok (.iload_n 3, 1) := by decide +kernel
theorem dX12_custom_173 : decode cX12_custom 173 = .ok (.iload_n 1, 1) := by decide +kernel
theorem dX12_custom_174 : decode cX12_custom 174 = .ok (.iastore, 1) := by decide +kernel
theorem dX12_custom_175 : decode cX12_custom 175 = .ok (.aload_n 0, 1) := by decide +kernel
theorem dX12_custom_176 : decode cX12_custom 176 = .ok (.getfield 102, 3) := by decide +kernel
theorem dX12_custom_179 : decode cX12_custom 179 = .ok (.iload_n 3, 1) := by decide +kernel
theorem dX12_custom_180 : decode cX12_custom 180 = .ok (.aload_n 0, 1) := by decide +kernel
theorem dX12_custom_181 : decode cX12_custom 181 = .ok (.getfield 401, 3) := by decide +kernel
theorem dX12_custom_184 : decode cX12_custom 184 = .ok (.iastore, 1) := by decide +kernel
theorem dX12_custom_185 : decode cX12_custom 185 = .ok (.iconst 0, 1) := by decide +kernel
theorem dX12_custom_186 : decode cX12_custom 186 = .ok (.istore 4, 2) := by decide +kernel
theorem dX12_custom_188 : decode cX12_custom 188 = .ok (.iload 4, 2) := by decide +kernel
theorem dX12_custom_190 : decode cX12_custom 190 = .ok (.aload_n 0, 1) := by decide +kernel
theorem dX12_custom_191 : decode cX12_custom 191 = .ok (.getfield 401, 3) := by decide +kernel
theorem dX12_custom_194 : decode cX12_custom 194 = .ok (.if_icmp .ge 153, 3) := by decide +kernel
theorem dX12_custom_347 : decode cX12_custom 347 = .ok (.iload_n 3, 1) := by decide +kernel
theorem dX12_custom_348 : decode cX12_custom 348 = .ok (.ireturn, 1) := by decide +kernel
theorem dX12_fault_0 : decode cX12_fault 0 = .ok (.aload_n 0, 1) := by decide +kernel
theorem dX12_fault_1 : decode cX12_fault 1 = .ok (.iconst 0, 1) := by decide +kernel
theorem dX12_fault_2 : decode cX12_fault 2 = .ok (.putfield 250, 3) := by decide +kernel
theorem dX12_fault_5 : decode cX12_fault 5 = .ok (.iload_n 1, 1) := by decide +kernel
theorem dX12_fault_6 : decode cX12_fault 6 = .ok (.ifCond .ne 12, 3) := by decide +kernel
theorem dX12_fault_9 : decode cX12_fault 9 = .ok (.aload_n 0, 1) := by decide +kernel
theorem dX12_fault_10 : decode cX12_fault 10 = .ok (.getfield 17, 3) := by decide +kernel
theorem dX12_fault_13 : decode cX12_fault 13 = .ok (.iconst 0, 1) := by decide +kernel
theorem dX12_fault_14 : decode cX12_fault 14 = .ok (.iaload, 1) := by decide +kernel
theorem dX12_fault_15 : decode cX12_fault 15 = .ok (.goto 18, 3) := by decide +kernel
theorem dX12_fault_18 : decode cX12_fault 18 = .ok (.iload_n 1, 1) := by decide +kernel
theorem dX12_fault_19 : decode cX12_fault 19 = .ok (.iconst 1, 1) := by decide +kernel
theorem dX12_fault_20 : decode cX12_fault 20 = .ok (.if_icmp .ne 12, 3) := by decide +kernel
theorem dX12_fault_23 : decode cX12_fault 23 = .ok (.aload_n 0, 1) := by decide +kernel
theorem dX12_fault_24 : decode cX12_fault 24 = .ok (.getfield 20, 3) := by decide +kernel
theorem dX12_fault_27 : decode cX12_fault 27 = .ok (.iconst 0, 1) := by decide +kernel
theorem dX12_fault_28 : decode cX12_fault 28 = .ok (.iaload, 1) := by decide +kernel
theorem dX12_fault_29 : decode cX12_fault 29 = .ok (.goto 4, 3) := by decide +kernel
theorem dX12_fault_32 : decode cX12_fault 32 = .ok (.iconst (-1), 1) := by decide +kernel
theorem dX12_fault_33 : decode cX12_fault 33 = .ok (.ireturn, 1) := by decide +kernel
theorem dX12_textNow_0 : decode cX12_textNow 0 = .ok (.iconst (-1), 1) := by decide +kernel
theorem dX12_textNow_1 : decode cX12_textNow 1 = .ok (.istore_n 1, 1) := by decide +kernel
theorem dX12_textNow_2 : decode cX12_textNow 2 = .ok (.iconst 0, 1) := by decide +kernel
theorem dX12_textNow_3 : decode cX12_textNow 3 = .ok (.istore_n 2, 1) := by decide +kernel
theorem dX12_textNow_4 : decode cX12_textNow 4 = .ok (.iload_n 2, 1) := by decide +kernel
theorem dX12_textNow_5 : decode cX12_textNow 5 = .ok (.aload_n 0, 1) := by decide +kernel
theorem dX12_textNow_6 : decode cX12_textNow 6 = .ok (.getfield 96, 3) := by decide +kernel
theorem dX12_textNow_9 : decode cX12_textNow 9 = .ok (.iconst 0, 1) := by decide +kernel
theorem dX12_textNow_10 : decode cX12_textNow 10 = .ok (.iaload, 1) := by decide +kernel
theorem dX12_textNow_11 : decode cX12_textNow 11 = .ok (.if_icmp .ge 30, 3) := by decide +kernel
theorem dX12_textNow_41 : decode cX12_textNow 41 = .ok (.iload_n 1, 1) := by decide +kernel
theorem dX12_textNow_42 : decode cX12_textNow 42 = .ok (.ireturn, 1) := by decide +kernel
theorem dX12_areAll_0 : decode cX12_areAll 0 = .ok (.iload_n 1, 1) := by decide +kernel
theorem dX12_areAll_1 : decode cX12_areAll 1 = .ok (.iconst 0, 1) := by decide +kernel
theorem dX12_areAll_2 : decode cX12_areAll 2 = .ok (.iconst 4, 1) := by decide +kernel
theorem dX12_areAll_3 : decode cX12_areAll 3 = .ok (.invokestatic 269, 3) := by decide +kernel
theorem dX12_areAll_6 : decode cX12_areAll 6 = .ok (.ifCond .eq 31, 3) := by decide +kernel
theorem dX12_areAll_9 : decode cX12_areAll 9 = .ok (.aload_n 0, 1) := by decide +kernel
theorem dX12_areAll_10 : decode cX12_areAll 10 = .ok (.iload_n 2, 1) := by decide +kernel
theorem dX12_areAll_11 : decode cX12_areAll 11 = .ok (.invokevirtual 273, 3) := by decide +kernel
theorem dX12_areAll_14 : decode cX12_areAll 14 = .ok (.ifCond .eq 23, 3) := by decide +kernel
theorem dX12_areAll_37 : decode cX12_areAll 37 = .ok (.iconst 0, 1) := by decide +kernel
theorem dX12_areAll_38 : decode cX12_areAll 38 = .ok (.ireturn, 1) := by decide +kernel
theorem dX12_may_0 : decode cX12_may 0 = .ok (.aload_n 0, 1) := by decide +kernel
theorem dX12_may_1 : decode cX12_may 1 = .ok (.iconst 0, 1) := by decide +kernel
theorem dX12_may_2 : decode cX12_may 2 = .ok (.putfield 250, 3) := by decide +kernel
theorem dX12_may_5 : decode cX12_may 5 = .ok (.aload_n 0, 1) := by decide +kernel
theorem dX12_may_6 : decode cX12_may 6 = .ok (.iload_n 1, 1) := by decide +kernel
theorem dX12_may_7 : decode cX12_may 7 = .ok (.iload_n 2, 1) := by decide +kernel
theorem dX12_may_8 : decode cX12_may 8 = .ok (.iload_n 3, 1) := by decide +kernel
theorem dX12_may_9 : decode cX12_may 9 = .ok (.iload 4, 2) := by decide +kernel
theorem dX12_may_11 : decode cX12_may 11 = .ok (.invokevirtual 444, 3) := by decide +kernel
theorem dX12_may_14 : decode cX12_may 14 = .ok (.ifCond .eq 19, 3) := by decide +kernel
theorem dX12_may_33 : decode cX12_may 33 = .ok (.iconst 0, 1) := by decide +kernel
theorem dX12_may_34 : decode cX12_may 34 = .ok (.ireturn, 1) := by decide +kernel
theorem dX12_why_0 : decode cX12_why 0 = .ok (.aload_n 0, 1) := by decide +kernel
theorem dX12_why_1 : decode cX12_why 1 = .ok (.iconst 0, 1) := by decide +kernel
theorem dX12_why_2 : decode cX12_why 2 = .ok (.putfield 250, 3) := by decide +kernel
theorem dX12_why_5 : decode cX12_why 5 = .ok (.aload_n 0, 1) := by decide +kernel
theorem dX12_why_6 : decode cX12_why 6 = .ok (.iload_n 1, 1) := by decide +kernel
theorem dX12_why_7 : decode cX12_why 7 = .ok (.iload_n 2, 1) := by decide +kernel
theorem dX12_why_8 : decode cX12_why 8 = .ok (.iload_n 3, 1) := by decide +kernel
theorem dX12_why_9 : decode cX12_why 9 = .ok (.iload 4, 2) := by decide +kernel
theorem dX12_why_11 : decode cX12_why 11 = .ok (.invokevirtual 444, 3) := by decide +kernel
theorem dX12_why_14 : decode cX12_why 14 = .ok (.ifCond .ne 5, 3) := by decide +kernel
theorem dX12_why_17 : decode cX12_why 17 = .ok (.iconst (-1), 1) := by decide +kernel
theorem dX12_why_18 : decode cX12_why 18 = .ok (.ireturn, 1) := by decide +kernel
theorem dX12_writes_0 : decode cX12_writes 0 = .ok (.aload_n 0, 1) := by decide +kernel
theorem dX12_writes_1 : decode cX12_writes 1 = .ok (.iconst 0, 1) := by decide +kernel
theorem dX12_writes_2 : decode cX12_writes 2 = .ok (.putfield 250, 3) := by decide +kernel
theorem dX12_writes_5 : decode cX12_writes 5 = .ok (.aload_n 0, 1) := by decide +kernel
theorem dX12_writes_6 : decode cX12_writes 6 = .ok (.iload_n 1, 1) := by decide +kernel
theorem dX12_writes_7 : decode cX12_writes 7 = .ok (.invokevirtual 451, 3) := by decide +kernel
theorem dX12_writes_10 : decode cX12_writes 10 = .ok (.ifCond .eq 12, 3) := by decide +kernel
theorem dX12_writes_22 : decode cX12_writes 22 = .ok (.iconst 0, 1) := by decide +kernel
theorem dX12_writes_23 : decode cX12_writes 23 = .ok (.ireturn, 1) := by decide +kernel
theorem dX12_letter_0 : decode cX12_letter 0 = .ok (.aload_n 0, 1) := by decide +kernel
theorem dX12_letter_1 : decode cX12_letter 1 = .ok (.iconst 0, 1) := by decide +kernel
theorem dX12_letter_2 : decode cX12_letter 2 = .ok (.putfield 250, 3) := by decide +kernel
theorem dX12_letter_5 : decode cX12_letter 5 = .ok (.iload_n 1, 1) := by decide +kernel
theorem dX12_letter_6 : decode cX12_letter 6 = .ok (.iconst 0, 1) := by decide +kernel
theorem dX12_letter_7 : decode cX12_letter 7 = .ok (.iconst 3, 1) := by decide +kernel
theorem dX12_letter_8 : decode cX12_letter 8 = .ok (.invokestatic 269, 3) := by decide +kernel
theorem dX12_letter_11 : decode cX12_letter 11 = .ok (.ifCond .eq 23, 3) := by decide +kernel
theorem dX12_letter_14 : decode cX12_letter 14 = .ok (.iload_n 2, 1) := by decide +kernel
theorem dX12_letter_15 : decode cX12_letter 15 = .ok (.iconst 1, 1) := by decide +kernel
theorem dX12_letter_16 : decode cX12_letter 16 = .ok (.bipush 8, 2) := by decide +kernel
theorem dX12_letter_18 : decode cX12_letter 18 = .ok (.invokestatic 269, 3) := by decide +kernel
theorem dX12_letter_21 : decode cX12_letter 21 = .ok (.ifCond .eq 13, 3) := by decide +kernel
theorem dX12_letter_24 : decode cX12_letter 24 = .ok (.iload_n 3, 1) := by decide +kernel
theorem dX12_letter_25 : decode cX12_letter 25 = .ok (.iconst 1, 1) := by decide +kernel
theorem dX12_letter_26 : decode cX12_letter 26 = .ok (.bipush 15, 2) := by decide +kernel
theorem dX12_letter_28 : decode cX12_letter 28 = .ok (.invokestatic 269, 3) := by decide +kernel
theorem dX12_letter_31 : decode cX12_letter 31 = .ok (.ifCond .ne 5, 3) := by decide +kernel
theorem dX12_letter_34 : decode cX12_letter 34 = .ok (.iconst 0, 1) := by decide +kernel
theorem dX12_letter_35 : decode cX12_letter 35 = .ok (.ireturn, 1) := by decide +kernel
theorem dX12_letter_36 : decode cX12_letter 36 = .ok (.aload_n 0, 1) := by decide +kernel
theorem dX12_letter_37 : decode cX12_letter 37 = .ok (.getfield 93, 3) := by decide +kernel
theorem dX12_letter_40 : decode cX12_letter 40 = .ok (.bipush 8, 2) := by decide +kernel
theorem dX12_letter_42 : decode cX12_letter 42 = .ok (.iload_n 1, 1) := by decide +kernel
theorem dX12_letter_43 : decode cX12_letter 43 = .ok (.imul, 1) := by decide +kernel
theorem dX12_letter_44 : decode cX12_letter 44 = .ok (.iload_n 2, 1) := by decide +kernel
theorem dX12_letter_45 : decode cX12_letter 45 = .ok (.iadd, 1) := by decide +kernel
theorem dX12_letter_46 : decode cX12_letter 46 = .ok (.iconst 1, 1) := by decide +kernel
theorem dX12_letter_47 : decode cX12_letter 47 = .ok (.isub, 1) := by decide +kernel
theorem dX12_letter_48 : decode cX12_letter 48 = .ok (.iload_n 3, 1) := by decide +kernel
theorem dX12_letter_49 : decode cX12_letter 49 = .ok (.iastore, 1) := by decide +kernel
theorem dX12_letter_50 : decode cX12_letter 50 = .ok (.iconst 1, 1) := by decide +kernel
theorem dX12_letter_51 : decode cX12_letter 51 = .ok (.ireturn, 1) := by decide +kernel
theorem dX12_tape_0 : decode cX12_tape 0 = .ok (.aload_n 0, 1) := by decide +kernel
theorem dX12_tape_1 : decode cX12_tape 1 = .ok (.iconst 0, 1) := by decide +kernel
theorem dX12_tape_2 : decode cX12_tape 2 = .ok (.putfield 250, 3) := by decide +kernel
theorem dX12_tape_5 : decode cX12_tape 5 = .ok (.aload_n 0, 1) := by decide +kernel
theorem dX12_tape_6 : decode cX12_tape 6 = .ok (.getfield 123, 3) := by decide +kernel
theorem dX12_tape_9 : decode cX12_tape 9 = .ok (.iconst 0, 1) := by decide +kernel
theorem dX12_tape_10 : decode cX12_tape 10 = .ok (.iaload, 1) := by decide +kernel
theorem dX12_tape_11 : decode cX12_tape 11 = .ok (.bipush 16, 2) := by decide +kernel
theorem dX12_tape_13 : decode cX12_tape 13 = .ok (.if_icmp .eq 14, 3) := by decide +kernel
theorem dX12_tape_16 : decode cX12_tape 16 = .ok (.iload_n 1, 1) := by decide +kernel
theorem dX12_tape_17 : decode cX12_tape 17 = .ok (.iconst 1, 1) := by decide +kernel
theorem dX12_tape_18 : decode cX12_tape 18 = .ok (.sipush 400, 3) := by decide +kernel
theorem dX12_tape_21 : decode cX12_tape 21 = .ok (.invokestatic 269, 3) := by decide +kernel
theorem dX12_tape_24 : decode cX12_tape 24 = .ok (.ifCond .ne 5, 3) := by decide +kernel
theorem dX12_tape_27 : decode cX12_tape 27 = .ok (.iconst (-1), 1) := by decide +kernel
theorem dX12_tape_28 : decode cX12_tape 28 = .ok (.ireturn, 1) := by decide +kernel
theorem dX12_tape_29 : decode cX12_tape 29 = .ok (.aload_n 0, 1) := by decide +kernel
theorem dX12_tape_30 : decode cX12_tape 30 = .ok (.getfield 123, 3) := by decide +kernel
theorem dX12_tape_33 : decode cX12_tape 33 = .ok (.iconst 0, 1) := by decide +kernel
theorem dX12_tape_34 : decode cX12_tape 34 = .ok (.iaload, 1) := by decide +kernel
theorem dX12_tape_35 : decode cX12_tape 35 = .ok (.istore_n 2, 1) := by decide +kernel
theorem dX12_tape_36 : decode cX12_tape 36 = .ok (.aload_n 0, 1) := by decide +kernel
theorem dX12_tape_37 : decode cX12_tape 37 = .ok (.getfield 123, 3) := by decide +kernel
theorem dX12_tape_40 : decode cX12_tape 40 = .ok (.iconst 0, 1) := by decide +kernel
theorem dX12_tape_41 : decode cX12_tape 41 = .ok (.dup2, 1) := by decide +kernel
theorem dX12_tape_42 : decode cX12_tape 42 = .ok (.iaload, 1) := by decide +kernel
theorem dX12_tape_43 : decode cX12_tape 43 = .ok (.iconst 1, 1) := by decide +kernel
theorem dX12_tape_44 : decode cX12_tape 44 = .ok (.iadd, 1) := by decide +kernel
theorem dX12_tape_45 : decode cX12_tape 45 = .ok (.iastore, 1) := by decide +kernel
theorem dX12_tape_46 : decode cX12_tape 46 = .ok (.aload_n 0, 1) := by decide +kernel
theorem dX12_tape_47 : decode cX12_tape 47 = .ok (.getfield 126, 3) := by decide +kernel
theorem dX12_tape_50 : decode cX12_tape 50 = .ok (.iload_n 2, 1) := by decide +kernel
theorem dX12_tape_51 : decode cX12_tape 51 = .ok (.iload_n 1, 1) := by decide +kernel
theorem dX12_tape_52 : decode cX12_tape 52 = .ok (.iastore, 1) := by decide +kernel
theorem dX12_tape_53 : decode cX12_tape 53 = .ok (.aload_n 0, 1) := by decide +kernel
theorem dX12_tape_54 : decode cX12_tape 54 = .ok (.getfield 129, 3) := by decide +kernel
theorem dX12_tape_57 : decode cX12_tape 57 = .ok (.iload_n 2, 1) := by decide +kernel
theorem dX12_tape_58 : decode cX12_tape 58 = .ok (.aload_n 0, 1) := by decide +kernel
theorem dX12_tape_59 : decode cX12_tape 59 = .ok (.getfield 23, 3) := by decide +kernel
theorem dX12_tape_62 : decode cX12_tape 62 = .ok (.iconst 0, 1) := by decide +kernel
theorem dX12_tape_63 : decode cX12_tape 63 = .ok (.iaload, 1) := by decide +kernel
theorem dX12_tape_64 : decode cX12_tape 64 = .ok (.iastore, 1) := by decide +kernel
theorem dX12_tape_65 : decode cX12_tape 65 = .ok (.iload_n 2, 1) := by decide +kernel
theorem dX12_tape_66 : decode cX12_tape 66 = .ok (.ireturn, 1) := by decide +kernel
theorem dX12_isTape_0 : decode cX12_isTape 0 = .ok (.iload_n 1, 1) := by decide +kernel
theorem dX12_isTape_1 : decode cX12_isTape 1 = .ok (.iconst 0, 1) := by decide +kernel
theorem dX12_isTape_2 : decode cX12_isTape 2 = .ok (.aload_n 0, 1) := by decide +kernel
theorem dX12_isTape_3 : decode cX12_isTape 3 = .ok (.getfield 123, 3) := by decide +kernel
theorem dX12_isTape_6 : decode cX12_isTape 6 = .ok (.iconst 0, 1) := by decide +kernel
theorem dX12_isTape_7 : decode cX12_isTape 7 = .ok (.iaload, 1) := by decide +kernel
theorem dX12_isTape_8 : decode cX12_isTape 8 = .ok (.iconst 1, 1) := by decide +kernel
theorem dX12_isTape_9 : decode cX12_isTape 9 = .ok (.isub, 1) := by decide +kernel
theorem dX12_isTape_10 : decode cX12_isTape 10 = .ok (.invokestatic 269, 3) := by decide +kernel
theorem dX12_isTape_13 : decode cX12_isTape 13 = .ok (.ireturn, 1) := by decide +kernel
theorem dX12_copy_0 : decode cX12_copy 0 = .ok (.aload_n 0, 1) := by decide +kernel
theorem dX12_copy_1 : decode cX12_copy 1 = .ok (.iconst 0, 1) := by decide +kernel
theorem dX12_copy_2 : decode cX12_copy 2 = .ok (.putfield 250, 3) := by decide +kernel
theorem dX12_copy_5 : decode cX12_copy 5 = .ok (.aload_n 0, 1) := by decide +kernel
theorem dX12_copy_6 : decode cX12_copy 6 = .ok (.iload_n 1, 1) := by decide +kernel
theorem dX12_copy_7 : decode cX12_copy 7 = .ok (.invokevirtual 457, 3) := by decide +kernel
theorem dX12_copy_10 : decode cX12_copy 10 = .ok (.ifCond .eq 11, 3) := by decide +kernel
theorem dX12_copy_21 : decode cX12_copy 21 = .ok (.iconst 0, 1) := by decide +kernel
theorem dX12_copy_22 : decode cX12_copy 22 = .ok (.ireturn, 1) := by decide +kernel
theorem dX12_about_0 : decode cX12_about 0 = .ok (.aload_n 0, 1) := by decide +kernel
theorem dX12_about_1 : decode cX12_about 1 = .ok (.iconst 0, 1) := by decide +kernel
theorem dX12_about_2 : decode cX12_about 2 = .ok (.putfield 250, 3) := by decide +kernel
theorem dX12_about_5 : decode cX12_about 5 = .ok (.aload_n 0, 1) := by decide +kernel
theorem dX12_about_6 : decode cX12_about 6 = .ok (.iload_n 1, 1) := by decide +kernel
theorem dX12_about_7 : decode cX12_about 7 = .ok (.invokevirtual 457, 3) := by decide +kernel
theorem dX12_about_10 : decode cX12_about 10 = .ok (.ifCond .ne 5, 3) := by decide +kernel
theorem dX12_about_13 : decode cX12_about 13 = .ok (.iconst (-1), 1) := by decide +kernel
theorem dX12_about_14 : decode cX12_about 14 = .ok (.ireturn, 1) := by decide +kernel
theorem dX12_canAsk_0 : decode cX12_canAsk 0 = .ok (.aload_n 0, 1) := by decide +kernel
theorem dX12_canAsk_1 : decode cX12_canAsk 1 = .ok (.getfield 132, 3) := by decide +kernel
theorem dX12_canAsk_4 : decode cX12_canAsk 4 = .ok (.iconst 0, 1) := by decide +kernel
theorem dX12_canAsk_5 : decode cX12_canAsk 5 = .ok (.iaload, 1) := by decide +kernel
theorem dX12_canAsk_6 : decode cX12_canAsk 6 = .ok (.bipush 120, 2) := by decide +kernel
theorem dX12_canAsk_8 : decode cX12_canAsk 8 = .ok (.if_icmp .eq 39, 3) := by decide +kernel
theorem dX12_canAsk_11 : decode cX12_canAsk 11 = .ok (.aload_n 0, 1) := by decide +kernel
theorem dX12_canAsk_12 : decode cX12_canAsk 12 = .ok (.iload_n 1, 1) := by decide +kernel
theorem dX12_canAsk_13 : decode cX12_canAsk 13 = .ok (.invokevirtual 451, 3) := by decide +kernel
theorem dX12_canAsk_16 : decode cX12_canAsk 16 = .ok (.ifCond .eq 31, 3) := by decide +kernel
theorem dX12_canAsk_47 : decode cX12_canAsk 47 = .ok (.iconst 0, 1) := by decide +kernel
theorem dX12_canAsk_48 : decode cX12_canAsk 48 = .ok (.ireturn, 1) := by decide +kernel
theorem dX12_ask_0 : decode cX12_ask 0 = .ok (.aload_n 0, 1) := by decide +kernel
theorem dX12_ask_1 : decode cX12_ask 1 = .ok (.iconst 0, 1) := by decide +kernel
theorem dX12_ask_2 : decode cX12_ask 2 = .ok (.putfield 250, 3) := by decide +kernel
theorem dX12_ask_5 : decode cX12_ask 5 = .ok (.aload_n 0, 1) := by decide +kernel
theorem dX12_ask_6 : decode cX12_ask 6 = .ok (.iload_n 1, 1) := by decide +kernel
theorem dX12_ask_7 : decode cX12_ask 7 = .ok (.iload_n 2, 1) := by decide +kernel
theorem dX12_ask_8 : decode cX12_ask 8 = .ok (.iload_n 3, 1) := by decide +kernel
theorem dX12_ask_9 : decode cX12_ask 9 = .ok (.iload 4, 2) := by decide +kernel
theorem dX12_ask_11 : decode cX12_ask 11 = .ok (.invokevirtual 472, 3) := by decide +kernel
theorem dX12_ask_14 : decode cX12_ask 14 = .ok (.ifCond .ne 5, 3) := by decide +kernel
theorem dX12_ask_17 : decode cX12_ask 17 = .ok (.iconst (-1), 1) := by decide +kernel
theorem dX12_ask_18 : decode cX12_ask 18 = .ok (.ireturn, 1) := by decide +kernel
theorem dX12_row_0 : decode cX12_row 0 = .ok (.aload_n 0, 1) := by decide +kernel
theorem dX12_row_1 : decode cX12_row 1 = .ok (.iconst 0, 1) := by decide +kernel
theorem dX12_row_2 : decode cX12_row 2 = .ok (.putfield 250, 3) := by decide +kernel
theorem dX12_row_5 : decode cX12_row 5 = .ok (.iload_n 1, 1) := by decide +kernel
theorem dX12_row_6 : decode cX12_row 6 = .ok (.iconst 0, 1) := by decide +kernel
theorem dX12_row_7 : decode cX12_row 7 = .ok (.aload_n 0, 1) := by decide +kernel
theorem dX12_row_8 : decode cX12_row 8 = .ok (.getfield 132, 3) := by decide +kernel
theorem dX12_row_11 : decode cX12_row 11 = .ok (.iconst 0, 1) := by decide +kernel
theorem dX12_row_12 : decode cX12_row 12 = .ok (.iaload, 1) := by decide +kernel
theorem dX12_row_13 : decode cX12_row 13 = .ok (.iconst 1, 1) := by decide +kernel
theorem dX12_row_14 : decode cX12_row 14 = .ok (.isub, 1) := by decide +kernel
theorem dX12_row_15 : decode cX12_row 15 = .ok (.invokestatic 269, 3) := by decide +kernel
theorem dX12_row_18 : decode cX12_row 18 = .ok (.ifCond .ne 6, 3) := by decide +kernel
theorem dX12_row_21 : decode cX12_row 21 = .ok (.bipush (-100), 2) := by decide +kernel
theorem dX12_row_23 : decode cX12_row 23 = .ok (.ireturn, 1) := by decide +kernel
theorem dX12_play_0 : decode cX12_play 0 = .ok (.aload_n 0, 1) := by decide +kernel
theorem dX12_play_1 : decode cX12_play 1 = .ok (.iconst 0, 1) := by decide +kernel
theorem dX12_play_2 : decode cX12_play 2 = .ok (.putfield 250, 3) := by decide +kernel
theorem dX12_play_5 : decode cX12_play 5 = .ok (.aload_n 0, 1) := by decide +kernel
theorem dX12_play_6 : decode cX12_play 6 = .ok (.iload_n 1, 1) := by decide +kernel
theorem dX12_play_7 : decode cX12_play 7 = .ok (.invokevirtual 451, 3) := by decide +kernel
theorem dX12_play_10 : decode cX12_play 10 = .ok (.ifCond .eq 27, 3) := by decide +kernel
theorem dX12_play_37 : decode cX12_play 37 = .ok (.iconst (-1), 1) := by decide +kernel
theorem dX12_play_38 : decode cX12_play 38 = .ok (.ireturn, 1) := by decide +kernel
theorem dX12_known_0 : decode cX12_known 0 = .ok (.aload_n 0, 1) := by decide +kernel
theorem dX12_known_1 : decode cX12_known 1 = .ok (.iconst 0, 1) := by decide +kernel
theorem dX12_known_2 : decode cX12_known 2 = .ok (.putfield 250, 3) := by decide +kernel
theorem dX12_known_5 : decode cX12_known 5 = .ok (.aload_n 0, 1) := by decide +kernel
theorem dX12_known_6 : decode cX12_known 6 = .ok (.iload_n 1, 1) := by decide +kernel
theorem dX12_known_7 : decode cX12_known 7 = .ok (.invokevirtual 451, 3) := by decide +kernel
theorem dX12_known_10 : decode cX12_known 10 = .ok (.ifCond .eq 33, 3) := by decide +kernel
theorem dX12_known_43 : decode cX12_known 43 = .ok (.iconst (-1), 1) := by decide +kernel
theorem dX12_known_44 : decode cX12_known 44 = .ok (.ireturn, 1) := by decide +kernel
theorem dX12_same_0 : decode cX12_same 0 = .ok (.aload_n 0, 1) := by decide +kernel
theorem dX12_same_1 : decode cX12_same 1 = .ok (.iconst 0, 1) := by decide +kernel
theorem dX12_same_2 : decode cX12_same 2 = .ok (.putfield 250, 3) := by decide +kernel
theorem dX12_same_5 : decode cX12_same 5 = .ok (.iload_n 1, 1) := by decide +kernel
theorem dX12_same_6 : decode cX12_same 6 = .ok (.iconst 0, 1) := by decide +kernel
theorem dX12_same_7 : decode cX12_same 7 = .ok (.aload_n 0, 1) := by decide +kernel
theorem dX12_same_8 : decode cX12_same 8 = .ok (.getfield 132, 3) := by decide +kernel
theorem dX12_same_11 : decode cX12_same 11 = .ok (.iconst 0, 1) := by decide +kernel
theorem dX12_same_12 : decode cX12_same 12 = .ok (.iaload, 1) := by decide +kernel
theorem dX12_same_13 : decode cX12_same 13 = .ok (.iconst 1, 1) := by decide +kernel
theorem dX12_same_14 : decode cX12_same 14 = .ok (.isub, 1) := by decide +kernel
theorem dX12_same_15 : decode cX12_same 15 = .ok (.invokestatic 269, 3) := by decide +kernel
theorem dX12_same_18 : decode cX12_same 18 = .ok (.ifCond .eq 24, 3) := by decide +kernel
theorem dX12_same_42 : decode cX12_same 42 = .ok (.iconst (-1), 1) := by decide +kernel
theorem dX12_same_43 : decode cX12_same 43 = .ok (.ireturn, 1) := by decide +kernel
theorem dX12_isBorn_0 : decode cX12_isBorn 0 = .ok (.aload_n 0, 1) := by decide +kernel
theorem dX12_isBorn_1 : decode cX12_isBorn 1 = .ok (.iload_n 1, 1) := by decide +kernel
theorem dX12_isBorn_2 : decode cX12_isBorn 2 = .ok (.invokevirtual 291, 3) := by decide +kernel
theorem dX12_isBorn_5 : decode cX12_isBorn 5 = .ok (.ifCond .eq 17, 3) := by decide +kernel
theorem dX12_isBorn_22 : decode cX12_isBorn 22 = .ok (.iconst 0, 1) := by decide +kernel
theorem dX12_isBorn_23 : decode cX12_isBorn 23 = .ok (.ireturn, 1) := by decide +kernel
theorem dX12_find_0 : decode cX12_find 0 = .ok (.aload_n 0, 1) := by decide +kernel
theorem dX12_find_1 : decode cX12_find 1 = .ok (.iconst 0, 1) := by decide +kernel
theorem dX12_find_2 : decode cX12_find 2 = .ok (.putfield 250, 3) := by decide +kernel
theorem dX12_find_5 : decode cX12_find 5 = .ok (.aload_n 0, 1) := by decide +kernel
theorem dX12_find_6 : decode cX12_find 6 = .ok (.iload_n 1, 1) := by decide +kernel
theorem dX12_find_7 : decode cX12_find 7 = .ok (.invokevirtual 506, 3) := by decide +kernel
theorem dX12_find_10 : decode cX12_find 10 = .ok (.ifCond .eq 12, 3) := by decide +kernel
theorem dX12_find_22 : decode cX12_find 22 = .ok (.iconst (-1), 1) := by decide +kernel
theorem dX12_find_23 : decode cX12_find 23 = .ok (.ireturn, 1) := by decide +kernel
theorem dX12_reading_0 : decode cX12_reading 0 = .ok (.aload_n 0, 1) := by decide +kernel
theorem dX12_reading_1 : decode cX12_reading 1 = .ok (.iconst 0, 1) := by decide +kernel
theorem dX12_reading_2 : decode cX12_reading 2 = .ok (.putfield 250, 3) := by decide +kernel
theorem dX12_reading_5 : decode cX12_reading 5 = .ok (.aload_n 0, 1) := by decide +kernel
theorem dX12_reading_6 : decode cX12_reading 6 = .ok (.iload_n 1, 1) := by decide +kernel
theorem dX12_reading_7 : decode cX12_reading 7 = .ok (.invokevirtual 506, 3) := by decide +kernel
theorem dX12_reading_10 : decode cX12_reading 10 = .ok (.ifCond .ne 5, 3) := by decide +kernel
theorem dX12_reading_13 : decode cX12_reading 13 = .ok (.iconst (-1), 1) := by decide +kernel
theorem dX12_reading_14 : decode cX12_reading 14 = .ok (.ireturn, 1) := by decide +kernel
theorem dX12_next_0 : decode cX12_next 0 = .ok (.aload_n 0, 1) := by decide +kernel
theorem dX12_next_1 : decode cX12_next 1 = .ok (.iconst 0, 1) := by decide +kernel
theorem dX12_next_2 : decode cX12_next 2 = .ok (.putfield 250, 3) := by decide +kernel
theorem dX12_next_5 : decode cX12_next 5 = .ok (.aload_n 0, 1) := by decide +kernel
theorem dX12_next_6 : decode cX12_next 6 = .ok (.iload_n 1, 1) := by decide +kernel
theorem dX12_next_7 : decode cX12_next 7 = .ok (.invokevirtual 506, 3) := by decide +kernel
theorem dX12_next_10 : decode cX12_next 10 = .ok (.ifCond .eq 12, 3) := by decide +kernel
theorem dX12_next_22 : decode cX12_next 22 = .ok (.iconst (-1), 1) := by decide +kernel
theorem dX12_next_23 : decode cX12_next 23 = .ok (.ireturn, 1) := by decide +kernel
theorem dX12_canVisit_0 : decode cX12_canVisit 0 = .ok (.aload_n 0, 1) := by decide +kernel
theorem dX12_canVisit_1 : decode cX12_canVisit 1 = .ok (.iload_n 1, 1) := by decide +kernel
theorem dX12_canVisit_2 : decode cX12_canVisit 2 = .ok (.invokevirtual 451, 3) := by decide +kernel
theorem dX12_canVisit_5 : decode cX12_canVisit 5 = .ok (.ifCond .eq 35, 3) := by decide +kernel
theorem dX12_canVisit_40 : decode cX12_canVisit 40 = .ok (.iconst 0, 1) := by decide +kernel
theorem dX12_canVisit_41 : decode cX12_canVisit 41 = .ok (.ireturn, 1) := by decide +kernel
theorem dX12_visits_0 : decode cX12_visits 0 = .ok (.aload_n 0, 1) := by decide +kernel
theorem dX12_visits_1 : decode cX12_visits 1 = .ok (.iconst 0, 1) := by decide +kernel
theorem dX12_visits_2 : decode cX12_visits 2 = .ok (.putfield 250, 3) := by decide +kernel
theorem dX12_visits_5 : decode cX12_visits 5 = .ok (.aload_n 0, 1) := by decide +kernel
theorem dX12_visits_6 : decode cX12_visits 6 = .ok (.iload_n 1, 1) := by decide +kernel
theorem dX12_visits_7 : decode cX12_visits 7 = .ok (.iload_n 2, 1) := by decide +kernel
theorem dX12_visits_8 : decode cX12_visits 8 = .ok (.invokevirtual 533, 3) := by decide +kernel
theorem dX12_visits_11 : decode cX12_visits 11 = .ok (.ifCond .eq 12, 3) := by decide +kernel
theorem dX12_visits_23 : decode cX12_visits 23 = .ok (.iconst (-1), 1) := by decide +kernel
theorem dX12_visits_24 : decode cX12_visits 24 = .ok (.ireturn, 1) := by decide +kernel
theorem dX12_visited_0 : decode cX12_visited 0 = .ok (.aload_n 0, 1) := by decide +kernel
theorem dX12_visited_1 : decode cX12_visited 1 = .ok (.iconst 0, 1) := by decide +kernel
theorem dX12_visited_2 : decode cX12_visited 2 = .ok (.putfield 250, 3) := by decide +kernel
theorem dX12_visited_5 : decode cX12_visited 5 = .ok (.aload_n 0, 1) := by decide +kernel
theorem dX12_visited_6 : decode cX12_visited 6 = .ok (.iload_n 1, 1) := by decide +kernel
theorem dX12_visited_7 : decode cX12_visited 7 = .ok (.iload_n 2, 1) := by decide +kernel
theorem dX12_visited_8 : decode cX12_visited 8 = .ok (.invokevirtual 533, 3) := by decide +kernel
theorem dX12_visited_11 : decode cX12_visited 11 = .ok (.ifCond .ne 5, 3) := by decide +kernel
theorem dX12_visited_14 : decode cX12_visited 14 = .ok (.iconst (-1), 1) := by decide +kernel
theorem dX12_visited_15 : decode cX12_visited 15 = .ok (.ireturn, 1) := by decide +kernel
theorem dX12_copies_0 : decode cX12_copies 0 = .ok (.aload_n 0, 1) := by decide +kernel
theorem dX12_copies_1 : decode cX12_copies 1 = .ok (.iconst 0, 1) := by decide +kernel
theorem dX12_copies_2 : decode cX12_copies 2 = .ok (.putfield 250, 3) := by decide +kernel
theorem dX12_copies_5 : decode cX12_copies 5 = .ok (.iload_n 1, 1) := by decide +kernel
theorem dX12_copies_6 : decode cX12_copies 6 = .ok (.iconst 0, 1) := by decide +kernel
theorem dX12_copies_7 : decode cX12_copies 7 = .ok (.iconst 2, 1) := by decide +kernel
theorem dX12_copies_8 : decode cX12_copies 8 = .ok (.invokestatic 269, 3) := by decide +kernel
theorem dX12_copies_11 : decode cX12_copies 11 = .ok (.ifCond .ne 5, 3) := by decide +kernel
theorem dX12_copies_14 : decode cX12_copies 14 = .ok (.iconst (-1), 1) := by decide +kernel
theorem dX12_copies_15 : decode cX12_copies 15 = .ok (.ireturn, 1) := by decide +kernel
theorem dX12_copies_16 : decode cX12_copies 16 = .ok (.iconst 0, 1) := by decide +kernel
theorem dX12_copies_17 : decode cX12_copies 17 = .ok (.istore_n 2, 1) := by decide +kernel
theorem dX12_copies_18 : decode cX12_copies 18 = .ok (.iconst 0, 1) := by decide +kernel
theorem dX12_copies_19 : decode cX12_copies 19 = .ok (.istore_n 3, 1) := by decide +kernel
theorem dX12_copies_20 : decode cX12_copies 20 = .ok (.iload_n 3, 1) := by decide +kernel
theorem dX12_copies_21 : decode cX12_copies 21 = .ok (.aload_n 0, 1) := by decide +kernel
theorem dX12_copies_22 : decode cX12_copies 22 = .ok (.getfield 123, 3) := by decide +kernel
theorem dX12_copies_25 : decode cX12_copies 25 = .ok (.iconst 0, 1) := by decide +kernel
theorem dX12_copies_26 : decode cX12_copies 26 = .ok (.iaload, 1) := by decide +kernel
theorem dX12_copies_27 : decode cX12_copies 27 = .ok (.if_icmp .ge 72, 3) := by decide +kernel
theorem dX12_copies_99 : decode cX12_copies 99 = .ok (.iconst 0, 1) := by decide +kernel
theorem dX12_copies_100 : decode cX12_copies 100 = .ok (.istore_n 3, 1) := by decide +kernel
theorem dX12_copies_101 : decode cX12_copies 101 = .ok (.iconst 0, 1) := by decide +kernel
theorem dX12_copies_102 : decode cX12_copies 102 = .ok (.istore 4, 2) := by decide +kernel
theorem dX12_copies_104 : decode cX12_copies 104 = .ok (.iconst 0, 1) := by decide +kernel
theorem dX12_copies_105 : decode cX12_copies 105 = .ok (.istore 5, 2) := by decide +kernel
theorem dX12_copies_107 : decode cX12_copies 107 = .ok (.iconst 1, 1) := by decide +kernel
theorem dX12_copies_108 : decode cX12_copies 108 = .ok (.istore 6, 2) := by decide +kernel
theorem dX12_copies_110 : decode cX12_copies 110 = .ok (.iload 6, 2) := by decide +kernel
theorem dX12_copies_112 : decode cX12_copies 112 = .ok (.iconst 1, 1) := by decide +kernel
theorem dX12_copies_113 : decode cX12_copies 113 = .ok (.iload_n 2, 1) := by decide +kernel
theorem dX12_copies_114 : decode cX12_copies 114 = .ok (.ishl, 1) := by decide +kernel
theorem dX12_copies_115 : decode cX12_copies 115 = .ok (.if_icmp .ge 209, 3) := by decide +kernel
theorem dX12_copies_324 : decode cX12_copies 324 = .ok (.iconst 0, 1) := by decide +kernel
theorem dX12_copies_325 : decode cX12_copies 325 = .ok (.istore 6, 2) := by decide +kernel
theorem dX12_copies_327 : decode cX12_copies 327 = .ok (.iconst 0, 1) := by decide +kernel
theorem dX12_copies_328 : decode cX12_copies 328 = .ok (.istore 7, 2) := by decide +kernel
theorem dX12_copies_330 : decode cX12_copies 330 = .ok (.iload 7, 2) := by decide +kernel
theorem dX12_copies_332 : decode cX12_copies 332 = .ok (.iload_n 2, 1) := by decide +kernel
theorem dX12_copies_333 : decode cX12_copies 333 = .ok (.if_icmp .ge 36, 3) := by decide +kernel
theorem dX12_copies_369 : decode cX12_copies 369 = .ok (.iload_n 1, 1) := by decide +kernel
theorem dX12_copies_370 : decode cX12_copies 370 = .ok (.ifCond .ne 8, 3) := by decide +kernel
theorem dX12_copies_373 : decode cX12_copies 373 = .ok (.iload 4, 2) := by decide +kernel
theorem dX12_copies_375 : decode cX12_copies 375 = .ok (.goto 15, 3) := by decide +kernel
theorem dX12_copies_378 : decode cX12_copies 378 = .ok (.iload_n 1, 1) := by decide +kernel
theorem dX12_copies_379 : decode cX12_copies 379 = .ok (.iconst 1, 1) := by decide +kernel
theorem dX12_copies_380 : decode cX12_copies 380 = .ok (.if_icmp .ne 8, 3) := by decide +kernel
theorem dX12_copies_383 : decode cX12_copies 383 = .ok (.iload 5, 2) := by decide +kernel
theorem dX12_copies_385 : decode cX12_copies 385 = .ok (.goto 5, 3) := by decide +kernel
theorem dX12_copies_388 : decode cX12_copies 388 = .ok (.iload 6, 2) := by decide +kernel
theorem dX12_copies_390 : decode cX12_copies 390 = .ok (.ireturn, 1) := by decide +kernel
theorem dX12_cost_0 : decode cX12_cost 0 = .ok (.aload_n 0, 1) := by decide +kernel
theorem dX12_cost_1 : decode cX12_cost 1 = .ok (.iconst 0, 1) := by decide +kernel
theorem dX12_cost_2 : decode cX12_cost 2 = .ok (.putfield 250, 3) := by decide +kernel
theorem dX12_cost_5 : decode cX12_cost 5 = .ok (.aload_n 0, 1) := by decide +kernel
theorem dX12_cost_6 : decode cX12_cost 6 = .ok (.iload_n 1, 1) := by decide +kernel
theorem dX12_cost_7 : decode cX12_cost 7 = .ok (.invokevirtual 291, 3) := by decide +kernel
theorem dX12_cost_10 : decode cX12_cost 10 = .ok (.ifCond .eq 14, 3) := by decide +kernel
theorem dX12_cost_24 : decode cX12_cost 24 = .ok (.iconst 0, 1) := by decide +kernel
theorem dX12_cost_25 : decode cX12_cost 25 = .ok (.ireturn, 1) := by decide +kernel
theorem dX12_schools_0 : decode cX12_schools 0 = .ok (.aload_n 0, 1) := by decide +kernel
theorem dX12_schools_1 : decode cX12_schools 1 = .ok (.iconst 0, 1) := by decide +kernel
theorem dX12_schools_2 : decode cX12_schools 2 = .ok (.putfield 250, 3) := by decide +kernel
theorem dX12_schools_5 : decode cX12_schools 5 = .ok (.iload_n 1, 1) := by decide +kernel
theorem dX12_schools_6 : decode cX12_schools 6 = .ok (.iconst 0, 1) := by decide +kernel
theorem dX12_schools_7 : decode cX12_schools 7 = .ok (.sipush 10000, 3) := by decide +kernel
theorem dX12_schools_10 : decode cX12_schools 10 = .ok (.invokestatic 269, 3) := by decide +kernel
theorem dX12_schools_13 : decode cX12_schools 13 = .ok (.ifCond .eq 12, 3) := by decide +kernel
theorem dX12_schools_16 : decode cX12_schools 16 = .ok (.iload_n 2, 1) := by decide +kernel
theorem dX12_schools_17 : decode cX12_schools 17 = .ok (.iconst 0, 1) := by decide +kernel
theorem dX12_schools_18 : decode cX12_schools 18 = .ok (.iconst 2, 1) := by decide +kernel
theorem dX12_schools_19 : decode cX12_schools 19 = .ok (.invokestatic 269, 3) := by decide +kernel
theorem dX12_schools_22 : decode cX12_schools 22 = .ok (.ifCond .ne 5, 3) := by decide +kernel
theorem dX12_schools_25 : decode cX12_schools 25 = .ok (.iconst (-1), 1) := by decide +kernel
theorem dX12_schools_26 : decode cX12_schools 26 = .ok (.ireturn, 1) := by decide +kernel
theorem dX12_schools_27 : decode cX12_schools 27 = .ok (.iconst 0, 1) := by decide +kernel
theorem dX12_schools_28 : decode cX12_schools 28 = .ok (.istore_n 3, 1) := by decide +kernel
theorem dX12_schools_29 : decode cX12_schools 29 = .ok (.iconst 0, 1) := by decide +kernel
theorem dX12_schools_30 : decode cX12_schools 30 = .ok (.istore 4, 2) := by decide +kernel
theorem dX12_schools_32 : decode cX12_schools 32 = .ok (.iconst 0, 1) := by decide +kernel
theorem dX12_schools_33 : decode cX12_schools 33 = .ok (.istore 5, 2) := by decide +kernel
theorem dX12_schools_35 : decode cX12_schools 35 = .ok (.iconst 0, 1) := by decide +kernel
theorem dX12_schools_36 : decode cX12_schools 36 = .ok (.istore 6, 2) := by decide +kernel
theorem dX12_schools_38 : decode cX12_schools 38 = .ok (.iload 6, 2) := by decide +kernel
theorem dX12_schools_40 : decode cX12_schools 40 = .ok (.aload_n 0, 1) := by decide +kernel
theorem dX12_schools_41 : decode cX12_schools 41 = .ok (.getfield 26, 3) := by decide +kernel
theorem dX12_schools_44 : decode cX12_schools 44 = .ok (.iconst 0, 1) := by decide +kernel
theorem dX12_schools_45 : decode cX12_schools 45 = .ok (.iaload, 1) := by decide +kernel
theorem dX12_schools_46 : decode cX12_schools 46 = .ok (.if_icmp .ge 26, 3) := by decide +kernel
theorem dX12_schools_72 : decode cX12_schools 72 = .ok (.iconst 1, 1) := by decide +kernel
theorem dX12_schools_73 : decode cX12_schools 73 = .ok (.istore 6, 2) := by decide +kernel
theorem dX12_schools_75 : decode cX12_schools 75 = .ok (.iload 6, 2) := by decide +kernel
theorem dX12_schools_77 : decode cX12_schools 77 = .ok (.iconst 1, 1) := by decide +kernel
theorem dX12_schools_78 : decode cX12_schools 78 = .ok (.aload_n 0, 1) := by decide +kernel
theorem dX12_schools_79 : decode cX12_schools 79 = .ok (.getfield 26, 3) := by decide +kernel
theorem dX12_schools_82 : decode cX12_schools 82 = .ok (.iconst 0, 1) := by decide +kernel
theorem dX12_schools_83 : decode cX12_schools 83 = .ok (.iaload, 1) := by decide +kernel
theorem dX12_schools_84 : decode cX12_schools 84 = .ok (.ishl, 1) := by decide +kernel
theorem dX12_schools_85 : decode cX12_schools 85 = .ok (.if_icmp .ge 125, 3) := by decide +kernel
theorem dX12_schools_210 : decode cX12_schools 210 = .ok (.iload_n 2, 1) := by decide +kernel
theorem dX12_schools_211 : decode cX12_schools 211 = .ok (.ifCond .ne 8, 3) := by decide +kernel
theorem dX12_schools_214 : decode cX12_schools 214 = .ok (.iload 4, 2) := by decide +kernel
theorem dX12_schools_216 : decode cX12_schools 216 = .ok (.goto 14, 3) := by decide +kernel
theorem dX12_schools_219 : decode cX12_schools 219 = .ok (.iload_n 2, 1) := by decide +kernel
theorem dX12_schools_220 : decode cX12_schools 220 = .ok (.iconst 1, 1) := by decide +kernel
theorem dX12_schools_221 : decode cX12_schools 221 = .ok (.if_icmp .ne 8, 3) := by decide +kernel
theorem dX12_schools_224 : decode cX12_schools 224 = .ok (.iload 5, 2) := by decide +kernel
theorem dX12_schools_226 : decode cX12_schools 226 = .ok (.goto 4, 3) := by decide +kernel
theorem dX12_schools_229 : decode cX12_schools 229 = .ok (.iload_n 3, 1) := by decide +kernel
theorem dX12_schools_230 : decode cX12_schools 230 = .ok (.ireturn, 1) := by decide +kernel
theorem dX12_teach_0 : decode cX12_teach 0 = .ok (.aload_n 0, 1) := by decide +kernel
theorem dX12_teach_1 : decode cX12_teach 1 = .ok (.iconst 0, 1) := by decide +kernel
theorem dX12_teach_2 : decode cX12_teach 2 = .ok (.putfield 250, 3) := by decide +kernel
theorem dX12_teach_5 : decode cX12_teach 5 = .ok (.aload_n 0, 1) := by decide +kernel
theorem dX12_teach_6 : decode cX12_teach 6 = .ok (.iload_n 1, 1) := by decide +kernel
theorem dX12_teach_7 : decode cX12_teach 7 = .ok (.invokevirtual 307, 3) := by decide +kernel
theorem dX12_teach_10 : decode cX12_teach 10 = .ok (.ifCond .eq 41, 3) := by decide +kernel
theorem dX12_teach_51 : decode cX12_teach 51 = .ok (.iconst (-1), 1) := by decide +kernel
theorem dX12_teach_52 : decode cX12_teach 52 = .ok (.ireturn, 1) := by decide +kernel
theorem dX12_make_0 : decode cX12_make 0 = .ok (.aload_n 0, 1) := by decide +kernel
theorem dX12_make_1 : decode cX12_make 1 = .ok (.iconst 0, 1) := by decide +kernel
theorem dX12_make_2 : decode cX12_make 2 = .ok (.putfield 250, 3) := by decide +kernel
theorem dX12_make_5 : decode cX12_make 5 = .ok (.aload_n 0, 1) := by decide +kernel
theorem dX12_make_6 : decode cX12_make 6 = .ok (.iload_n 1, 1) := by decide +kernel
theorem dX12_make_7 : decode cX12_make 7 = .ok (.invokevirtual 273, 3) := by decide +kernel
theorem dX12_make_10 : decode cX12_make 10 = .ok (.ifCond .eq 29, 3) := by decide +kernel
theorem dX12_make_39 : decode cX12_make 39 = .ok (.iconst (-1), 1) := by decide +kernel
theorem dX12_make_40 : decode cX12_make 40 = .ok (.ireturn, 1) := by decide +kernel
theorem dX12_print_0 : decode cX12_print 0 = .ok (.aload_n 0, 1) := by decide +kernel
theorem dX12_print_1 : decode cX12_print 1 = .ok (.iconst 0, 1) := by decide +kernel
theorem dX12_print_2 : decode cX12_print 2 = .ok (.putfield 250, 3) := by decide +kernel
theorem dX12_print_5 : decode cX12_print 5 = .ok (.aload_n 0, 1) := by decide +kernel
theorem dX12_print_6 : decode cX12_print 6 = .ok (.getfield 163, 3) := by decide +kernel
theorem dX12_print_9 : decode cX12_print 9 = .ok (.iconst 0, 1) := by decide +kernel
theorem dX12_print_10 : decode cX12_print 10 = .ok (.iaload, 1) := by decide +kernel
theorem dX12_print_11 : decode cX12_print 11 = .ok (.bipush 40, 2) := by decide +kernel
theorem dX12_print_13 : decode cX12_print 13 = .ok (.if_icmp .eq 26, 3) := by decide +kernel
theorem dX12_print_16 : decode cX12_print 16 = .ok (.aload_n 0, 1) := by decide +kernel
theorem dX12_print_17 : decode cX12_print 17 = .ok (.iload_n 1, 1) := by decide +kernel
theorem dX12_print_18 : decode cX12_print 18 = .ok (.invokevirtual 273, 3) := by decide +kernel
theorem dX12_print_21 : decode cX12_print 21 = .ok (.ifCond .eq 18, 3) := by decide +kernel
theorem dX12_print_39 : decode cX12_print 39 = .ok (.iconst (-1), 1) := by decide +kernel
theorem dX12_print_40 : decode cX12_print 40 = .ok (.ireturn, 1) := by decide +kernel
theorem dX12_printed_0 : decode cX12_printed 0 = .ok (.aload_n 0, 1) := by decide +kernel
theorem dX12_printed_1 : decode cX12_printed 1 = .ok (.iconst 0, 1) := by decide +kernel
theorem dX12_printed_2 : decode cX12_printed 2 = .ok (.putfield 250, 3) := by decide +kernel
theorem dX12_printed_5 : decode cX12_printed 5 = .ok (.iload_n 1, 1) := by decide +kernel
theorem dX12_printed_6 : decode cX12_printed 6 = .ok (.iconst 0, 1) := by decide +kernel
theorem dX12_printed_7 : decode cX12_printed 7 = .ok (.aload_n 0, 1) := by decide +kernel
theorem dX12_printed_8 : decode cX12_printed 8 = .ok (.getfield 163, 3) := by decide +kernel
theorem dX12_printed_11 : decode cX12_printed 11 = .ok (.iconst 0, 1) := by decide +kernel
theorem dX12_printed_12 : decode cX12_printed 12 = .ok (.iaload, 1) := by decide +kernel
theorem dX12_printed_13 : decode cX12_printed 13 = .ok (.iconst 1, 1) := by decide +kernel
theorem dX12_printed_14 : decode cX12_printed 14 = .ok (.isub, 1) := by decide +kernel
theorem dX12_printed_15 : decode cX12_printed 15 = .ok (.invokestatic 269, 3) := by decide +kernel
theorem dX12_printed_18 : decode cX12_printed 18 = .ok (.ifCond .ne 5, 3) := by decide +kernel
theorem dX12_printed_21 : decode cX12_printed 21 = .ok (.iconst (-1), 1) := by decide +kernel
theorem dX12_printed_22 : decode cX12_printed 22 = .ok (.ireturn, 1) := by decide +kernel
theorem dX12_grant_0 : decode cX12_grant 0 = .ok (.aload_n 0, 1) := by decide +kernel
theorem dX12_grant_1 : decode cX12_grant 1 = .ok (.iconst 0, 1) := by decide +kernel
theorem dX12_grant_2 : decode cX12_grant 2 = .ok (.putfield 250, 3) := by decide +kernel
theorem dX12_grant_5 : decode cX12_grant 5 = .ok (.aload_n 0, 1) := by decide +kernel
theorem dX12_grant_6 : decode cX12_grant 6 = .ok (.getfield 178, 3) := by decide +kernel
theorem dX12_grant_9 : decode cX12_grant 9 = .ok (.iconst 0, 1) := by decide +kernel
theorem dX12_grant_10 : decode cX12_grant 10 = .ok (.iaload, 1) := by decide +kernel
theorem dX12_grant_11 : decode cX12_grant 11 = .ok (.bipush 8, 2) := by decide +kernel
theorem dX12_grant_13 : decode cX12_grant 13 = .ok (.if_icmp .eq 28, 3) := by decide +kernel
theorem dX12_grant_16 : decode cX12_grant 16 = .ok (.aload_n 0, 1) := by decide +kernel
theorem dX12_grant_17 : decode cX12_grant 17 = .ok (.iload_n 1, 1) := by decide +kernel
theorem dX12_grant_18 : decode cX12_grant 18 = .ok (.invokevirtual 291, 3) := by decide +kernel
theorem dX12_grant_21 : decode cX12_grant 21 = .ok (.ifCond .eq 20, 3) := by decide +kernel
theorem dX12_grant_41 : decode cX12_grant 41 = .ok (.iconst (-1), 1) := by decide +kernel
theorem dX12_grant_42 : decode cX12_grant 42 = .ok (.ireturn, 1) := by decide +kernel
theorem dX12_granted_0 : decode cX12_granted 0 = .ok (.aload_n 0, 1) := by decide +kernel
theorem dX12_granted_1 : decode cX12_granted 1 = .ok (.iconst 0, 1) := by decide +kernel
theorem dX12_granted_2 : decode cX12_granted 2 = .ok (.putfield 250, 3) := by decide +kernel
theorem dX12_granted_5 : decode cX12_granted 5 = .ok (.iload_n 1, 1) := by decide +kernel
theorem dX12_granted_6 : decode cX12_granted 6 = .ok (.iconst 0, 1) := by decide +kernel
theorem dX12_granted_7 : decode cX12_granted 7 = .ok (.aload_n 0, 1) := by decide +kernel
theorem dX12_granted_8 : decode cX12_granted 8 = .ok (.getfield 178, 3) := by decide +kernel
theorem dX12_granted_11 : decode cX12_granted 11 = .ok (.iconst 0, 1) := by decide +kernel
theorem dX12_granted_12 : decode cX12_granted 12 = .ok (.iaload, 1) := by decide +kernel
theorem dX12_granted_13 : decode cX12_granted 13 = .ok (.iconst 1, 1) := by decide +kernel
theorem dX12_granted_14 : decode cX12_granted 14 = .ok (.isub, 1) := by decide +kernel
theorem dX12_granted_15 : decode cX12_granted 15 = .ok (.invokestatic 269, 3) := by decide +kernel
theorem dX12_granted_18 : decode cX12_granted 18 = .ok (.ifCond .eq 12, 3) := by decide +kernel
theorem dX12_granted_30 : decode cX12_granted 30 = .ok (.iconst (-1), 1) := by decide +kernel
theorem dX12_granted_31 : decode cX12_granted 31 = .ok (.ireturn, 1) := by decide +kernel
theorem dX12_count_0 : decode cX12_count 0 = .ok (.aload_n 0, 1) := by decide +kernel
theorem dX12_count_1 : decode cX12_count 1 = .ok (.iconst 0, 1) := by decide +kernel
theorem dX12_count_2 : decode cX12_count 2 = .ok (.putfield 250, 3) := by decide +kernel
theorem dX12_count_5 : decode cX12_count 5 = .ok (.iconst 0, 1) := by decide +kernel
theorem dX12_count_6 : decode cX12_count 6 = .ok (.istore_n 2, 1) := by decide +kernel
theorem dX12_count_7 : decode cX12_count 7 = .ok (.iload_n 1, 1) := by decide +kernel
theorem dX12_count_8 : decode cX12_count 8 = .ok (.tableswitch 193 0 10 #[60, 67, 74, 81, 88, 95, 102, 109, 145, 152, 157], 60) := by decide +kernel
theorem dX12_count_68 : decode cX12_count 68 = .ok (.aload_n 0, 1) := by decide +kernel
theorem dX12_count_69 : decode cX12_count 69 = .ok (.getfield 26, 3) := by decide +kernel
theorem dX12_count_72 : decode cX12_count 72 = .ok (.iconst 0, 1) := by decide +kernel
theorem dX12_count_73 : decode cX12_count 73 = .ok (.iaload, 1) := by decide +kernel
theorem dX12_count_74 : decode cX12_count 74 = .ok (.ireturn, 1) := by decide +kernel
theorem dX12_count_75 : decode cX12_count 75 = .ok (.aload_n 0, 1) := by decide +kernel
theorem dX12_count_76 : decode cX12_count 76 = .ok (.getfield 50, 3) := by decide +kernel
theorem dX12_count_79 : decode cX12_count 79 = .ok (.iconst 0, 1) := by decide +kernel
theorem dX12_count_80 : decode cX12_count 80 = .ok (.iaload, 1) := by decide +kernel
theorem dX12_count_81 : decode cX12_count 81 = .ok (.ireturn, 1) := by decide +kernel
theorem dX12_count_82 : decode cX12_count 82 = .ok (.aload_n 0, 1) := by decide +kernel
theorem dX12_count_83 : decode cX12_count 83 = .ok (.getfield 96, 3) := by decide +kernel
theorem dX12_count_86 : decode cX12_count 86 = .ok (.iconst 0, 1) := by decide +kernel
theorem dX12_count_87 : decode cX12_count 87 = .ok (.iaload, 1) := by decide +kernel
theorem dX12_count_88 : decode cX12_count 88 = .ok (.ireturn, 1) := by decide +kernel
theorem dX12_count_89 : decode cX12_count 89 = .ok (.aload_n 0, 1) := by decide +kernel
theorem dX12_count_90 : decode cX12_count 90 = .ok (.getfield 123, 3) := by decide +kernel
theorem dX12_count_93 : decode cX12_count 93 = .ok (.iconst 0, 1) := by decide +kernel
theorem dX12_count_94 : decode cX12_count 94 = .ok (.iaload, 1) := by decide +kernel
theorem dX12_count_95 : decode cX12_count 95 = .ok (.ireturn, 1) := by decide +kernel
theorem dX12_count_96 : decode cX12_count 96 = .ok (.aload_n 0, 1) := by decide +kernel
theorem dX12_count_97 : decode cX12_count 97 = .ok (.getfield 132, 3) := by decide +kernel
theorem dX12_count_100 : decode cX12_count 100 = .ok (.iconst 0, 1) := by decide +kernel
theorem dX12_count_101 : decode cX12_count 101 = .ok (.iaload, 1) := by decide +kernel
theorem dX12_count_102 : decode cX12_count 102 = .ok (.ireturn, 1) := by decide +kernel
theorem dX12_count_103 : decode cX12_count 103 = .ok (.aload_n 0, 1) := by decide +kernel
theorem dX12_count_104 : decode cX12_count 104 = .ok (.getfield 23, 3) := by decide +kernel
theorem dX12_count_107 : decode cX12_count 107 = .ok (.iconst 0, 1) := by decide +kernel
theorem dX12_count_108 : decode cX12_count 108 = .ok (.iaload, 1) := by decide +kernel
theorem dX12_count_109 : decode cX12_count 109 = .ok (.ireturn, 1) := by decide +kernel
theorem dX12_count_110 : decode cX12_count 110 = .ok (.aload_n 0, 1) := by decide +kernel
theorem dX12_count_111 : decode cX12_count 111 = .ok (.getfield 163, 3) := by decide +kernel
theorem dX12_count_114 : decode cX12_count 114 = .ok (.iconst 0, 1) := by decide +kernel
theorem dX12_count_115 : decode cX12_count 115 = .ok (.iaload, 1) := by decide +kernel
theorem dX12_count_116 : decode cX12_count 116 = .ok (.ireturn, 1) := by decide +kernel
theorem dX12_count_117 : decode cX12_count 117 = .ok (.iconst 0, 1) := by decide +kernel
theorem dX12_count_118 : decode cX12_count 118 = .ok (.istore_n 3, 1) := by decide +kernel
theorem dX12_count_119 : decode cX12_count 119 = .ok (.iload_n 3, 1) := by decide +kernel
theorem dX12_count_120 : decode cX12_count 120 = .ok (.aload_n 0, 1) := by decide +kernel
theorem dX12_count_121 : decode cX12_count 121 = .ok (.getfield 163, 3) := by decide +kernel
theorem dX12_count_124 : decode cX12_count 124 = .ok (.iconst 0, 1) := by decide +kernel
theorem dX12_count_125 : decode cX12_count 125 = .ok (.iaload, 1) := by decide +kernel
theorem dX12_count_126 : decode cX12_count 126 = .ok (.if_icmp .ge 25, 3) := by decide +kernel
theorem dX12_count_151 : decode cX12_count 151 = .ok (.iload_n 2, 1) := by decide +kernel
theorem dX12_count_152 : decode cX12_count 152 = .ok (.ireturn, 1) := by decide +kernel
theorem dX12_count_153 : decode cX12_count 153 = .ok (.aload_n 0, 1) := by decide +kernel
theorem dX12_count_154 : decode cX12_count 154 = .ok (.getfield 178, 3) := by decide +kernel
theorem dX12_count_157 : decode cX12_count 157 = .ok (.iconst 0, 1) := by decide +kernel
theorem dX12_count_158 : decode cX12_count 158 = .ok (.iaload, 1) := by decide +kernel
theorem dX12_count_159 : decode cX12_count 159 = .ok (.ireturn, 1) := by decide +kernel
theorem dX12_count_160 : decode cX12_count 160 = .ok (.aload_n 0, 1) := by decide +kernel
theorem dX12_count_161 : decode cX12_count 161 = .ok (.invokevirtual 434, 3) := by decide +kernel
theorem dX12_count_164 : decode cX12_count 164 = .ok (.ireturn, 1) := by decide +kernel
theorem dX12_count_165 : decode cX12_count 165 = .ok (.iconst 0, 1) := by decide +kernel
theorem dX12_count_166 : decode cX12_count 166 = .ok (.istore_n 3, 1) := by decide +kernel
theorem dX12_count_167 : decode cX12_count 167 = .ok (.iload_n 3, 1) := by decide +kernel
theorem dX12_count_168 : decode cX12_count 168 = .ok (.aload_n 0, 1) := by decide +kernel
theorem dX12_count_169 : decode cX12_count 169 = .ok (.getfield 50, 3) := by decide +kernel
theorem dX12_count_172 : decode cX12_count 172 = .ok (.iconst 0, 1) := by decide +kernel
theorem dX12_count_173 : decode cX12_count 173 = .ok (.iaload, 1) := by decide +kernel
theorem dX12_count_174 : decode cX12_count 174 = .ok (.if_icmp .ge 25, 3) := by decide +kernel
theorem dX12_count_199 : decode cX12_count 199 = .ok (.iload_n 2, 1) := by decide +kernel
theorem dX12_count_200 : decode cX12_count 200 = .ok (.ireturn, 1) := by decide +kernel
theorem dX12_count_201 : decode cX12_count 201 = .ok (.bipush (-100), 2) := by decide +kernel
theorem dX12_count_203 : decode cX12_count 203 = .ok (.ireturn, 1) := by decide +kernel
theorem dX12_image_0 : decode cX12_image 0 = .ok (.aload_n 0, 1) := by decide +kernel
theorem dX12_image_1 : decode cX12_image 1 = .ok (.iconst 0, 1) := by decide +kernel
theorem dX12_image_2 : decode cX12_image 2 = .ok (.putfield 250, 3) := by decide +kernel
theorem dX12_image_5 : decode cX12_image 5 = .ok (.iload_n 1, 1) := by decide +kernel
theorem dX12_image_6 : decode cX12_image 6 = .ok (.iconst 0, 1) := by decide +kernel
theorem dX12_image_7 : decode cX12_image 7 = .ok (.iconst 2, 1) := by decide +kernel
theorem dX12_image_8 : decode cX12_image 8 = .ok (.invokestatic 269, 3) := by decide +kernel
theorem dX12_image_11 : decode cX12_image 11 = .ok (.ifCond .ne 5, 3) := by decide +kernel
theorem dX12_image_14 : decode cX12_image 14 = .ok (.iconst 0, 1) := by decide +kernel
theorem dX12_image_15 : decode cX12_image 15 = .ok (.ireturn, 1) := by decide +kernel
theorem dX12_image_16 : decode cX12_image 16 = .ok (.aload_n 0, 1) := by decide +kernel
theorem dX12_image_17 : decode cX12_image 17 = .ok (.iconst 0, 1) := by decide +kernel
theorem dX12_image_18 : decode cX12_image 18 = .ok (.iload_n 1, 1) := by decide +kernel
theorem dX12_image_19 : decode cX12_image 19 = .ok (.iconst 1, 1) := by decide +kernel
theorem dX12_image_20 : decode cX12_image 20 = .ok (.iadd, 1) := by decide +kernel
theorem dX12_image_21 : decode cX12_image 21 = .ok (.invokevirtual 560, 3) := by decide +kernel
theorem dX12_image_24 : decode cX12_image 24 = .ok (.aload_n 0, 1) := by decide +kernel
theorem dX12_image_25 : decode cX12_image 25 = .ok (.getfield 247, 3) := by decide +kernel
theorem dX12_image_28 : decode cX12_image 28 = .ok (.iload_n 1, 1) := by decide +kernel
theorem dX12_image_29 : decode cX12_image 29 = .ok (.iconst 1, 1) := by decide +kernel
theorem dX12_image_30 : decode cX12_image 30 = .ok (.bastore, 1) := by decide +kernel
theorem dX12_image_31 : decode cX12_image 31 = .ok (.iconst 1, 1) := by decide +kernel
theorem dX12_image_32 : decode cX12_image 32 = .ok (.ireturn, 1) := by decide +kernel
theorem dX12_again_0 : decode cX12_again 0 = .ok (.aload_n 0, 1) := by decide +kernel
theorem dX12_again_1 : decode cX12_again 1 = .ok (.iconst 0, 1) := by decide +kernel
theorem dX12_again_2 : decode cX12_again 2 = .ok (.putfield 250, 3) := by decide +kernel
theorem dX12_again_5 : decode cX12_again 5 = .ok (.iload_n 1, 1) := by decide +kernel
theorem dX12_again_6 : decode cX12_again 6 = .ok (.iconst 0, 1) := by decide +kernel
theorem dX12_again_7 : decode cX12_again 7 = .ok (.iconst 2, 1) := by decide +kernel
theorem dX12_again_8 : decode cX12_again 8 = .ok (.invokestatic 269, 3) := by decide +kernel
theorem dX12_again_11 : decode cX12_again 11 = .ok (.ifCond .eq 12, 3) := by decide +kernel
theorem dX12_again_14 : decode cX12_again 14 = .ok (.aload_n 0, 1) := by decide +kernel
theorem dX12_again_15 : decode cX12_again 15 = .ok (.getfield 247, 3) := by decide +kernel
theorem dX12_again_18 : decode cX12_again 18 = .ok (.iload_n 1, 1) := by decide +kernel
theorem dX12_again_19 : decode cX12_again 19 = .ok (.baload, 1) := by decide +kernel
theorem dX12_again_20 : decode cX12_again 20 = .ok (.ifCond .ne 5, 3) := by decide +kernel
theorem dX12_again_23 : decode cX12_again 23 = .ok (.iconst 0, 1) := by decide +kernel
theorem dX12_again_24 : decode cX12_again 24 = .ok (.ireturn, 1) := by decide +kernel
theorem dJ7_fill_53178_0 : decode cJ7_fill_53178 0 = .ok (.iconst 0, 1) := by decide +kernel
theorem dJ7_fill_53178_1 : decode cJ7_fill_53178 1 = .ok (.istore_n 2, 1) := by decide +kernel
theorem dJ7_fill_53178_2 : decode cJ7_fill_53178 2 = .ok (.aload_n 0, 1) := by decide +kernel
theorem dJ7_fill_53178_3 : decode cJ7_fill_53178 3 = .ok (.arraylength, 1) := by decide +kernel
theorem dJ7_fill_53178_4 : decode cJ7_fill_53178 4 = .ok (.istore_n 3, 1) := by decide +kernel
theorem dJ7_fill_53178_5 : decode cJ7_fill_53178 5 = .ok (.iload_n 2, 1) := by decide +kernel
theorem dJ7_fill_53178_6 : decode cJ7_fill_53178 6 = .ok (.iload_n 3, 1) := by decide +kernel
theorem dJ7_fill_53178_7 : decode cJ7_fill_53178 7 = .ok (.if_icmp .ge 13, 3) := by decide +kernel
theorem dJ7_fill_53178_10 : decode cJ7_fill_53178 10 = .ok (.aload_n 0, 1) := by decide +kernel
theorem dJ7_fill_53178_11 : decode cJ7_fill_53178 11 = .ok (.iload_n 2, 1) := by decide +kernel
theorem dJ7_fill_53178_12 : decode cJ7_fill_53178 12 = .ok (.iload_n 1, 1) := by decide +kernel
theorem dJ7_fill_53178_13 : decode cJ7_fill_53178 13 = .ok (.iastore, 1) := by decide +kernel
theorem dJ7_fill_53178_14 : decode cJ7_fill_53178 14 = .ok (.iinc 2 1, 3) := by decide +kernel
theorem dJ7_fill_53178_17 : decode cJ7_fill_53178 17 = .ok (.goto (-12), 3) := by decide +kernel
theorem dJ7_fill_53178_20 : decode cJ7_fill_53178 20 = .ok (.return_, 1) := by decide +kernel
theorem dL_law_0 : decode cL_law 0 = .ok (.new 7, 3) := by decide +kernel
theorem dL_law_3 : decode cL_law 3 = .ok (.dup, 1) := by decide +kernel
theorem dL_law_4 : decode cL_law 4 = .ok (.invokespecial 9, 3) := by decide +kernel
theorem dL_law_7 : decode cL_law 7 = .ok (.astore_n 1, 1) := by decide +kernel
theorem dL_law_8 : decode cL_law 8 = .ok (.new 10, 3) := by decide +kernel
theorem dL_law_11 : decode cL_law 11 = .ok (.dup, 1) := by decide +kernel
theorem dL_law_12 : decode cL_law 12 = .ok (.invokespecial 12, 3) := by decide +kernel
theorem dL_law_15 : decode cL_law 15 = .ok (.astore_n 2, 1) := by decide +kernel
theorem dL_law_16 : decode cL_law 16 = .ok (.iconst 0, 1) := by decide +kernel
theorem dL_law_17 : decode cL_law 17 = .ok (.istore_n 3, 1) := by decide +kernel
theorem dL_law_18 : decode cL_law 18 = .ok (.iload_n 3, 1) := by decide +kernel
theorem dL_law_19 : decode cL_law 19 = .ok (.aload_n 0, 1) := by decide +kernel
theorem dL_law_20 : decode cL_law 20 = .ok (.arraylength, 1) := by decide +kernel
theorem dL_law_21 : decode cL_law 21 = .ok (.bipush 6, 2) := by decide +kernel
theorem dL_law_23 : decode cL_law 23 = .ok (.isub, 1) := by decide +kernel
theorem dL_law_24 : decode cL_law 24 = .ok (.if_icmp .gt 1862, 3) := by decide +kernel
theorem dL_law_27 : decode cL_law 27 = .ok (.aload_n 0, 1) := by decide +kernel
theorem dL_law_28 : decode cL_law 28 = .ok (.iload_n 3, 1) := by decide +kernel
theorem dL_law_29 : decode cL_law 29 = .ok (.iaload, 1) := by decide +kernel
theorem dL_law_30 : decode cL_law 30 = .ok (.bipush 63, 2) := by decide +kernel
theorem dL_law_32 : decode cL_law 32 = .ok (.iand, 1) := by decide +kernel
theorem dL_law_33 : decode cL_law 33 = .ok (.tableswitch 1847 0 45 #[199, 222, 285, 308, 351, 384, 417, 460, 513, 546, 579, 612, 625, 658, 721, 744, 767, 790, 843, 896, 929, 972, 995, 1018, 1051, 1104, 1137, 1170, 1223, 1256, 1289, 1322, 1355, 1398, 1441, 1464, 1497, 1530, 1573, 1626, 1669, 1702, 1745, 1778, 1801, 1824], 199) := by decide +kernel
theorem dL_law_232 : decode cL_law 232 = .ok (.aload_n 1, 1) := by decide +kernel
theorem dL_law_233 : decode cL_law 233 = .ok (.aload_n 0, 1) := by decide +kernel
theorem dL_law_234 : decode cL_law 234 = .ok (.iload_n 3, 1) := by decide +kernel
theorem dL_law_235 : decode cL_law 235 = .ok (.iconst 1, 1) := by decide +kernel
theorem dL_law_236 : decode cL_law 236 = .ok (.iadd, 1) := by decide +kernel
theorem dL_law_237 : decode cL_law 237 = .ok (.iaload, 1) := by decide +kernel
theorem dL_law_238 : decode cL_law 238 = .ok (.invokevirtual 13, 3) := by decide +kernel
theorem dL_law_241 : decode cL_law 241 = .ok (.aload_n 2, 1) := by decide +kernel
theorem dL_law_242 : decode cL_law 242 = .ok (.aload_n 0, 1) := by decide +kernel
theorem dL_law_243 : decode cL_law 243 = .ok (.iload_n 3, 1) := by decide +kernel
theorem dL_law_244 : decode cL_law 244 = .ok (.iconst 1, 1) := by decide +kernel
theorem dL_law_245 : decode cL_law 245 = .ok (.iadd, 1) := by decide +kernel
theorem dL_law_246 : decode cL_law 246 = .ok (.iaload, 1) := by decide +kernel
theorem dL_law_247 : decode cL_law 247 = .ok (.invokevirtual 17, 3) := by decide +kernel
theorem dL_law_250 : decode cL_law 250 = .ok (.if_icmp .eq 1630, 3) := by decide +kernel
theorem dL_law_255 : decode cL_law 255 = .ok (.aload_n 1, 1) := by decide +kernel
theorem dL_law_256 : decode cL_law 256 = .ok (.aload_n 0, 1) := by decide +kernel
theorem dL_law_257 : decode cL_law 257 = .ok (.iload_n 3, 1) := by decide +kernel
theorem dL_law_258 : decode cL_law 258 = .ok (.iconst 1, 1) := by decide +kernel
theorem dL_law_259 : decode cL_law 259 = .ok (.iadd, 1) := by decide +kernel
theorem dL_law_260 : decode cL_law 260 = .ok (.iaload, 1) := by decide +kernel
theorem dL_law_261 : decode cL_law 261 = .ok (.aload_n 0, 1) := by decide +kernel
theorem dL_law_262 : decode cL_law 262 = .ok (.iload_n 3, 1) := by decide +kernel
theorem dL_law_263 : decode cL_law 263 = .ok (.iconst 2, 1) := by decide +kernel
theorem dL_law_264 : decode cL_law 264 = .ok (.iadd, 1) := by decide +kernel
theorem dL_law_265 : decode cL_law 265 = .ok (.iaload, 1) := by decide +kernel
theorem dL_law_266 : decode cL_law 266 = .ok (.aload_n 0, 1) := by decide +kernel
theorem dL_law_267 : decode cL_law 267 = .ok (.iload_n 3, 1) := by decide +kernel
theorem dL_law_268 : decode cL_law 268 = .ok (.iconst 3, 1) := by decide +kernel
theorem dL_law_269 : decode cL_law 269 = .ok (.iadd, 1) := by decide +kernel
theorem dL_law_270 : decode cL_law 270 = .ok (.iaload, 1) := by decide +kernel
theorem dL_law_271 : decode cL_law 271 = .ok (.aload_n 0, 1) := by decide +kernel
theorem dL_law_272 : decode cL_law 272 = .ok (.iload_n 3, 1) := by decide +kernel
theorem dL_law_273 : decode cL_law 273 = .ok (.iconst 4, 1) := by decide +kernel
theorem dL_law_274 : decode cL_law 274 = .ok (.iadd, 1) := by decide +kernel
theorem dL_law_275 : decode cL_law 275 = .ok (.iaload, 1) := by decide +kernel
theorem dL_law_276 : decode cL_law 276 = .ok (.aload_n 0, 1) := by decide +kernel
theorem dL_law_277 : decode cL_law 277 = .ok (.iload_n 3, 1) := by decide +kernel
theorem dL_law_278 : decode cL_law 278 = .ok (.iconst 5, 1) := by decide +kernel
theorem dL_law_279 : decode cL_law 279 = .ok (.iadd, 1) := by decide +kernel
theorem dL_law_280 : decode cL_law 280 = .ok (.iaload, 1) := by decide +kernel
theorem dL_law_281 : decode cL_law 281 = .ok (.invokevirtual 18, 3) := by decide +kernel
theorem dL_law_284 : decode cL_law 284 = .ok (.aload_n 2, 1) := by decide +kernel
theorem dL_law_285 : decode cL_law 285 = .ok (.aload_n 0, 1) := by decide +kernel
theorem dL_law_286 : decode cL_law 286 = .ok (.iload_n 3, 1) := by decide +kernel
theorem dL_law_287 : decode cL_law 287 = .ok (.iconst 1, 1) := by decide +kernel
theorem dL_law_288 : decode cL_law 288 = .ok (.iadd, 1) := by decide +kernel
theorem dL_law_289 : decode cL_law 289 = .ok (.iaload, 1) := by decide +kernel
theorem dL_law_290 : decode cL_law 290 = .ok (.aload_n 0, 1) := by decide +kernel
theorem dL_law_291 : decode cL_law 291 = .ok (.iload_n 3, 1) := by decide +kernel
theorem dL_law_292 : decode cL_law 292 = .ok (.iconst 2, 1) := by decide +kernel
theorem dL_law_293 : decode cL_law 293 = .ok (.iadd, 1) := by decide +kernel
theorem dL_law_294 : decode cL_law 294 = .ok (.iaload, 1) := by decide +kernel
theorem dL_law_295 : decode cL_law 295 = .ok (.aload_n 0, 1) := by decide +kernel
theorem dL_law_296 : decode cL_law 296 = .ok (.iload_n 3, 1) := by decide +kernel
theorem dL_law_297 : decode cL_law 297 = .ok (.iconst 3, 1) := by decide +kernel
theorem dL_law_298 : decode cL_law 298 = .ok (.iadd, 1) := by decide +kernel
theorem dL_law_299 : decode cL_law 299 = .ok (.iaload, 1) := by decide +kernel
theorem dL_law_300 : decode cL_law 300 = .ok (.aload_n 0, 1) := by decide +kernel
theorem dL_law_301 : decode cL_law 301 = .ok (.iload_n 3, 1) := by decide +kernel
theorem dL_law_302 : decode cL_law 302 = .ok (.iconst 4, 1) := by decide +kernel
theorem dL_law_303 : decode cL_law 303 = .ok (.iadd, 1) := by decide +kernel
theorem dL_law_304 : decode cL_law 304 = .ok (.iaload, 1) := by decide +kernel
theorem dL_law_305 : decode cL_law 305 = .ok (.aload_n 0, 1) := by decide +kernel
theorem dL_law_306 : decode cL_law 306 = .ok (.iload_n 3, 1) := by decide +kernel
theorem dL_law_307 : decode cL_law 307 = .ok (.iconst 5, 1) := by decide +kernel
theorem dL_law_308 : decode cL_law 308 = .ok (.iadd, 1) := by decide +kernel
theorem dL_law_309 : decode cL_law 309 = .ok (.iaload, 1) := by decide +kernel
theorem dL_law_310 : decode cL_law 310 = .ok (.invokevirtual 22, 3) := by decide +kernel
theorem dL_law_313 : decode cL_law 313 = .ok (.if_icmp .eq 1567, 3) := by decide +kernel
theorem dL_law_318 : decode cL_law 318 = .ok (.aload_n 1, 1) := by decide +kernel
theorem dL_law_319 : decode cL_law 319 = .ok (.aload_n 0, 1) := by decide +kernel
theorem dL_law_320 : decode cL_law 320 = .ok (.iload_n 3, 1) := by decide +kernel
theorem dL_law_321 : decode cL_law 321 = .ok (.iconst 1, 1) := by decide +kernel
theorem dL_law_322 : decode cL_law 322 = .ok (.iadd, 1) := by decide +kernel
theorem dL_law_323 : decode cL_law 323 = .ok (.iaload, 1) := by decide +kernel
theorem dL_law_324 : decode cL_law 324 = .ok (.invokevirtual 23, 3) := by decide +kernel
theorem dL_law_327 : decode cL_law 327 = .ok (.aload_n 2, 1) := by decide +kernel
theorem dL_law_328 : decode cL_law 328 = .ok (.aload_n 0, 1) := by decide +kernel
theorem dL_law_329 : decode cL_law 329 = .ok (.iload_n 3, 1) := by decide +kernel
theorem dL_law_330 : decode cL_law 330 = .ok (.iconst 1, 1) := by decide +kernel
theorem dL_law_331 : decode cL_law 331 = .ok (.iadd, 1) := by decide +kernel
theorem dL_law_332 : decode cL_law 332 = .ok (.iaload, 1) := by decide +kernel
theorem dL_law_333 : decode cL_law 333 = .ok (.invokevirtual 27, 3) := by decide +kernel
theorem dL_law_336 : decode cL_law 336 = .ok (.if_icmp .eq 1544, 3) := by decide +kernel
theorem dL_law_341 : decode cL_law 341 = .ok (.aload_n 1, 1) := by decide +kernel
theorem dL_law_342 : decode cL_law 342 = .ok (.aload_n 0, 1) := by decide +kernel
theorem dL_law_343 : decode cL_law 343 = .ok (.iload_n 3, 1) := by decide +kernel
theorem dL_law_344 : decode cL_law 344 = .ok (.iconst 1, 1) := by decide +kernel
theorem dL_law_345 : decode cL_law 345 = .ok (.iadd, 1) := by decide +kernel
theorem dL_law_346 : decode cL_law 346 = .ok (.iaload, 1) := by decide +kernel
theorem dL_law_347 : decode cL_law 347 = .ok (.aload_n 0, 1) := by decide +kernel
theorem dL_law_348 : decode cL_law 348 = .ok (.iload_n 3, 1) := by decide +kernel
theorem dL_law_349 : decode cL_law 349 = .ok (.iconst 2, 1) := by decide +kernel
theorem dL_law_350 : decode cL_law 350 = .ok (.iadd, 1) := by decide +kernel
theorem dL_law_351 : decode cL_law 351 = .ok (.iaload, 1) := by decide +kernel
theorem dL_law_352 : decode cL_law 352 = .ok (.aload_n 0, 1) := by decide +kernel
theorem dL_law_353 : decode cL_law 353 = .ok (.iload_n 3, 1) := by decide +kernel
theorem dL_law_354 : decode cL_law 354 = .ok (.iconst 3, 1) := by decide +kernel
theorem dL_law_355 : decode cL_law 355 = .ok (.iadd, 1) := by decide +kernel
theorem dL_law_356 : decode cL_law 356 = .ok (.iaload, 1) := by decide +kernel
theorem dL_law_357 : decode cL_law 357 = .ok (.invokevirtual 28, 3) := by decide +kernel
theorem dL_law_360 : decode cL_law 360 = .ok (.aload_n 2, 1) := by decide +kernel
theorem dL_law_361 : decode cL_law 361 = .ok (.aload_n 0, 1) := by decide +kernel
theorem dL_law_362 : decode cL_law 362 = .ok (.iload_n 3, 1) := by decide +kernel
theorem dL_law_363 : decode cL_law 363 = .ok (.iconst 1, 1) := by decide +kernel
theorem dL_law_364 : decode cL_law 364 = .ok (.iadd, 1) := by decide +kernel
theorem dL_law_365 : decode cL_law 365 = .ok (.iaload, 1) := by decide +kernel
theorem dL_law_366 : decode cL_law 366 = .ok (.aload_n 0, 1) := by decide +kernel
theorem dL_law_367 : decode cL_law 367 = .ok (.iload_n 3, 1) := by decide +kernel
theorem dL_law_368 : decode cL_law 368 = .ok (.iconst 2, 1) := by decide +kernel
theorem dL_law_369 : decode cL_law 369 = .ok (.iadd, 1) := by decide +kernel
theorem dL_law_370 : decode cL_law 370 = .ok (.iaload, 1) := by decide +kernel
theorem dL_law_371 : decode cL_law 371 = .ok (.aload_n 0, 1) := by decide +kernel
theorem dL_law_372 : decode cL_law 372 = .ok (.iload_n 3, 1) := by decide +kernel
theorem dL_law_373 : decode cL_law 373 = .ok (.iconst 3, 1) := by decide +kernel
theorem dL_law_374 : decode cL_law 374 = .ok (.iadd, 1) := by decide +kernel
theorem dL_law_375 : decode cL_law 375 = .ok (.iaload, 1) := by decide +kernel
theorem dL_law_376 : decode cL_law 376 = .ok (.invokevirtual 32, 3) := by decide +kernel
theorem dL_law_379 : decode cL_law 379 = .ok (.if_icmp .eq 1501, 3) := by decide +kernel
theorem dL_law_384 : decode cL_law 384 = .ok (.aload_n 1, 1) := by decide +kernel
theorem dL_law_385 : decode cL_law 385 = .ok (.aload_n 0, 1) := by decide +kernel
theorem dL_law_386 : decode cL_law 386 = .ok (.iload_n 3, 1) := by decide +kernel
theorem dL_law_387 : decode cL_law 387 = .ok (.iconst 1, 1) := by decide +kernel
theorem dL_law_388 : decode cL_law 388 = .ok (.iadd, 1) := by decide +kernel
theorem dL_law_389 : decode cL_law 389 = .ok (.iaload, 1) := by decide +kernel
theorem dL_law_390 : decode cL_law 390 = .ok (.aload_n 0, 1) := by decide +kernel
theorem dL_law_391 : decode cL_law 391 = .ok (.iload_n 3, 1) := by decide +kernel
theorem dL_law_392 : decode cL_law 392 = .ok (.iconst 2, 1) := by decide +kernel
theorem dL_law_393 : decode cL_law 393 = .ok (.iadd, 1) := by decide +kernel
theorem dL_law_394 : decode cL_law 394 = .ok (.iaload, 1) := by decide +kernel
theorem dL_law_395 : decode cL_law 395 = .ok (.invokevirtual 33, 3) := by decide +kernel
theorem dL_law_398 : decode cL_law 398 = .ok (.aload_n 2, 1) := by decide +kernel
theorem dL_law_399 : decode cL_law 399 = .ok (.aload_n 0, 1) := by decide +kernel
theorem dL_law_400 : decode cL_law 400 = .ok (.iload_n 3, 1) := by decide +kernel
theorem dL_law_401 : decode cL_law 401 = .ok (.iconst 1, 1) := by decide +kernel
theorem dL_law_402 : decode cL_law 402 = .ok (.iadd, 1) := by decide +kernel
theorem dL_law_403 : decode cL_law 403 = .ok (.iaload, 1) := by decide +kernel
theorem dL_law_404 : decode cL_law 404 = .ok (.aload_n 0, 1) := by decide +kernel
theorem dL_law_405 : decode cL_law 405 = .ok (.iload_n 3, 1) := by decide +kernel
theorem dL_law_406 : decode cL_law 406 = .ok (.iconst 2, 1) := by decide +kernel
theorem dL_law_407 : decode cL_law 407 = .ok (.iadd, 1) := by decide +kernel
theorem dL_law_408 : decode cL_law 408 = .ok (.iaload, 1) := by decide +kernel
theorem dL_law_409 : decode cL_law 409 = .ok (.invokevirtual 37, 3) := by decide +kernel
theorem dL_law_412 : decode cL_law 412 = .ok (.if_icmp .eq 1468, 3) := by decide +kernel
theorem dL_law_417 : decode cL_law 417 = .ok (.aload_n 1, 1) := by decide +kernel
theorem dL_law_418 : decode cL_law 418 = .ok (.aload_n 0, 1) := by decide +kernel
theorem dL_law_419 : decode cL_law 419 = .ok (.iload_n 3, 1) := by decide +kernel
theorem dL_law_420 : decode cL_law 420 = .ok (.iconst 1, 1) := by decide +kernel
theorem dL_law_421 : decode cL_law 421 = .ok (.iadd, 1) := by decide +kernel
theorem dL_law_422 : decode cL_law 422 = .ok (.iaload, 1) := by decide +kernel
theorem dL_law_423 : decode cL_law 423 = .ok (.aload_n 0, 1) := by decide +kernel
theorem dL_law_424 : decode cL_law 424 = .ok (.iload_n 3, 1) := by decide +kernel
theorem dL_law_425 : decode cL_law 425 = .ok (.iconst 2, 1) := by decide +kernel
theorem dL_law_426 : decode cL_law 426 = .ok (.iadd, 1) := by decide +kernel
theorem dL_law_427 : decode cL_law 427 = .ok (.iaload, 1) := by decide +kernel
theorem dL_law_428 : decode cL_law 428 = .ok (.invokevirtual 38, 3) := by decide +kernel
theorem dL_law_431 : decode cL_law 431 = .ok (.aload_n 2, 1) := by decide +kernel
theorem dL_law_432 : decode cL_law 432 = .ok (.aload_n 0, 1) := by decide +kernel
theorem dL_law_433 : decode cL_law 433 = .ok (.iload_n 3, 1) := by decide +kernel
theorem dL_law_434 : decode cL_law 434 = .ok (.iconst 1, 1) := by decide +kernel
theorem dL_law_435 : decode cL_law 435 = .ok (.iadd, 1) := by decide +kernel
theorem dL_law_436 : decode cL_law 436 = .ok (.iaload, 1) := by decide +kernel
theorem dL_law_437 : decode cL_law 437 = .ok (.aload_n 0, 1) := by decide +kernel
theorem dL_law_438 : decode cL_law 438 = .ok (.iload_n 3, 1) := by decide +kernel
theorem dL_law_439 : decode cL_law 439 = .ok (.iconst 2, 1) := by decide +kernel
theorem dL_law_440 : decode cL_law 440 = .ok (.iadd, 1) := by decide +kernel
theorem dL_law_441 : decode cL_law 441 = .ok (.iaload, 1) := by decide +kernel
theorem dL_law_442 : decode cL_law 442 = .ok (.invokevirtual 42, 3) := by decide +kernel
theorem dL_law_445 : decode cL_law 445 = .ok (.if_icmp .eq 1435, 3) := by decide +kernel
theorem dL_law_450 : decode cL_law 450 = .ok (.aload_n 1, 1) := by decide +kernel
theorem dL_law_451 : decode cL_law 451 = .ok (.aload_n 0, 1) := by decide +kernel
theorem dL_law_452 : decode cL_law 452 = .ok (.iload_n 3, 1) := by decide +kernel
theorem dL_law_453 : decode cL_law 453 = .ok (.iconst 1, 1) := by decide +kernel
theorem dL_law_454 : decode cL_law 454 = .ok (.iadd, 1) := by decide +kernel
theorem dL_law_455 : decode cL_law 455 = .ok (.iaload, 1) := by decide +kernel
theorem dL_law_456 : decode cL_law 456 = .ok (.aload_n 0, 1) := by decide +kernel
theorem dL_law_457 : decode cL_law 457 = .ok (.iload_n 3, 1) := by decide +kernel
theorem dL_law_458 : decode cL_law 458 = .ok (.iconst 2, 1) := by decide +kernel
theorem dL_law_459 : decode cL_law 459 = .ok (.iadd, 1) := by decide +kernel
theorem dL_law_460 : decode cL_law 460 = .ok (.iaload, 1) := by decide +kernel
theorem dL_law_461 : decode cL_law 461 = .ok (.aload_n 0, 1) := by decide +kernel
theorem dL_law_462 : decode cL_law 462 = .ok (.iload_n 3, 1) := by decide +kernel
theorem dL_law_463 : decode cL_law 463 = .ok (.iconst 3, 1) := by decide +kernel
theorem dL_law_464 : decode cL_law 464 = .ok (.iadd, 1) := by decide +kernel
theorem dL_law_465 : decode cL_law 465 = .ok (.iaload, 1) := by decide +kernel
theorem dL_law_466 : decode cL_law 466 = .ok (.invokevirtual 43, 3) := by decide +kernel
theorem dL_law_469 : decode cL_law 469 = .ok (.aload_n 2, 1) := by decide +kernel
theorem dL_law_470 : decode cL_law 470 = .ok (.aload_n 0, 1) := by decide +kernel
theorem dL_law_471 : decode cL_law 471 = .ok (.iload_n 3, 1) := by decide +kernel
theorem dL_law_472 : decode cL_law 472 = .ok (.iconst 1, 1) := by decide +kernel
theorem dL_law_473 : decode cL_law 473 = .ok (.iadd, 1) := by decide +kernel
theorem dL_law_474 : decode cL_law 474 = .ok (.iaload, 1) := by decide +kernel
theorem dL_law_475 : decode cL_law 475 = .ok (.aload_n 0, 1) := by decide +kernel
theorem dL_law_476 : decode cL_law 476 = .ok (.iload_n 3, 1) := by decide +kernel
theorem dL_law_477 : decode cL_law 477 = .ok (.iconst 2, 1) := by decide +kernel
theorem dL_law_478 : decode cL_law 478 = .ok (.iadd, 1) := by decide +kernel
theorem dL_law_479 : decode cL_law 479 = .ok (.iaload, 1) := by decide +kernel
theorem dL_law_480 : decode cL_law 480 = .ok (.aload_n 0, 1) := by decide +kernel
theorem dL_law_481 : decode cL_law 481 = .ok (.iload_n 3, 1) := by decide +kernel
theorem dL_law_482 : decode cL_law 482 = .ok (.iconst 3, 1) := by decide +kernel
theorem dL_law_483 : decode cL_law 483 = .ok (.iadd, 1) := by decide +kernel
theorem dL_law_484 : decode cL_law 484 = .ok (.iaload, 1) := by decide +kernel
theorem dL_law_485 : decode cL_law 485 = .ok (.invokevirtual 46, 3) := by decide +kernel
theorem dL_law_488 : decode cL_law 488 = .ok (.if_icmp .eq 1392, 3) := by decide +kernel
theorem dL_law_493 : decode cL_law 493 = .ok (.aload_n 1, 1) := by decide +kernel
theorem dL_law_494 : decode cL_law 494 = .ok (.aload_n 0, 1) := by decide +kernel
theorem dL_law_495 : decode cL_law 495 = .ok (.iload_n 3, 1) := by decide +kernel
theorem dL_law_496 : decode cL_law 496 = .ok (.iconst 1, 1) := by decide +kernel
theorem dL_law_497 : decode cL_law 497 = .ok (.iadd, 1) := by decide +kernel
theorem dL_law_498 : decode cL_law 498 = .ok (.iaload, 1) := by decide +kernel
theorem dL_law_499 : decode cL_law 499 = .ok (.aload_n 0, 1) := by decide +kernel
theorem dL_law_500 : decode cL_law 500 = .ok (.iload_n 3, 1) := by decide +kernel
theorem dL_law_501 : decode cL_law 501 = .ok (.iconst 2, 1) := by decide +kernel
theorem dL_law_502 : decode cL_law 502 = .ok (.iadd, 1) := by decide +kernel
theorem dL_law_503 : decode cL_law 503 = .ok (.iaload, 1) := by decide +kernel
theorem dL_law_504 : decode cL_law 504 = .ok (.aload_n 0, 1) := by decide +kernel
theorem dL_law_505 : decode cL_law 505 = .ok (.iload_n 3, 1) := by decide +kernel
theorem dL_law_506 : decode cL_law 506 = .ok (.iconst 3, 1) := by decide +kernel
theorem dL_law_507 : decode cL_law 507 = .ok (.iadd, 1) := by decide +kernel
theorem dL_law_508 : decode cL_law 508 = .ok (.iaload, 1) := by decide +kernel
theorem dL_law_509 : decode cL_law 509 = .ok (.aload_n 0, 1) := by decide +kernel
theorem dL_law_510 : decode cL_law 510 = .ok (.iload_n 3, 1) := by decide +kernel
theorem dL_law_511 : decode cL_law 511 = .ok (.iconst 4, 1) := by decide +kernel
theorem dL_law_512 : decode cL_law 512 = .ok (.iadd, 1) := by decide +kernel
theorem dL_law_513 : decode cL_law 513 = .ok (.iaload, 1) := by decide +kernel
theorem dL_law_514 : decode cL_law 514 = .ok (.invokevirtual 47, 3) := by decide +kernel
theorem dL_law_517 : decode cL_law 517 = .ok (.aload_n 2, 1) := by decide +kernel
theorem dL_law_518 : decode cL_law 518 = .ok (.aload_n 0, 1) := by decide +kernel
theorem dL_law_519 : decode cL_law 519 = .ok (.iload_n 3, 1) := by decide +kernel
theorem dL_law_520 : decode cL_law 520 = .ok (.iconst 1, 1) := by decide +kernel
theorem dL_law_521 : decode cL_law 521 = .ok (.iadd, 1) := by decide +kernel
theorem dL_law_522 : decode cL_law 522 = .ok (.iaload, 1) := by decide +kernel
theorem dL_law_523 : decode cL_law 523 = .ok (.aload_n 0, 1) := by decide +kernel
theorem dL_law_524 : decode cL_law 524 = .ok (.iload_n 3, 1) := by decide +kernel
theorem dL_law_525 : decode cL_law 525 = .ok (.iconst 2, 1) := by decide +kernel
theorem dL_law_526 : decode cL_law 526 = .ok (.iadd, 1) := by decide +kernel
theorem dL_law_527 : decode cL_law 527 = .ok (.iaload, 1) := by decide +kernel
theorem dL_law_528 : decode cL_law 528 = .ok (.aload_n 0, 1) := by decide +kernel
theorem dL_law_529 : decode cL_law 529 = .ok (.iload_n 3, 1) := by decide +kernel
theorem dL_law_530 : decode cL_law 530 = .ok (.iconst 3, 1) := by decide +kernel
theorem dL_law_531 : decode cL_law 531 = .ok (.iadd, 1) := by decide +kernel
theorem dL_law_532 : decode cL_law 532 = .ok (.iaload, 1) := by decide +kernel
theorem dL_law_533 : decode cL_law 533 = .ok (.aload_n 0, 1) := by decide +kernel
theorem dL_law_534 : decode cL_law 534 = .ok (.iload_n 3, 1) := by decide +kernel
theorem dL_law_535 : decode cL_law 535 = .ok (.iconst 4, 1) := by decide +kernel
theorem dL_law_536 : decode cL_law 536 = .ok (.iadd, 1) := by decide +kernel
theorem dL_law_537 : decode cL_law 537 = .ok (.iaload, 1) := by decide +kernel
theorem dL_law_538 : decode cL_law 538 = .ok (.invokevirtual 51, 3) := by decide +kernel
theorem dL_law_541 : decode cL_law 541 = .ok (.if_icmp .eq 1339, 3) := by decide +kernel
theorem dL_law_546 : decode cL_law 546 = .ok (.aload_n 1, 1) := by decide +kernel
theorem dL_law_547 : decode cL_law 547 = .ok (.aload_n 0, 1) := by decide +kernel
theorem dL_law_548 : decode cL_law 548 = .ok (.iload_n 3, 1) := by decide +kernel
theorem dL_law_549 : decode cL_law 549 = .ok (.iconst 1, 1) := by decide +kernel
theorem dL_law_550 : decode cL_law 550 = .ok (.iadd, 1) := by decide +kernel
theorem dL_law_551 : decode cL_law 551 = .ok (.iaload, 1) := by decide +kernel
theorem dL_law_552 : decode cL_law 552 = .ok (.aload_n 0, 1) := by decide +kernel
theorem dL_law_553 : decode cL_law 553 = .ok (.iload_n 3, 1) := by decide +kernel
theorem dL_law_554 : decode cL_law 554 = .ok (.iconst 2, 1) := by decide +kernel
theorem dL_law_555 : decode cL_law 555 = .ok (.iadd, 1) := by decide +kernel
theorem dL_law_556 : decode cL_law 556 = .ok (.iaload, 1) := by decide +kernel
theorem dL_law_557 : decode cL_law 557 = .ok (.invokevirtual 52, 3) := by decide +kernel
theorem dL_law_560 : decode cL_law 560 = .ok (.aload_n 2, 1) := by decide +kernel
theorem dL_law_561 : decode cL_law 561 = .ok (.aload_n 0, 1) := by decide +kernel
theorem dL_law_562 : decode cL_law 562 = .ok (.iload_n 3, 1) := by decide +kernel
theorem dL_law_563 : decode cL_law 563 = .ok (.iconst 1, 1) := by decide +kernel
theorem dL_law_564 : decode cL_law 564 = .ok (.iadd, 1) := by decide +kernel
theorem dL_law_565 : decode cL_law 565 = .ok (.iaload, 1) := by decide +kernel
theorem dL_law_566 : decode cL_law 566 = .ok (.aload_n 0, 1) := by decide +kernel
theorem dL_law_567 : decode cL_law 567 = .ok (.iload_n 3, 1) := by decide +kernel
theorem dL_law_568 : decode cL_law 568 = .ok (.iconst 2, 1) := by decide +kernel
theorem dL_law_569 : decode cL_law 569 = .ok (.iadd, 1) := by decide +kernel
theorem dL_law_570 : decode cL_law 570 = .ok (.iaload, 1) := by decide +kernel
theorem dL_law_571 : decode cL_law 571 = .ok (.invokevirtual 55, 3) := by decide +kernel
theorem dL_law_574 : decode cL_law 574 = .ok (.if_icmp .eq 1306, 3) := by decide +kernel
theorem dL_law_579 : decode cL_law 579 = .ok (.aload_n 1, 1) := by decide +kernel
theorem dL_law_580 : decode cL_law 580 = .ok (.aload_n 0, 1) := by decide +kernel
theorem dL_law_581 : decode cL_law 581 = .ok (.iload_n 3, 1) := by decide +kernel
theorem dL_law_582 : decode cL_law 582 = .ok (.iconst 1, 1) := by decide +kernel
theorem dL_law_583 : decode cL_law 583 = .ok (.iadd, 1) := by decide +kernel
theorem dL_law_584 : decode cL_law 584 = .ok (.iaload, 1) := by decide +kernel
theorem dL_law_585 : decode cL_law 585 = .ok (.aload_n 0, 1) := by decide +kernel
theorem dL_law_586 : decode cL_law 586 = .ok (.iload_n 3, 1) := by decide +kernel
theorem dL_law_587 : decode cL_law 587 = .ok (.iconst 2, 1) := by decide +kernel
theorem dL_law_588 : decode cL_law 588 = .ok (.iadd, 1) := by decide +kernel
theorem dL_law_589 : decode cL_law 589 = .ok (.iaload, 1) := by decide +kernel
theorem dL_law_590 : decode cL_law 590 = .ok (.invokevirtual 56, 3) := by decide +kernel
theorem dL_law_593 : decode cL_law 593 = .ok (.aload_n 2, 1) := by decide +kernel
theorem dL_law_594 : decode cL_law 594 = .ok (.aload_n 0, 1) := by decide +kernel
theorem dL_law_595 : decode cL_law 595 = .ok (.iload_n 3, 1) := by decide +kernel
theorem dL_law_596 : decode cL_law 596 = .ok (.iconst 1, 1) := by decide +kernel
theorem dL_law_597 : decode cL_law 597 = .ok (.iadd, 1) := by decide +kernel
theorem dL_law_598 : decode cL_law 598 = .ok (.iaload, 1) := by decide +kernel
theorem dL_law_599 : decode cL_law 599 = .ok (.aload_n 0, 1) := by decide +kernel
theorem dL_law_600 : decode cL_law 600 = .ok (.iload_n 3, 1) := by decide +kernel
theorem dL_law_601 : decode cL_law 601 = .ok (.iconst 2, 1) := by decide +kernel
theorem dL_law_602 : decode cL_law 602 = .ok (.iadd, 1) := by decide +kernel
theorem dL_law_603 : decode cL_law 603 = .ok (.iaload, 1) := by decide +kernel
theorem dL_law_604 : decode cL_law 604 = .ok (.invokevirtual 59, 3) := by decide +kernel
theorem dL_law_607 : decode cL_law 607 = .ok (.if_icmp .eq 1273, 3) := by decide +kernel
theorem dL_law_612 : decode cL_law 612 = .ok (.aload_n 1, 1) := by decide +kernel
theorem dL_law_613 : decode cL_law 613 = .ok (.aload_n 0, 1) := by decide +kernel
theorem dL_law_614 : decode cL_law 614 = .ok (.iload_n 3, 1) := by decide +kernel
theorem dL_law_615 : decode cL_law 615 = .ok (.iconst 1, 1) := by decide +kernel
theorem dL_law_616 : decode cL_law 616 = .ok (.iadd, 1) := by decide +kernel
theorem dL_law_617 : decode cL_law 617 = .ok (.iaload, 1) := by decide +kernel
theorem dL_law_618 : decode cL_law 618 = .ok (.aload_n 0, 1) := by decide +kernel
theorem dL_law_619 : decode cL_law 619 = .ok (.iload_n 3, 1) := by decide +kernel
theorem dL_law_620 : decode cL_law 620 = .ok (.iconst 2, 1) := by decide +kernel
theorem dL_law_621 : decode cL_law 621 = .ok (.iadd, 1) := by decide +kernel
theorem dL_law_622 : decode cL_law 622 = .ok (.iaload, 1) := by decide +kernel
theorem dL_law_623 : decode cL_law 623 = .ok (.invokevirtual 60, 3) := by decide +kernel
theorem dL_law_626 : decode cL_law 626 = .ok (.aload_n 2, 1) := by decide +kernel
theorem dL_law_627 : decode cL_law 627 = .ok (.aload_n 0, 1) := by decide +kernel
theorem dL_law_628 : decode cL_law 628 = .ok (.iload_n 3, 1) := by decide +kernel
theorem dL_law_629 : decode cL_law 629 = .ok (.iconst 1, 1) := by decide +kernel
theorem dL_law_630 : decode cL_law 630 = .ok (.iadd, 1) := by decide +kernel
theorem dL_law_631 : decode cL_law 631 = .ok (.iaload, 1) := by decide +kernel
theorem dL_law_632 : decode cL_law 632 = .ok (.aload_n 0, 1) := by decide +kernel
theorem dL_law_633 : decode cL_law 633 = .ok (.iload_n 3, 1) := by decide +kernel
theorem dL_law_634 : decode cL_law 634 = .ok (.iconst 2, 1) := by decide +kernel
theorem dL_law_635 : decode cL_law 635 = .ok (.iadd, 1) := by decide +kernel
theorem dL_law_636 : decode cL_law 636 = .ok (.iaload, 1) := by decide +kernel
theorem dL_law_637 : decode cL_law 637 = .ok (.invokevirtual 63, 3) := by decide +kernel
theorem dL_law_640 : decode cL_law 640 = .ok (.if_icmp .eq 1240, 3) := by decide +kernel
theorem dL_law_645 : decode cL_law 645 = .ok (.aload_n 1, 1) := by decide +kernel
theorem dL_law_646 : decode cL_law 646 = .ok (.invokevirtual 64, 3) := by decide +kernel
theorem dL_law_649 : decode cL_law 649 = .ok (.aload_n 2, 1) := by decide +kernel
theorem dL_law_650 : decode cL_law 650 = .ok (.invokevirtual 68, 3) := by decide +kernel
theorem dL_law_653 : decode cL_law 653 = .ok (.if_icmp .eq 1227, 3) := by decide +kernel
theorem dL_law_658 : decode cL_law 658 = .ok (.aload_n 1, 1) := by decide +kernel
theorem dL_law_659 : decode cL_law 659 = .ok (.aload_n 0, 1) := by decide +kernel
theorem dL_law_660 : decode cL_law 660 = .ok (.iload_n 3, 1) := by decide +kernel
theorem dL_law_661 : decode cL_law 661 = .ok (.iconst 1, 1) := by decide +kernel
theorem dL_law_662 : decode cL_law 662 = .ok (.iadd, 1) := by decide +kernel
theorem dL_law_663 : decode cL_law 663 = .ok (.iaload, 1) := by decide +kernel
theorem dL_law_664 : decode cL_law 664 = .ok (.aload_n 0, 1) := by decide +kernel
theorem dL_law_665 : decode cL_law 665 = .ok (.iload_n 3, 1) := by decide +kernel
theorem dL_law_666 : decode cL_law 666 = .ok (.iconst 2, 1) := by decide +kernel
theorem dL_law_667 : decode cL_law 667 = .ok (.iadd, 1) := by decide +kernel
theorem dL_law_668 : decode cL_law 668 = .ok (.iaload, 1) := by decide +kernel
theorem dL_law_669 : decode cL_law 669 = .ok (.invokevirtual 69, 3) := by decide +kernel
theorem dL_law_672 : decode cL_law 672 = .ok (.aload_n 2, 1) := by decide +kernel
theorem dL_law_673 : decode cL_law 673 = .ok (.aload_n 0, 1) := by decide +kernel
theorem dL_law_674 : decode cL_law 674 = .ok (.iload_n 3, 1) := by decide +kernel
theorem dL_law_675 : decode cL_law 675 = .ok (.iconst 1, 1) := by decide +kernel
theorem dL_law_676 : decode cL_law 676 = .ok (.iadd, 1) := by decide +kernel
theorem dL_law_677 : decode cL_law 677 = .ok (.iaload, 1) := by decide +kernel
theorem dL_law_678 : decode cL_law 678 = .ok (.aload_n 0, 1) := by decide +kernel
theorem dL_law_679 : decode cL_law 679 = .ok (.iload_n 3, 1) := by decide +kernel
theorem dL_law_680 : decode cL_law 680 = .ok (.iconst 2, 1) := by decide +kernel
theorem dL_law_681 : decode cL_law 681 = .ok (.iadd, 1) := by decide +kernel
theorem dL_law_682 : decode cL_law 682 = .ok (.iaload, 1) := by decide +kernel
theorem dL_law_683 : decode cL_law 683 = .ok (.invokevirtual 72, 3) := by decide +kernel
theorem dL_law_686 : decode cL_law 686 = .ok (.if_icmp .eq 1194, 3) := by decide +kernel
theorem dL_law_691 : decode cL_law 691 = .ok (.aload_n 1, 1) := by decide +kernel
theorem dL_law_692 : decode cL_law 692 = .ok (.aload_n 0, 1) := by decide +kernel
theorem dL_law_693 : decode cL_law 693 = .ok (.iload_n 3, 1) := by decide +kernel
theorem dL_law_694 : decode cL_law 694 = .ok (.iconst 1, 1) := by decide +kernel
theorem dL_law_695 : decode cL_law 695 = .ok (.iadd, 1) := by decide +kernel
theorem dL_law_696 : decode cL_law 696 = .ok (.iaload, 1) := by decide +kernel
theorem dL_law_697 : decode cL_law 697 = .ok (.aload_n 0, 1) := by decide +kernel
theorem dL_law_698 : decode cL_law 698 = .ok (.iload_n 3, 1) := by decide +kernel
theorem dL_law_699 : decode cL_law 699 = .ok (.iconst 2, 1) := by decide +kernel
theorem dL_law_700 : decode cL_law 700 = .ok (.iadd, 1) := by decide +kernel
theorem dL_law_701 : decode cL_law 701 = .ok (.iaload, 1) := by decide +kernel
theorem dL_law_702 : decode cL_law 702 = .ok (.aload_n 0, 1) := by decide +kernel
theorem dL_law_703 : decode cL_law 703 = .ok (.iload_n 3, 1) := by decide +kernel
theorem dL_law_704 : decode cL_law 704 = .ok (.iconst 3, 1) := by decide +kernel
theorem dL_law_705 : decode cL_law 705 = .ok (.iadd, 1) := by decide +kernel
theorem dL_law_706 : decode cL_law 706 = .ok (.iaload, 1) := by decide +kernel
theorem dL_law_707 : decode cL_law 707 = .ok (.aload_n 0, 1) := by decide +kernel
theorem dL_law_708 : decode cL_law 708 = .ok (.iload_n 3, 1) := by decide +kernel
theorem dL_law_709 : decode cL_law 709 = .ok (.iconst 4, 1) := by decide +kernel
theorem dL_law_710 : decode cL_law 710 = .ok (.iadd, 1) := by decide +kernel
theorem dL_law_711 : decode cL_law 711 = .ok (.iaload, 1) := by decide +kernel
theorem dL_law_712 : decode cL_law 712 = .ok (.aload_n 0, 1) := by decide +kernel
theorem dL_law_713 : decode cL_law 713 = .ok (.iload_n 3, 1) := by decide +kernel
theorem dL_law_714 : decode cL_law 714 = .ok (.iconst 5, 1) := by decide +kernel
theorem dL_law_715 : decode cL_law 715 = .ok (.iadd, 1) := by decide +kernel
theorem dL_law_716 : decode cL_law 716 = .ok (.iaload, 1) := by decide +kernel
theorem dL_law_717 : decode cL_law 717 = .ok (.invokevirtual 73, 3) := by decide +kernel
theorem dL_law_720 : decode cL_law 720 = .ok (.aload_n 2, 1) := by decide +kernel
theorem dL_law_721 : decode cL_law 721 = .ok (.aload_n 0, 1) := by decide +kernel
theorem dL_law_722 : decode cL_law 722 = .ok (.iload_n 3, 1) := by decide +kernel
theorem dL_law_723 : decode cL_law 723 = .ok (.iconst 1, 1) := by decide +kernel
theorem dL_law_724 : decode cL_law 724 = .ok (.iadd, 1) := by decide +kernel
theorem dL_law_725 : decode cL_law 725 = .ok (.iaload, 1) := by decide +kernel
theorem dL_law_726 : decode cL_law 726 = .ok (.aload_n 0, 1) := by decide +kernel
theorem dL_law_727 : decode cL_law 727 = .ok (.iload_n 3, 1) := by decide +kernel
theorem dL_law_728 : decode cL_law 728 = .ok (.iconst 2, 1) := by decide +kernel
theorem dL_law_729 : decode cL_law 729 = .ok (.iadd, 1) := by decide +kernel
theorem dL_law_730 : decode cL_law 730 = .ok (.iaload, 1) := by decide +kernel
theorem dL_law_731 : decode cL_law 731 = .ok (.aload_n 0, 1) := by decide +kernel
theorem dL_law_732 : decode cL_law 732 = .ok (.iload_n 3, 1) := by decide +kernel
theorem dL_law_733 : decode cL_law 733 = .ok (.iconst 3, 1) := by decide +kernel
theorem dL_law_734 : decode cL_law 734 = .ok (.iadd, 1) := by decide +kernel
theorem dL_law_735 : decode cL_law 735 = .ok (.iaload, 1) := by decide +kernel
theorem dL_law_736 : decode cL_law 736 = .ok (.aload_n 0, 1) := by decide +kernel
theorem dL_law_737 : decode cL_law 737 = .ok (.iload_n 3, 1) := by decide +kernel
theorem dL_law_738 : decode cL_law 738 = .ok (.iconst 4, 1) := by decide +kernel
theorem dL_law_739 : decode cL_law 739 = .ok (.iadd, 1) := by decide +kernel
theorem dL_law_740 : decode cL_law 740 = .ok (.iaload, 1) := by decide +kernel
theorem dL_law_741 : decode cL_law 741 = .ok (.aload_n 0, 1) := by decide +kernel
theorem dL_law_742 : decode cL_law 742 = .ok (.iload_n 3, 1) := by decide +kernel
theorem dL_law_743 : decode cL_law 743 = .ok (.iconst 5, 1) := by decide +kernel
theorem dL_law_744 : decode cL_law 744 = .ok (.iadd, 1) := by decide +kernel
theorem dL_law_745 : decode cL_law 745 = .ok (.iaload, 1) := by decide +kernel
theorem dL_law_746 : decode cL_law 746 = .ok (.invokevirtual 76, 3) := by decide +kernel
theorem dL_law_749 : decode cL_law 749 = .ok (.if_icmp .eq 1131, 3) := by decide +kernel
theorem dL_law_754 : decode cL_law 754 = .ok (.aload_n 1, 1) := by decide +kernel
theorem dL_law_755 : decode cL_law 755 = .ok (.aload_n 0, 1) := by decide +kernel
theorem dL_law_756 : decode cL_law 756 = .ok (.iload_n 3, 1) := by decide +kernel
theorem dL_law_757 : decode cL_law 757 = .ok (.iconst 1, 1) := by decide +kernel
theorem dL_law_758 : decode cL_law 758 = .ok (.iadd, 1) := by decide +kernel
theorem dL_law_759 : decode cL_law 759 = .ok (.iaload, 1) := by decide +kernel
theorem dL_law_760 : decode cL_law 760 = .ok (.invokevirtual 77, 3) := by decide +kernel
theorem dL_law_763 : decode cL_law 763 = .ok (.aload_n 2, 1) := by decide +kernel
theorem dL_law_764 : decode cL_law 764 = .ok (.aload_n 0, 1) := by decide +kernel
theorem dL_law_765 : decode cL_law 765 = .ok (.iload_n 3, 1) := by decide +kernel
theorem dL_law_766 : decode cL_law 766 = .ok (.iconst 1, 1) := by decide +kernel
theorem dL_law_767 : decode cL_law 767 = .ok (.iadd, 1) := by decide +kernel
theorem dL_law_768 : decode cL_law 768 = .ok (.iaload, 1) := by decide +kernel
theorem dL_law_769 : decode cL_law 769 = .ok (.invokevirtual 80, 3) := by decide +kernel
theorem dL_law_772 : decode cL_law 772 = .ok (.if_icmp .eq 1108, 3) := by decide +kernel
theorem dL_law_777 : decode cL_law 777 = .ok (.aload_n 1, 1) := by decide +kernel
theorem dL_law_778 : decode cL_law 778 = .ok (.aload_n 0, 1) := by decide +kernel
theorem dL_law_779 : decode cL_law 779 = .ok (.iload_n 3, 1) := by decide +kernel
theorem dL_law_780 : decode cL_law 780 = .ok (.iconst 1, 1) := by decide +kernel
theorem dL_law_781 : decode cL_law 781 = .ok (.iadd, 1) := by decide +kernel
theorem dL_law_782 : decode cL_law 782 = .ok (.iaload, 1) := by decide +kernel
theorem dL_law_783 : decode cL_law 783 = .ok (.invokevirtual 81, 3) := by decide +kernel
theorem dL_law_786 : decode cL_law 786 = .ok (.aload_n 2, 1) := by decide +kernel
theorem dL_law_787 : decode cL_law 787 = .ok (.aload_n 0, 1) := by decide +kernel
theorem dL_law_788 : decode cL_law 788 = .ok (.iload_n 3, 1) := by decide +kernel
theorem dL_law_789 : decode cL_law 789 = .ok (.iconst 1, 1) := by decide +kernel
theorem dL_law_790 : decode cL_law 790 = .ok (.iadd, 1) := by decide +kernel
theorem dL_law_791 : decode cL_law 791 = .ok (.iaload, 1) := by decide +kernel
theorem dL_law_792 : decode cL_law 792 = .ok (.invokevirtual 84, 3) := by decide +kernel
theorem dL_law_795 : decode cL_law 795 = .ok (.if_icmp .eq 1085, 3) := by decide +kernel
theorem dL_law_800 : decode cL_law 800 = .ok (.aload_n 1, 1) := by decide +kernel
theorem dL_law_801 : decode cL_law 801 = .ok (.aload_n 0, 1) := by decide +kernel
theorem dL_law_802 : decode cL_law 802 = .ok (.iload_n 3, 1) := by decide +kernel
theorem dL_law_803 : decode cL_law 803 = .ok (.iconst 1, 1) := by decide +kernel
theorem dL_law_804 : decode cL_law 804 = .ok (.iadd, 1) := by decide +kernel
theorem dL_law_805 : decode cL_law 805 = .ok (.iaload, 1) := by decide +kernel
theorem dL_law_806 : decode cL_law 806 = .ok (.invokevirtual 85, 3) := by decide +kernel
theorem dL_law_809 : decode cL_law 809 = .ok (.aload_n 2, 1) := by decide +kernel
theorem dL_law_810 : decode cL_law 810 = .ok (.aload_n 0, 1) := by decide +kernel
theorem dL_law_811 : decode cL_law 811 = .ok (.iload_n 3, 1) := by decide +kernel
theorem dL_law_812 : decode cL_law 812 = .ok (.iconst 1, 1) := by decide +kernel
theorem dL_law_813 : decode cL_law 813 = .ok (.iadd, 1) := by decide +kernel
theorem dL_law_814 : decode cL_law 814 = .ok (.iaload, 1) := by decide +kernel
theorem dL_law_815 : decode cL_law 815 = .ok (.invokevirtual 88, 3) := by decide +kernel
theorem dL_law_818 : decode cL_law 818 = .ok (.if_icmp .eq 1062, 3) := by decide +kernel
theorem dL_law_823 : decode cL_law 823 = .ok (.aload_n 1, 1) := by decide +kernel
theorem dL_law_824 : decode cL_law 824 = .ok (.aload_n 0, 1) := by decide +kernel
theorem dL_law_825 : decode cL_law 825 = .ok (.iload_n 3, 1) := by decide +kernel
theorem dL_law_826 : decode cL_law 826 = .ok (.iconst 1, 1) := by decide +kernel
theorem dL_law_827 : decode cL_law 827 = .ok (.iadd, 1) := by decide +kernel
theorem dL_law_828 : decode cL_law 828 = .ok (.iaload, 1) := by decide +kernel
theorem dL_law_829 : decode cL_law 829 = .ok (.aload_n 0, 1) := by decide +kernel
theorem dL_law_830 : decode cL_law 830 = .ok (.iload_n 3, 1) := by decide +kernel
theorem dL_law_831 : decode cL_law 831 = .ok (.iconst 2, 1) := by decide +kernel
theorem dL_law_832 : decode cL_law 832 = .ok (.iadd, 1) := by decide +kernel
theorem dL_law_833 : decode cL_law 833 = .ok (.iaload, 1) := by decide +kernel
theorem dL_law_834 : decode cL_law 834 = .ok (.aload_n 0, 1) := by decide +kernel
theorem dL_law_835 : decode cL_law 835 = .ok (.iload_n 3, 1) := by decide +kernel
theorem dL_law_836 : decode cL_law 836 = .ok (.iconst 3, 1) := by decide +kernel
theorem dL_law_837 : decode cL_law 837 = .ok (.iadd, 1) := by decide +kernel
theorem dL_law_838 : decode cL_law 838 = .ok (.iaload, 1) := by decide +kernel
theorem dL_law_839 : decode cL_law 839 = .ok (.aload_n 0, 1) := by decide +kernel
theorem dL_law_840 : decode cL_law 840 = .ok (.iload_n 3, 1) := by decide +kernel
theorem dL_law_841 : decode cL_law 841 = .ok (.iconst 4, 1) := by decide +kernel
theorem dL_law_842 : decode cL_law 842 = .ok (.iadd, 1) := by decide +kernel
theorem dL_law_843 : decode cL_law 843 = .ok (.iaload, 1) := by decide +kernel
theorem dL_law_844 : decode cL_law 844 = .ok (.invokevirtual 89, 3) := by decide +kernel
theorem dL_law_847 : decode cL_law 847 = .ok (.aload_n 2, 1) := by decide +kernel
theorem dL_law_848 : decode cL_law 848 = .ok (.aload_n 0, 1) := by decide +kernel
theorem dL_law_849 : decode cL_law 849 = .ok (.iload_n 3, 1) := by decide +kernel
theorem dL_law_850 : decode cL_law 850 = .ok (.iconst 1, 1) := by decide +kernel
theorem dL_law_851 : decode cL_law 851 = .ok (.iadd, 1) := by decide +kernel
theorem dL_law_852 : decode cL_law 852 = .ok (.iaload, 1) := by decide +kernel
theorem dL_law_853 : decode cL_law 853 = .ok (.aload_n 0, 1) := by decide +kernel
theorem dL_law_854 : decode cL_law 854 = .ok (.iload_n 3, 1) := by decide +kernel
theorem dL_law_855 : decode cL_law 855 = .ok (.iconst 2, 1) := by decide +kernel
theorem dL_law_856 : decode cL_law 856 = .ok (.iadd, 1) := by decide +kernel
theorem dL_law_857 : decode cL_law 857 = .ok (.iaload, 1) := by decide +kernel
theorem dL_law_858 : decode cL_law 858 = .ok (.aload_n 0, 1) := by decide +kernel
theorem dL_law_859 : decode cL_law 859 = .ok (.iload_n 3, 1) := by decide +kernel
theorem dL_law_860 : decode cL_law 860 = .ok (.iconst 3, 1) := by decide +kernel
theorem dL_law_861 : decode cL_law 861 = .ok (.iadd, 1) := by decide +kernel
theorem dL_law_862 : decode cL_law 862 = .ok (.iaload, 1) := by decide +kernel
theorem dL_law_863 : decode cL_law 863 = .ok (.aload_n 0, 1) := by decide +kernel
theorem dL_law_864 : decode cL_law 864 = .ok (.iload_n 3, 1) := by decide +kernel
theorem dL_law_865 : decode cL_law 865 = .ok (.iconst 4, 1) := by decide +kernel
theorem dL_law_866 : decode cL_law 866 = .ok (.iadd, 1) := by decide +kernel
theorem dL_law_867 : decode cL_law 867 = .ok (.iaload, 1) := by decide +kernel
theorem dL_law_868 : decode cL_law 868 = .ok (.invokevirtual 93, 3) := by decide +kernel
theorem dL_law_871 : decode cL_law 871 = .ok (.if_icmp .eq 1009, 3) := by decide +kernel
theorem dL_law_876 : decode cL_law 876 = .ok (.aload_n 1, 1) := by decide +kernel
theorem dL_law_877 : decode cL_law 877 = .ok (.aload_n 0, 1) := by decide +kernel
theorem dL_law_878 : decode cL_law 878 = .ok (.iload_n 3, 1) := by decide +kernel
theorem dL_law_879 : decode cL_law 879 = .ok (.iconst 1, 1) := by decide +kernel
theorem dL_law_880 : decode cL_law 880 = .ok (.iadd, 1) := by decide +kernel
theorem dL_law_881 : decode cL_law 881 = .ok (.iaload, 1) := by decide +kernel
theorem dL_law_882 : decode cL_law 882 = .ok (.aload_n 0, 1) := by decide +kernel
theorem dL_law_883 : decode cL_law 883 = .ok (.iload_n 3, 1) := by decide +kernel
theorem dL_law_884 : decode cL_law 884 = .ok (.iconst 2, 1) := by decide +kernel
theorem dL_law_885 : decode cL_law 885 = .ok (.iadd, 1) := by decide +kernel
theorem dL_law_886 : decode cL_law 886 = .ok (.iaload, 1) := by decide +kernel
theorem dL_law_887 : decode cL_law 887 = .ok (.aload_n 0, 1) := by decide +kernel
theorem dL_law_888 : decode cL_law 888 = .ok (.iload_n 3, 1) := by decide +kernel
theorem dL_law_889 : decode cL_law 889 = .ok (.iconst 3, 1) := by decide +kernel
theorem dL_law_890 : decode cL_law 890 = .ok (.iadd, 1) := by decide +kernel
theorem dL_law_891 : decode cL_law 891 = .ok (.iaload, 1) := by decide +kernel
theorem dL_law_892 : decode cL_law 892 = .ok (.aload_n 0, 1) := by decide +kernel
theorem dL_law_893 : decode cL_law 893 = .ok (.iload_n 3, 1) := by decide +kernel
theorem dL_law_894 : decode cL_law 894 = .ok (.iconst 4, 1) := by decide +kernel
theorem dL_law_895 : decode cL_law 895 = .ok (.iadd, 1) := by decide +kernel
theorem dL_law_896 : decode cL_law 896 = .ok (.iaload, 1) := by decide +kernel
theorem dL_law_897 : decode cL_law 897 = .ok (.invokevirtual 94, 3) := by decide +kernel
theorem dL_law_900 : decode cL_law 900 = .ok (.aload_n 2, 1) := by decide +kernel
theorem dL_law_901 : decode cL_law 901 = .ok (.aload_n 0, 1) := by decide +kernel
theorem dL_law_902 : decode cL_law 902 = .ok (.iload_n 3, 1) := by decide +kernel
theorem dL_law_903 : decode cL_law 903 = .ok (.iconst 1, 1) := by decide +kernel
theorem dL_law_904 : decode cL_law 904 = .ok (.iadd, 1) := by decide +kernel
theorem dL_law_905 : decode cL_law 905 = .ok (.iaload, 1) := by decide +kernel
theorem dL_law_906 : decode cL_law 906 = .ok (.aload_n 0, 1) := by decide +kernel
theorem dL_law_907 : decode cL_law 907 = .ok (.iload_n 3, 1) := by decide +kernel
theorem dL_law_908 : decode cL_law 908 = .ok (.iconst 2, 1) := by decide +kernel
theorem dL_law_909 : decode cL_law 909 = .ok (.iadd, 1) := by decide +kernel
theorem dL_law_910 : decode cL_law 910 = .ok (.iaload, 1) := by decide +kernel
theorem dL_law_911 : decode cL_law 911 = .ok (.aload_n 0, 1) := by decide +kernel
theorem dL_law_912 : decode cL_law 912 = .ok (.iload_n 3, 1) := by decide +kernel
theorem dL_law_913 : decode cL_law 913 = .ok (.iconst 3, 1) := by decide +kernel
theorem dL_law_914 : decode cL_law 914 = .ok (.iadd, 1) := by decide +kernel
theorem dL_law_915 : decode cL_law 915 = .ok (.iaload, 1) := by decide +kernel
theorem dL_law_916 : decode cL_law 916 = .ok (.aload_n 0, 1) := by decide +kernel
theorem dL_law_917 : decode cL_law 917 = .ok (.iload_n 3, 1) := by decide +kernel
theorem dL_law_918 : decode cL_law 918 = .ok (.iconst 4, 1) := by decide +kernel
theorem dL_law_919 : decode cL_law 919 = .ok (.iadd, 1) := by decide +kernel
theorem dL_law_920 : decode cL_law 920 = .ok (.iaload, 1) := by decide +kernel
theorem dL_law_921 : decode cL_law 921 = .ok (.invokevirtual 97, 3) := by decide +kernel
theorem dL_law_924 : decode cL_law 924 = .ok (.if_icmp .eq 956, 3) := by decide +kernel
theorem dL_law_929 : decode cL_law 929 = .ok (.aload_n 1, 1) := by decide +kernel
theorem dL_law_930 : decode cL_law 930 = .ok (.aload_n 0, 1) := by decide +kernel
theorem dL_law_931 : decode cL_law 931 = .ok (.iload_n 3, 1) := by decide +kernel
theorem dL_law_932 : decode cL_law 932 = .ok (.iconst 1, 1) := by decide +kernel
theorem dL_law_933 : decode cL_law 933 = .ok (.iadd, 1) := by decide +kernel
theorem dL_law_934 : decode cL_law 934 = .ok (.iaload, 1) := by decide +kernel
theorem dL_law_935 : decode cL_law 935 = .ok (.aload_n 0, 1) := by decide +kernel
theorem dL_law_936 : decode cL_law 936 = .ok (.iload_n 3, 1) := by decide +kernel
theorem dL_law_937 : decode cL_law 937 = .ok (.iconst 2, 1) := by decide +kernel
theorem dL_law_938 : decode cL_law 938 = .ok (.iadd, 1) := by decide +kernel
theorem dL_law_939 : decode cL_law 939 = .ok (.iaload, 1) := by decide +kernel
theorem dL_law_940 : decode cL_law 940 = .ok (.invokevirtual 98, 3) := by decide +kernel
theorem dL_law_943 : decode cL_law 943 = .ok (.aload_n 2, 1) := by decide +kernel
theorem dL_law_944 : decode cL_law 944 = .ok (.aload_n 0, 1) := by decide +kernel
theorem dL_law_945 : decode cL_law 945 = .ok (.iload_n 3, 1) := by decide +kernel
theorem dL_law_946 : decode cL_law 946 = .ok (.iconst 1, 1) := by decide +kernel
theorem dL_law_947 : decode cL_law 947 = .ok (.iadd, 1) := by decide +kernel
theorem dL_law_948 : decode cL_law 948 = .ok (.iaload, 1) := by decide +kernel
theorem dL_law_949 : decode cL_law 949 = .ok (.aload_n 0, 1) := by decide +kernel
theorem dL_law_950 : decode cL_law 950 = .ok (.iload_n 3, 1) := by decide +kernel
theorem dL_law_951 : decode cL_law 951 = .ok (.iconst 2, 1) := by decide +kernel
theorem dL_law_952 : decode cL_law 952 = .ok (.iadd, 1) := by decide +kernel
theorem dL_law_953 : decode cL_law 953 = .ok (.iaload, 1) := by decide +kernel
theorem dL_law_954 : decode cL_law 954 = .ok (.invokevirtual 101, 3) := by decide +kernel
theorem dL_law_957 : decode cL_law 957 = .ok (.if_icmp .eq 923, 3) := by decide +kernel
theorem dL_law_962 : decode cL_law 962 = .ok (.aload_n 1, 1) := by decide +kernel
theorem dL_law_963 : decode cL_law 963 = .ok (.aload_n 0, 1) := by decide +kernel
theorem dL_law_964 : decode cL_law 964 = .ok (.iload_n 3, 1) := by decide +kernel
theorem dL_law_965 : decode cL_law 965 = .ok (.iconst 1, 1) := by decide +kernel
theorem dL_law_966 : decode cL_law 966 = .ok (.iadd, 1) := by decide +kernel
theorem dL_law_967 : decode cL_law 967 = .ok (.iaload, 1) := by decide +kernel
theorem dL_law_968 : decode cL_law 968 = .ok (.aload_n 0, 1) := by decide +kernel
theorem dL_law_969 : decode cL_law 969 = .ok (.iload_n 3, 1) := by decide +kernel
theorem dL_law_970 : decode cL_law 970 = .ok (.iconst 2, 1) := by decide +kernel
theorem dL_law_971 : decode cL_law 971 = .ok (.iadd, 1) := by decide +kernel
theorem dL_law_972 : decode cL_law 972 = .ok (.iaload, 1) := by decide +kernel
theorem dL_law_973 : decode cL_law 973 = .ok (.aload_n 0, 1) := by decide +kernel
theorem dL_law_974 : decode cL_law 974 = .ok (.iload_n 3, 1) := by decide +kernel
theorem dL_law_975 : decode cL_law 975 = .ok (.iconst 3, 1) := by decide +kernel
theorem dL_law_976 : decode cL_law 976 = .ok (.iadd, 1) := by decide +kernel
theorem dL_law_977 : decode cL_law 977 = .ok (.iaload, 1) := by decide +kernel
theorem dL_law_978 : decode cL_law 978 = .ok (.invokevirtual 102, 3) := by decide +kernel
theorem dL_law_981 : decode cL_law 981 = .ok (.aload_n 2, 1) := by decide +kernel
theorem dL_law_982 : decode cL_law 982 = .ok (.aload_n 0, 1) := by decide +kernel
theorem dL_law_983 : decode cL_law 983 = .ok (.iload_n 3, 1) := by decide +kernel
theorem dL_law_984 : decode cL_law 984 = .ok (.iconst 1, 1) := by decide +kernel
theorem dL_law_985 : decode cL_law 985 = .ok (.iadd, 1) := by decide +kernel
theorem dL_law_986 : decode cL_law 986 = .ok (.iaload, 1) := by decide +kernel
theorem dL_law_987 : decode cL_law 987 = .ok (.aload_n 0, 1) := by decide +kernel
theorem dL_law_988 : decode cL_law 988 = .ok (.iload_n 3, 1) := by decide +kernel
theorem dL_law_989 : decode cL_law 989 = .ok (.iconst 2, 1) := by decide +kernel
theorem dL_law_990 : decode cL_law 990 = .ok (.iadd, 1) := by decide +kernel
theorem dL_law_991 : decode cL_law 991 = .ok (.iaload, 1) := by decide +kernel
theorem dL_law_992 : decode cL_law 992 = .ok (.aload_n 0, 1) := by decide +kernel
theorem dL_law_993 : decode cL_law 993 = .ok (.iload_n 3, 1) := by decide +kernel
theorem dL_law_994 : decode cL_law 994 = .ok (.iconst 3, 1) := by decide +kernel
theorem dL_law_995 : decode cL_law 995 = .ok (.iadd, 1) := by decide +kernel
theorem dL_law_996 : decode cL_law 996 = .ok (.iaload, 1) := by decide +kernel
theorem dL_law_997 : decode cL_law 997 = .ok (.invokevirtual 105, 3) := by decide +kernel
theorem dL_law_1000 : decode cL_law 1000 = .ok (.if_icmp .eq 880, 3) := by decide +kernel
theorem dL_law_1005 : decode cL_law 1005 = .ok (.aload_n 1, 1) := by decide +kernel
theorem dL_law_1006 : decode cL_law 1006 = .ok (.aload_n 0, 1) := by decide +kernel
theorem dL_law_1007 : decode cL_law 1007 = .ok (.iload_n 3, 1) := by decide +kernel
theorem dL_law_1008 : decode cL_law 1008 = .ok (.iconst 1, 1) := by decide +kernel
theorem dL_law_1009 : decode cL_law 1009 = .ok (.iadd, 1) := by decide +kernel
theorem dL_law_1010 : decode cL_law 1010 = .ok (.iaload, 1) := by decide +kernel
theorem dL_law_1011 : decode cL_law 1011 = .ok (.invokevirtual 106, 3) := by decide +kernel
theorem dL_law_1014 : decode cL_law 1014 = .ok (.aload_n 2, 1) := by decide +kernel
theorem dL_law_1015 : decode cL_law 1015 = .ok (.aload_n 0, 1) := by decide +kernel
theorem dL_law_1016 : decode cL_law 1016 = .ok (.iload_n 3, 1) := by decide +kernel
theorem dL_law_1017 : decode cL_law 1017 = .ok (.iconst 1, 1) := by decide +kernel
theorem dL_law_1018 : decode cL_law 1018 = .ok (.iadd, 1) := by decide +kernel
theorem dL_law_1019 : decode cL_law 1019 = .ok (.iaload, 1) := by decide +kernel
theorem dL_law_1020 : decode cL_law 1020 = .ok (.invokevirtual 109, 3) := by decide +kernel
theorem dL_law_1023 : decode cL_law 1023 = .ok (.if_icmp .eq 857, 3) := by decide +kernel
theorem dL_law_1028 : decode cL_law 1028 = .ok (.aload_n 1, 1) := by decide +kernel
theorem dL_law_1029 : decode cL_law 1029 = .ok (.aload_n 0, 1) := by decide +kernel
theorem dL_law_1030 : decode cL_law 1030 = .ok (.iload_n 3, 1) := by decide +kernel
theorem dL_law_1031 : decode cL_law 1031 = .ok (.iconst 1, 1) := by decide +kernel
theorem dL_law_1032 : decode cL_law 1032 = .ok (.iadd, 1) := by decide +kernel
theorem dL_law_1033 : decode cL_law 1033 = .ok (.iaload, 1) := by decide +kernel
theorem dL_law_1034 : decode cL_law 1034 = .ok (.invokevirtual 110, 3) := by decide +kernel
theorem dL_law_1037 : decode cL_law 1037 = .ok (.aload_n 2, 1) := by decide +kernel
theorem dL_law_1038 : decode cL_law 1038 = .ok (.aload_n 0, 1) := by decide +kernel
theorem dL_law_1039 : decode cL_law 1039 = .ok (.iload_n 3, 1) := by decide +kernel
theorem dL_law_1040 : decode cL_law 1040 = .ok (.iconst 1, 1) := by decide +kernel
theorem dL_law_1041 : decode cL_law 1041 = .ok (.iadd, 1) := by decide +kernel
theorem dL_law_1042 : decode cL_law 1042 = .ok (.iaload, 1) := by decide +kernel
theorem dL_law_1043 : decode cL_law 1043 = .ok (.invokevirtual 113, 3) := by decide +kernel
theorem dL_law_1046 : decode cL_law 1046 = .ok (.if_icmp .eq 834, 3) := by decide +kernel
theorem dL_law_1051 : decode cL_law 1051 = .ok (.aload_n 1, 1) := by decide +kernel
theorem dL_law_1052 : decode cL_law 1052 = .ok (.aload_n 0, 1) := by decide +kernel
theorem dL_law_1053 : decode cL_law 1053 = .ok (.iload_n 3, 1) := by decide +kernel
theorem dL_law_1054 : decode cL_law 1054 = .ok (.iconst 1, 1) := by decide +kernel
theorem dL_law_1055 : decode cL_law 1055 = .ok (.iadd, 1) := by decide +kernel
theorem dL_law_1056 : decode cL_law 1056 = .ok (.iaload, 1) := by decide +kernel
theorem dL_law_1057 : decode cL_law 1057 = .ok (.aload_n 0, 1) := by decide +kernel
theorem dL_law_1058 : decode cL_law 1058 = .ok (.iload_n 3, 1) := by decide +kernel
theorem dL_law_1059 : decode cL_law 1059 = .ok (.iconst 2, 1) := by decide +kernel
theorem dL_law_1060 : decode cL_law 1060 = .ok (.iadd, 1) := by decide +kernel
theorem dL_law_1061 : decode cL_law 1061 = .ok (.iaload, 1) := by decide +kernel
theorem dL_law_1062 : decode cL_law 1062 = .ok (.invokevirtual 114, 3) := by decide +kernel
theorem dL_law_1065 : decode cL_law 1065 = .ok (.aload_n 2, 1) := by decide +kernel
theorem dL_law_1066 : decode cL_law 1066 = .ok (.aload_n 0, 1) := by decide +kernel
theorem dL_law_1067 : decode cL_law 1067 = .ok (.iload_n 3, 1) := by decide +kernel
theorem dL_law_1068 : decode cL_law 1068 = .ok (.iconst 1, 1) := by decide +kernel
theorem dL_law_1069 : decode cL_law 1069 = .ok (.iadd, 1) := by decide +kernel
theorem dL_law_1070 : decode cL_law 1070 = .ok (.iaload, 1) := by decide +kernel
theorem dL_law_1071 : decode cL_law 1071 = .ok (.aload_n 0, 1) := by decide +kernel
theorem dL_law_1072 : decode cL_law 1072 = .ok (.iload_n 3, 1) := by decide +kernel
theorem dL_law_1073 : decode cL_law 1073 = .ok (.iconst 2, 1) := by decide +kernel
theorem dL_law_1074 : decode cL_law 1074 = .ok (.iadd, 1) := by decide +kernel
theorem dL_law_1075 : decode cL_law 1075 = .ok (.iaload, 1) := by decide +kernel
theorem dL_law_1076 : decode cL_law 1076 = .ok (.invokevirtual 117, 3) := by decide +kernel
theorem dL_law_1079 : decode cL_law 1079 = .ok (.if_icmp .eq 801, 3) := by decide +kernel
theorem dL_law_1084 : decode cL_law 1084 = .ok (.aload_n 1, 1) := by decide +kernel
theorem dL_law_1085 : decode cL_law 1085 = .ok (.aload_n 0, 1) := by decide +kernel
theorem dL_law_1086 : decode cL_law 1086 = .ok (.iload_n 3, 1) := by decide +kernel
theorem dL_law_1087 : decode cL_law 1087 = .ok (.iconst 1, 1) := by decide +kernel
theorem dL_law_1088 : decode cL_law 1088 = .ok (.iadd, 1) := by decide +kernel
theorem dL_law_1089 : decode cL_law 1089 = .ok (.iaload, 1) := by decide +kernel
theorem dL_law_1090 : decode cL_law 1090 = .ok (.aload_n 0, 1) := by decide +kernel
theorem dL_law_1091 : decode cL_law 1091 = .ok (.iload_n 3, 1) := by decide +kernel
theorem dL_law_1092 : decode cL_law 1092 = .ok (.iconst 2, 1) := by decide +kernel
theorem dL_law_1093 : decode cL_law 1093 = .ok (.iadd, 1) := by decide +kernel
theorem dL_law_1094 : decode cL_law 1094 = .ok (.iaload, 1) := by decide +kernel
theorem dL_law_1095 : decode cL_law 1095 = .ok (.aload_n 0, 1) := by decide +kernel
theorem dL_law_1096 : decode cL_law 1096 = .ok (.iload_n 3, 1) := by decide +kernel
theorem dL_law_1097 : decode cL_law 1097 = .ok (.iconst 3, 1) := by decide +kernel
theorem dL_law_1098 : decode cL_law 1098 = .ok (.iadd, 1) := by decide +kernel
theorem dL_law_1099 : decode cL_law 1099 = .ok (.iaload, 1) := by decide +kernel
theorem dL_law_1100 : decode cL_law 1100 = .ok (.aload_n 0, 1) := by decide +kernel
theorem dL_law_1101 : decode cL_law 1101 = .ok (.iload_n 3, 1) := by decide +kernel
theorem dL_law_1102 : decode cL_law 1102 = .ok (.iconst 4, 1) := by decide +kernel
theorem dL_law_1103 : decode cL_law 1103 = .ok (.iadd, 1) := by decide +kernel
theorem dL_law_1104 : decode cL_law 1104 = .ok (.iaload, 1) := by decide +kernel
theorem dL_law_1105 : decode cL_law 1105 = .ok (.invokevirtual 118, 3) := by decide +kernel
theorem dL_law_1108 : decode cL_law 1108 = .ok (.aload_n 2, 1) := by decide +kernel
theorem dL_law_1109 : decode cL_law 1109 = .ok (.aload_n 0, 1) := by decide +kernel
theorem dL_law_1110 : decode cL_law 1110 = .ok (.iload_n 3, 1) := by decide +kernel
theorem dL_law_1111 : decode cL_law 1111 = .ok (.iconst 1, 1) := by decide +kernel
theorem dL_law_1112 : decode cL_law 1112 = .ok (.iadd, 1) := by decide +kernel
theorem dL_law_1113 : decode cL_law 1113 = .ok (.iaload, 1) := by decide +kernel
theorem dL_law_1114 : decode cL_law 1114 = .ok (.aload_n 0, 1) := by decide +kernel
theorem dL_law_1115 : decode cL_law 1115 = .ok (.iload_n 3, 1) := by decide +kernel
theorem dL_law_1116 : decode cL_law 1116 = .ok (.iconst 2, 1) := by decide +kernel
theorem dL_law_1117 : decode cL_law 1117 = .ok (.iadd, 1) := by decide +kernel
theorem dL_law_1118 : decode cL_law 1118 = .ok (.iaload, 1) := by decide +kernel
theorem dL_law_1119 : decode cL_law 1119 = .ok (.aload_n 0, 1) := by decide +kernel
theorem dL_law_1120 : decode cL_law 1120 = .ok (.iload_n 3, 1) := by decide +kernel
theorem dL_law_1121 : decode cL_law 1121 = .ok (.iconst 3, 1) := by decide +kernel
theorem dL_law_1122 : decode cL_law 1122 = .ok (.iadd, 1) := by decide +kernel
theorem dL_law_1123 : decode cL_law 1123 = .ok (.iaload, 1) := by decide +kernel
theorem dL_law_1124 : decode cL_law 1124 = .ok (.aload_n 0, 1) := by decide +kernel
theorem dL_law_1125 : decode cL_law 1125 = .ok (.iload_n 3, 1) := by decide +kernel
theorem dL_law_1126 : decode cL_law 1126 = .ok (.iconst 4, 1) := by decide +kernel
theorem dL_law_1127 : decode cL_law 1127 = .ok (.iadd, 1) := by decide +kernel
theorem dL_law_1128 : decode cL_law 1128 = .ok (.iaload, 1) := by decide +kernel
theorem dL_law_1129 : decode cL_law 1129 = .ok (.invokevirtual 121, 3) := by decide +kernel
theorem dL_law_1132 : decode cL_law 1132 = .ok (.if_icmp .eq 748, 3) := by decide +kernel
theorem dL_law_1137 : decode cL_law 1137 = .ok (.aload_n 1, 1) := by decide +kernel
theorem dL_law_1138 : decode cL_law 1138 = .ok (.aload_n 0, 1) := by decide +kernel
theorem dL_law_1139 : decode cL_law 1139 = .ok (.iload_n 3, 1) := by decide +kernel
theorem dL_law_1140 : decode cL_law 1140 = .ok (.iconst 1, 1) := by decide +kernel
theorem dL_law_1141 : decode cL_law 1141 = .ok (.iadd, 1) := by decide +kernel
theorem dL_law_1142 : decode cL_law 1142 = .ok (.iaload, 1) := by decide +kernel
theorem dL_law_1143 : decode cL_law 1143 = .ok (.aload_n 0, 1) := by decide +kernel
theorem dL_law_1144 : decode cL_law 1144 = .ok (.iload_n 3, 1) := by decide +kernel
theorem dL_law_1145 : decode cL_law 1145 = .ok (.iconst 2, 1) := by decide +kernel
theorem dL_law_1146 : decode cL_law 1146 = .ok (.iadd, 1) := by decide +kernel
theorem dL_law_1147 : decode cL_law 1147 = .ok (.iaload, 1) := by decide +kernel
theorem dL_law_1148 : decode cL_law 1148 = .ok (.invokevirtual 122, 3) := by decide +kernel
theorem dL_law_1151 : decode cL_law 1151 = .ok (.aload_n 2, 1) := by decide +kernel
theorem dL_law_1152 : decode cL_law 1152 = .ok (.aload_n 0, 1) := by decide +kernel
theorem dL_law_1153 : decode cL_law 1153 = .ok (.iload_n 3, 1) := by decide +kernel
theorem dL_law_1154 : decode cL_law 1154 = .ok (.iconst 1, 1) := by decide +kernel
theorem dL_law_1155 : decode cL_law 1155 = .ok (.iadd, 1) := by decide +kernel
theorem dL_law_1156 : decode cL_law 1156 = .ok (.iaload, 1) := by decide +kernel
theorem dL_law_1157 : decode cL_law 1157 = .ok (.aload_n 0, 1) := by decide +kernel
theorem dL_law_1158 : decode cL_law 1158 = .ok (.iload_n 3, 1) := by decide +kernel
theorem dL_law_1159 : decode cL_law 1159 = .ok (.iconst 2, 1) := by decide +kernel
theorem dL_law_1160 : decode cL_law 1160 = .ok (.iadd, 1) := by decide +kernel
theorem dL_law_1161 : decode cL_law 1161 = .ok (.iaload, 1) := by decide +kernel
theorem dL_law_1162 : decode cL_law 1162 = .ok (.invokevirtual 125, 3) := by decide +kernel
theorem dL_law_1165 : decode cL_law 1165 = .ok (.if_icmp .eq 715, 3) := by decide +kernel
theorem dL_law_1170 : decode cL_law 1170 = .ok (.aload_n 1, 1) := by decide +kernel
theorem dL_law_1171 : decode cL_law 1171 = .ok (.aload_n 0, 1) := by decide +kernel
theorem dL_law_1172 : decode cL_law 1172 = .ok (.iload_n 3, 1) := by decide +kernel
theorem dL_law_1173 : decode cL_law 1173 = .ok (.iconst 1, 1) := by decide +kernel
theorem dL_law_1174 : decode cL_law 1174 = .ok (.iadd, 1) := by decide +kernel
theorem dL_law_1175 : decode cL_law 1175 = .ok (.iaload, 1) := by decide +kernel
theorem dL_law_1176 : decode cL_law 1176 = .ok (.aload_n 0, 1) := by decide +kernel
theorem dL_law_1177 : decode cL_law 1177 = .ok (.iload_n 3, 1) := by decide +kernel
theorem dL_law_1178 : decode cL_law 1178 = .ok (.iconst 2, 1) := by decide +kernel
theorem dL_law_1179 : decode cL_law 1179 = .ok (.iadd, 1) := by decide +kernel
theorem dL_law_1180 : decode cL_law 1180 = .ok (.iaload, 1) := by decide +kernel
theorem dL_law_1181 : decode cL_law 1181 = .ok (.invokevirtual 126, 3) := by decide +kernel
theorem dL_law_1184 : decode cL_law 1184 = .ok (.aload_n 2, 1) := by decide +kernel
theorem dL_law_1185 : decode cL_law 1185 = .ok (.aload_n 0, 1) := by decide +kernel
theorem dL_law_1186 : decode cL_law 1186 = .ok (.iload_n 3, 1) := by decide +kernel
theorem dL_law_1187 : decode cL_law 1187 = .ok (.iconst 1, 1) := by decide +kernel
theorem dL_law_1188 : decode cL_law 1188 = .ok (.iadd, 1) := by decide +kernel
theorem dL_law_1189 : decode cL_law 1189 = .ok (.iaload, 1) := by decide +kernel
theorem dL_law_1190 : decode cL_law 1190 = .ok (.aload_n 0, 1) := by decide +kernel
theorem dL_law_1191 : decode cL_law 1191 = .ok (.iload_n 3, 1) := by decide +kernel
theorem dL_law_1192 : decode cL_law 1192 = .ok (.iconst 2, 1) := by decide +kernel
theorem dL_law_1193 : decode cL_law 1193 = .ok (.iadd, 1) := by decide +kernel
theorem dL_law_1194 : decode cL_law 1194 = .ok (.iaload, 1) := by decide +kernel
theorem dL_law_1195 : decode cL_law 1195 = .ok (.invokevirtual 129, 3) := by decide +kernel
theorem dL_law_1198 : decode cL_law 1198 = .ok (.if_icmp .eq 682, 3) := by decide +kernel
theorem dL_law_1203 : decode cL_law 1203 = .ok (.aload_n 1, 1) := by decide +kernel
theorem dL_law_1204 : decode cL_law 1204 = .ok (.aload_n 0, 1) := by decide +kernel
theorem dL_law_1205 : decode cL_law 1205 = .ok (.iload_n 3, 1) := by decide +kernel
theorem dL_law_1206 : decode cL_law 1206 = .ok (.iconst 1, 1) := by decide +kernel
theorem dL_law_1207 : decode cL_law 1207 = .ok (.iadd, 1) := by decide +kernel
theorem dL_law_1208 : decode cL_law 1208 = .ok (.iaload, 1) := by decide +kernel
theorem dL_law_1209 : decode cL_law 1209 = .ok (.aload_n 0, 1) := by decide +kernel
theorem dL_law_1210 : decode cL_law 1210 = .ok (.iload_n 3, 1) := by decide +kernel
theorem dL_law_1211 : decode cL_law 1211 = .ok (.iconst 2, 1) := by decide +kernel
theorem dL_law_1212 : decode cL_law 1212 = .ok (.iadd, 1) := by decide +kernel
theorem dL_law_1213 : decode cL_law 1213 = .ok (.iaload, 1) := by decide +kernel
theorem dL_law_1214 : decode cL_law 1214 = .ok (.aload_n 0, 1) := by decide +kernel
theorem dL_law_1215 : decode cL_law 1215 = .ok (.iload_n 3, 1) := by decide +kernel
theorem dL_law_1216 : decode cL_law 1216 = .ok (.iconst 3, 1) := by decide +kernel
theorem dL_law_1217 : decode cL_law 1217 = .ok (.iadd, 1) := by decide +kernel
theorem dL_law_1218 : decode cL_law 1218 = .ok (.iaload, 1) := by decide +kernel
theorem dL_law_1219 : decode cL_law 1219 = .ok (.aload_n 0, 1) := by decide +kernel
theorem dL_law_1220 : decode cL_law 1220 = .ok (.iload_n 3, 1) := by decide +kernel
theorem dL_law_1221 : decode cL_law 1221 = .ok (.iconst 4, 1) := by decide +kernel
theorem dL_law_1222 : decode cL_law 1222 = .ok (.iadd, 1) := by decide +kernel
theorem dL_law_1223 : decode cL_law 1223 = .ok (.iaload, 1) := by decide +kernel
theorem dL_law_1224 : decode cL_law 1224 = .ok (.invokevirtual 130, 3) := by decide +kernel
theorem dL_law_1227 : decode cL_law 1227 = .ok (.aload_n 2, 1) := by decide +kernel
theorem dL_law_1228 : decode cL_law 1228 = .ok (.aload_n 0, 1) := by decide +kernel
theorem dL_law_1229 : decode cL_law 1229 = .ok (.iload_n 3, 1) := by decide +kernel
theorem dL_law_1230 : decode cL_law 1230 = .ok (.iconst 1, 1) := by decide +kernel
theorem dL_law_1231 : decode cL_law 1231 = .ok (.iadd, 1) := by decide +kernel
theorem dL_law_1232 : decode cL_law 1232 = .ok (.iaload, 1) := by decide +kernel
theorem dL_law_1233 : decode cL_law 1233 = .ok (.aload_n 0, 1) := by decide +kernel
theorem dL_law_1234 : decode cL_law 1234 = .ok (.iload_n 3, 1) := by decide +kernel
theorem dL_law_1235 : decode cL_law 1235 = .ok (.iconst 2, 1) := by decide +kernel
theorem dL_law_1236 : decode cL_law 1236 = .ok (.iadd, 1) := by decide +kernel
theorem dL_law_1237 : decode cL_law 1237 = .ok (.iaload, 1) := by decide +kernel
theorem dL_law_1238 : decode cL_law 1238 = .ok (.aload_n 0, 1) := by decide +kernel
theorem dL_law_1239 : decode cL_law 1239 = .ok (.iload_n 3, 1) := by decide +kernel
theorem dL_law_1240 : decode cL_law 1240 = .ok (.iconst 3, 1) := by decide +kernel
theorem dL_law_1241 : decode cL_law 1241 = .ok (.iadd, 1) := by decide +kernel
theorem dL_law_1242 : decode cL_law 1242 = .ok (.iaload, 1) := by decide +kernel
theorem dL_law_1243 : decode cL_law 1243 = .ok (.aload_n 0, 1) := by decide +kernel
theorem dL_law_1244 : decode cL_law 1244 = .ok (.iload_n 3, 1) := by decide +kernel
theorem dL_law_1245 : decode cL_law 1245 = .ok (.iconst 4, 1) := by decide +kernel
theorem dL_law_1246 : decode cL_law 1246 = .ok (.iadd, 1) := by decide +kernel
theorem dL_law_1247 : decode cL_law 1247 = .ok (.iaload, 1) := by decide +kernel
theorem dL_law_1248 : decode cL_law 1248 = .ok (.invokevirtual 133, 3) := by decide +kernel
theorem dL_law_1251 : decode cL_law 1251 = .ok (.if_icmp .eq 629, 3) := by decide +kernel
theorem dL_law_1256 : decode cL_law 1256 = .ok (.aload_n 1, 1) := by decide +kernel
theorem dL_law_1257 : decode cL_law 1257 = .ok (.aload_n 0, 1) := by decide +kernel
theorem dL_law_1258 : decode cL_law 1258 = .ok (.iload_n 3, 1) := by decide +kernel
theorem dL_law_1259 : decode cL_law 1259 = .ok (.iconst 1, 1) := by decide +kernel
theorem dL_law_1260 : decode cL_law 1260 = .ok (.iadd, 1) := by decide +kernel
theorem dL_law_1261 : decode cL_law 1261 = .ok (.iaload, 1) := by decide +kernel
theorem dL_law_1262 : decode cL_law 1262 = .ok (.aload_n 0, 1) := by decide +kernel
theorem dL_law_1263 : decode cL_law 1263 = .ok (.iload_n 3, 1) := by decide +kernel
theorem dL_law_1264 : decode cL_law 1264 = .ok (.iconst 2, 1) := by decide +kernel
theorem dL_law_1265 : decode cL_law 1265 = .ok (.iadd, 1) := by decide +kernel
theorem dL_law_1266 : decode cL_law 1266 = .ok (.iaload, 1) := by decide +kernel
theorem dL_law_1267 : decode cL_law 1267 = .ok (.invokevirtual 134, 3) := by decide +kernel
theorem dL_law_1270 : decode cL_law 1270 = .ok (.aload_n 2, 1) := by decide +kernel
theorem dL_law_1271 : decode cL_law 1271 = .ok (.aload_n 0, 1) := by decide +kernel
theorem dL_law_1272 : decode cL_law 1272 = .ok (.iload_n 3, 1) := by decide +kernel
theorem dL_law_1273 : decode cL_law 1273 = .ok (.iconst 1, 1) := by decide +kernel
theorem dL_law_1274 : decode cL_law 1274 = .ok (.iadd, 1) := by decide +kernel
theorem dL_law_1275 : decode cL_law 1275 = .ok (.iaload, 1) := by decide +kernel
theorem dL_law_1276 : decode cL_law 1276 = .ok (.aload_n 0, 1) := by decide +kernel
theorem dL_law_1277 : decode cL_law 1277 = .ok (.iload_n 3, 1) := by decide +kernel
theorem dL_law_1278 : decode cL_law 1278 = .ok (.iconst 2, 1) := by decide +kernel
theorem dL_law_1279 : decode cL_law 1279 = .ok (.iadd, 1) := by decide +kernel
theorem dL_law_1280 : decode cL_law 1280 = .ok (.iaload, 1) := by decide +kernel
theorem dL_law_1281 : decode cL_law 1281 = .ok (.invokevirtual 137, 3) := by decide +kernel
theorem dL_law_1284 : decode cL_law 1284 = .ok (.if_icmp .eq 596, 3) := by decide +kernel
theorem dL_law_1289 : decode cL_law 1289 = .ok (.aload_n 1, 1) := by decide +kernel
theorem dL_law_1290 : decode cL_law 1290 = .ok (.aload_n 0, 1) := by decide +kernel
theorem dL_law_1291 : decode cL_law 1291 = .ok (.iload_n 3, 1) := by decide +kernel
theorem dL_law_1292 : decode cL_law 1292 = .ok (.iconst 1, 1) := by decide +kernel
theorem dL_law_1293 : decode cL_law 1293 = .ok (.iadd, 1) := by decide +kernel
theorem dL_law_1294 : decode cL_law 1294 = .ok (.iaload, 1) := by decide +kernel
theorem dL_law_1295 : decode cL_law 1295 = .ok (.aload_n 0, 1) := by decide +kernel
theorem dL_law_1296 : decode cL_law 1296 = .ok (.iload_n 3, 1) := by decide +kernel
theorem dL_law_1297 : decode cL_law 1297 = .ok (.iconst 2, 1) := by decide +kernel
theorem dL_law_1298 : decode cL_law 1298 = .ok (.iadd, 1) := by decide +kernel
theorem dL_law_1299 : decode cL_law 1299 = .ok (.iaload, 1) := by decide +kernel
theorem dL_law_1300 : decode cL_law 1300 = .ok (.invokevirtual 138, 3) := by decide +kernel
theorem dL_law_1303 : decode cL_law 1303 = .ok (.aload_n 2, 1) := by decide +kernel
theorem dL_law_1304 : decode cL_law 1304 = .ok (.aload_n 0, 1) := by decide +kernel
theorem dL_law_1305 : decode cL_law 1305 = .ok (.iload_n 3, 1) := by decide +kernel
theorem dL_law_1306 : decode cL_law 1306 = .ok (.iconst 1, 1) := by decide +kernel
theorem dL_law_1307 : decode cL_law 1307 = .ok (.iadd, 1) := by decide +kernel
theorem dL_law_1308 : decode cL_law 1308 = .ok (.iaload, 1) := by decide +kernel
theorem dL_law_1309 : decode cL_law 1309 = .ok (.aload_n 0, 1) := by decide +kernel
theorem dL_law_1310 : decode cL_law 1310 = .ok (.iload_n 3, 1) := by decide +kernel
theorem dL_law_1311 : decode cL_law 1311 = .ok (.iconst 2, 1) := by decide +kernel
theorem dL_law_1312 : decode cL_law 1312 = .ok (.iadd, 1) := by decide +kernel
theorem dL_law_1313 : decode cL_law 1313 = .ok (.iaload, 1) := by decide +kernel
theorem dL_law_1314 : decode cL_law 1314 = .ok (.invokevirtual 141, 3) := by decide +kernel
theorem dL_law_1317 : decode cL_law 1317 = .ok (.if_icmp .eq 563, 3) := by decide +kernel
theorem dL_law_1322 : decode cL_law 1322 = .ok (.aload_n 1, 1) := by decide +kernel
theorem dL_law_1323 : decode cL_law 1323 = .ok (.aload_n 0, 1) := by decide +kernel
theorem dL_law_1324 : decode cL_law 1324 = .ok (.iload_n 3, 1) := by decide +kernel
theorem dL_law_1325 : decode cL_law 1325 = .ok (.iconst 1, 1) := by decide +kernel
theorem dL_law_1326 : decode cL_law 1326 = .ok (.iadd, 1) := by decide +kernel
theorem dL_law_1327 : decode cL_law 1327 = .ok (.iaload, 1) := by decide +kernel
theorem dL_law_1328 : decode cL_law 1328 = .ok (.aload_n 0, 1) := by decide +kernel
theorem dL_law_1329 : decode cL_law 1329 = .ok (.iload_n 3, 1) := by decide +kernel
theorem dL_law_1330 : decode cL_law 1330 = .ok (.iconst 2, 1) := by decide +kernel
theorem dL_law_1331 : decode cL_law 1331 = .ok (.iadd, 1) := by decide +kernel
theorem dL_law_1332 : decode cL_law 1332 = .ok (.iaload, 1) := by decide +kernel
theorem dL_law_1333 : decode cL_law 1333 = .ok (.invokevirtual 142, 3) := by decide +kernel
theorem dL_law_1336 : decode cL_law 1336 = .ok (.aload_n 2, 1) := by decide +kernel
theorem dL_law_1337 : decode cL_law 1337 = .ok (.aload_n 0, 1) := by decide +kernel
theorem dL_law_1338 : decode cL_law 1338 = .ok (.iload_n 3, 1) := by decide +kernel
theorem dL_law_1339 : decode cL_law 1339 = .ok (.iconst 1, 1) := by decide +kernel
theorem dL_law_1340 : decode cL_law 1340 = .ok (.iadd, 1) := by decide +kernel
theorem dL_law_1341 : decode cL_law 1341 = .ok (.iaload, 1) := by decide +kernel
theorem dL_law_1342 : decode cL_law 1342 = .ok (.aload_n 0, 1) := by decide +kernel
theorem dL_law_1343 : decode cL_law 1343 = .ok (.iload_n 3, 1) := by decide +kernel
theorem dL_law_1344 : decode cL_law 1344 = .ok (.iconst 2, 1) := by decide +kernel
theorem dL_law_1345 : decode cL_law 1345 = .ok (.iadd, 1) := by decide +kernel
theorem dL_law_1346 : decode cL_law 1346 = .ok (.iaload, 1) := by decide +kernel
theorem dL_law_1347 : decode cL_law 1347 = .ok (.invokevirtual 145, 3) := by decide +kernel
theorem dL_law_1350 : decode cL_law 1350 = .ok (.if_icmp .eq 530, 3) := by decide +kernel
theorem dL_law_1355 : decode cL_law 1355 = .ok (.aload_n 1, 1) := by decide +kernel
theorem dL_law_1356 : decode cL_law 1356 = .ok (.aload_n 0, 1) := by decide +kernel
theorem dL_law_1357 : decode cL_law 1357 = .ok (.iload_n 3, 1) := by decide +kernel
theorem dL_law_1358 : decode cL_law 1358 = .ok (.iconst 1, 1) := by decide +kernel
theorem dL_law_1359 : decode cL_law 1359 = .ok (.iadd, 1) := by decide +kernel
theorem dL_law_1360 : decode cL_law 1360 = .ok (.iaload, 1) := by decide +kernel
theorem dL_law_1361 : decode cL_law 1361 = .ok (.aload_n 0, 1) := by decide +kernel
theorem dL_law_1362 : decode cL_law 1362 = .ok (.iload_n 3, 1) := by decide +kernel
theorem dL_law_1363 : decode cL_law 1363 = .ok (.iconst 2, 1) := by decide +kernel
theorem dL_law_1364 : decode cL_law 1364 = .ok (.iadd, 1) := by decide +kernel
theorem dL_law_1365 : decode cL_law 1365 = .ok (.iaload, 1) := by decide +kernel
theorem dL_law_1366 : decode cL_law 1366 = .ok (.invokevirtual 146, 3) := by decide +kernel
theorem dL_law_1369 : decode cL_law 1369 = .ok (.aload_n 2, 1) := by decide +kernel
theorem dL_law_1370 : decode cL_law 1370 = .ok (.aload_n 0, 1) := by decide +kernel
theorem dL_law_1371 : decode cL_law 1371 = .ok (.iload_n 3, 1) := by decide +kernel
theorem dL_law_1372 : decode cL_law 1372 = .ok (.iconst 1, 1) := by decide +kernel
theorem dL_law_1373 : decode cL_law 1373 = .ok (.iadd, 1) := by decide +kernel
theorem dL_law_1374 : decode cL_law 1374 = .ok (.iaload, 1) := by decide +kernel
theorem dL_law_1375 : decode cL_law 1375 = .ok (.aload_n 0, 1) := by decide +kernel
theorem dL_law_1376 : decode cL_law 1376 = .ok (.iload_n 3, 1) := by decide +kernel
theorem dL_law_1377 : decode cL_law 1377 = .ok (.iconst 2, 1) := by decide +kernel
theorem dL_law_1378 : decode cL_law 1378 = .ok (.iadd, 1) := by decide +kernel
theorem dL_law_1379 : decode cL_law 1379 = .ok (.iaload, 1) := by decide +kernel
theorem dL_law_1380 : decode cL_law 1380 = .ok (.invokevirtual 149, 3) := by decide +kernel
theorem dL_law_1383 : decode cL_law 1383 = .ok (.if_icmp .eq 497, 3) := by decide +kernel
theorem dL_law_1388 : decode cL_law 1388 = .ok (.aload_n 1, 1) := by decide +kernel
theorem dL_law_1389 : decode cL_law 1389 = .ok (.aload_n 0, 1) := by decide +kernel
theorem dL_law_1390 : decode cL_law 1390 = .ok (.iload_n 3, 1) := by decide +kernel
theorem dL_law_1391 : decode cL_law 1391 = .ok (.iconst 1, 1) := by decide +kernel
theorem dL_law_1392 : decode cL_law 1392 = .ok (.iadd, 1) := by decide +kernel
theorem dL_law_1393 : decode cL_law 1393 = .ok (.iaload, 1) := by decide +kernel
theorem dL_law_1394 : decode cL_law 1394 = .ok (.aload_n 0, 1) := by decide +kernel
theorem dL_law_1395 : decode cL_law 1395 = .ok (.iload_n 3, 1) := by decide +kernel
theorem dL_law_1396 : decode cL_law 1396 = .ok (.iconst 2, 1) := by decide +kernel
theorem dL_law_1397 : decode cL_law 1397 = .ok (.iadd, 1) := by decide +kernel
theorem dL_law_1398 : decode cL_law 1398 = .ok (.iaload, 1) := by decide +kernel
theorem dL_law_1399 : decode cL_law 1399 = .ok (.aload_n 0, 1) := by decide +kernel
theorem dL_law_1400 : decode cL_law 1400 = .ok (.iload_n 3, 1) := by decide +kernel
theorem dL_law_1401 : decode cL_law 1401 = .ok (.iconst 3, 1) := by decide +kernel
theorem dL_law_1402 : decode cL_law 1402 = .ok (.iadd, 1) := by decide +kernel
theorem dL_law_1403 : decode cL_law 1403 = .ok (.iaload, 1) := by decide +kernel
theorem dL_law_1404 : decode cL_law 1404 = .ok (.invokevirtual 150, 3) := by decide +kernel
theorem dL_law_1407 : decode cL_law 1407 = .ok (.aload_n 2, 1) := by decide +kernel
theorem dL_law_1408 : decode cL_law 1408 = .ok (.aload_n 0, 1) := by decide +kernel
theorem dL_law_1409 : decode cL_law 1409 = .ok (.iload_n 3, 1) := by decide +kernel
theorem dL_law_1410 : decode cL_law 1410 = .ok (.iconst 1, 1) := by decide +kernel
theorem dL_law_1411 : decode cL_law 1411 = .ok (.iadd, 1) := by decide +kernel
theorem dL_law_1412 : decode cL_law 1412 = .ok (.iaload, 1) := by decide +kernel
theorem dL_law_1413 : decode cL_law 1413 = .ok (.aload_n 0, 1) := by decide +kernel
theorem dL_law_1414 : decode cL_law 1414 = .ok (.iload_n 3, 1) := by decide +kernel
theorem dL_law_1415 : decode cL_law 1415 = .ok (.iconst 2, 1) := by decide +kernel
theorem dL_law_1416 : decode cL_law 1416 = .ok (.iadd, 1) := by decide +kernel
theorem dL_law_1417 : decode cL_law 1417 = .ok (.iaload, 1) := by decide +kernel
theorem dL_law_1418 : decode cL_law 1418 = .ok (.aload_n 0, 1) := by decide +kernel
theorem dL_law_1419 : decode cL_law 1419 = .ok (.iload_n 3, 1) := by decide +kernel
theorem dL_law_1420 : decode cL_law 1420 = .ok (.iconst 3, 1) := by decide +kernel
theorem dL_law_1421 : decode cL_law 1421 = .ok (.iadd, 1) := by decide +kernel
theorem dL_law_1422 : decode cL_law 1422 = .ok (.iaload, 1) := by decide +kernel
theorem dL_law_1423 : decode cL_law 1423 = .ok (.invokevirtual 154, 3) := by decide +kernel
theorem dL_law_1426 : decode cL_law 1426 = .ok (.if_icmp .eq 454, 3) := by decide +kernel
theorem dL_law_1431 : decode cL_law 1431 = .ok (.aload_n 1, 1) := by decide +kernel
theorem dL_law_1432 : decode cL_law 1432 = .ok (.aload_n 0, 1) := by decide +kernel
theorem dL_law_1433 : decode cL_law 1433 = .ok (.iload_n 3, 1) := by decide +kernel
theorem dL_law_1434 : decode cL_law 1434 = .ok (.iconst 1, 1) := by decide +kernel
theorem dL_law_1435 : decode cL_law 1435 = .ok (.iadd, 1) := by decide +kernel
theorem dL_law_1436 : decode cL_law 1436 = .ok (.iaload, 1) := by decide +kernel
theorem dL_law_1437 : decode cL_law 1437 = .ok (.aload_n 0, 1) := by decide +kernel
theorem dL_law_1438 : decode cL_law 1438 = .ok (.iload_n 3, 1) := by decide +kernel
theorem dL_law_1439 : decode cL_law 1439 = .ok (.iconst 2, 1) := by decide +kernel
theorem dL_law_1440 : decode cL_law 1440 = .ok (.iadd, 1) := by decide +kernel
theorem dL_law_1441 : decode cL_law 1441 = .ok (.iaload, 1) := by decide +kernel
theorem dL_law_1442 : decode cL_law 1442 = .ok (.aload_n 0, 1) := by decide +kernel
theorem dL_law_1443 : decode cL_law 1443 = .ok (.iload_n 3, 1) := by decide +kernel
theorem dL_law_1444 : decode cL_law 1444 = .ok (.iconst 3, 1) := by decide +kernel
theorem dL_law_1445 : decode cL_law 1445 = .ok (.iadd, 1) := by decide +kernel
theorem dL_law_1446 : decode cL_law 1446 = .ok (.iaload, 1) := by decide +kernel
theorem dL_law_1447 : decode cL_law 1447 = .ok (.invokevirtual 155, 3) := by decide +kernel
theorem dL_law_1450 : decode cL_law 1450 = .ok (.aload_n 2, 1) := by decide +kernel
theorem dL_law_1451 : decode cL_law 1451 = .ok (.aload_n 0, 1) := by decide +kernel
theorem dL_law_1452 : decode cL_law 1452 = .ok (.iload_n 3, 1) := by decide +kernel
theorem dL_law_1453 : decode cL_law 1453 = .ok (.iconst 1, 1) := by decide +kernel
theorem dL_law_1454 : decode cL_law 1454 = .ok (.iadd, 1) := by decide +kernel
theorem dL_law_1455 : decode cL_law 1455 = .ok (.iaload, 1) := by decide +kernel
theorem dL_law_1456 : decode cL_law 1456 = .ok (.aload_n 0, 1) := by decide +kernel
theorem dL_law_1457 : decode cL_law 1457 = .ok (.iload_n 3, 1) := by decide +kernel
theorem dL_law_1458 : decode cL_law 1458 = .ok (.iconst 2, 1) := by decide +kernel
theorem dL_law_1459 : decode cL_law 1459 = .ok (.iadd, 1) := by decide +kernel
theorem dL_law_1460 : decode cL_law 1460 = .ok (.iaload, 1) := by decide +kernel
theorem dL_law_1461 : decode cL_law 1461 = .ok (.aload_n 0, 1) := by decide +kernel
theorem dL_law_1462 : decode cL_law 1462 = .ok (.iload_n 3, 1) := by decide +kernel
theorem dL_law_1463 : decode cL_law 1463 = .ok (.iconst 3, 1) := by decide +kernel
theorem dL_law_1464 : decode cL_law 1464 = .ok (.iadd, 1) := by decide +kernel
theorem dL_law_1465 : decode cL_law 1465 = .ok (.iaload, 1) := by decide +kernel
theorem dL_law_1466 : decode cL_law 1466 = .ok (.invokevirtual 158, 3) := by decide +kernel
theorem dL_law_1469 : decode cL_law 1469 = .ok (.if_icmp .eq 411, 3) := by decide +kernel
theorem dL_law_1474 : decode cL_law 1474 = .ok (.aload_n 1, 1) := by decide +kernel
theorem dL_law_1475 : decode cL_law 1475 = .ok (.aload_n 0, 1) := by decide +kernel
theorem dL_law_1476 : decode cL_law 1476 = .ok (.iload_n 3, 1) := by decide +kernel
theorem dL_law_1477 : decode cL_law 1477 = .ok (.iconst 1, 1) := by decide +kernel
theorem dL_law_1478 : decode cL_law 1478 = .ok (.iadd, 1) := by decide +kernel
theorem dL_law_1479 : decode cL_law 1479 = .ok (.iaload, 1) := by decide +kernel
theorem dL_law_1480 : decode cL_law 1480 = .ok (.invokevirtual 159, 3) := by decide +kernel
theorem dL_law_1483 : decode cL_law 1483 = .ok (.aload_n 2, 1) := by decide +kernel
theorem dL_law_1484 : decode cL_law 1484 = .ok (.aload_n 0, 1) := by decide +kernel
theorem dL_law_1485 : decode cL_law 1485 = .ok (.iload_n 3, 1) := by decide +kernel
theorem dL_law_1486 : decode cL_law 1486 = .ok (.iconst 1, 1) := by decide +kernel
theorem dL_law_1487 : decode cL_law 1487 = .ok (.iadd, 1) := by decide +kernel
theorem dL_law_1488 : decode cL_law 1488 = .ok (.iaload, 1) := by decide +kernel
theorem dL_law_1489 : decode cL_law 1489 = .ok (.invokevirtual 162, 3) := by decide +kernel
theorem dL_law_1492 : decode cL_law 1492 = .ok (.if_icmp .eq 388, 3) := by decide +kernel
theorem dL_law_1497 : decode cL_law 1497 = .ok (.aload_n 1, 1) := by decide +kernel
theorem dL_law_1498 : decode cL_law 1498 = .ok (.aload_n 0, 1) := by decide +kernel
theorem dL_law_1499 : decode cL_law 1499 = .ok (.iload_n 3, 1) := by decide +kernel
theorem dL_law_1500 : decode cL_law 1500 = .ok (.iconst 1, 1) := by decide +kernel
theorem dL_law_1501 : decode cL_law 1501 = .ok (.iadd, 1) := by decide +kernel
theorem dL_law_1502 : decode cL_law 1502 = .ok (.iaload, 1) := by decide +kernel
theorem dL_law_1503 : decode cL_law 1503 = .ok (.aload_n 0, 1) := by decide +kernel
theorem dL_law_1504 : decode cL_law 1504 = .ok (.iload_n 3, 1) := by decide +kernel
theorem dL_law_1505 : decode cL_law 1505 = .ok (.iconst 2, 1) := by decide +kernel
theorem dL_law_1506 : decode cL_law 1506 = .ok (.iadd, 1) := by decide +kernel
theorem dL_law_1507 : decode cL_law 1507 = .ok (.iaload, 1) := by decide +kernel
theorem dL_law_1508 : decode cL_law 1508 = .ok (.invokevirtual 163, 3) := by decide +kernel
theorem dL_law_1511 : decode cL_law 1511 = .ok (.aload_n 2, 1) := by decide +kernel
theorem dL_law_1512 : decode cL_law 1512 = .ok (.aload_n 0, 1) := by decide +kernel
theorem dL_law_1513 : decode cL_law 1513 = .ok (.iload_n 3, 1) := by decide +kernel
theorem dL_law_1514 : decode cL_law 1514 = .ok (.iconst 1, 1) := by decide +kernel
theorem dL_law_1515 : decode cL_law 1515 = .ok (.iadd, 1) := by decide +kernel
theorem dL_law_1516 : decode cL_law 1516 = .ok (.iaload, 1) := by decide +kernel
theorem dL_law_1517 : decode cL_law 1517 = .ok (.aload_n 0, 1) := by decide +kernel
theorem dL_law_1518 : decode cL_law 1518 = .ok (.iload_n 3, 1) := by decide +kernel
theorem dL_law_1519 : decode cL_law 1519 = .ok (.iconst 2, 1) := by decide +kernel
theorem dL_law_1520 : decode cL_law 1520 = .ok (.iadd, 1) := by decide +kernel
theorem dL_law_1521 : decode cL_law 1521 = .ok (.iaload, 1) := by decide +kernel
theorem dL_law_1522 : decode cL_law 1522 = .ok (.invokevirtual 166, 3) := by decide +kernel
theorem dL_law_1525 : decode cL_law 1525 = .ok (.if_icmp .eq 355, 3) := by decide +kernel
theorem dL_law_1530 : decode cL_law 1530 = .ok (.aload_n 1, 1) := by decide +kernel
theorem dL_law_1531 : decode cL_law 1531 = .ok (.aload_n 0, 1) := by decide +kernel
theorem dL_law_1532 : decode cL_law 1532 = .ok (.iload_n 3, 1) := by decide +kernel
theorem dL_law_1533 : decode cL_law 1533 = .ok (.iconst 1, 1) := by decide +kernel
theorem dL_law_1534 : decode cL_law 1534 = .ok (.iadd, 1) := by decide +kernel
theorem dL_law_1535 : decode cL_law 1535 = .ok (.iaload, 1) := by decide +kernel
theorem dL_law_1536 : decode cL_law 1536 = .ok (.aload_n 0, 1) := by decide +kernel
theorem dL_law_1537 : decode cL_law 1537 = .ok (.iload_n 3, 1) := by decide +kernel
theorem dL_law_1538 : decode cL_law 1538 = .ok (.iconst 2, 1) := by decide +kernel
theorem dL_law_1539 : decode cL_law 1539 = .ok (.iadd, 1) := by decide +kernel
theorem dL_law_1540 : decode cL_law 1540 = .ok (.iaload, 1) := by decide +kernel
theorem dL_law_1541 : decode cL_law 1541 = .ok (.invokevirtual 167, 3) := by decide +kernel
theorem dL_law_1544 : decode cL_law 1544 = .ok (.aload_n 2, 1) := by decide +kernel
theorem dL_law_1545 : decode cL_law 1545 = .ok (.aload_n 0, 1) := by decide +kernel
theorem dL_law_1546 : decode cL_law 1546 = .ok (.iload_n 3, 1) := by decide +kernel
theorem dL_law_1547 : decode cL_law 1547 = .ok (.iconst 1, 1) := by decide +kernel
theorem dL_law_1548 : decode cL_law 1548 = .ok (.iadd, 1) := by decide +kernel
theorem dL_law_1549 : decode cL_law 1549 = .ok (.iaload, 1) := by decide +kernel
theorem dL_law_1550 : decode cL_law 1550 = .ok (.aload_n 0, 1) := by decide +kernel
theorem dL_law_1551 : decode cL_law 1551 = .ok (.iload_n 3, 1) := by decide +kernel
theorem dL_law_1552 : decode cL_law 1552 = .ok (.iconst 2, 1) := by decide +kernel
theorem dL_law_1553 : decode cL_law 1553 = .ok (.iadd, 1) := by decide +kernel
theorem dL_law_1554 : decode cL_law 1554 = .ok (.iaload, 1) := by decide +kernel
theorem dL_law_1555 : decode cL_law 1555 = .ok (.invokevirtual 170, 3) := by decide +kernel
theorem dL_law_1558 : decode cL_law 1558 = .ok (.if_icmp .eq 322, 3) := by decide +kernel
theorem dL_law_1563 : decode cL_law 1563 = .ok (.aload_n 1, 1) := by decide +kernel
theorem dL_law_1564 : decode cL_law 1564 = .ok (.aload_n 0, 1) := by decide +kernel
theorem dL_law_1565 : decode cL_law 1565 = .ok (.iload_n 3, 1) := by decide +kernel
theorem dL_law_1566 : decode cL_law 1566 = .ok (.iconst 1, 1) := by decide +kernel
theorem dL_law_1567 : decode cL_law 1567 = .ok (.iadd, 1) := by decide +kernel
theorem dL_law_1568 : decode cL_law 1568 = .ok (.iaload, 1) := by decide +kernel
theorem dL_law_1569 : decode cL_law 1569 = .ok (.aload_n 0, 1) := by decide +kernel
theorem dL_law_1570 : decode cL_law 1570 = .ok (.iload_n 3, 1) := by decide +kernel
theorem dL_law_1571 : decode cL_law 1571 = .ok (.iconst 2, 1) := by decide +kernel
theorem dL_law_1572 : decode cL_law 1572 = .ok (.iadd, 1) := by decide +kernel
theorem dL_law_1573 : decode cL_law 1573 = .ok (.iaload, 1) := by decide +kernel
theorem dL_law_1574 : decode cL_law 1574 = .ok (.aload_n 0, 1) := by decide +kernel
theorem dL_law_1575 : decode cL_law 1575 = .ok (.iload_n 3, 1) := by decide +kernel
theorem dL_law_1576 : decode cL_law 1576 = .ok (.iconst 3, 1) := by decide +kernel
theorem dL_law_1577 : decode cL_law 1577 = .ok (.iadd, 1) := by decide +kernel
theorem dL_law_1578 : decode cL_law 1578 = .ok (.iaload, 1) := by decide +kernel
theorem dL_law_1579 : decode cL_law 1579 = .ok (.invokevirtual 171, 3) := by decide +kernel
theorem dL_law_1582 : decode cL_law 1582 = .ok (.aload_n 2, 1) := by decide +kernel
theorem dL_law_1583 : decode cL_law 1583 = .ok (.aload_n 0, 1) := by decide +kernel
theorem dL_law_1584 : decode cL_law 1584 = .ok (.iload_n 3, 1) := by decide +kernel
theorem dL_law_1585 : decode cL_law 1585 = .ok (.iconst 1, 1) := by decide +kernel
theorem dL_law_1586 : decode cL_law 1586 = .ok (.iadd, 1) := by decide +kernel
theorem dL_law_1587 : decode cL_law 1587 = .ok (.iaload, 1) := by decide +kernel
theorem dL_law_1588 : decode cL_law 1588 = .ok (.aload_n 0, 1) := by decide +kernel
theorem dL_law_1589 : decode cL_law 1589 = .ok (.iload_n 3, 1) := by decide +kernel
theorem dL_law_1590 : decode cL_law 1590 = .ok (.iconst 2, 1) := by decide +kernel
theorem dL_law_1591 : decode cL_law 1591 = .ok (.iadd, 1) := by decide +kernel
theorem dL_law_1592 : decode cL_law 1592 = .ok (.iaload, 1) := by decide +kernel
theorem dL_law_1593 : decode cL_law 1593 = .ok (.aload_n 0, 1) := by decide +kernel
theorem dL_law_1594 : decode cL_law 1594 = .ok (.iload_n 3, 1) := by decide +kernel
theorem dL_law_1595 : decode cL_law 1595 = .ok (.iconst 3, 1) := by decide +kernel
theorem dL_law_1596 : decode cL_law 1596 = .ok (.iadd, 1) := by decide +kernel
theorem dL_law_1597 : decode cL_law 1597 = .ok (.iaload, 1) := by decide +kernel
theorem dL_law_1598 : decode cL_law 1598 = .ok (.invokevirtual 174, 3) := by decide +kernel
theorem dL_law_1601 : decode cL_law 1601 = .ok (.if_icmp .eq 279, 3) := by decide +kernel
theorem dL_law_1606 : decode cL_law 1606 = .ok (.aload_n 1, 1) := by decide +kernel
theorem dL_law_1607 : decode cL_law 1607 = .ok (.aload_n 0, 1) := by decide +kernel
theorem dL_law_1608 : decode cL_law 1608 = .ok (.iload_n 3, 1) := by decide +kernel
theorem dL_law_1609 : decode cL_law 1609 = .ok (.iconst 1, 1) := by decide +kernel
theorem dL_law_1610 : decode cL_law 1610 = .ok (.iadd, 1) := by decide +kernel
theorem dL_law_1611 : decode cL_law 1611 = .ok (.iaload, 1) := by decide +kernel
theorem dL_law_1612 : decode cL_law 1612 = .ok (.aload_n 0, 1) := by decide +kernel
theorem dL_law_1613 : decode cL_law 1613 = .ok (.iload_n 3, 1) := by decide +kernel
theorem dL_law_1614 : decode cL_law 1614 = .ok (.iconst 2, 1) := by decide +kernel
theorem dL_law_1615 : decode cL_law 1615 = .ok (.iadd, 1) := by decide +kernel
theorem dL_law_1616 : decode cL_law 1616 = .ok (.iaload, 1) := by decide +kernel
theorem dL_law_1617 : decode cL_law 1617 = .ok (.aload_n 0, 1) := by decide +kernel
theorem dL_law_1618 : decode cL_law 1618 = .ok (.iload_n 3, 1) := by decide +kernel
theorem dL_law_1619 : decode cL_law 1619 = .ok (.iconst 3, 1) := by decide +kernel
theorem dL_law_1620 : decode cL_law 1620 = .ok (.iadd, 1) := by decide +kernel
theorem dL_law_1621 : decode cL_law 1621 = .ok (.iaload, 1) := by decide +kernel
theorem dL_law_1622 : decode cL_law 1622 = .ok (.aload_n 0, 1) := by decide +kernel
theorem dL_law_1623 : decode cL_law 1623 = .ok (.iload_n 3, 1) := by decide +kernel
theorem dL_law_1624 : decode cL_law 1624 = .ok (.iconst 4, 1) := by decide +kernel
theorem dL_law_1625 : decode cL_law 1625 = .ok (.iadd, 1) := by decide +kernel
theorem dL_law_1626 : decode cL_law 1626 = .ok (.iaload, 1) := by decide +kernel
theorem dL_law_1627 : decode cL_law 1627 = .ok (.invokevirtual 175, 3) := by decide +kernel
theorem dL_law_1630 : decode cL_law 1630 = .ok (.aload_n 2, 1) := by decide +kernel
theorem dL_law_1631 : decode cL_law 1631 = .ok (.aload_n 0, 1) := by decide +kernel
theorem dL_law_1632 : decode cL_law 1632 = .ok (.iload_n 3, 1) := by decide +kernel
theorem dL_law_1633 : decode cL_law 1633 = .ok (.iconst 1, 1) := by decide +kernel
theorem dL_law_1634 : decode cL_law 1634 = .ok (.iadd, 1) := by decide +kernel
theorem dL_law_1635 : decode cL_law 1635 = .ok (.iaload, 1) := by decide +kernel
theorem dL_law_1636 : decode cL_law 1636 = .ok (.aload_n 0, 1) := by decide +kernel
theorem dL_law_1637 : decode cL_law 1637 = .ok (.iload_n 3, 1) := by decide +kernel
theorem dL_law_1638 : decode cL_law 1638 = .ok (.iconst 2, 1) := by decide +kernel
theorem dL_law_1639 : decode cL_law 1639 = .ok (.iadd, 1) := by decide +kernel
theorem dL_law_1640 : decode cL_law 1640 = .ok (.iaload, 1) := by decide +kernel
theorem dL_law_1641 : decode cL_law 1641 = .ok (.aload_n 0, 1) := by decide +kernel
theorem dL_law_1642 : decode cL_law 1642 = .ok (.iload_n 3, 1) := by decide +kernel
theorem dL_law_1643 : decode cL_law 1643 = .ok (.iconst 3, 1) := by decide +kernel
theorem dL_law_1644 : decode cL_law 1644 = .ok (.iadd, 1) := by decide +kernel
theorem dL_law_1645 : decode cL_law 1645 = .ok (.iaload, 1) := by decide +kernel
theorem dL_law_1646 : decode cL_law 1646 = .ok (.aload_n 0, 1) := by decide +kernel
theorem dL_law_1647 : decode cL_law 1647 = .ok (.iload_n 3, 1) := by decide +kernel
theorem dL_law_1648 : decode cL_law 1648 = .ok (.iconst 4, 1) := by decide +kernel
theorem dL_law_1649 : decode cL_law 1649 = .ok (.iadd, 1) := by decide +kernel
theorem dL_law_1650 : decode cL_law 1650 = .ok (.iaload, 1) := by decide +kernel
theorem dL_law_1651 : decode cL_law 1651 = .ok (.invokevirtual 178, 3) := by decide +kernel
theorem dL_law_1654 : decode cL_law 1654 = .ok (.if_icmp .eq 226, 3) := by decide +kernel
theorem dL_law_1659 : decode cL_law 1659 = .ok (.aload_n 1, 1) := by decide +kernel
theorem dL_law_1660 : decode cL_law 1660 = .ok (.aload_n 0, 1) := by decide +kernel
theorem dL_law_1661 : decode cL_law 1661 = .ok (.iload_n 3, 1) := by decide +kernel
theorem dL_law_1662 : decode cL_law 1662 = .ok (.iconst 1, 1) := by decide +kernel
theorem dL_law_1663 : decode cL_law 1663 = .ok (.iadd, 1) := by decide +kernel
theorem dL_law_1664 : decode cL_law 1664 = .ok (.iaload, 1) := by decide +kernel
theorem dL_law_1665 : decode cL_law 1665 = .ok (.aload_n 0, 1) := by decide +kernel
theorem dL_law_1666 : decode cL_law 1666 = .ok (.iload_n 3, 1) := by decide +kernel
theorem dL_law_1667 : decode cL_law 1667 = .ok (.iconst 2, 1) := by decide +kernel
theorem dL_law_1668 : decode cL_law 1668 = .ok (.iadd, 1) := by decide +kernel
theorem dL_law_1669 : decode cL_law 1669 = .ok (.iaload, 1) := by decide +kernel
theorem dL_law_1670 : decode cL_law 1670 = .ok (.aload_n 0, 1) := by decide +kernel
theorem dL_law_1671 : decode cL_law 1671 = .ok (.iload_n 3, 1) := by decide +kernel
theorem dL_law_1672 : decode cL_law 1672 = .ok (.iconst 3, 1) := by decide +kernel
theorem dL_law_1673 : decode cL_law 1673 = .ok (.iadd, 1) := by decide +kernel
theorem dL_law_1674 : decode cL_law 1674 = .ok (.iaload, 1) := by decide +kernel
theorem dL_law_1675 : decode cL_law 1675 = .ok (.invokevirtual 179, 3) := by decide +kernel
theorem dL_law_1678 : decode cL_law 1678 = .ok (.aload_n 2, 1) := by decide +kernel
theorem dL_law_1679 : decode cL_law 1679 = .ok (.aload_n 0, 1) := by decide +kernel
theorem dL_law_1680 : decode cL_law 1680 = .ok (.iload_n 3, 1) := by decide +kernel
theorem dL_law_1681 : decode cL_law 1681 = .ok (.iconst 1, 1) := by decide +kernel
theorem dL_law_1682 : decode cL_law 1682 = .ok (.iadd, 1) := by decide +kernel
theorem dL_law_1683 : decode cL_law 1683 = .ok (.iaload, 1) := by decide +kernel
theorem dL_law_1684 : decode cL_law 1684 = .ok (.aload_n 0, 1) := by decide +kernel
theorem dL_law_1685 : decode cL_law 1685 = .ok (.iload_n 3, 1) := by decide +kernel
theorem dL_law_1686 : decode cL_law 1686 = .ok (.iconst 2, 1) := by decide +kernel
theorem dL_law_1687 : decode cL_law 1687 = .ok (.iadd, 1) := by decide +kernel
theorem dL_law_1688 : decode cL_law 1688 = .ok (.iaload, 1) := by decide +kernel
theorem dL_law_1689 : decode cL_law 1689 = .ok (.aload_n 0, 1) := by decide +kernel
theorem dL_law_1690 : decode cL_law 1690 = .ok (.iload_n 3, 1) := by decide +kernel
theorem dL_law_1691 : decode cL_law 1691 = .ok (.iconst 3, 1) := by decide +kernel
theorem dL_law_1692 : decode cL_law 1692 = .ok (.iadd, 1) := by decide +kernel
theorem dL_law_1693 : decode cL_law 1693 = .ok (.iaload, 1) := by decide +kernel
theorem dL_law_1694 : decode cL_law 1694 = .ok (.invokevirtual 182, 3) := by decide +kernel
theorem dL_law_1697 : decode cL_law 1697 = .ok (.if_icmp .eq 183, 3) := by decide +kernel
theorem dL_law_1702 : decode cL_law 1702 = .ok (.aload_n 1, 1) := by decide +kernel
theorem dL_law_1703 : decode cL_law 1703 = .ok (.aload_n 0, 1) := by decide +kernel
theorem dL_law_1704 : decode cL_law 1704 = .ok (.iload_n 3, 1) := by decide +kernel
theorem dL_law_1705 : decode cL_law 1705 = .ok (.iconst 1, 1) := by decide +kernel
theorem dL_law_1706 : decode cL_law 1706 = .ok (.iadd, 1) := by decide +kernel
theorem dL_law_1707 : decode cL_law 1707 = .ok (.iaload, 1) := by decide +kernel
theorem dL_law_1708 : decode cL_law 1708 = .ok (.aload_n 0, 1) := by decide +kernel
theorem dL_law_1709 : decode cL_law 1709 = .ok (.iload_n 3, 1) := by decide +kernel
theorem dL_law_1710 : decode cL_law 1710 = .ok (.iconst 2, 1) := by decide +kernel
theorem dL_law_1711 : decode cL_law 1711 = .ok (.iadd, 1) := by decide +kernel
theorem dL_law_1712 : decode cL_law 1712 = .ok (.iaload, 1) := by decide +kernel
theorem dL_law_1713 : decode cL_law 1713 = .ok (.invokevirtual 183, 3) := by decide +kernel
theorem dL_law_1716 : decode cL_law 1716 = .ok (.aload_n 2, 1) := by decide +kernel
theorem dL_law_1717 : decode cL_law 1717 = .ok (.aload_n 0, 1) := by decide +kernel
theorem dL_law_1718 : decode cL_law 1718 = .ok (.iload_n 3, 1) := by decide +kernel
theorem dL_law_1719 : decode cL_law 1719 = .ok (.iconst 1, 1) := by decide +kernel
theorem dL_law_1720 : decode cL_law 1720 = .ok (.iadd, 1) := by decide +kernel
theorem dL_law_1721 : decode cL_law 1721 = .ok (.iaload, 1) := by decide +kernel
theorem dL_law_1722 : decode cL_law 1722 = .ok (.aload_n 0, 1) := by decide +kernel
theorem dL_law_1723 : decode cL_law 1723 = .ok (.iload_n 3, 1) := by decide +kernel
theorem dL_law_1724 : decode cL_law 1724 = .ok (.iconst 2, 1) := by decide +kernel
theorem dL_law_1725 : decode cL_law 1725 = .ok (.iadd, 1) := by decide +kernel
theorem dL_law_1726 : decode cL_law 1726 = .ok (.iaload, 1) := by decide +kernel
theorem dL_law_1727 : decode cL_law 1727 = .ok (.invokevirtual 186, 3) := by decide +kernel
theorem dL_law_1730 : decode cL_law 1730 = .ok (.if_icmp .eq 150, 3) := by decide +kernel
theorem dL_law_1735 : decode cL_law 1735 = .ok (.aload_n 1, 1) := by decide +kernel
theorem dL_law_1736 : decode cL_law 1736 = .ok (.aload_n 0, 1) := by decide +kernel
theorem dL_law_1737 : decode cL_law 1737 = .ok (.iload_n 3, 1) := by decide +kernel
theorem dL_law_1738 : decode cL_law 1738 = .ok (.iconst 1, 1) := by decide +kernel
theorem dL_law_1739 : decode cL_law 1739 = .ok (.iadd, 1) := by decide +kernel
theorem dL_law_1740 : decode cL_law 1740 = .ok (.iaload, 1) := by decide +kernel
theorem dL_law_1741 : decode cL_law 1741 = .ok (.aload_n 0, 1) := by decide +kernel
theorem dL_law_1742 : decode cL_law 1742 = .ok (.iload_n 3, 1) := by decide +kernel
theorem dL_law_1743 : decode cL_law 1743 = .ok (.iconst 2, 1) := by decide +kernel
theorem dL_law_1744 : decode cL_law 1744 = .ok (.iadd, 1) := by decide +kernel
theorem dL_law_1745 : decode cL_law 1745 = .ok (.iaload, 1) := by decide +kernel
theorem dL_law_1746 : decode cL_law 1746 = .ok (.aload_n 0, 1) := by decide +kernel
theorem dL_law_1747 : decode cL_law 1747 = .ok (.iload_n 3, 1) := by decide +kernel
theorem dL_law_1748 : decode cL_law 1748 = .ok (.iconst 3, 1) := by decide +kernel
theorem dL_law_1749 : decode cL_law 1749 = .ok (.iadd, 1) := by decide +kernel
theorem dL_law_1750 : decode cL_law 1750 = .ok (.iaload, 1) := by decide +kernel
theorem dL_law_1751 : decode cL_law 1751 = .ok (.invokevirtual 187, 3) := by decide +kernel
theorem dL_law_1754 : decode cL_law 1754 = .ok (.aload_n 2, 1) := by decide +kernel
theorem dL_law_1755 : decode cL_law 1755 = .ok (.aload_n 0, 1) := by decide +kernel
theorem dL_law_1756 : decode cL_law 1756 = .ok (.iload_n 3, 1) := by decide +kernel
theorem dL_law_1757 : decode cL_law 1757 = .ok (.iconst 1, 1) := by decide +kernel
theorem dL_law_1758 : decode cL_law 1758 = .ok (.iadd, 1) := by decide +kernel
theorem dL_law_1759 : decode cL_law 1759 = .ok (.iaload, 1) := by decide +kernel
theorem dL_law_1760 : decode cL_law 1760 = .ok (.aload_n 0, 1) := by decide +kernel
theorem dL_law_1761 : decode cL_law 1761 = .ok (.iload_n 3, 1) := by decide +kernel
theorem dL_law_1762 : decode cL_law 1762 = .ok (.iconst 2, 1) := by decide +kernel
theorem dL_law_1763 : decode cL_law 1763 = .ok (.iadd, 1) := by decide +kernel
theorem dL_law_1764 : decode cL_law 1764 = .ok (.iaload, 1) := by decide +kernel
theorem dL_law_1765 : decode cL_law 1765 = .ok (.aload_n 0, 1) := by decide +kernel
theorem dL_law_1766 : decode cL_law 1766 = .ok (.iload_n 3, 1) := by decide +kernel
theorem dL_law_1767 : decode cL_law 1767 = .ok (.iconst 3, 1) := by decide +kernel
theorem dL_law_1768 : decode cL_law 1768 = .ok (.iadd, 1) := by decide +kernel
theorem dL_law_1769 : decode cL_law 1769 = .ok (.iaload, 1) := by decide +kernel
theorem dL_law_1770 : decode cL_law 1770 = .ok (.invokevirtual 190, 3) := by decide +kernel
theorem dL_law_1773 : decode cL_law 1773 = .ok (.if_icmp .eq 107, 3) := by decide +kernel
theorem dL_law_1778 : decode cL_law 1778 = .ok (.aload_n 1, 1) := by decide +kernel
theorem dL_law_1779 : decode cL_law 1779 = .ok (.aload_n 0, 1) := by decide +kernel
theorem dL_law_1780 : decode cL_law 1780 = .ok (.iload_n 3, 1) := by decide +kernel
theorem dL_law_1781 : decode cL_law 1781 = .ok (.iconst 1, 1) := by decide +kernel
theorem dL_law_1782 : decode cL_law 1782 = .ok (.iadd, 1) := by decide +kernel
theorem dL_law_1783 : decode cL_law 1783 = .ok (.iaload, 1) := by decide +kernel
theorem dL_law_1784 : decode cL_law 1784 = .ok (.aload_n 0, 1) := by decide +kernel
theorem dL_law_1785 : decode cL_law 1785 = .ok (.iload_n 3, 1) := by decide +kernel
theorem dL_law_1786 : decode cL_law 1786 = .ok (.iconst 2, 1) := by decide +kernel
theorem dL_law_1787 : decode cL_law 1787 = .ok (.iadd, 1) := by decide +kernel
theorem dL_law_1788 : decode cL_law 1788 = .ok (.iaload, 1) := by decide +kernel
theorem dL_law_1789 : decode cL_law 1789 = .ok (.invokevirtual 191, 3) := by decide +kernel
theorem dL_law_1792 : decode cL_law 1792 = .ok (.aload_n 2, 1) := by decide +kernel
theorem dL_law_1793 : decode cL_law 1793 = .ok (.aload_n 0, 1) := by decide +kernel
theorem dL_law_1794 : decode cL_law 1794 = .ok (.iload_n 3, 1) := by decide +kernel
theorem dL_law_1795 : decode cL_law 1795 = .ok (.iconst 1, 1) := by decide +kernel
theorem dL_law_1796 : decode cL_law 1796 = .ok (.iadd, 1) := by decide +kernel
theorem dL_law_1797 : decode cL_law 1797 = .ok (.iaload, 1) := by decide +kernel
theorem dL_law_1798 : decode cL_law 1798 = .ok (.aload_n 0, 1) := by decide +kernel
theorem dL_law_1799 : decode cL_law 1799 = .ok (.iload_n 3, 1) := by decide +kernel
theorem dL_law_1800 : decode cL_law 1800 = .ok (.iconst 2, 1) := by decide +kernel
theorem dL_law_1801 : decode cL_law 1801 = .ok (.iadd, 1) := by decide +kernel
theorem dL_law_1802 : decode cL_law 1802 = .ok (.iaload, 1) := by decide +kernel
theorem dL_law_1803 : decode cL_law 1803 = .ok (.invokevirtual 194, 3) := by decide +kernel
theorem dL_law_1806 : decode cL_law 1806 = .ok (.if_icmp .eq 74, 3) := by decide +kernel
theorem dL_law_1811 : decode cL_law 1811 = .ok (.aload_n 1, 1) := by decide +kernel
theorem dL_law_1812 : decode cL_law 1812 = .ok (.aload_n 0, 1) := by decide +kernel
theorem dL_law_1813 : decode cL_law 1813 = .ok (.iload_n 3, 1) := by decide +kernel
theorem dL_law_1814 : decode cL_law 1814 = .ok (.iconst 1, 1) := by decide +kernel
theorem dL_law_1815 : decode cL_law 1815 = .ok (.iadd, 1) := by decide +kernel
theorem dL_law_1816 : decode cL_law 1816 = .ok (.iaload, 1) := by decide +kernel
theorem dL_law_1817 : decode cL_law 1817 = .ok (.invokevirtual 195, 3) := by decide +kernel
theorem dL_law_1820 : decode cL_law 1820 = .ok (.aload_n 2, 1) := by decide +kernel
theorem dL_law_1821 : decode cL_law 1821 = .ok (.aload_n 0, 1) := by decide +kernel
theorem dL_law_1822 : decode cL_law 1822 = .ok (.iload_n 3, 1) := by decide +kernel
theorem dL_law_1823 : decode cL_law 1823 = .ok (.iconst 1, 1) := by decide +kernel
theorem dL_law_1824 : decode cL_law 1824 = .ok (.iadd, 1) := by decide +kernel
theorem dL_law_1825 : decode cL_law 1825 = .ok (.iaload, 1) := by decide +kernel
theorem dL_law_1826 : decode cL_law 1826 = .ok (.invokevirtual 198, 3) := by decide +kernel
theorem dL_law_1829 : decode cL_law 1829 = .ok (.if_icmp .eq 51, 3) := by decide +kernel
theorem dL_law_1834 : decode cL_law 1834 = .ok (.aload_n 1, 1) := by decide +kernel
theorem dL_law_1835 : decode cL_law 1835 = .ok (.aload_n 0, 1) := by decide +kernel
theorem dL_law_1836 : decode cL_law 1836 = .ok (.iload_n 3, 1) := by decide +kernel
theorem dL_law_1837 : decode cL_law 1837 = .ok (.iconst 1, 1) := by decide +kernel
theorem dL_law_1838 : decode cL_law 1838 = .ok (.iadd, 1) := by decide +kernel
theorem dL_law_1839 : decode cL_law 1839 = .ok (.iaload, 1) := by decide +kernel
theorem dL_law_1840 : decode cL_law 1840 = .ok (.invokevirtual 199, 3) := by decide +kernel
theorem dL_law_1843 : decode cL_law 1843 = .ok (.aload_n 2, 1) := by decide +kernel
theorem dL_law_1844 : decode cL_law 1844 = .ok (.aload_n 0, 1) := by decide +kernel
theorem dL_law_1845 : decode cL_law 1845 = .ok (.iload_n 3, 1) := by decide +kernel
theorem dL_law_1846 : decode cL_law 1846 = .ok (.iconst 1, 1) := by decide +kernel
theorem dL_law_1847 : decode cL_law 1847 = .ok (.iadd, 1) := by decide +kernel
theorem dL_law_1848 : decode cL_law 1848 = .ok (.iaload, 1) := by decide +kernel
theorem dL_law_1849 : decode cL_law 1849 = .ok (.invokevirtual 202, 3) := by decide +kernel
theorem dL_law_1852 : decode cL_law 1852 = .ok (.if_icmp .eq 28, 3) := by decide +kernel
theorem dL_law_1857 : decode cL_law 1857 = .ok (.aload_n 1, 1) := by decide +kernel
theorem dL_law_1858 : decode cL_law 1858 = .ok (.aload_n 0, 1) := by decide +kernel
theorem dL_law_1859 : decode cL_law 1859 = .ok (.iload_n 3, 1) := by decide +kernel
theorem dL_law_1860 : decode cL_law 1860 = .ok (.iconst 1, 1) := by decide +kernel
theorem dL_law_1861 : decode cL_law 1861 = .ok (.iadd, 1) := by decide +kernel
theorem dL_law_1862 : decode cL_law 1862 = .ok (.iaload, 1) := by decide +kernel
theorem dL_law_1863 : decode cL_law 1863 = .ok (.invokevirtual 203, 3) := by decide +kernel
theorem dL_law_1866 : decode cL_law 1866 = .ok (.aload_n 2, 1) := by decide +kernel
theorem dL_law_1867 : decode cL_law 1867 = .ok (.aload_n 0, 1) := by decide +kernel
theorem dL_law_1868 : decode cL_law 1868 = .ok (.iload_n 3, 1) := by decide +kernel
theorem dL_law_1869 : decode cL_law 1869 = .ok (.iconst 1, 1) := by decide +kernel
theorem dL_law_1870 : decode cL_law 1870 = .ok (.iadd, 1) := by decide +kernel
theorem dL_law_1871 : decode cL_law 1871 = .ok (.iaload, 1) := by decide +kernel
theorem dL_law_1872 : decode cL_law 1872 = .ok (.invokevirtual 206, 3) := by decide +kernel
theorem dL_law_1875 : decode cL_law 1875 = .ok (.if_icmp .eq 5, 3) := by decide +kernel
theorem dL_law_1880 : decode cL_law 1880 = .ok (.iinc 3 6, 3) := by decide +kernel
theorem dL_law_1883 : decode cL_law 1883 = .ok (.goto (-1865), 3) := by decide +kernel
theorem dL_law_1886 : decode cL_law 1886 = .ok (.iconst 1, 1) := by decide +kernel
theorem dL_law_1887 : decode cL_law 1887 = .ok (.ireturn, 1) := by decide +kernel
abbrev vwCl : List vw_C := [(RX0, TX0, 14), (RX1, TX1, 8), (RX2, TX2, 11), (RX3, TX3, 12), (RX4, TX4, 2), (RX5, TX5, 9), (RX6, TX6, 15), (RX7, TX7, 7), (RX8, TX8, 10), (RX9, TX9, 9), (RX10, TX10, 6), (RX11, TX11, 7), (RX12, TX12, 97)]
