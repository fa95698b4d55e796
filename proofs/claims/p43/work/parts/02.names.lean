/-! ===== BEGIN printed: names, fields, word lists, decode rows ===== -/
def RX0 : String := "Meniscus$Instrument"
def TX0 : u_T := fun k => match k with
  | 0 => ("Meniscus$Instrument", "tubeNumber", "I", true)
  | 1 => ("Meniscus$Instrument", "tube", "LMeniscus$Tube;", true)
  | 2 => ("Meniscus$Instrument", "bulb", "I", true)
  | 3 => ("Meniscus$Instrument", "glass", "C", true)
  | 4 => ("Meniscus$Instrument", "scale", "LMeniscus$Scale;", true)
  | 5 => ("Meniscus$Instrument", "readings", "LMeniscus$Readings;", true)
  | 6 => ("Meniscus$Instrument", "crept", "I", false)
  | 7 => ("Meniscus$Instrument", "filled", "Z", false)
  | 8 => ("Meniscus$Instrument", "smashed", "Z", false)
  | 9 => ("Meniscus$Instrument", "liquid", "C", false)
  | 10 => ("Meniscus$Instrument", "inside", "I", false)
  | 11 => ("Meniscus$Instrument", "gap", "I", false)
  | 12 => ("Meniscus$Instrument", "keeper", "Z", false)
  | 13 => ("Meniscus$Instrument", "greatestLevel", "I", false)
  | _ => ("Meniscus$Instrument", "certificateEnd", "I", false)
def tyX0 : Nat → FieldType := fun k => match k with
  | 0 => .int
  | 1 => .object "Meniscus$Tube"
  | 2 => .int
  | 3 => .char
  | 4 => .object "Meniscus$Scale"
  | 5 => .object "Meniscus$Readings"
  | 6 => .int
  | 7 => .boolean
  | 8 => .boolean
  | 9 => .char
  | 10 => .int
  | 11 => .int
  | 12 => .boolean
  | 13 => .int
  | _ => .int
abbrev wsX00 : List Cond := u_ws RX0 TX0 15
theorem nmX0 : ∀ a, a < 15 → ∀ b, b < 15 → a ≠ b → (TX0 a).2.1 ≠ (TX0 b).2.1 := by decide +kernel
theorem tyX0_ok : ∀ k, k < 15 → parseFieldDescriptor (TX0 k).2.2.1 = some (tyX0 k) := by decide +kernel
abbrev cX0_init : ByteArray := prog_2_method_1_code
def yX0_init : MethodName := ⟨RX0, "<init>", "(ILMeniscus$Tube;IC)V"⟩
abbrev cX0_creepsInAll : ByteArray := prog_2_method_2_code
def yX0_creepsInAll : MethodName := ⟨RX0, "creepsInAll", "()I"⟩
abbrev cX0_mercuryInside : ByteArray := prog_2_method_7_code
def yX0_mercuryInside : MethodName := ⟨RX0, "mercuryInside", "()I"⟩
abbrev cX0_isInBounds : ByteArray := prog_2_method_16_code
def yX0_isInBounds : MethodName := ⟨RX0, "isInBounds", "()Z"⟩
def RX1 : String := "Meniscus$Readings"
def TX1 : u_T := fun k => match k with
  | 0 => ("Meniscus$Readings", "values", "[I", true)
  | 1 => ("Meniscus$Readings", "errors", "[I", true)
  | _ => ("Meniscus$Readings", "count", "I", false)
def tyX1 : Nat → FieldType := fun k => match k with
  | 0 => .array .int
  | 1 => .array .int
  | _ => .int
abbrev wsX10 : List Cond := u_ws RX1 TX1 3
theorem nmX1 : ∀ a, a < 3 → ∀ b, b < 3 → a ≠ b → (TX1 a).2.1 ≠ (TX1 b).2.1 := by decide +kernel
theorem tyX1_ok : ∀ k, k < 3 → parseFieldDescriptor (TX1 k).2.2.1 = some (tyX1 k) := by decide +kernel
abbrev cX1_init : ByteArray := prog_3_method_1_code
def yX1_init : MethodName := ⟨RX1, "<init>", "()V"⟩
def RX2 : String := "Meniscus$Scale"
def TX2 : u_T := fun k => match k with
  | 0 => ("Meniscus$Scale", "tube", "LMeniscus$Tube;", true)
  | 1 => ("Meniscus$Scale", "icePlace", "I", false)
  | 2 => ("Meniscus$Scale", "steamPlace", "I", false)
  | 3 => ("Meniscus$Scale", "steamTemperature", "I", false)
  | _ => ("Meniscus$Scale", "kind", "C", false)
def tyX2 : Nat → FieldType := fun k => match k with
  | 0 => .object "Meniscus$Tube"
  | 1 => .int
  | 2 => .int
  | 3 => .int
  | _ => .char
abbrev wsX20 : List Cond := u_ws RX2 TX2 5
theorem nmX2 : ∀ a, a < 5 → ∀ b, b < 5 → a ≠ b → (TX2 a).2.1 ≠ (TX2 b).2.1 := by decide +kernel
theorem tyX2_ok : ∀ k, k < 5 → parseFieldDescriptor (TX2 k).2.2.1 = some (tyX2 k) := by decide +kernel
abbrev cX2_init : ByteArray := prog_4_method_1_code
def yX2_init : MethodName := ⟨RX2, "<init>", "(LMeniscus$Tube;)V"⟩
def RX3 : String := "Meniscus$Tube"
def TX3 : u_T := fun k => match k with
  | 0 => ("Meniscus$Tube", "bores", "[I", true)
  | _ => ("Meniscus$Tube", "used", "Z", false)
def tyX3 : Nat → FieldType := fun k => match k with
  | 0 => .array .int
  | _ => .boolean
abbrev wsX30 : List Cond := u_ws RX3 TX3 2
theorem nmX3 : ∀ a, a < 2 → ∀ b, b < 2 → a ≠ b → (TX3 a).2.1 ≠ (TX3 b).2.1 := by decide +kernel
theorem tyX3_ok : ∀ k, k < 2 → parseFieldDescriptor (TX3 k).2.2.1 = some (tyX3 k) := by decide +kernel
abbrev cX3_init : ByteArray := prog_5_method_1_code
def yX3_init : MethodName := ⟨RX3, "<init>", "(II)V"⟩
abbrev cX3_boreOf : ByteArray := prog_5_method_2_code
def yX3_boreOf : MethodName := ⟨RX3, "boreOf", "(I)I"⟩
abbrev cX3_setBore : ByteArray := prog_5_method_3_code
def yX3_setBore : MethodName := ⟨RX3, "setBore", "(II)V"⟩
abbrev cX3_volumeUpTo : ByteArray := prog_5_method_4_code
def yX3_volumeUpTo : MethodName := ⟨RX3, "volumeUpTo", "(I)I"⟩
abbrev cX3_firstPlaceHolding : ByteArray := prog_5_method_5_code
def yX3_firstPlaceHolding : MethodName := ⟨RX3, "firstPlaceHolding", "(I)I"⟩
abbrev cX3_widestSection : ByteArray := prog_5_method_7_code
def yX3_widestSection : MethodName := ⟨RX3, "widestSection", "()I"⟩
abbrev cX3_clinging : ByteArray := prog_5_method_8_code
def yX3_clinging : MethodName := ⟨RX3, "clinging", "(III)I"⟩
abbrev cX3_stepsBelow : ByteArray := prog_5_method_9_code
def yX3_stepsBelow : MethodName := ⟨RX3, "stepsBelow", "(II)I"⟩
def RX4 : String := "Meniscus"
def TX4 : u_T := fun k => match k with
  | 0 => ("Meniscus", "tubes", "[LMeniscus$Tube;", true)
  | 1 => ("Meniscus", "instruments", "[LMeniscus$Instrument;", true)
  | 2 => ("Meniscus", "tubeCount", "I", false)
  | 3 => ("Meniscus", "instrumentCount", "I", false)
  | 4 => ("Meniscus", "airTemperature", "I", false)
  | 5 => ("Meniscus", "day", "I", false)
  | 6 => ("Meniscus", "stock", "I", false)
  | 7 => ("Meniscus", "spilt", "I", false)
  | _ => ("Meniscus", "bought", "I", false)
def tyX4 : Nat → FieldType := fun k => match k with
  | 0 => .array (.object "Meniscus$Tube")
  | 1 => .array (.object "Meniscus$Instrument")
  | 2 => .int
  | 3 => .int
  | 4 => .int
  | 5 => .int
  | 6 => .int
  | 7 => .int
  | _ => .int
abbrev wsX40 : List Cond := u_ws RX4 TX4 9
theorem nmX4 : ∀ a, a < 9 → ∀ b, b < 9 → a ≠ b → (TX4 a).2.1 ≠ (TX4 b).2.1 := by decide +kernel
theorem tyX4_ok : ∀ k, k < 9 → parseFieldDescriptor (TX4 k).2.2.1 = some (tyX4 k) := by decide +kernel
abbrev cX4_init : ByteArray := prog_1_method_1_code
def yX4_init : MethodName := ⟨RX4, "<init>", "()V"⟩
abbrev cX4_draw : ByteArray := prog_1_method_2_code
def yX4_draw : MethodName := ⟨RX4, "draw", "(II)I"⟩
abbrev cX4_section : ByteArray := prog_1_method_3_code
def yX4_section : MethodName := ⟨RX4, "section", "(III)I"⟩
abbrev cX4_bore : ByteArray := prog_1_method_4_code
def yX4_bore : MethodName := ⟨RX4, "bore", "(II)I"⟩
abbrev cX4_volume : ByteArray := prog_1_method_5_code
def yX4_volume : MethodName := ⟨RX4, "volume", "(II)I"⟩
abbrev cX4_thread : ByteArray := prog_1_method_6_code
def yX4_thread : MethodName := ⟨RX4, "thread", "(III)I"⟩
abbrev cX4_widest : ByteArray := prog_1_method_7_code
def yX4_widest : MethodName := ⟨RX4, "widest", "(I)I"⟩
abbrev cX4_deliver : ByteArray := prog_1_method_8_code
def yX4_deliver : MethodName := ⟨RX4, "deliver", "(IIII)I"⟩
abbrev cX4_make : ByteArray := prog_1_method_9_code
def yX4_make : MethodName := ⟨RX4, "make", "(IIC)I"⟩
abbrev cX4_boiling : ByteArray := prog_1_method_20_code
def yX4_boiling : MethodName := ⟨RX4, "boiling", "(I)I"⟩
abbrev cX4_barometer : ByteArray := prog_1_method_35_code
def yX4_barometer : MethodName := ⟨RX4, "barometer", "(IIII)I"⟩
abbrev cX4_isSound : ByteArray := prog_1_method_41_code
def yX4_isSound : MethodName := ⟨RX4, "isSound", "()Z"⟩
abbrev cX4_instrumentsOfTube : ByteArray := prog_1_method_42_code
def yX4_instrumentsOfTube : MethodName := ⟨RX4, "instrumentsOfTube", "(I)I"⟩
abbrev cX4_tubeNumbered : ByteArray := prog_1_method_43_code
def yX4_tubeNumbered : MethodName := ⟨RX4, "tubeNumbered", "(I)LMeniscus$Tube;"⟩
abbrev cX4_demandRange : ByteArray := prog_1_method_47_code
def yX4_demandRange : MethodName := ⟨RX4, "demandRange", "(III)V"⟩
abbrev cX4_demandPlace : ByteArray := prog_1_method_48_code
def yX4_demandPlace : MethodName := ⟨RX4, "demandPlace", "(I)V"⟩
abbrev cX4_demandPressure : ByteArray := prog_1_method_50_code
def yX4_demandPressure : MethodName := ⟨RX4, "demandPressure", "(I)V"⟩
abbrev cX4_demandEither : ByteArray := prog_1_method_51_code
def yX4_demandEither : MethodName := ⟨RX4, "demandEither", "(CCC)V"⟩
abbrev cX4_demandUnused : ByteArray := prog_1_method_52_code
def yX4_demandUnused : MethodName := ⟨RX4, "demandUnused", "(LMeniscus$Tube;)V"⟩
abbrev cX4_steamAt : ByteArray := prog_1_method_57_code
def yX4_steamAt : MethodName := ⟨RX4, "steamAt", "(I)I"⟩
abbrev cX4_clingingToStep : ByteArray := prog_1_method_58_code
def yX4_clingingToStep : MethodName := ⟨RX4, "clingingToStep", "(I)I"⟩
def RX5 : String := "MeniscusModel$Instrument"
def TX5 : u_T := fun k => match k with
  | _ => ("", "", "", false)
def tyX5 : Nat → FieldType := fun k => match k with
  | _ => .int
abbrev wsX50 : List Cond := u_ws RX5 TX5 0
theorem nmX5 : ∀ a, a < 0 → ∀ b, b < 0 → a ≠ b → (TX5 a).2.1 ≠ (TX5 b).2.1 := by decide +kernel
theorem tyX5_ok : ∀ k, k < 0 → parseFieldDescriptor (TX5 k).2.2.1 = some (tyX5 k) := by decide +kernel
def RX6 : String := "MeniscusModel$Tube"
def TX6 : u_T := fun k => match k with
  | _ => ("", "", "", false)
def tyX6 : Nat → FieldType := fun k => match k with
  | _ => .int
abbrev wsX60 : List Cond := u_ws RX6 TX6 0
theorem nmX6 : ∀ a, a < 0 → ∀ b, b < 0 → a ≠ b → (TX6 a).2.1 ≠ (TX6 b).2.1 := by decide +kernel
theorem tyX6_ok : ∀ k, k < 0 → parseFieldDescriptor (TX6 k).2.2.1 = some (tyX6 k) := by decide +kernel
def RX7 : String := "MeniscusModel"
def TX7 : u_T := fun k => match k with
  | _ => ("", "", "", false)
def tyX7 : Nat → FieldType := fun k => match k with
  | _ => .int
abbrev wsX70 : List Cond := u_ws RX7 TX7 0
theorem nmX7 : ∀ a, a < 0 → ∀ b, b < 0 → a ≠ b → (TX7 a).2.1 ≠ (TX7 b).2.1 := by decide +kernel
theorem tyX7_ok : ∀ k, k < 0 → parseFieldDescriptor (TX7 k).2.2.1 = some (tyX7 k) := by decide +kernel
def RJx145de : String := "java/io/Serializable"
def TJx145de : u_T := fun k => match k with
  | _ => ("", "", "", false)
def tyJx145de : Nat → FieldType := fun k => match k with
  | _ => .int
abbrev wsJx145de0 : List Cond := u_ws RJx145de TJx145de 0
theorem nmJx145de : ∀ a, a < 0 → ∀ b, b < 0 → a ≠ b → (TJx145de a).2.1 ≠ (TJx145de b).2.1 := by decide +kernel
theorem tyJx145de_ok : ∀ k, k < 0 → parseFieldDescriptor (TJx145de k).2.2.1 = some (tyJx145de k) := by decide +kernel
def RJ9 : String := "java/lang/Math"
def TJ9 : u_T := fun k => match k with
  | _ => ("", "", "", false)
def tyJ9 : Nat → FieldType := fun k => match k with
  | _ => .int
abbrev wsJ90 : List Cond := u_ws RJ9 TJ9 0
theorem nmJ9 : ∀ a, a < 0 → ∀ b, b < 0 → a ≠ b → (TJ9 a).2.1 ≠ (TJ9 b).2.1 := by decide +kernel
theorem tyJ9_ok : ∀ k, k < 0 → parseFieldDescriptor (TJ9 k).2.2.1 = some (tyJ9 k) := by decide +kernel
abbrev cJ9_max_7cf53 : ByteArray := prog_15_method_65_code
def yJ9_max_7cf53 : MethodName := ⟨RJ9, "max", "(II)I"⟩
abbrev cJ9_min_7cf53 : ByteArray := prog_15_method_69_code
def yJ9_min_7cf53 : MethodName := ⟨RJ9, "min", "(II)I"⟩
def RJ0 : String := "java/lang/String"
def TJ0 : u_T := fun k => match k with
  | _ => ("", "", "", false)
def tyJ0 : Nat → FieldType := fun k => match k with
  | _ => .int
abbrev wsJ00 : List Cond := u_ws RJ0 TJ0 0
theorem nmJ0 : ∀ a, a < 0 → ∀ b, b < 0 → a ≠ b → (TJ0 a).2.1 ≠ (TJ0 b).2.1 := by decide +kernel
theorem tyJ0_ok : ∀ k, k < 0 → parseFieldDescriptor (TJ0 k).2.2.1 = some (tyJ0 k) := by decide +kernel
def RL : String := "MeniscusLaw"
abbrev cL_cell : ByteArray := method_2_code
def yL_cell : MethodName := ⟨RL, "cell", "([II)I"⟩
abbrev cL_draw : ByteArray := method_3_code
def yL_draw : MethodName := ⟨RL, "draw", "(LMeniscus;II)I"⟩
abbrev cL_section : ByteArray := method_4_code
def yL_section : MethodName := ⟨RL, "section", "(LMeniscus;III)I"⟩
abbrev cL_bore : ByteArray := method_5_code
def yL_bore : MethodName := ⟨RL, "bore", "(LMeniscus;II)I"⟩
abbrev cL_volume : ByteArray := method_6_code
def yL_volume : MethodName := ⟨RL, "volume", "(LMeniscus;II)I"⟩
abbrev cL_thread : ByteArray := method_7_code
def yL_thread : MethodName := ⟨RL, "thread", "(LMeniscus;III)I"⟩
abbrev cL_widest : ByteArray := method_8_code
def yL_widest : MethodName := ⟨RL, "widest", "(LMeniscus;I)I"⟩
abbrev cL_deliver : ByteArray := method_9_code
def yL_deliver : MethodName := ⟨RL, "deliver", "(LMeniscus;IIII)I"⟩
abbrev cL_make : ByteArray := method_10_code
def yL_make : MethodName := ⟨RL, "make", "(LMeniscus;IIC)I"⟩
abbrev cL_boiling : ByteArray := method_11_code
def yL_boiling : MethodName := ⟨RL, "boiling", "(LMeniscus;I)I"⟩
abbrev cL_barometer : ByteArray := method_12_code
def yL_barometer : MethodName := ⟨RL, "barometer", "(LMeniscus;IIII)I"⟩
abbrev cL_in : ByteArray := method_13_code
def yL_in : MethodName := ⟨RL, "in", "([III)I"⟩
abbrev cL_law : ByteArray := code
def yL_law : MethodName := ⟨RL, "law", "([I)Z"⟩
def wsX1_init : List Cond := .code yX1_init cX1_init 1 none :: ([.methodLink RX1 3 objectInit, .instanceMethod objectInit, .code objectInit ⟨#[0xb1]⟩ 1 none, .arrayClass .int, .fieldLink RX1 9 "Meniscus$Readings" "values" "[I", .fieldLink RX1 15 "Meniscus$Readings" "errors" "[I"] ++ wsX10)
def wsX2_init : List Cond := .code yX2_init cX2_init 2 none :: ([.methodLink RX2 3 objectInit, .instanceMethod objectInit, .code objectInit ⟨#[0xb1]⟩ 1 none, .fieldLink RX2 9 "Meniscus$Scale" "icePlace" "I", .fieldLink RX2 15 "Meniscus$Scale" "steamPlace" "I", .fieldLink RX2 18 "Meniscus$Scale" "kind" "C", .fieldLink RX2 22 "Meniscus$Scale" "tube" "LMeniscus$Tube;"] ++ wsX20)
def wsX0_init_r1 : List Cond := [Cond.methodLink RX0 3 objectInit, Cond.instanceMethod objectInit, Cond.code objectInit ⟨#[0xb1]⟩ 1 none, Cond.classLink RX0 9 RX1, Cond.instantiable RX1 3, Cond.initialized RX1, Cond.fieldLink RX0 12 "Meniscus$Instrument" "readings" "LMeniscus$Readings;", Cond.fieldLink RX0 18 "Meniscus$Instrument" "liquid" "C", Cond.fieldLink RX0 22 "Meniscus$Instrument" "greatestLevel" "I", Cond.fieldLink RX0 26 "Meniscus$Instrument" "certificateEnd" "I", Cond.fieldLink RX0 29 "Meniscus$Instrument" "tubeNumber" "I", Cond.fieldLink RX0 32 "Meniscus$Instrument" "tube" "LMeniscus$Tube;", Cond.fieldLink RX0 36 "Meniscus$Instrument" "bulb" "I", Cond.fieldLink RX0 39 "Meniscus$Instrument" "glass" "C", Cond.classLink RX0 42 RX2, Cond.instantiable RX2 5, Cond.initialized RX2, Cond.fieldLink RX0 47 "Meniscus$Instrument" "scale" "LMeniscus$Scale;", Cond.instanceMethod yX1_init, Cond.code yX1_init cX1_init 1 none, Cond.methodLink RX1 3 objectInit, Cond.arrayClass .int, Cond.fieldLink RX1 9 "Meniscus$Readings" "values" "[I", Cond.fieldLink RX1 15 "Meniscus$Readings" "errors" "[I"]
def wsX0_init_r2 : List Cond := [Cond.methodLink RX0 44 yX2_init, Cond.instanceMethod yX2_init, Cond.code yX2_init cX2_init 2 none, Cond.methodLink RX2 3 objectInit, Cond.fieldLink RX2 9 "Meniscus$Scale" "icePlace" "I", Cond.fieldLink RX2 15 "Meniscus$Scale" "steamPlace" "I", Cond.fieldLink RX2 18 "Meniscus$Scale" "kind" "C", Cond.fieldLink RX2 22 "Meniscus$Scale" "tube" "LMeniscus$Tube;"]
def wsX0_init : List Cond := .code yX0_init cX0_init 5 none :: ((wsX0_init_r1 ++ wsX0_init_r2) ++ wsX10 ++ wsX00 ++ wsX20)
def wsX0_creepsInAll : List Cond := .code yX0_creepsInAll cX0_creepsInAll 1 (some .int) :: ([.fieldLink RX0 36 "Meniscus$Instrument" "bulb" "I", .fieldLink RX0 39 "Meniscus$Instrument" "glass" "C"] ++ wsX00)
def wsX0_mercuryInside : List Cond := .code yX0_mercuryInside cX0_mercuryInside 1 (some .int) :: ([.fieldLink RX0 18 "Meniscus$Instrument" "liquid" "C", .fieldLink RX0 68 "Meniscus$Instrument" "inside" "I"] ++ wsX00)
def wsX0_isInBounds : List Cond := .code yX0_isInBounds cX0_isInBounds 1 (some .boolean) :: ([.fieldLink RX0 51 "Meniscus$Instrument" "crept" "I", .fieldLink RX0 12 "Meniscus$Instrument" "readings" "LMeniscus$Readings;", .methodLink RX0 54 yX0_creepsInAll, .instanceMethod yX0_creepsInAll, .selects RX0 yX0_creepsInAll yX0_creepsInAll, .initialized RX0, .code yX0_creepsInAll cX0_creepsInAll 1 (some .int), .fieldLink RX0 36 "Meniscus$Instrument" "bulb" "I", .fieldLink RX0 39 "Meniscus$Instrument" "glass" "C"] ++ wsX00 ++ wsX10)
def wsX3_init : List Cond := .code yX3_init cX3_init 4 none :: ([.methodLink RX3 3 objectInit, .instanceMethod objectInit, .code objectInit ⟨#[0xb1]⟩ 1 none, .arrayClass .int, .fieldLink RX3 9 "Meniscus$Tube" "bores" "[I", .methodLink RX3 15 Lib.Math.min.name, .static Lib.Math.min.name, .initialized "java/lang/Math", .code Lib.Math.min.name Lib.Math.min.code 2 (some .int), .methodLink RX3 21 Lib.Math.max.name, .static Lib.Math.max.name, .code Lib.Math.max.name Lib.Math.max.code 2 (some .int)] ++ wsX30)
def wsX3_boreOf : List Cond := .code yX3_boreOf cX3_boreOf 2 (some .int) :: ([.fieldLink RX3 9 "Meniscus$Tube" "bores" "[I"] ++ wsX30)
def wsX3_setBore : List Cond := .code yX3_setBore cX3_setBore 3 none :: ([.fieldLink RX3 9 "Meniscus$Tube" "bores" "[I"] ++ wsX30)
def wsX3_stepsBelow : List Cond := .code yX3_stepsBelow cX3_stepsBelow 2 (some .int) :: ([.methodLink RX3 15 Lib.Math.min.name, .static Lib.Math.min.name, .initialized "java/lang/Math", .code Lib.Math.min.name Lib.Math.min.code 2 (some .int), .methodLink RX3 21 Lib.Math.max.name, .static Lib.Math.max.name, .code Lib.Math.max.name Lib.Math.max.code 2 (some .int)])
def wsX3_volumeUpTo : List Cond := .code yX3_volumeUpTo cX3_volumeUpTo 4 (some .int) :: ([.fieldLink RX3 9 "Meniscus$Tube" "bores" "[I", .methodLink RX3 24 yX3_stepsBelow, .static yX3_stepsBelow, .initialized RX3, .code yX3_stepsBelow cX3_stepsBelow 2 (some .int), .methodLink RX3 15 Lib.Math.min.name, .static Lib.Math.min.name, .initialized "java/lang/Math", .code Lib.Math.min.name Lib.Math.min.code 2 (some .int), .methodLink RX3 21 Lib.Math.max.name, .static Lib.Math.max.name, .code Lib.Math.max.name Lib.Math.max.code 2 (some .int)] ++ wsX30)
def wsX3_firstPlaceHolding : List Cond := .code yX3_firstPlaceHolding cX3_firstPlaceHolding 3 (some .int) :: ([.methodLink RX3 27 yX3_volumeUpTo, .instanceMethod yX3_volumeUpTo, .selects RX3 yX3_volumeUpTo yX3_volumeUpTo, .initialized RX3, .code yX3_volumeUpTo cX3_volumeUpTo 4 (some .int), .fieldLink RX3 9 "Meniscus$Tube" "bores" "[I", .methodLink RX3 24 yX3_stepsBelow, .static yX3_stepsBelow, .code yX3_stepsBelow cX3_stepsBelow 2 (some .int), .methodLink RX3 15 Lib.Math.min.name, .static Lib.Math.min.name, .initialized "java/lang/Math", .code Lib.Math.min.name Lib.Math.min.code 2 (some .int), .methodLink RX3 21 Lib.Math.max.name, .static Lib.Math.max.name, .code Lib.Math.max.name Lib.Math.max.code 2 (some .int)] ++ wsX30)
def wsX3_widestSection : List Cond := .code yX3_widestSection cX3_widestSection 3 (some .int) :: ([.fieldLink RX3 9 "Meniscus$Tube" "bores" "[I", .methodLink RX3 31 yX3_boreOf, .instanceMethod yX3_boreOf, .selects RX3 yX3_boreOf yX3_boreOf, .initialized RX3, .code yX3_boreOf cX3_boreOf 2 (some .int)] ++ wsX30)
def wsX3_clinging : List Cond := .code yX3_clinging cX3_clinging 7 (some .int) :: ([.fieldLink RX3 9 "Meniscus$Tube" "bores" "[I", .methodLink RX3 15 Lib.Math.min.name, .static Lib.Math.min.name, .initialized "java/lang/Math", .code Lib.Math.min.name Lib.Math.min.code 2 (some .int), .methodLink RX3 24 yX3_stepsBelow, .static yX3_stepsBelow, .initialized RX3, .code yX3_stepsBelow cX3_stepsBelow 2 (some .int), .methodLink RX3 21 Lib.Math.max.name, .static Lib.Math.max.name, .code Lib.Math.max.name Lib.Math.max.code 2 (some .int)] ++ wsX30)
def wsX4_init : List Cond := .code yX4_init cX4_init 1 none :: ([.methodLink RX4 3 objectInit, .instanceMethod objectInit, .code objectInit ⟨#[0xb1]⟩ 1 none, .classLink RX4 9 RX3, .fieldLink RX4 11 "Meniscus" "tubes" "[LMeniscus$Tube;", .classLink RX4 15 RX0, .fieldLink RX4 17 "Meniscus" "instruments" "[LMeniscus$Instrument;", .fieldLink RX4 21 "Meniscus" "airTemperature" "I"] ++ wsX40)
def wsX4_demandRange : List Cond := .code yX4_demandRange cX4_demandRange 3 none :: ([.classLink RX4 77 "java/lang/IllegalArgumentException", .initialized "java/lang/IllegalArgumentException"] ++ (vx_atS RX4 81 "java/lang/IllegalArgumentException" ["java/lang/RuntimeException", "java/lang/Exception"]).filter goodWord)
def wsX4_draw_r1 : List Cond := [Cond.classLink RX4 32 "java/lang/IllegalStateException", Cond.initialized "java/lang/IllegalStateException", Cond.fieldLink RX4 29 "Meniscus" "tubeCount" "I", Cond.fieldLink RX4 11 "Meniscus" "tubes" "[LMeniscus$Tube;", Cond.classLink RX4 9 RX3, Cond.instantiable RX3 2, Cond.initialized RX3, Cond.methodLink RX4 25 yX4_demandRange, Cond.static yX4_demandRange, Cond.initialized RX4, Cond.code yX4_demandRange cX4_demandRange 3 none, Cond.classLink RX4 77 "java/lang/IllegalArgumentException", Cond.initialized "java/lang/IllegalArgumentException", Cond.methodLink RX4 39 yX3_init, Cond.instanceMethod yX3_init, Cond.code yX3_init cX3_init 4 none, Cond.methodLink RX3 3 objectInit, Cond.instanceMethod objectInit, Cond.code objectInit ⟨#[0xb1]⟩ 1 none, Cond.arrayClass .int, Cond.fieldLink RX3 9 "Meniscus$Tube" "bores" "[I", Cond.methodLink RX3 15 Lib.Math.min.name, Cond.static Lib.Math.min.name, Cond.initialized "java/lang/Math"]
def wsX4_draw_r2 : List Cond := [Cond.code Lib.Math.min.name Lib.Math.min.code 2 (some .int), Cond.methodLink RX3 21 Lib.Math.max.name, Cond.static Lib.Math.max.name, Cond.code Lib.Math.max.name Lib.Math.max.code 2 (some .int)]
def wsX4_draw : List Cond := .code yX4_draw cX4_draw 4 (some .int) :: ((wsX4_draw_r1 ++ wsX4_draw_r2) ++ wsX40 ++ wsX30 ++ (vx_atS RX4 36 "java/lang/IllegalStateException" ["java/lang/RuntimeException", "java/lang/Exception"]).filter goodWord ++ (vx_atS RX4 81 "java/lang/IllegalArgumentException" ["java/lang/RuntimeException", "java/lang/Exception"]).filter goodWord)
def wsX4_tubeNumbered : List Cond := .code yX4_tubeNumbered cX4_tubeNumbered 2 (some (.object "Meniscus$Tube")) :: ([.classLink RX4 288 "java/lang/IndexOutOfBoundsException", .initialized "java/lang/IndexOutOfBoundsException", .fieldLink RX4 11 "Meniscus" "tubes" "[LMeniscus$Tube;"] ++ wsX40 ++ (vx_atS RX4 292 "java/lang/IndexOutOfBoundsException" ["java/lang/RuntimeException", "java/lang/Exception"]).filter goodWord)
def wsX4_demandUnused : List Cond := .code yX4_demandUnused cX4_demandUnused 1 none :: ([.classLink RX4 122 "java/lang/UnsupportedOperationException", .initialized "java/lang/UnsupportedOperationException"] ++ wsX30 ++ (vx_atS RX4 126 "java/lang/UnsupportedOperationException" ["java/lang/RuntimeException", "java/lang/Exception"]).filter goodWord)
def wsX4_section_r1 : List Cond := [Cond.methodLink RX4 42 yX4_tubeNumbered, Cond.instanceMethod yX4_tubeNumbered, Cond.selects RX4 yX4_tubeNumbered yX4_tubeNumbered, Cond.initialized RX4, Cond.code yX4_tubeNumbered cX4_tubeNumbered 2 (some (.object "Meniscus$Tube")), Cond.classLink RX4 288 "java/lang/IndexOutOfBoundsException", Cond.initialized "java/lang/IndexOutOfBoundsException", Cond.fieldLink RX4 11 "Meniscus" "tubes" "[LMeniscus$Tube;", Cond.methodLink RX4 25 yX4_demandRange, Cond.static yX4_demandRange, Cond.code yX4_demandRange cX4_demandRange 3 none, Cond.classLink RX4 77 "java/lang/IllegalArgumentException", Cond.initialized "java/lang/IllegalArgumentException", Cond.methodLink RX4 46 yX4_demandUnused, Cond.static yX4_demandUnused, Cond.code yX4_demandUnused cX4_demandUnused 1 none, Cond.classLink RX4 122 "java/lang/UnsupportedOperationException", Cond.initialized "java/lang/UnsupportedOperationException", Cond.methodLink RX4 50 yX3_boreOf, Cond.instanceMethod yX3_boreOf, Cond.selects RX3 yX3_boreOf yX3_boreOf, Cond.initialized RX3, Cond.code yX3_boreOf cX3_boreOf 2 (some .int), Cond.fieldLink RX3 9 "Meniscus$Tube" "bores" "[I"]
def wsX4_section_r2 : List Cond := [Cond.methodLink RX4 54 yX3_setBore, Cond.instanceMethod yX3_setBore, Cond.selects RX3 yX3_setBore yX3_setBore, Cond.code yX3_setBore cX3_setBore 3 none]
def wsX4_section : List Cond := .code yX4_section cX4_section 6 (some .int) :: ((wsX4_section_r1 ++ wsX4_section_r2) ++ wsX40 ++ wsX30 ++ (vx_atS RX4 292 "java/lang/IndexOutOfBoundsException" ["java/lang/RuntimeException", "java/lang/Exception"]).filter goodWord ++ (vx_atS RX4 81 "java/lang/IllegalArgumentException" ["java/lang/RuntimeException", "java/lang/Exception"]).filter goodWord ++ (vx_atS RX4 126 "java/lang/UnsupportedOperationException" ["java/lang/RuntimeException", "java/lang/Exception"]).filter goodWord)
def wsX4_bore : List Cond := .code yX4_bore cX4_bore 4 (some .int) :: ([.methodLink RX4 42 yX4_tubeNumbered, .instanceMethod yX4_tubeNumbered, .selects RX4 yX4_tubeNumbered yX4_tubeNumbered, .initialized RX4, .code yX4_tubeNumbered cX4_tubeNumbered 2 (some (.object "Meniscus$Tube")), .classLink RX4 288 "java/lang/IndexOutOfBoundsException", .initialized "java/lang/IndexOutOfBoundsException", .fieldLink RX4 11 "Meniscus" "tubes" "[LMeniscus$Tube;", .methodLink RX4 25 yX4_demandRange, .static yX4_demandRange, .code yX4_demandRange cX4_demandRange 3 none, .classLink RX4 77 "java/lang/IllegalArgumentException", .initialized "java/lang/IllegalArgumentException", .methodLink RX4 50 yX3_boreOf, .instanceMethod yX3_boreOf, .selects RX3 yX3_boreOf yX3_boreOf, .initialized RX3, .code yX3_boreOf cX3_boreOf 2 (some .int), .fieldLink RX3 9 "Meniscus$Tube" "bores" "[I"] ++ wsX40 ++ wsX30 ++ (vx_atS RX4 292 "java/lang/IndexOutOfBoundsException" ["java/lang/RuntimeException", "java/lang/Exception"]).filter goodWord ++ (vx_atS RX4 81 "java/lang/IllegalArgumentException" ["java/lang/RuntimeException", "java/lang/Exception"]).filter goodWord)
def wsX4_demandPlace : List Cond := .code yX4_demandPlace cX4_demandPlace 1 none :: ([.methodLink RX4 25 yX4_demandRange, .static yX4_demandRange, .initialized RX4, .code yX4_demandRange cX4_demandRange 3 none, .classLink RX4 77 "java/lang/IllegalArgumentException", .initialized "java/lang/IllegalArgumentException"] ++ (vx_atS RX4 81 "java/lang/IllegalArgumentException" ["java/lang/RuntimeException", "java/lang/Exception"]).filter goodWord)
def wsX4_volume_r1 : List Cond := [Cond.methodLink RX4 42 yX4_tubeNumbered, Cond.instanceMethod yX4_tubeNumbered, Cond.selects RX4 yX4_tubeNumbered yX4_tubeNumbered, Cond.initialized RX4, Cond.code yX4_tubeNumbered cX4_tubeNumbered 2 (some (.object "Meniscus$Tube")), Cond.classLink RX4 288 "java/lang/IndexOutOfBoundsException", Cond.initialized "java/lang/IndexOutOfBoundsException", Cond.fieldLink RX4 11 "Meniscus" "tubes" "[LMeniscus$Tube;", Cond.methodLink RX4 57 yX4_demandPlace, Cond.static yX4_demandPlace, Cond.code yX4_demandPlace cX4_demandPlace 1 none, Cond.methodLink RX4 25 yX4_demandRange, Cond.static yX4_demandRange, Cond.code yX4_demandRange cX4_demandRange 3 none, Cond.classLink RX4 77 "java/lang/IllegalArgumentException", Cond.initialized "java/lang/IllegalArgumentException", Cond.methodLink RX4 61 yX3_volumeUpTo, Cond.instanceMethod yX3_volumeUpTo, Cond.selects RX3 yX3_volumeUpTo yX3_volumeUpTo, Cond.initialized RX3, Cond.code yX3_volumeUpTo cX3_volumeUpTo 4 (some .int), Cond.fieldLink RX3 9 "Meniscus$Tube" "bores" "[I", Cond.methodLink RX3 24 yX3_stepsBelow, Cond.static yX3_stepsBelow]
def wsX4_volume_r2 : List Cond := [Cond.code yX3_stepsBelow cX3_stepsBelow 2 (some .int), Cond.methodLink RX3 15 Lib.Math.min.name, Cond.static Lib.Math.min.name, Cond.initialized "java/lang/Math", Cond.code Lib.Math.min.name Lib.Math.min.code 2 (some .int), Cond.methodLink RX3 21 Lib.Math.max.name, Cond.static Lib.Math.max.name, Cond.code Lib.Math.max.name Lib.Math.max.code 2 (some .int)]
def wsX4_volume : List Cond := .code yX4_volume cX4_volume 4 (some .int) :: ((wsX4_volume_r1 ++ wsX4_volume_r2) ++ wsX40 ++ wsX30 ++ (vx_atS RX4 292 "java/lang/IndexOutOfBoundsException" ["java/lang/RuntimeException", "java/lang/Exception"]).filter goodWord ++ (vx_atS RX4 81 "java/lang/IllegalArgumentException" ["java/lang/RuntimeException", "java/lang/Exception"]).filter goodWord)
def wsX4_thread_r1 : List Cond := [Cond.classLink RX4 68 "java/util/NoSuchElementException", Cond.initialized "java/util/NoSuchElementException", Cond.constant RX4 64 (99999), Cond.methodLink RX4 42 yX4_tubeNumbered, Cond.instanceMethod yX4_tubeNumbered, Cond.selects RX4 yX4_tubeNumbered yX4_tubeNumbered, Cond.initialized RX4, Cond.code yX4_tubeNumbered cX4_tubeNumbered 2 (some (.object "Meniscus$Tube")), Cond.classLink RX4 288 "java/lang/IndexOutOfBoundsException", Cond.initialized "java/lang/IndexOutOfBoundsException", Cond.fieldLink RX4 11 "Meniscus" "tubes" "[LMeniscus$Tube;", Cond.methodLink RX4 57 yX4_demandPlace, Cond.static yX4_demandPlace, Cond.code yX4_demandPlace cX4_demandPlace 1 none, Cond.methodLink RX4 25 yX4_demandRange, Cond.static yX4_demandRange, Cond.code yX4_demandRange cX4_demandRange 3 none, Cond.classLink RX4 77 "java/lang/IllegalArgumentException", Cond.initialized "java/lang/IllegalArgumentException", Cond.methodLink RX4 61 yX3_volumeUpTo, Cond.instanceMethod yX3_volumeUpTo, Cond.selects RX3 yX3_volumeUpTo yX3_volumeUpTo, Cond.initialized RX3, Cond.code yX3_volumeUpTo cX3_volumeUpTo 4 (some .int)]
def wsX4_thread_r2 : List Cond := [Cond.fieldLink RX3 9 "Meniscus$Tube" "bores" "[I", Cond.methodLink RX3 24 yX3_stepsBelow, Cond.static yX3_stepsBelow, Cond.code yX3_stepsBelow cX3_stepsBelow 2 (some .int), Cond.methodLink RX3 15 Lib.Math.min.name, Cond.static Lib.Math.min.name, Cond.initialized "java/lang/Math", Cond.code Lib.Math.min.name Lib.Math.min.code 2 (some .int), Cond.methodLink RX3 21 Lib.Math.max.name, Cond.static Lib.Math.max.name, Cond.code Lib.Math.max.name Lib.Math.max.code 2 (some .int), Cond.methodLink RX4 65 yX3_firstPlaceHolding, Cond.instanceMethod yX3_firstPlaceHolding, Cond.selects RX3 yX3_firstPlaceHolding yX3_firstPlaceHolding, Cond.code yX3_firstPlaceHolding cX3_firstPlaceHolding 3 (some .int), Cond.methodLink RX3 27 yX3_volumeUpTo]
def wsX4_thread : List Cond := .code yX4_thread cX4_thread 6 (some .int) :: ((wsX4_thread_r1 ++ wsX4_thread_r2) ++ wsX40 ++ wsX30 ++ vn_at.filter goodWord ++ (vx_atS RX4 292 "java/lang/IndexOutOfBoundsException" ["java/lang/RuntimeException", "java/lang/Exception"]).filter goodWord ++ (vx_atS RX4 81 "java/lang/IllegalArgumentException" ["java/lang/RuntimeException", "java/lang/Exception"]).filter goodWord)
def wsX4_widest : List Cond := .code yX4_widest cX4_widest 2 (some .int) :: ([.methodLink RX4 42 yX4_tubeNumbered, .instanceMethod yX4_tubeNumbered, .selects RX4 yX4_tubeNumbered yX4_tubeNumbered, .initialized RX4, .code yX4_tubeNumbered cX4_tubeNumbered 2 (some (.object "Meniscus$Tube")), .classLink RX4 288 "java/lang/IndexOutOfBoundsException", .initialized "java/lang/IndexOutOfBoundsException", .fieldLink RX4 11 "Meniscus" "tubes" "[LMeniscus$Tube;", .methodLink RX4 73 yX3_widestSection, .instanceMethod yX3_widestSection, .selects RX3 yX3_widestSection yX3_widestSection, .initialized RX3, .code yX3_widestSection cX3_widestSection 3 (some .int), .fieldLink RX3 9 "Meniscus$Tube" "bores" "[I", .methodLink RX3 31 yX3_boreOf, .instanceMethod yX3_boreOf, .selects RX3 yX3_boreOf yX3_boreOf, .code yX3_boreOf cX3_boreOf 2 (some .int)] ++ wsX40 ++ wsX30 ++ (vx_atS RX4 292 "java/lang/IndexOutOfBoundsException" ["java/lang/RuntimeException", "java/lang/Exception"]).filter goodWord)
def wsX4_clingingToStep : List Cond := .code yX4_clingingToStep cX4_clingingToStep 1 (some .int) :: ([])
def wsX4_deliver_r1 : List Cond := [Cond.classLink RX4 77 "java/lang/IllegalArgumentException", Cond.initialized "java/lang/IllegalArgumentException", Cond.methodLink RX4 42 yX4_tubeNumbered, Cond.instanceMethod yX4_tubeNumbered, Cond.selects RX4 yX4_tubeNumbered yX4_tubeNumbered, Cond.initialized RX4, Cond.code yX4_tubeNumbered cX4_tubeNumbered 2 (some (.object "Meniscus$Tube")), Cond.classLink RX4 288 "java/lang/IndexOutOfBoundsException", Cond.initialized "java/lang/IndexOutOfBoundsException", Cond.fieldLink RX4 11 "Meniscus" "tubes" "[LMeniscus$Tube;", Cond.methodLink RX4 57 yX4_demandPlace, Cond.static yX4_demandPlace, Cond.code yX4_demandPlace cX4_demandPlace 1 none, Cond.methodLink RX4 25 yX4_demandRange, Cond.static yX4_demandRange, Cond.code yX4_demandRange cX4_demandRange 3 none, Cond.methodLink RX4 61 yX3_volumeUpTo, Cond.instanceMethod yX3_volumeUpTo, Cond.selects RX3 yX3_volumeUpTo yX3_volumeUpTo, Cond.initialized RX3, Cond.code yX3_volumeUpTo cX3_volumeUpTo 4 (some .int), Cond.fieldLink RX3 9 "Meniscus$Tube" "bores" "[I", Cond.methodLink RX3 24 yX3_stepsBelow, Cond.static yX3_stepsBelow]
def wsX4_deliver_r2 : List Cond := [Cond.code yX3_stepsBelow cX3_stepsBelow 2 (some .int), Cond.methodLink RX3 15 Lib.Math.min.name, Cond.static Lib.Math.min.name, Cond.initialized "java/lang/Math", Cond.code Lib.Math.min.name Lib.Math.min.code 2 (some .int), Cond.methodLink RX3 21 Lib.Math.max.name, Cond.static Lib.Math.max.name, Cond.code Lib.Math.max.name Lib.Math.max.code 2 (some .int), Cond.methodLink RX4 82 yX4_clingingToStep, Cond.static yX4_clingingToStep, Cond.code yX4_clingingToStep cX4_clingingToStep 1 (some .int), Cond.methodLink RX4 85 yX3_clinging, Cond.instanceMethod yX3_clinging, Cond.selects RX3 yX3_clinging yX3_clinging, Cond.code yX3_clinging cX3_clinging 7 (some .int)]
def wsX4_deliver : List Cond := .code yX4_deliver cX4_deliver 7 (some .int) :: ((wsX4_deliver_r1 ++ wsX4_deliver_r2) ++ wsX40 ++ wsX30 ++ (vx_atS RX4 81 "java/lang/IllegalArgumentException" ["java/lang/RuntimeException", "java/lang/Exception"]).filter goodWord ++ (vx_atS RX4 292 "java/lang/IndexOutOfBoundsException" ["java/lang/RuntimeException", "java/lang/Exception"]).filter goodWord)
def wsX4_demandEither : List Cond := .code yX4_demandEither cX4_demandEither 3 none :: ([.classLink RX4 77 "java/lang/IllegalArgumentException", .initialized "java/lang/IllegalArgumentException"] ++ (vx_atS RX4 81 "java/lang/IllegalArgumentException" ["java/lang/RuntimeException", "java/lang/Exception"]).filter goodWord)
def wsX4_make_r1 : List Cond := [Cond.classLink RX4 32 "java/lang/IllegalStateException", Cond.initialized "java/lang/IllegalStateException", Cond.constant RX4 89 (50000), Cond.fieldLink RX4 94 "Meniscus" "instrumentCount" "I", Cond.fieldLink RX4 17 "Meniscus" "instruments" "[LMeniscus$Instrument;", Cond.classLink RX4 15 RX0, Cond.instantiable RX0 15, Cond.initialized RX0, Cond.methodLink RX4 42 yX4_tubeNumbered, Cond.instanceMethod yX4_tubeNumbered, Cond.selects RX4 yX4_tubeNumbered yX4_tubeNumbered, Cond.initialized RX4, Cond.code yX4_tubeNumbered cX4_tubeNumbered 2 (some (.object "Meniscus$Tube")), Cond.classLink RX4 288 "java/lang/IndexOutOfBoundsException", Cond.initialized "java/lang/IndexOutOfBoundsException", Cond.fieldLink RX4 11 "Meniscus" "tubes" "[LMeniscus$Tube;", Cond.methodLink RX4 25 yX4_demandRange, Cond.static yX4_demandRange, Cond.code yX4_demandRange cX4_demandRange 3 none, Cond.classLink RX4 77 "java/lang/IllegalArgumentException", Cond.initialized "java/lang/IllegalArgumentException", Cond.methodLink RX4 90 yX4_demandEither, Cond.static yX4_demandEither, Cond.code yX4_demandEither cX4_demandEither 3 none]
def wsX4_make_r2 : List Cond := [Cond.methodLink RX4 46 yX4_demandUnused, Cond.static yX4_demandUnused, Cond.code yX4_demandUnused cX4_demandUnused 1 none, Cond.classLink RX4 122 "java/lang/UnsupportedOperationException", Cond.initialized "java/lang/UnsupportedOperationException", Cond.methodLink RX4 103 yX0_init, Cond.instanceMethod yX0_init, Cond.code yX0_init cX0_init 5 none, Cond.methodLink RX0 3 objectInit, Cond.instanceMethod objectInit, Cond.code objectInit ⟨#[0xb1]⟩ 1 none, Cond.classLink RX0 9 RX1, Cond.instantiable RX1 3, Cond.initialized RX1, Cond.fieldLink RX0 12 "Meniscus$Instrument" "readings" "LMeniscus$Readings;", Cond.fieldLink RX0 18 "Meniscus$Instrument" "liquid" "C", Cond.fieldLink RX0 22 "Meniscus$Instrument" "greatestLevel" "I", Cond.fieldLink RX0 26 "Meniscus$Instrument" "certificateEnd" "I", Cond.fieldLink RX0 29 "Meniscus$Instrument" "tubeNumber" "I", Cond.fieldLink RX0 32 "Meniscus$Instrument" "tube" "LMeniscus$Tube;", Cond.fieldLink RX0 36 "Meniscus$Instrument" "bulb" "I", Cond.fieldLink RX0 39 "Meniscus$Instrument" "glass" "C", Cond.classLink RX0 42 RX2, Cond.instantiable RX2 5]
def wsX4_make_r3 : List Cond := [Cond.initialized RX2, Cond.fieldLink RX0 47 "Meniscus$Instrument" "scale" "LMeniscus$Scale;", Cond.instanceMethod yX1_init, Cond.code yX1_init cX1_init 1 none, Cond.methodLink RX1 3 objectInit, Cond.arrayClass .int, Cond.fieldLink RX1 9 "Meniscus$Readings" "values" "[I", Cond.fieldLink RX1 15 "Meniscus$Readings" "errors" "[I", Cond.methodLink RX0 44 yX2_init, Cond.instanceMethod yX2_init, Cond.code yX2_init cX2_init 2 none, Cond.methodLink RX2 3 objectInit, Cond.fieldLink RX2 9 "Meniscus$Scale" "icePlace" "I", Cond.fieldLink RX2 15 "Meniscus$Scale" "steamPlace" "I", Cond.fieldLink RX2 18 "Meniscus$Scale" "kind" "C", Cond.fieldLink RX2 22 "Meniscus$Scale" "tube" "LMeniscus$Tube;"]
def wsX4_make : List Cond := .code yX4_make cX4_make 6 (some .int) :: ((wsX4_make_r1 ++ (wsX4_make_r2 ++ wsX4_make_r3)) ++ wsX40 ++ wsX30 ++ wsX00 ++ wsX10 ++ wsX20 ++ (vx_atS RX4 36 "java/lang/IllegalStateException" ["java/lang/RuntimeException", "java/lang/Exception"]).filter goodWord ++ (vx_atS RX4 292 "java/lang/IndexOutOfBoundsException" ["java/lang/RuntimeException", "java/lang/Exception"]).filter goodWord ++ (vx_atS RX4 81 "java/lang/IllegalArgumentException" ["java/lang/RuntimeException", "java/lang/Exception"]).filter goodWord ++ (vx_atS RX4 126 "java/lang/UnsupportedOperationException" ["java/lang/RuntimeException", "java/lang/Exception"]).filter goodWord)
def wsX4_demandPressure : List Cond := .code yX4_demandPressure cX4_demandPressure 1 none :: ([.methodLink RX4 25 yX4_demandRange, .static yX4_demandRange, .initialized RX4, .code yX4_demandRange cX4_demandRange 3 none, .classLink RX4 77 "java/lang/IllegalArgumentException", .initialized "java/lang/IllegalArgumentException"] ++ (vx_atS RX4 81 "java/lang/IllegalArgumentException" ["java/lang/RuntimeException", "java/lang/Exception"]).filter goodWord)
def wsX4_steamAt : List Cond := .code yX4_steamAt cX4_steamAt 1 (some .int) :: ([])
def wsX4_boiling : List Cond := .code yX4_boiling cX4_boiling 2 (some .int) :: ([.methodLink RX4 182 yX4_demandPressure, .static yX4_demandPressure, .initialized RX4, .code yX4_demandPressure cX4_demandPressure 1 none, .methodLink RX4 25 yX4_demandRange, .static yX4_demandRange, .code yX4_demandRange cX4_demandRange 3 none, .classLink RX4 77 "java/lang/IllegalArgumentException", .initialized "java/lang/IllegalArgumentException", .methodLink RX4 185 yX4_steamAt, .static yX4_steamAt, .code yX4_steamAt cX4_steamAt 1 (some .int)] ++ (vx_atS RX4 81 "java/lang/IllegalArgumentException" ["java/lang/RuntimeException", "java/lang/Exception"]).filter goodWord)
def wsX4_barometer : List Cond := .code yX4_barometer cX4_barometer 6 (some .int) :: ([.constant RX4 265 (100000), .methodLink RX4 25 yX4_demandRange, .static yX4_demandRange, .initialized RX4, .code yX4_demandRange cX4_demandRange 3 none, .classLink RX4 77 "java/lang/IllegalArgumentException", .initialized "java/lang/IllegalArgumentException"] ++ (vx_atS RX4 81 "java/lang/IllegalArgumentException" ["java/lang/RuntimeException", "java/lang/Exception"]).filter goodWord)
def wsX4_instrumentsOfTube : List Cond := .code yX4_instrumentsOfTube cX4_instrumentsOfTube 7 (some .int) :: ([.fieldLink RX4 17 "Meniscus" "instruments" "[LMeniscus$Instrument;"] ++ wsX40 ++ wsX00)
def wsX4_isSound_r1 : List Cond := [Cond.fieldLink RX4 109 "Meniscus" "stock" "I", Cond.fieldLink RX4 142 "Meniscus" "spilt" "I", Cond.fieldLink RX4 17 "Meniscus" "instruments" "[LMeniscus$Instrument;", Cond.fieldLink RX4 106 "Meniscus" "bought" "I", Cond.methodLink RX4 145 yX0_mercuryInside, Cond.instanceMethod yX0_mercuryInside, Cond.selects RX0 yX0_mercuryInside yX0_mercuryInside, Cond.initialized RX0, Cond.code yX0_mercuryInside cX0_mercuryInside 1 (some .int), Cond.fieldLink RX0 18 "Meniscus$Instrument" "liquid" "C", Cond.fieldLink RX0 68 "Meniscus$Instrument" "inside" "I", Cond.methodLink RX4 279 yX0_isInBounds, Cond.instanceMethod yX0_isInBounds, Cond.selects RX0 yX0_isInBounds yX0_isInBounds, Cond.code yX0_isInBounds cX0_isInBounds 1 (some .boolean), Cond.fieldLink RX0 51 "Meniscus$Instrument" "crept" "I", Cond.fieldLink RX0 12 "Meniscus$Instrument" "readings" "LMeniscus$Readings;", Cond.methodLink RX0 54 yX0_creepsInAll, Cond.instanceMethod yX0_creepsInAll, Cond.selects RX0 yX0_creepsInAll yX0_creepsInAll, Cond.code yX0_creepsInAll cX0_creepsInAll 1 (some .int), Cond.fieldLink RX0 36 "Meniscus$Instrument" "bulb" "I", Cond.fieldLink RX0 39 "Meniscus$Instrument" "glass" "C", Cond.methodLink RX4 285 yX4_instrumentsOfTube]
def wsX4_isSound_r2 : List Cond := [Cond.instanceMethod yX4_instrumentsOfTube, Cond.selects RX4 yX4_instrumentsOfTube yX4_instrumentsOfTube, Cond.initialized RX4, Cond.code yX4_instrumentsOfTube cX4_instrumentsOfTube 7 (some .int)]
def wsX4_isSound : List Cond := .code yX4_isSound cX4_isSound 6 (some .boolean) :: ((wsX4_isSound_r1 ++ wsX4_isSound_r2) ++ wsX40 ++ wsX00 ++ wsX10)
def wsJ9_max_7cf53 : List Cond := .code yJ9_max_7cf53 cJ9_max_7cf53 2 (some .int) :: ([])
def wsJ9_min_7cf53 : List Cond := .code yJ9_min_7cf53 cJ9_min_7cf53 2 (some .int) :: ([])
def wsL_cell : List Cond := .code yL_cell cL_cell 3 (some .int) :: ([.constant RL 7 (69069), .constant RL 8 (1103515245)])
def wsL_draw_r1 : List Cond := [Cond.classLink RL 15 "java/lang/IllegalArgumentException", Cond.classLink RL 18 "java/lang/IllegalStateException", Cond.constant RL 17 (-900001), Cond.constant RL 20 (-900002), Cond.methodLink RL 9 yX4_draw, Cond.instanceMethod yX4_draw, Cond.selects RX4 yX4_draw yX4_draw, Cond.initialized RX4, Cond.code yX4_draw cX4_draw 4 (some .int), Cond.classLink RX4 32 "java/lang/IllegalStateException", Cond.initialized "java/lang/IllegalStateException", Cond.fieldLink RX4 29 "Meniscus" "tubeCount" "I", Cond.fieldLink RX4 11 "Meniscus" "tubes" "[LMeniscus$Tube;", Cond.classLink RX4 9 RX3, Cond.instantiable RX3 2, Cond.initialized RX3, Cond.methodLink RX4 25 yX4_demandRange, Cond.static yX4_demandRange, Cond.code yX4_demandRange cX4_demandRange 3 none, Cond.classLink RX4 77 "java/lang/IllegalArgumentException", Cond.initialized "java/lang/IllegalArgumentException", Cond.methodLink RX4 39 yX3_init, Cond.instanceMethod yX3_init, Cond.code yX3_init cX3_init 4 none]
def wsL_draw_r2 : List Cond := [Cond.methodLink RX3 3 objectInit, Cond.instanceMethod objectInit, Cond.code objectInit ⟨#[0xb1]⟩ 1 none, Cond.arrayClass .int, Cond.fieldLink RX3 9 "Meniscus$Tube" "bores" "[I", Cond.methodLink RX3 15 Lib.Math.min.name, Cond.static Lib.Math.min.name, Cond.initialized "java/lang/Math", Cond.code Lib.Math.min.name Lib.Math.min.code 2 (some .int), Cond.methodLink RX3 21 Lib.Math.max.name, Cond.static Lib.Math.max.name, Cond.code Lib.Math.max.name Lib.Math.max.code 2 (some .int)]
def wsL_draw : List Cond := .codeWith yL_draw cL_draw 4 (some .int) [(0, 6, 7, 15), (0, 6, 11, 18)] :: ((wsL_draw_r1 ++ wsL_draw_r2) ++ wsX40 ++ wsX30 ++ (vx_atS RX4 36 "java/lang/IllegalStateException" ["java/lang/RuntimeException", "java/lang/Exception"]).filter goodWord ++ (vx_atS RX4 81 "java/lang/IllegalArgumentException" ["java/lang/RuntimeException", "java/lang/Exception"]).filter goodWord)
def wsL_section_r1 : List Cond := [Cond.classLink RL 25 "java/lang/IndexOutOfBoundsException", Cond.classLink RL 15 "java/lang/IllegalArgumentException", Cond.classLink RL 27 "java/lang/UnsupportedOperationException", Cond.constant RL 17 (-900001), Cond.constant RL 20 (-900002), Cond.constant RL 29 (-900003), Cond.methodLink RL 21 yX4_section, Cond.instanceMethod yX4_section, Cond.selects RX4 yX4_section yX4_section, Cond.initialized RX4, Cond.code yX4_section cX4_section 6 (some .int), Cond.methodLink RX4 42 yX4_tubeNumbered, Cond.instanceMethod yX4_tubeNumbered, Cond.selects RX4 yX4_tubeNumbered yX4_tubeNumbered, Cond.code yX4_tubeNumbered cX4_tubeNumbered 2 (some (.object "Meniscus$Tube")), Cond.classLink RX4 288 "java/lang/IndexOutOfBoundsException", Cond.initialized "java/lang/IndexOutOfBoundsException", Cond.fieldLink RX4 11 "Meniscus" "tubes" "[LMeniscus$Tube;", Cond.methodLink RX4 25 yX4_demandRange, Cond.static yX4_demandRange, Cond.code yX4_demandRange cX4_demandRange 3 none, Cond.classLink RX4 77 "java/lang/IllegalArgumentException", Cond.initialized "java/lang/IllegalArgumentException", Cond.methodLink RX4 46 yX4_demandUnused]
def wsL_section_r2 : List Cond := [Cond.static yX4_demandUnused, Cond.code yX4_demandUnused cX4_demandUnused 1 none, Cond.classLink RX4 122 "java/lang/UnsupportedOperationException", Cond.initialized "java/lang/UnsupportedOperationException", Cond.methodLink RX4 50 yX3_boreOf, Cond.instanceMethod yX3_boreOf, Cond.selects RX3 yX3_boreOf yX3_boreOf, Cond.initialized RX3, Cond.code yX3_boreOf cX3_boreOf 2 (some .int), Cond.fieldLink RX3 9 "Meniscus$Tube" "bores" "[I", Cond.methodLink RX4 54 yX3_setBore, Cond.instanceMethod yX3_setBore, Cond.selects RX3 yX3_setBore yX3_setBore, Cond.code yX3_setBore cX3_setBore 3 none]
def wsL_section : List Cond := .codeWith yL_section cL_section 5 (some .int) [(0, 7, 8, 25), (0, 7, 13, 15), (0, 7, 18, 27)] :: ((wsL_section_r1 ++ wsL_section_r2) ++ wsX40 ++ wsX30 ++ (vx_atS RX4 292 "java/lang/IndexOutOfBoundsException" ["java/lang/RuntimeException", "java/lang/Exception"]).filter goodWord ++ (vx_atS RX4 81 "java/lang/IllegalArgumentException" ["java/lang/RuntimeException", "java/lang/Exception"]).filter goodWord ++ (vx_atS RX4 126 "java/lang/UnsupportedOperationException" ["java/lang/RuntimeException", "java/lang/Exception"]).filter goodWord)
def wsL_bore_r1 : List Cond := [Cond.classLink RL 25 "java/lang/IndexOutOfBoundsException", Cond.classLink RL 15 "java/lang/IllegalArgumentException", Cond.constant RL 17 (-900001), Cond.constant RL 20 (-900002), Cond.methodLink RL 30 yX4_bore, Cond.instanceMethod yX4_bore, Cond.selects RX4 yX4_bore yX4_bore, Cond.initialized RX4, Cond.code yX4_bore cX4_bore 4 (some .int), Cond.methodLink RX4 42 yX4_tubeNumbered, Cond.instanceMethod yX4_tubeNumbered, Cond.selects RX4 yX4_tubeNumbered yX4_tubeNumbered, Cond.code yX4_tubeNumbered cX4_tubeNumbered 2 (some (.object "Meniscus$Tube")), Cond.classLink RX4 288 "java/lang/IndexOutOfBoundsException", Cond.initialized "java/lang/IndexOutOfBoundsException", Cond.fieldLink RX4 11 "Meniscus" "tubes" "[LMeniscus$Tube;", Cond.methodLink RX4 25 yX4_demandRange, Cond.static yX4_demandRange, Cond.code yX4_demandRange cX4_demandRange 3 none, Cond.classLink RX4 77 "java/lang/IllegalArgumentException", Cond.initialized "java/lang/IllegalArgumentException", Cond.methodLink RX4 50 yX3_boreOf, Cond.instanceMethod yX3_boreOf, Cond.selects RX3 yX3_boreOf yX3_boreOf]
def wsL_bore_r2 : List Cond := [Cond.initialized RX3, Cond.code yX3_boreOf cX3_boreOf 2 (some .int), Cond.fieldLink RX3 9 "Meniscus$Tube" "bores" "[I"]
def wsL_bore : List Cond := .codeWith yL_bore cL_bore 4 (some .int) [(0, 6, 7, 25), (0, 6, 11, 15)] :: ((wsL_bore_r1 ++ wsL_bore_r2) ++ wsX40 ++ wsX30 ++ (vx_atS RX4 292 "java/lang/IndexOutOfBoundsException" ["java/lang/RuntimeException", "java/lang/Exception"]).filter goodWord ++ (vx_atS RX4 81 "java/lang/IllegalArgumentException" ["java/lang/RuntimeException", "java/lang/Exception"]).filter goodWord)
def wsL_volume_r1 : List Cond := [Cond.classLink RL 25 "java/lang/IndexOutOfBoundsException", Cond.classLink RL 15 "java/lang/IllegalArgumentException", Cond.constant RL 17 (-900001), Cond.constant RL 20 (-900002), Cond.methodLink RL 33 yX4_volume, Cond.instanceMethod yX4_volume, Cond.selects RX4 yX4_volume yX4_volume, Cond.initialized RX4, Cond.code yX4_volume cX4_volume 4 (some .int), Cond.methodLink RX4 42 yX4_tubeNumbered, Cond.instanceMethod yX4_tubeNumbered, Cond.selects RX4 yX4_tubeNumbered yX4_tubeNumbered, Cond.code yX4_tubeNumbered cX4_tubeNumbered 2 (some (.object "Meniscus$Tube")), Cond.classLink RX4 288 "java/lang/IndexOutOfBoundsException", Cond.initialized "java/lang/IndexOutOfBoundsException", Cond.fieldLink RX4 11 "Meniscus" "tubes" "[LMeniscus$Tube;", Cond.methodLink RX4 57 yX4_demandPlace, Cond.static yX4_demandPlace, Cond.code yX4_demandPlace cX4_demandPlace 1 none, Cond.methodLink RX4 25 yX4_demandRange, Cond.static yX4_demandRange, Cond.code yX4_demandRange cX4_demandRange 3 none, Cond.classLink RX4 77 "java/lang/IllegalArgumentException", Cond.initialized "java/lang/IllegalArgumentException"]
def wsL_volume_r2 : List Cond := [Cond.methodLink RX4 61 yX3_volumeUpTo, Cond.instanceMethod yX3_volumeUpTo, Cond.selects RX3 yX3_volumeUpTo yX3_volumeUpTo, Cond.initialized RX3, Cond.code yX3_volumeUpTo cX3_volumeUpTo 4 (some .int), Cond.fieldLink RX3 9 "Meniscus$Tube" "bores" "[I", Cond.methodLink RX3 24 yX3_stepsBelow, Cond.static yX3_stepsBelow, Cond.code yX3_stepsBelow cX3_stepsBelow 2 (some .int), Cond.methodLink RX3 15 Lib.Math.min.name, Cond.static Lib.Math.min.name, Cond.initialized "java/lang/Math", Cond.code Lib.Math.min.name Lib.Math.min.code 2 (some .int), Cond.methodLink RX3 21 Lib.Math.max.name, Cond.static Lib.Math.max.name, Cond.code Lib.Math.max.name Lib.Math.max.code 2 (some .int)]
def wsL_volume : List Cond := .codeWith yL_volume cL_volume 4 (some .int) [(0, 6, 7, 25), (0, 6, 11, 15)] :: ((wsL_volume_r1 ++ wsL_volume_r2) ++ wsX40 ++ wsX30 ++ (vx_atS RX4 292 "java/lang/IndexOutOfBoundsException" ["java/lang/RuntimeException", "java/lang/Exception"]).filter goodWord ++ (vx_atS RX4 81 "java/lang/IllegalArgumentException" ["java/lang/RuntimeException", "java/lang/Exception"]).filter goodWord)
def wsL_thread_r1 : List Cond := [Cond.classLink RL 25 "java/lang/IndexOutOfBoundsException", Cond.classLink RL 15 "java/lang/IllegalArgumentException", Cond.classLink RL 39 "java/util/NoSuchElementException", Cond.constant RL 17 (-900001), Cond.constant RL 20 (-900002), Cond.constant RL 29 (-900003), Cond.methodLink RL 36 yX4_thread, Cond.instanceMethod yX4_thread, Cond.selects RX4 yX4_thread yX4_thread, Cond.initialized RX4, Cond.code yX4_thread cX4_thread 6 (some .int), Cond.classLink RX4 68 "java/util/NoSuchElementException", Cond.initialized "java/util/NoSuchElementException", Cond.constant RX4 64 (99999), Cond.methodLink RX4 42 yX4_tubeNumbered, Cond.instanceMethod yX4_tubeNumbered, Cond.selects RX4 yX4_tubeNumbered yX4_tubeNumbered, Cond.code yX4_tubeNumbered cX4_tubeNumbered 2 (some (.object "Meniscus$Tube")), Cond.classLink RX4 288 "java/lang/IndexOutOfBoundsException", Cond.initialized "java/lang/IndexOutOfBoundsException", Cond.fieldLink RX4 11 "Meniscus" "tubes" "[LMeniscus$Tube;", Cond.methodLink RX4 57 yX4_demandPlace, Cond.static yX4_demandPlace, Cond.code yX4_demandPlace cX4_demandPlace 1 none]
def wsL_thread_r2 : List Cond := [Cond.methodLink RX4 25 yX4_demandRange, Cond.static yX4_demandRange, Cond.code yX4_demandRange cX4_demandRange 3 none, Cond.classLink RX4 77 "java/lang/IllegalArgumentException", Cond.initialized "java/lang/IllegalArgumentException", Cond.methodLink RX4 61 yX3_volumeUpTo, Cond.instanceMethod yX3_volumeUpTo, Cond.selects RX3 yX3_volumeUpTo yX3_volumeUpTo, Cond.initialized RX3, Cond.code yX3_volumeUpTo cX3_volumeUpTo 4 (some .int), Cond.fieldLink RX3 9 "Meniscus$Tube" "bores" "[I", Cond.methodLink RX3 24 yX3_stepsBelow, Cond.static yX3_stepsBelow, Cond.code yX3_stepsBelow cX3_stepsBelow 2 (some .int), Cond.methodLink RX3 15 Lib.Math.min.name, Cond.static Lib.Math.min.name, Cond.initialized "java/lang/Math", Cond.code Lib.Math.min.name Lib.Math.min.code 2 (some .int), Cond.methodLink RX3 21 Lib.Math.max.name, Cond.static Lib.Math.max.name, Cond.code Lib.Math.max.name Lib.Math.max.code 2 (some .int), Cond.methodLink RX4 65 yX3_firstPlaceHolding, Cond.instanceMethod yX3_firstPlaceHolding, Cond.selects RX3 yX3_firstPlaceHolding yX3_firstPlaceHolding]
def wsL_thread_r3 : List Cond := [Cond.code yX3_firstPlaceHolding cX3_firstPlaceHolding 3 (some .int), Cond.methodLink RX3 27 yX3_volumeUpTo]
def wsL_thread : List Cond := .codeWith yL_thread cL_thread 5 (some .int) [(0, 7, 8, 25), (0, 7, 13, 15), (0, 7, 18, 39)] :: ((wsL_thread_r1 ++ (wsL_thread_r2 ++ wsL_thread_r3)) ++ wsX40 ++ wsX30 ++ vn_at.filter goodWord ++ (vx_atS RX4 292 "java/lang/IndexOutOfBoundsException" ["java/lang/RuntimeException", "java/lang/Exception"]).filter goodWord ++ (vx_atS RX4 81 "java/lang/IllegalArgumentException" ["java/lang/RuntimeException", "java/lang/Exception"]).filter goodWord)
def wsL_widest : List Cond := .codeWith yL_widest cL_widest 3 (some .int) [(0, 5, 6, 25)] :: ([.classLink RL 25 "java/lang/IndexOutOfBoundsException", .constant RL 17 (-900001), .methodLink RL 41 yX4_widest, .instanceMethod yX4_widest, .selects RX4 yX4_widest yX4_widest, .initialized RX4, .code yX4_widest cX4_widest 2 (some .int), .methodLink RX4 42 yX4_tubeNumbered, .instanceMethod yX4_tubeNumbered, .selects RX4 yX4_tubeNumbered yX4_tubeNumbered, .code yX4_tubeNumbered cX4_tubeNumbered 2 (some (.object "Meniscus$Tube")), .classLink RX4 288 "java/lang/IndexOutOfBoundsException", .initialized "java/lang/IndexOutOfBoundsException", .fieldLink RX4 11 "Meniscus" "tubes" "[LMeniscus$Tube;", .methodLink RX4 73 yX3_widestSection, .instanceMethod yX3_widestSection, .selects RX3 yX3_widestSection yX3_widestSection, .initialized RX3, .code yX3_widestSection cX3_widestSection 3 (some .int), .fieldLink RX3 9 "Meniscus$Tube" "bores" "[I", .methodLink RX3 31 yX3_boreOf, .instanceMethod yX3_boreOf, .selects RX3 yX3_boreOf yX3_boreOf, .code yX3_boreOf cX3_boreOf 2 (some .int)] ++ wsX40 ++ wsX30 ++ (vx_atS RX4 292 "java/lang/IndexOutOfBoundsException" ["java/lang/RuntimeException", "java/lang/Exception"]).filter goodWord)
def wsL_deliver_r1 : List Cond := [Cond.classLink RL 25 "java/lang/IndexOutOfBoundsException", Cond.classLink RL 15 "java/lang/IllegalArgumentException", Cond.constant RL 17 (-900001), Cond.constant RL 20 (-900002), Cond.methodLink RL 45 yX4_deliver, Cond.instanceMethod yX4_deliver, Cond.selects RX4 yX4_deliver yX4_deliver, Cond.initialized RX4, Cond.code yX4_deliver cX4_deliver 7 (some .int), Cond.classLink RX4 77 "java/lang/IllegalArgumentException", Cond.initialized "java/lang/IllegalArgumentException", Cond.methodLink RX4 42 yX4_tubeNumbered, Cond.instanceMethod yX4_tubeNumbered, Cond.selects RX4 yX4_tubeNumbered yX4_tubeNumbered, Cond.code yX4_tubeNumbered cX4_tubeNumbered 2 (some (.object "Meniscus$Tube")), Cond.classLink RX4 288 "java/lang/IndexOutOfBoundsException", Cond.initialized "java/lang/IndexOutOfBoundsException", Cond.fieldLink RX4 11 "Meniscus" "tubes" "[LMeniscus$Tube;", Cond.methodLink RX4 57 yX4_demandPlace, Cond.static yX4_demandPlace, Cond.code yX4_demandPlace cX4_demandPlace 1 none, Cond.methodLink RX4 25 yX4_demandRange, Cond.static yX4_demandRange, Cond.code yX4_demandRange cX4_demandRange 3 none]
def wsL_deliver_r2 : List Cond := [Cond.methodLink RX4 61 yX3_volumeUpTo, Cond.instanceMethod yX3_volumeUpTo, Cond.selects RX3 yX3_volumeUpTo yX3_volumeUpTo, Cond.initialized RX3, Cond.code yX3_volumeUpTo cX3_volumeUpTo 4 (some .int), Cond.fieldLink RX3 9 "Meniscus$Tube" "bores" "[I", Cond.methodLink RX3 24 yX3_stepsBelow, Cond.static yX3_stepsBelow, Cond.code yX3_stepsBelow cX3_stepsBelow 2 (some .int), Cond.methodLink RX3 15 Lib.Math.min.name, Cond.static Lib.Math.min.name, Cond.initialized "java/lang/Math", Cond.code Lib.Math.min.name Lib.Math.min.code 2 (some .int), Cond.methodLink RX3 21 Lib.Math.max.name, Cond.static Lib.Math.max.name, Cond.code Lib.Math.max.name Lib.Math.max.code 2 (some .int), Cond.methodLink RX4 82 yX4_clingingToStep, Cond.static yX4_clingingToStep, Cond.code yX4_clingingToStep cX4_clingingToStep 1 (some .int), Cond.methodLink RX4 85 yX3_clinging, Cond.instanceMethod yX3_clinging, Cond.selects RX3 yX3_clinging yX3_clinging, Cond.code yX3_clinging cX3_clinging 7 (some .int)]
def wsL_deliver : List Cond := .codeWith yL_deliver cL_deliver 6 (some .int) [(0, 9, 10, 25), (0, 9, 15, 15)] :: ((wsL_deliver_r1 ++ wsL_deliver_r2) ++ wsX40 ++ wsX30 ++ (vx_atS RX4 81 "java/lang/IllegalArgumentException" ["java/lang/RuntimeException", "java/lang/Exception"]).filter goodWord ++ (vx_atS RX4 292 "java/lang/IndexOutOfBoundsException" ["java/lang/RuntimeException", "java/lang/Exception"]).filter goodWord)
def wsL_make_r1 : List Cond := [Cond.classLink RL 25 "java/lang/IndexOutOfBoundsException", Cond.classLink RL 15 "java/lang/IllegalArgumentException", Cond.classLink RL 27 "java/lang/UnsupportedOperationException", Cond.classLink RL 18 "java/lang/IllegalStateException", Cond.constant RL 17 (-900001), Cond.constant RL 20 (-900002), Cond.constant RL 29 (-900003), Cond.constant RL 53 (-900004), Cond.methodLink RL 49 yX4_make, Cond.instanceMethod yX4_make, Cond.selects RX4 yX4_make yX4_make, Cond.initialized RX4, Cond.code yX4_make cX4_make 6 (some .int), Cond.classLink RX4 32 "java/lang/IllegalStateException", Cond.initialized "java/lang/IllegalStateException", Cond.constant RX4 89 (50000), Cond.fieldLink RX4 94 "Meniscus" "instrumentCount" "I", Cond.fieldLink RX4 17 "Meniscus" "instruments" "[LMeniscus$Instrument;", Cond.classLink RX4 15 RX0, Cond.instantiable RX0 15, Cond.initialized RX0, Cond.methodLink RX4 42 yX4_tubeNumbered, Cond.instanceMethod yX4_tubeNumbered, Cond.selects RX4 yX4_tubeNumbered yX4_tubeNumbered]
def wsL_make_r2 : List Cond := [Cond.code yX4_tubeNumbered cX4_tubeNumbered 2 (some (.object "Meniscus$Tube")), Cond.classLink RX4 288 "java/lang/IndexOutOfBoundsException", Cond.initialized "java/lang/IndexOutOfBoundsException", Cond.fieldLink RX4 11 "Meniscus" "tubes" "[LMeniscus$Tube;", Cond.methodLink RX4 25 yX4_demandRange, Cond.static yX4_demandRange, Cond.code yX4_demandRange cX4_demandRange 3 none, Cond.classLink RX4 77 "java/lang/IllegalArgumentException", Cond.initialized "java/lang/IllegalArgumentException", Cond.methodLink RX4 90 yX4_demandEither, Cond.static yX4_demandEither, Cond.code yX4_demandEither cX4_demandEither 3 none, Cond.methodLink RX4 46 yX4_demandUnused, Cond.static yX4_demandUnused, Cond.code yX4_demandUnused cX4_demandUnused 1 none, Cond.classLink RX4 122 "java/lang/UnsupportedOperationException", Cond.initialized "java/lang/UnsupportedOperationException", Cond.methodLink RX4 103 yX0_init, Cond.instanceMethod yX0_init, Cond.code yX0_init cX0_init 5 none, Cond.methodLink RX0 3 objectInit, Cond.instanceMethod objectInit, Cond.code objectInit ⟨#[0xb1]⟩ 1 none, Cond.classLink RX0 9 RX1]
def wsL_make_r3 : List Cond := [Cond.instantiable RX1 3, Cond.initialized RX1, Cond.fieldLink RX0 12 "Meniscus$Instrument" "readings" "LMeniscus$Readings;", Cond.fieldLink RX0 18 "Meniscus$Instrument" "liquid" "C", Cond.fieldLink RX0 22 "Meniscus$Instrument" "greatestLevel" "I", Cond.fieldLink RX0 26 "Meniscus$Instrument" "certificateEnd" "I", Cond.fieldLink RX0 29 "Meniscus$Instrument" "tubeNumber" "I", Cond.fieldLink RX0 32 "Meniscus$Instrument" "tube" "LMeniscus$Tube;", Cond.fieldLink RX0 36 "Meniscus$Instrument" "bulb" "I", Cond.fieldLink RX0 39 "Meniscus$Instrument" "glass" "C", Cond.classLink RX0 42 RX2, Cond.instantiable RX2 5, Cond.initialized RX2, Cond.fieldLink RX0 47 "Meniscus$Instrument" "scale" "LMeniscus$Scale;", Cond.instanceMethod yX1_init, Cond.code yX1_init cX1_init 1 none, Cond.methodLink RX1 3 objectInit, Cond.arrayClass .int, Cond.fieldLink RX1 9 "Meniscus$Readings" "values" "[I", Cond.fieldLink RX1 15 "Meniscus$Readings" "errors" "[I", Cond.methodLink RX0 44 yX2_init, Cond.instanceMethod yX2_init, Cond.code yX2_init cX2_init 2 none, Cond.methodLink RX2 3 objectInit]
def wsL_make_r4 : List Cond := [Cond.fieldLink RX2 9 "Meniscus$Scale" "icePlace" "I", Cond.fieldLink RX2 15 "Meniscus$Scale" "steamPlace" "I", Cond.fieldLink RX2 18 "Meniscus$Scale" "kind" "C", Cond.fieldLink RX2 22 "Meniscus$Scale" "tube" "LMeniscus$Tube;"]
def wsL_make : List Cond := .codeWith yL_make cL_make 5 (some .int) [(0, 7, 8, 25), (0, 7, 13, 15), (0, 7, 18, 27), (0, 7, 23, 18)] :: ((wsL_make_r1 ++ (wsL_make_r2 ++ (wsL_make_r3 ++ wsL_make_r4))) ++ wsX40 ++ wsX30 ++ wsX00 ++ wsX10 ++ wsX20 ++ (vx_atS RX4 36 "java/lang/IllegalStateException" ["java/lang/RuntimeException", "java/lang/Exception"]).filter goodWord ++ (vx_atS RX4 292 "java/lang/IndexOutOfBoundsException" ["java/lang/RuntimeException", "java/lang/Exception"]).filter goodWord ++ (vx_atS RX4 81 "java/lang/IllegalArgumentException" ["java/lang/RuntimeException", "java/lang/Exception"]).filter goodWord ++ (vx_atS RX4 126 "java/lang/UnsupportedOperationException" ["java/lang/RuntimeException", "java/lang/Exception"]).filter goodWord)
def wsL_boiling : List Cond := .codeWith yL_boiling cL_boiling 3 (some .int) [(0, 5, 6, 15)] :: ([.classLink RL 15 "java/lang/IllegalArgumentException", .constant RL 17 (-900001), .methodLink RL 54 yX4_boiling, .instanceMethod yX4_boiling, .selects RX4 yX4_boiling yX4_boiling, .initialized RX4, .code yX4_boiling cX4_boiling 2 (some .int), .methodLink RX4 182 yX4_demandPressure, .static yX4_demandPressure, .code yX4_demandPressure cX4_demandPressure 1 none, .methodLink RX4 25 yX4_demandRange, .static yX4_demandRange, .code yX4_demandRange cX4_demandRange 3 none, .classLink RX4 77 "java/lang/IllegalArgumentException", .initialized "java/lang/IllegalArgumentException", .methodLink RX4 185 yX4_steamAt, .static yX4_steamAt, .code yX4_steamAt cX4_steamAt 1 (some .int)] ++ (vx_atS RX4 81 "java/lang/IllegalArgumentException" ["java/lang/RuntimeException", "java/lang/Exception"]).filter goodWord)
def wsL_barometer : List Cond := .codeWith yL_barometer cL_barometer 6 (some .int) [(0, 9, 10, 15)] :: ([.classLink RL 15 "java/lang/IllegalArgumentException", .constant RL 17 (-900001), .methodLink RL 57 yX4_barometer, .instanceMethod yX4_barometer, .selects RX4 yX4_barometer yX4_barometer, .initialized RX4, .code yX4_barometer cX4_barometer 6 (some .int), .constant RX4 265 (100000), .methodLink RX4 25 yX4_demandRange, .static yX4_demandRange, .code yX4_demandRange cX4_demandRange 3 none, .classLink RX4 77 "java/lang/IllegalArgumentException", .initialized "java/lang/IllegalArgumentException"] ++ (vx_atS RX4 81 "java/lang/IllegalArgumentException" ["java/lang/RuntimeException", "java/lang/Exception"]).filter goodWord)
def wsL_in : List Cond := .code yL_in cL_in 3 (some .int) :: ([.constant RL 66 (2147483647), .methodLink RL 60 yL_cell, .static yL_cell, .initialized RL, .code yL_cell cL_cell 3 (some .int), .constant RL 7 (69069), .constant RL 8 (1103515245)])
