/-! ===== BEGIN printed: names, fields, word lists, decode rows ===== -/
def RX0 : String := "FretSchool$Hand"
def TX0 : u_T := fun k => match k with
  | 0 => ("FretSchool$Hand", "reach", "[I", true)
  | 1 => ("FretSchool$Hand", "rest", "[[I", true)
  | 2 => ("FretSchool$Hand", "row", "[I", true)
  | 3 => ("FretSchool$Hand", "sum", "I", false)
  | _ => ("FretSchool$Hand", "greatest", "I", false)
def tyX0 : Nat → FieldType := fun k => match k with
  | 0 => .array .int
  | 1 => .array (.array .int)
  | 2 => .array .int
  | 3 => .int
  | _ => .int
abbrev wsX00 : List Cond := u_ws RX0 TX0 5
theorem nmX0 : ∀ a, a < 5 → ∀ b, b < 5 → a ≠ b → (TX0 a).2.1 ≠ (TX0 b).2.1 := by decide +kernel
theorem tyX0_ok : ∀ k, k < 5 → parseFieldDescriptor (TX0 k).2.2.1 = some (tyX0 k) := by decide +kernel
abbrev cX0_init : ByteArray := prog_2_method_1_code
def yX0_init : MethodName := ⟨RX0, "<init>", "()V"⟩
abbrev cX0_placeBest : ByteArray := prog_2_method_2_code
def yX0_placeBest : MethodName := ⟨RX0, "placeBest", "(LFretSchool$Piece;LFretSchool$Instrument;)Z"⟩
abbrev cX0_leastByAll : ByteArray := prog_2_method_3_code
def yX0_leastByAll : MethodName := ⟨RX0, "leastByAll", "(LFretSchool$Piece;LFretSchool$Instrument;)I"⟩
abbrev cX0_feelReach : ByteArray := prog_2_method_4_code
def yX0_feelReach : MethodName := ⟨RX0, "feelReach", "(LFretSchool$Piece;LFretSchool$Instrument;)V"⟩
abbrev cX0_measureRest : ByteArray := prog_2_method_5_code
def yX0_measureRest : MethodName := ⟨RX0, "measureRest", "(IZ)V"⟩
abbrev cX0_chooseRow : ByteArray := prog_2_method_6_code
def yX0_chooseRow : MethodName := ⟨RX0, "chooseRow", "(I)Z"⟩
abbrev cX0_nearest : ByteArray := prog_2_method_7_code
def yX0_nearest : MethodName := ⟨RX0, "nearest", "(II)I"⟩
abbrev cX0_leastFrom : ByteArray := prog_2_method_8_code
def yX0_leastFrom : MethodName := ⟨RX0, "leastFrom", "([IIII)I"⟩
abbrev cX0_canReach : ByteArray := prog_2_method_9_code
def yX0_canReach : MethodName := ⟨RX0, "canReach", "(II)Z"⟩
abbrev cX0_shift : ByteArray := prog_2_method_10_code
def yX0_shift : MethodName := ⟨RX0, "shift", "(II)I"⟩
def RX1 : String := "FretSchool$Instrument"
def TX1 : u_T := fun k => match k with
  | 0 => ("FretSchool$Instrument", "open", "[I", true)
  | 1 => ("FretSchool$Instrument", "keeper", "I", false)
  | _ => ("FretSchool$Instrument", "fretCount", "I", false)
def tyX1 : Nat → FieldType := fun k => match k with
  | 0 => .array .int
  | 1 => .int
  | _ => .int
abbrev wsX10 : List Cond := u_ws RX1 TX1 3
theorem nmX1 : ∀ a, a < 3 → ∀ b, b < 3 → a ≠ b → (TX1 a).2.1 ≠ (TX1 b).2.1 := by decide +kernel
theorem tyX1_ok : ∀ k, k < 3 → parseFieldDescriptor (TX1 k).2.2.1 = some (tyX1 k) := by decide +kernel
abbrev cX1_init : ByteArray := prog_3_method_1_code
def yX1_init : MethodName := ⟨RX1, "<init>", "()V"⟩
abbrev cX1_build : ByteArray := prog_3_method_2_code
def yX1_build : MethodName := ⟨RX1, "build", "(II)V"⟩
abbrev cX1_tuneAll : ByteArray := prog_3_method_3_code
def yX1_tuneAll : MethodName := ⟨RX1, "tuneAll", "(IIII)V"⟩
abbrev cX1_highestPosition : ByteArray := prog_3_method_4_code
def yX1_highestPosition : MethodName := ⟨RX1, "highestPosition", "()I"⟩
abbrev cX1_lowestString : ByteArray := prog_3_method_5_code
def yX1_lowestString : MethodName := ⟨RX1, "lowestString", "(II)I"⟩
def RX2 : String := "FretSchool$Order"
def TX2 : u_T := fun k => match k with
  | 0 => ("FretSchool$Order", "buyer", "I", false)
  | 1 => ("FretSchool$Order", "fretCount", "I", false)
  | 2 => ("FretSchool$Order", "readyDay", "I", false)
  | _ => ("FretSchool$Order", "isFetched", "Z", false)
def tyX2 : Nat → FieldType := fun k => match k with
  | 0 => .int
  | 1 => .int
  | 2 => .int
  | _ => .boolean
abbrev wsX20 : List Cond := u_ws RX2 TX2 4
theorem nmX2 : ∀ a, a < 4 → ∀ b, b < 4 → a ≠ b → (TX2 a).2.1 ≠ (TX2 b).2.1 := by decide +kernel
theorem tyX2_ok : ∀ k, k < 4 → parseFieldDescriptor (TX2 k).2.2.1 = some (tyX2 k) := by decide +kernel
abbrev cX2_init : ByteArray := prog_4_method_1_code
def yX2_init : MethodName := ⟨RX2, "<init>", "()V"⟩
abbrev cX2_place : ByteArray := prog_4_method_2_code
def yX2_place : MethodName := ⟨RX2, "place", "(III)V"⟩
abbrev cX2_isReady : ByteArray := prog_4_method_3_code
def yX2_isReady : MethodName := ⟨RX2, "isReady", "(I)Z"⟩
def RX3 : String := "FretSchool$Piece"
def TX3 : u_T := fun k => match k with
  | 0 => ("FretSchool$Piece", "pitches", "[I", true)
  | _ => ("FretSchool$Piece", "count", "I", false)
def tyX3 : Nat → FieldType := fun k => match k with
  | 0 => .array .int
  | _ => .int
abbrev wsX30 : List Cond := u_ws RX3 TX3 2
theorem nmX3 : ∀ a, a < 2 → ∀ b, b < 2 → a ≠ b → (TX3 a).2.1 ≠ (TX3 b).2.1 := by decide +kernel
theorem tyX3_ok : ∀ k, k < 2 → parseFieldDescriptor (TX3 k).2.2.1 = some (tyX3 k) := by decide +kernel
abbrev cX3_init : ByteArray := prog_5_method_1_code
def yX3_init : MethodName := ⟨RX3, "<init>", "()V"⟩
abbrev cX3_isFull : ByteArray := prog_5_method_2_code
def yX3_isFull : MethodName := ⟨RX3, "isFull", "()Z"⟩
abbrev cX3_append : ByteArray := prog_5_method_3_code
def yX3_append : MethodName := ⟨RX3, "append", "(I)V"⟩
abbrev cX3_canMove : ByteArray := prog_5_method_4_code
def yX3_canMove : MethodName := ⟨RX3, "canMove", "(I)Z"⟩
abbrev cX3_move : ByteArray := prog_5_method_5_code
def yX3_move : MethodName := ⟨RX3, "move", "(I)V"⟩
def RX4 : String := "FretSchool$Pupil"
def TX4 : u_T := fun k => match k with
  | 0 => ("FretSchool$Pupil", "grade", "I", false)
  | _ => ("FretSchool$Pupil", "repertoire", "I", false)
def tyX4 : Nat → FieldType := fun k => match k with
  | 0 => .int
  | _ => .int
abbrev wsX40 : List Cond := u_ws RX4 TX4 2
theorem nmX4 : ∀ a, a < 2 → ∀ b, b < 2 → a ≠ b → (TX4 a).2.1 ≠ (TX4 b).2.1 := by decide +kernel
theorem tyX4_ok : ∀ k, k < 2 → parseFieldDescriptor (TX4 k).2.2.1 = some (tyX4 k) := by decide +kernel
abbrev cX4_init : ByteArray := prog_6_method_1_code
def yX4_init : MethodName := ⟨RX4, "<init>", "()V"⟩
abbrev cX4_knows : ByteArray := prog_6_method_2_code
def yX4_knows : MethodName := ⟨RX4, "knows", "(I)Z"⟩
abbrev cX4_takeIn : ByteArray := prog_6_method_3_code
def yX4_takeIn : MethodName := ⟨RX4, "takeIn", "(II)V"⟩
def RX5 : String := "FretSchool"
def TX5 : u_T := fun k => match k with
  | 0 => ("FretSchool", "pieces", "[LFretSchool$Piece;", true)
  | 1 => ("FretSchool", "builds", "[LFretSchool$Instrument;", true)
  | 2 => ("FretSchool", "pupils", "[LFretSchool$Pupil;", true)
  | 3 => ("FretSchool", "orders", "[LFretSchool$Order;", true)
  | 4 => ("FretSchool", "stock", "[I", true)
  | 5 => ("FretSchool", "hand", "LFretSchool$Hand;", true)
  | 6 => ("FretSchool", "pieceCount", "I", false)
  | 7 => ("FretSchool", "buildCount", "I", false)
  | 8 => ("FretSchool", "orderCount", "I", false)
  | _ => ("FretSchool", "day", "I", false)
def tyX5 : Nat → FieldType := fun k => match k with
  | 0 => .array (.object "FretSchool$Piece")
  | 1 => .array (.object "FretSchool$Instrument")
  | 2 => .array (.object "FretSchool$Pupil")
  | 3 => .array (.object "FretSchool$Order")
  | 4 => .array .int
  | 5 => .object "FretSchool$Hand"
  | 6 => .int
  | 7 => .int
  | 8 => .int
  | _ => .int
abbrev wsX50 : List Cond := u_ws RX5 TX5 10
theorem nmX5 : ∀ a, a < 10 → ∀ b, b < 10 → a ≠ b → (TX5 a).2.1 ≠ (TX5 b).2.1 := by decide +kernel
theorem tyX5_ok : ∀ k, k < 10 → parseFieldDescriptor (TX5 k).2.2.1 = some (tyX5 k) := by decide +kernel
abbrev cX5_init : ByteArray := prog_1_method_1_code
def yX5_init : MethodName := ⟨RX5, "<init>", "()V"⟩
abbrev cX5_begin : ByteArray := prog_1_method_2_code
def yX5_begin : MethodName := ⟨RX5, "begin", "()I"⟩
abbrev cX5_addNote : ByteArray := prog_1_method_3_code
def yX5_addNote : MethodName := ⟨RX5, "addNote", "(II)I"⟩
abbrev cX5_transpose : ByteArray := prog_1_method_4_code
def yX5_transpose : MethodName := ⟨RX5, "transpose", "(II)V"⟩
abbrev cX5_pitch : ByteArray := prog_1_method_5_code
def yX5_pitch : MethodName := ⟨RX5, "pitch", "(II)I"⟩
abbrev cX5_tune : ByteArray := prog_1_method_6_code
def yX5_tune : MethodName := ⟨RX5, "tune", "(III)I"⟩
abbrev cX5_owner : ByteArray := prog_1_method_7_code
def yX5_owner : MethodName := ⟨RX5, "owner", "(I)I"⟩
abbrev cX5_instruments : ByteArray := prog_1_method_8_code
def yX5_instruments : MethodName := ⟨RX5, "instruments", "()I"⟩
abbrev cX5_shifts : ByteArray := prog_1_method_9_code
def yX5_shifts : MethodName := ⟨RX5, "shifts", "(II)I"⟩
abbrev cX5_shiftsByAll : ByteArray := prog_1_method_10_code
def yX5_shiftsByAll : MethodName := ⟨RX5, "shiftsByAll", "(II)I"⟩
abbrev cX5_hardest : ByteArray := prog_1_method_11_code
def yX5_hardest : MethodName := ⟨RX5, "hardest", "(II)I"⟩
abbrev cX5_position : ByteArray := prog_1_method_12_code
def yX5_position : MethodName := ⟨RX5, "position", "(III)I"⟩
abbrev cX5_string : ByteArray := prog_1_method_13_code
def yX5_string : MethodName := ⟨RX5, "string", "(III)I"⟩
abbrev cX5_learn : ByteArray := prog_1_method_14_code
def yX5_learn : MethodName := ⟨RX5, "learn", "(III)I"⟩
abbrev cX5_level : ByteArray := prog_1_method_15_code
def yX5_level : MethodName := ⟨RX5, "level", "(I)I"⟩
abbrev cX5_known : ByteArray := prog_1_method_16_code
def yX5_known : MethodName := ⟨RX5, "known", "(I)I"⟩
abbrev cX5_next : ByteArray := prog_1_method_17_code
def yX5_next : MethodName := ⟨RX5, "next", "(I)I"⟩
abbrev cX5_addWood : ByteArray := prog_1_method_18_code
def yX5_addWood : MethodName := ⟨RX5, "addWood", "(II)I"⟩
abbrev cX5_order : ByteArray := prog_1_method_19_code
def yX5_order : MethodName := ⟨RX5, "order", "(III)I"⟩
abbrev cX5_ready : ByteArray := prog_1_method_20_code
def yX5_ready : MethodName := ⟨RX5, "ready", "(I)I"⟩
abbrev cX5_fetch : ByteArray := prog_1_method_21_code
def yX5_fetch : MethodName := ⟨RX5, "fetch", "(IIIII)I"⟩
abbrev cX5_pass : ByteArray := prog_1_method_22_code
def yX5_pass : MethodName := ⟨RX5, "pass", "(I)I"⟩
abbrev cX5_today : ByteArray := prog_1_method_23_code
def yX5_today : MethodName := ⟨RX5, "today", "()I"⟩
abbrev cX5_needPiece : ByteArray := prog_1_method_24_code
def yX5_needPiece : MethodName := ⟨RX5, "needPiece", "(I)V"⟩
abbrev cX5_needNote : ByteArray := prog_1_method_25_code
def yX5_needNote : MethodName := ⟨RX5, "needNote", "(II)V"⟩
abbrev cX5_needInstrument : ByteArray := prog_1_method_26_code
def yX5_needInstrument : MethodName := ⟨RX5, "needInstrument", "(I)V"⟩
abbrev cX5_needOrder : ByteArray := prog_1_method_27_code
def yX5_needOrder : MethodName := ⟨RX5, "needOrder", "(I)V"⟩
abbrev cX5_needPupil : ByteArray := prog_1_method_28_code
def yX5_needPupil : MethodName := ⟨RX5, "needPupil", "(I)V"⟩
abbrev cX5_needRange : ByteArray := prog_1_method_29_code
def yX5_needRange : MethodName := ⟨RX5, "needRange", "(III)V"⟩
abbrev cX5_findBest : ByteArray := prog_1_method_30_code
def yX5_findBest : MethodName := ⟨RX5, "findBest", "(II)Z"⟩
abbrev cX5_learnableShift : ByteArray := prog_1_method_31_code
def yX5_learnableShift : MethodName := ⟨RX5, "learnableShift", "(III)I"⟩
abbrev cX5_easiestShift : ByteArray := prog_1_method_32_code
def yX5_easiestShift : MethodName := ⟨RX5, "easiestShift", "(II)I"⟩
abbrev cX5_ordersAtWork : ByteArray := prog_1_method_33_code
def yX5_ordersAtWork : MethodName := ⟨RX5, "ordersAtWork", "()I"⟩
def RX6 : String := "FretSchoolModel"
def TX6 : u_T := fun k => match k with
  | 0 => ("FretSchoolModel", "today", "I", false)
  | 1 => ("FretSchoolModel", "pieces", "I", false)
  | 2 => ("FretSchoolModel", "many", "[I", true)
  | 3 => ("FretSchoolModel", "pitch", "[I", true)
  | 4 => ("FretSchoolModel", "instruments", "I", false)
  | 5 => ("FretSchoolModel", "owner", "[I", true)
  | 6 => ("FretSchoolModel", "frets", "[I", true)
  | 7 => ("FretSchoolModel", "open", "[I", true)
  | 8 => ("FretSchoolModel", "level", "[I", true)
  | 9 => ("FretSchoolModel", "known", "[I", true)
  | 10 => ("FretSchoolModel", "stock", "[I", true)
  | 11 => ("FretSchoolModel", "orders", "I", false)
  | 12 => ("FretSchoolModel", "buyer", "[I", true)
  | 13 => ("FretSchoolModel", "ordered", "[I", true)
  | 14 => ("FretSchoolModel", "readyOn", "[I", true)
  | 15 => ("FretSchoolModel", "fetched", "[Z", true)
  | 16 => ("FretSchoolModel", "least", "[I", true)
  | 17 => ("FretSchoolModel", "best", "[I", true)
  | _ => ("FretSchoolModel", "thrown", "I", false)
def tyX6 : Nat → FieldType := fun k => match k with
  | 0 => .int
  | 1 => .int
  | 2 => .array .int
  | 3 => .array .int
  | 4 => .int
  | 5 => .array .int
  | 6 => .array .int
  | 7 => .array .int
  | 8 => .array .int
  | 9 => .array .int
  | 10 => .array .int
  | 11 => .int
  | 12 => .array .int
  | 13 => .array .int
  | 14 => .array .int
  | 15 => .array .boolean
  | 16 => .array .int
  | 17 => .array .int
  | _ => .int
abbrev wsX60 : List Cond := u_ws RX6 TX6 19
theorem nmX6 : ∀ a, a < 19 → ∀ b, b < 19 → a ≠ b → (TX6 a).2.1 ≠ (TX6 b).2.1 := by decide +kernel
theorem tyX6_ok : ∀ k, k < 19 → parseFieldDescriptor (TX6 k).2.2.1 = some (tyX6 k) := by decide +kernel
abbrev cX6_init : ByteArray := prog_8_method_1_code
def yX6_init : MethodName := ⟨RX6, "<init>", "()V"⟩
abbrev cX6_thrown : ByteArray := prog_8_method_2_code
def yX6_thrown : MethodName := ⟨RX6, "thrown", "()I"⟩
abbrev cX6_in : ByteArray := prog_8_method_3_code
def yX6_in : MethodName := ⟨RX6, "in", "(III)Z"⟩
abbrev cX6_goes : ByteArray := prog_8_method_4_code
def yX6_goes : MethodName := ⟨RX6, "goes", "(ZZZ)Z"⟩
abbrev cX6_told : ByteArray := prog_8_method_5_code
def yX6_told : MethodName := ⟨RX6, "told", "(I)I"⟩
abbrev cX6_isPiece : ByteArray := prog_8_method_6_code
def yX6_isPiece : MethodName := ⟨RX6, "isPiece", "(I)Z"⟩
abbrev cX6_isNote : ByteArray := prog_8_method_7_code
def yX6_isNote : MethodName := ⟨RX6, "isNote", "(II)Z"⟩
abbrev cX6_isInstrument : ByteArray := prog_8_method_8_code
def yX6_isInstrument : MethodName := ⟨RX6, "isInstrument", "(I)Z"⟩
abbrev cX6_isOrder : ByteArray := prog_8_method_9_code
def yX6_isOrder : MethodName := ⟨RX6, "isOrder", "(I)Z"⟩
abbrev cX6_isPupil : ByteArray := prog_8_method_10_code
def yX6_isPupil : MethodName := ⟨RX6, "isPupil", "(I)Z"⟩
abbrev cX6_begin : ByteArray := prog_8_method_11_code
def yX6_begin : MethodName := ⟨RX6, "begin", "()I"⟩
abbrev cX6_addNote : ByteArray := prog_8_method_12_code
def yX6_addNote : MethodName := ⟨RX6, "addNote", "(II)I"⟩
abbrev cX6_transpose : ByteArray := prog_8_method_13_code
def yX6_transpose : MethodName := ⟨RX6, "transpose", "(II)V"⟩
abbrev cX6_pitch : ByteArray := prog_8_method_14_code
def yX6_pitch : MethodName := ⟨RX6, "pitch", "(II)I"⟩
abbrev cX6_tune : ByteArray := prog_8_method_15_code
def yX6_tune : MethodName := ⟨RX6, "tune", "(III)I"⟩
abbrev cX6_owner : ByteArray := prog_8_method_16_code
def yX6_owner : MethodName := ⟨RX6, "owner", "(I)I"⟩
abbrev cX6_instruments : ByteArray := prog_8_method_17_code
def yX6_instruments : MethodName := ⟨RX6, "instruments", "()I"⟩
abbrev cX6_lies : ByteArray := prog_8_method_18_code
def yX6_lies : MethodName := ⟨RX6, "lies", "(IIIII)Z"⟩
abbrev cX6_plays : ByteArray := prog_8_method_19_code
def yX6_plays : MethodName := ⟨RX6, "plays", "(IIII)Z"⟩
abbrev cX6_apart : ByteArray := prog_8_method_20_code
def yX6_apart : MethodName := ⟨RX6, "apart", "(II)I"⟩
abbrev cX6_from : ByteArray := prog_8_method_21_code
def yX6_from : MethodName := ⟨RX6, "from", "(IIII)I"⟩
abbrev cX6_finds : ByteArray := prog_8_method_22_code
def yX6_finds : MethodName := ⟨RX6, "finds", "(II)I"⟩
abbrev cX6_asks : ByteArray := prog_8_method_23_code
def yX6_asks : MethodName := ⟨RX6, "asks", "(II)Z"⟩
abbrev cX6_shifts : ByteArray := prog_8_method_24_code
def yX6_shifts : MethodName := ⟨RX6, "shifts", "(II)I"⟩
abbrev cX6_shiftsByAll : ByteArray := prog_8_method_25_code
def yX6_shiftsByAll : MethodName := ⟨RX6, "shiftsByAll", "(II)I"⟩
abbrev cX6_hardestOf : ByteArray := prog_8_method_26_code
def yX6_hardestOf : MethodName := ⟨RX6, "hardestOf", "(II)I"⟩
abbrev cX6_hardest : ByteArray := prog_8_method_27_code
def yX6_hardest : MethodName := ⟨RX6, "hardest", "(II)I"⟩
abbrev cX6_asksNote : ByteArray := prog_8_method_28_code
def yX6_asksNote : MethodName := ⟨RX6, "asksNote", "(III)Z"⟩
abbrev cX6_position : ByteArray := prog_8_method_29_code
def yX6_position : MethodName := ⟨RX6, "position", "(III)I"⟩
abbrev cX6_string : ByteArray := prog_8_method_30_code
def yX6_string : MethodName := ⟨RX6, "string", "(III)I"⟩
abbrev cX6_isKnown : ByteArray := prog_8_method_31_code
def yX6_isKnown : MethodName := ⟨RX6, "isKnown", "(II)Z"⟩
abbrev cX6_canLearn : ByteArray := prog_8_method_32_code
def yX6_canLearn : MethodName := ⟨RX6, "canLearn", "(III)Z"⟩
abbrev cX6_learn : ByteArray := prog_8_method_33_code
def yX6_learn : MethodName := ⟨RX6, "learn", "(III)I"⟩
abbrev cX6_level : ByteArray := prog_8_method_34_code
def yX6_level : MethodName := ⟨RX6, "level", "(I)I"⟩
abbrev cX6_known : ByteArray := prog_8_method_35_code
def yX6_known : MethodName := ⟨RX6, "known", "(I)I"⟩
abbrev cX6_next : ByteArray := prog_8_method_36_code
def yX6_next : MethodName := ⟨RX6, "next", "(I)I"⟩
abbrev cX6_addWood : ByteArray := prog_8_method_37_code
def yX6_addWood : MethodName := ⟨RX6, "addWood", "(II)I"⟩
abbrev cX6_atWork : ByteArray := prog_8_method_38_code
def yX6_atWork : MethodName := ⟨RX6, "atWork", "()I"⟩
abbrev cX6_order : ByteArray := prog_8_method_39_code
def yX6_order : MethodName := ⟨RX6, "order", "(III)I"⟩
abbrev cX6_ready : ByteArray := prog_8_method_40_code
def yX6_ready : MethodName := ⟨RX6, "ready", "(I)I"⟩
abbrev cX6_isOpen : ByteArray := prog_8_method_41_code
def yX6_isOpen : MethodName := ⟨RX6, "isOpen", "(I)Z"⟩
abbrev cX6_fetch : ByteArray := prog_8_method_42_code
def yX6_fetch : MethodName := ⟨RX6, "fetch", "(IIIII)I"⟩
abbrev cX6_pass : ByteArray := prog_8_method_43_code
def yX6_pass : MethodName := ⟨RX6, "pass", "(I)I"⟩
abbrev cX6_today : ByteArray := prog_8_method_44_code
def yX6_today : MethodName := ⟨RX6, "today", "()I"⟩
def RJ9 : String := "java/lang/Math"
def TJ9 : u_T := fun k => match k with
  | _ => ("", "", "", false)
def tyJ9 : Nat → FieldType := fun k => match k with
  | _ => .int
abbrev wsJ90 : List Cond := u_ws RJ9 TJ9 0
theorem nmJ9 : ∀ a, a < 0 → ∀ b, b < 0 → a ≠ b → (TJ9 a).2.1 ≠ (TJ9 b).2.1 := by decide +kernel
theorem tyJ9_ok : ∀ k, k < 0 → parseFieldDescriptor (TJ9 k).2.2.1 = some (tyJ9 k) := by decide +kernel
abbrev cJ9_abs_0f7a4 : ByteArray := prog_13_method_59_code
def yJ9_abs_0f7a4 : MethodName := ⟨RJ9, "abs", "(I)I"⟩
def RJ0 : String := "java/lang/String"
def TJ0 : u_T := fun k => match k with
  | _ => ("", "", "", false)
def tyJ0 : Nat → FieldType := fun k => match k with
  | _ => .int
abbrev wsJ00 : List Cond := u_ws RJ0 TJ0 0
theorem nmJ0 : ∀ a, a < 0 → ∀ b, b < 0 → a ≠ b → (TJ0 a).2.1 ≠ (TJ0 b).2.1 := by decide +kernel
theorem tyJ0_ok : ∀ k, k < 0 → parseFieldDescriptor (TJ0 k).2.2.1 = some (tyJ0 k) := by decide +kernel
def RL : String := "FretSchoolLaw"
abbrev cL_begin : ByteArray := method_3_code
def yL_begin : MethodName := ⟨RL, "begin", "(LFretSchool;[J)I"⟩
abbrev cL_addNote : ByteArray := method_4_code
def yL_addNote : MethodName := ⟨RL, "addNote", "(LFretSchool;II[J)I"⟩
abbrev cL_transpose : ByteArray := method_5_code
def yL_transpose : MethodName := ⟨RL, "transpose", "(LFretSchool;II)I"⟩
abbrev cL_pitch : ByteArray := method_6_code
def yL_pitch : MethodName := ⟨RL, "pitch", "(LFretSchool;II[J)I"⟩
abbrev cL_tune : ByteArray := method_7_code
def yL_tune : MethodName := ⟨RL, "tune", "(LFretSchool;III[J)I"⟩
abbrev cL_owner : ByteArray := method_8_code
def yL_owner : MethodName := ⟨RL, "owner", "(LFretSchool;I[J)I"⟩
abbrev cL_shifts : ByteArray := method_9_code
def yL_shifts : MethodName := ⟨RL, "shifts", "(LFretSchool;II[J)I"⟩
abbrev cL_shiftsByAll : ByteArray := method_10_code
def yL_shiftsByAll : MethodName := ⟨RL, "shiftsByAll", "(LFretSchool;II[J)I"⟩
abbrev cL_hardest : ByteArray := method_11_code
def yL_hardest : MethodName := ⟨RL, "hardest", "(LFretSchool;II[J)I"⟩
abbrev cL_position : ByteArray := method_12_code
def yL_position : MethodName := ⟨RL, "position", "(LFretSchool;III[J)I"⟩
abbrev cL_string : ByteArray := method_13_code
def yL_string : MethodName := ⟨RL, "string", "(LFretSchool;III[J)I"⟩
abbrev cL_learn : ByteArray := method_14_code
def yL_learn : MethodName := ⟨RL, "learn", "(LFretSchool;III[J)I"⟩
abbrev cL_level : ByteArray := method_15_code
def yL_level : MethodName := ⟨RL, "level", "(LFretSchool;I[J)I"⟩
abbrev cL_known : ByteArray := method_16_code
def yL_known : MethodName := ⟨RL, "known", "(LFretSchool;I[J)I"⟩
abbrev cL_next : ByteArray := method_17_code
def yL_next : MethodName := ⟨RL, "next", "(LFretSchool;I[J)I"⟩
abbrev cL_addWood : ByteArray := method_18_code
def yL_addWood : MethodName := ⟨RL, "addWood", "(LFretSchool;II[J)I"⟩
abbrev cL_order : ByteArray := method_19_code
def yL_order : MethodName := ⟨RL, "order", "(LFretSchool;III[J)I"⟩
abbrev cL_ready : ByteArray := method_20_code
def yL_ready : MethodName := ⟨RL, "ready", "(LFretSchool;I[J)I"⟩
abbrev cL_fetch : ByteArray := method_21_code
def yL_fetch : MethodName := ⟨RL, "fetch", "(LFretSchool;IIIII[J)I"⟩
abbrev cL_pass : ByteArray := method_22_code
def yL_pass : MethodName := ⟨RL, "pass", "(LFretSchool;I[J)I"⟩
abbrev cL_law : ByteArray := code
def yL_law : MethodName := ⟨RL, "law", "([I)Z"⟩
def wsX0_init : List Cond := .code yX0_init cX0_init 1 none :: ([.methodLink RX0 3 objectInit, .instanceMethod objectInit, .code objectInit ⟨#[0xb1]⟩ 1 none, .arrayClass .int, .fieldLink RX0 9 "FretSchool$Hand" "reach" "[I", .classLink RX0 15 "[[I", .fieldLink RX0 17 "FretSchool$Hand" "rest" "[[I", .fieldLink RX0 20 "FretSchool$Hand" "row" "[I", .fieldLink RX0 23 "FretSchool$Hand" "sum" "I", .fieldLink RX0 27 "FretSchool$Hand" "greatest" "I"] ++ wsX00)
def wsX1_highestPosition : List Cond := .code yX1_highestPosition cX1_highestPosition 1 (some .int) :: ([.fieldLink RX1 19 "FretSchool$Instrument" "fretCount" "I"] ++ wsX10)
def wsX1_lowestString : List Cond := .code yX1_lowestString cX1_lowestString 5 (some .int) :: ([.fieldLink RX1 9 "FretSchool$Instrument" "open" "[I"] ++ wsX10)
def wsX0_feelReach : List Cond := .code yX0_feelReach cX0_feelReach 6 none :: ([.fieldLink RX0 34 "FretSchool$Piece" "count" "I", .fieldLink RX0 9 "FretSchool$Hand" "reach" "[I", .fieldLink RX0 58 "FretSchool$Piece" "pitches" "[I", .methodLink RX0 52 yX1_highestPosition, .instanceMethod yX1_highestPosition, .selects RX1 yX1_highestPosition yX1_highestPosition, .initialized RX1, .code yX1_highestPosition cX1_highestPosition 1 (some .int), .fieldLink RX1 19 "FretSchool$Instrument" "fretCount" "I", .methodLink RX0 61 yX1_lowestString, .instanceMethod yX1_lowestString, .selects RX1 yX1_lowestString yX1_lowestString, .code yX1_lowestString cX1_lowestString 5 (some .int), .fieldLink RX1 9 "FretSchool$Instrument" "open" "[I"] ++ wsX30 ++ wsX00 ++ wsX10)
def wsX0_shift : List Cond := .code yX0_shift cX0_shift 2 (some .int) :: ([.methodLink RX0 75 Lib.Math.abs.name, .static Lib.Math.abs.name, .initialized "java/lang/Math", .code Lib.Math.abs.name Lib.Math.abs.code 1 (some .int)])
def wsX0_nearest : List Cond := .code yX0_nearest cX0_nearest 7 (some .int) :: ([.constant RX0 51 (1000000), .fieldLink RX0 17 "FretSchool$Hand" "rest" "[[I", .methodLink RX0 72 yX0_shift, .static yX0_shift, .initialized RX0, .code yX0_shift cX0_shift 2 (some .int), .methodLink RX0 75 Lib.Math.abs.name, .static Lib.Math.abs.name, .initialized "java/lang/Math", .code Lib.Math.abs.name Lib.Math.abs.code 1 (some .int)] ++ wsX00)
def wsX0_canReach : List Cond := .code yX0_canReach cX0_canReach 2 (some .boolean) :: ([])
def wsX0_measureRest : List Cond := .code yX0_measureRest cX0_measureRest 5 none :: ([.fieldLink RX0 9 "FretSchool$Hand" "reach" "[I", .fieldLink RX0 17 "FretSchool$Hand" "rest" "[[I", .constant RX0 51 (1000000), .methodLink RX0 65 yX0_nearest, .instanceMethod yX0_nearest, .selects RX0 yX0_nearest yX0_nearest, .initialized RX0, .code yX0_nearest cX0_nearest 7 (some .int), .methodLink RX0 72 yX0_shift, .static yX0_shift, .code yX0_shift cX0_shift 2 (some .int), .methodLink RX0 75 Lib.Math.abs.name, .static Lib.Math.abs.name, .initialized "java/lang/Math", .code Lib.Math.abs.name Lib.Math.abs.code 1 (some .int), .methodLink RX0 68 yX0_canReach, .static yX0_canReach, .code yX0_canReach cX0_canReach 2 (some .boolean)] ++ wsX00)
def wsX0_chooseRow : List Cond := .code yX0_chooseRow cX0_chooseRow 6 (some .boolean) :: ([.fieldLink RX0 23 "FretSchool$Hand" "sum" "I", .fieldLink RX0 27 "FretSchool$Hand" "greatest" "I", .fieldLink RX0 20 "FretSchool$Hand" "row" "[I", .methodLink RX0 65 yX0_nearest, .instanceMethod yX0_nearest, .selects RX0 yX0_nearest yX0_nearest, .initialized RX0, .code yX0_nearest cX0_nearest 7 (some .int), .constant RX0 51 (1000000), .fieldLink RX0 17 "FretSchool$Hand" "rest" "[[I", .methodLink RX0 72 yX0_shift, .static yX0_shift, .code yX0_shift cX0_shift 2 (some .int), .methodLink RX0 75 Lib.Math.abs.name, .static Lib.Math.abs.name, .initialized "java/lang/Math", .code Lib.Math.abs.name Lib.Math.abs.code 1 (some .int)] ++ wsX00)
def wsX0_placeBest_r1 : List Cond := [Cond.fieldLink RX0 34 "FretSchool$Piece" "count" "I", Cond.methodLink RX0 30 yX0_feelReach, Cond.instanceMethod yX0_feelReach, Cond.selects RX0 yX0_feelReach yX0_feelReach, Cond.initialized RX0, Cond.code yX0_feelReach cX0_feelReach 6 none, Cond.fieldLink RX0 9 "FretSchool$Hand" "reach" "[I", Cond.fieldLink RX0 58 "FretSchool$Piece" "pitches" "[I", Cond.methodLink RX0 52 yX1_highestPosition, Cond.instanceMethod yX1_highestPosition, Cond.selects RX1 yX1_highestPosition yX1_highestPosition, Cond.initialized RX1, Cond.code yX1_highestPosition cX1_highestPosition 1 (some .int), Cond.fieldLink RX1 19 "FretSchool$Instrument" "fretCount" "I", Cond.methodLink RX0 61 yX1_lowestString, Cond.instanceMethod yX1_lowestString, Cond.selects RX1 yX1_lowestString yX1_lowestString, Cond.code yX1_lowestString cX1_lowestString 5 (some .int), Cond.fieldLink RX1 9 "FretSchool$Instrument" "open" "[I", Cond.methodLink RX0 39 yX0_measureRest, Cond.instanceMethod yX0_measureRest, Cond.selects RX0 yX0_measureRest yX0_measureRest, Cond.code yX0_measureRest cX0_measureRest 5 none, Cond.fieldLink RX0 17 "FretSchool$Hand" "rest" "[[I"]
def wsX0_placeBest_r2 : List Cond := [Cond.constant RX0 51 (1000000), Cond.methodLink RX0 65 yX0_nearest, Cond.instanceMethod yX0_nearest, Cond.selects RX0 yX0_nearest yX0_nearest, Cond.code yX0_nearest cX0_nearest 7 (some .int), Cond.methodLink RX0 72 yX0_shift, Cond.static yX0_shift, Cond.code yX0_shift cX0_shift 2 (some .int), Cond.methodLink RX0 75 Lib.Math.abs.name, Cond.static Lib.Math.abs.name, Cond.initialized "java/lang/Math", Cond.code Lib.Math.abs.name Lib.Math.abs.code 1 (some .int), Cond.methodLink RX0 68 yX0_canReach, Cond.static yX0_canReach, Cond.code yX0_canReach cX0_canReach 2 (some .boolean), Cond.methodLink RX0 43 yX0_chooseRow, Cond.instanceMethod yX0_chooseRow, Cond.selects RX0 yX0_chooseRow yX0_chooseRow, Cond.code yX0_chooseRow cX0_chooseRow 6 (some .boolean), Cond.fieldLink RX0 23 "FretSchool$Hand" "sum" "I", Cond.fieldLink RX0 27 "FretSchool$Hand" "greatest" "I", Cond.fieldLink RX0 20 "FretSchool$Hand" "row" "[I"]
def wsX0_placeBest : List Cond := .code yX0_placeBest cX0_placeBest 4 (some .boolean) :: ((wsX0_placeBest_r1 ++ wsX0_placeBest_r2) ++ wsX30 ++ wsX00 ++ wsX10)
def wsX0_leastFrom : List Cond := .code yX0_leastFrom cX0_leastFrom 7 (some .int) :: ([.constant RX0 51 (1000000), .methodLink RX0 68 yX0_canReach, .static yX0_canReach, .initialized RX0, .code yX0_canReach cX0_canReach 2 (some .boolean), .methodLink RX0 72 yX0_shift, .static yX0_shift, .code yX0_shift cX0_shift 2 (some .int), .methodLink RX0 75 Lib.Math.abs.name, .static Lib.Math.abs.name, .initialized "java/lang/Math", .code Lib.Math.abs.name Lib.Math.abs.code 1 (some .int), .methodLink RX0 47 yX0_leastFrom, .static yX0_leastFrom])
def wsX0_leastByAll_r1 : List Cond := [Cond.fieldLink RX0 34 "FretSchool$Piece" "count" "I", Cond.fieldLink RX0 9 "FretSchool$Hand" "reach" "[I", Cond.constant RX0 51 (1000000), Cond.methodLink RX0 30 yX0_feelReach, Cond.instanceMethod yX0_feelReach, Cond.selects RX0 yX0_feelReach yX0_feelReach, Cond.initialized RX0, Cond.code yX0_feelReach cX0_feelReach 6 none, Cond.fieldLink RX0 58 "FretSchool$Piece" "pitches" "[I", Cond.methodLink RX0 52 yX1_highestPosition, Cond.instanceMethod yX1_highestPosition, Cond.selects RX1 yX1_highestPosition yX1_highestPosition, Cond.initialized RX1, Cond.code yX1_highestPosition cX1_highestPosition 1 (some .int), Cond.fieldLink RX1 19 "FretSchool$Instrument" "fretCount" "I", Cond.methodLink RX0 61 yX1_lowestString, Cond.instanceMethod yX1_lowestString, Cond.selects RX1 yX1_lowestString yX1_lowestString, Cond.code yX1_lowestString cX1_lowestString 5 (some .int), Cond.fieldLink RX1 9 "FretSchool$Instrument" "open" "[I", Cond.methodLink RX0 47 yX0_leastFrom, Cond.static yX0_leastFrom, Cond.code yX0_leastFrom cX0_leastFrom 7 (some .int), Cond.methodLink RX0 68 yX0_canReach]
def wsX0_leastByAll_r2 : List Cond := [Cond.static yX0_canReach, Cond.code yX0_canReach cX0_canReach 2 (some .boolean), Cond.methodLink RX0 72 yX0_shift, Cond.static yX0_shift, Cond.code yX0_shift cX0_shift 2 (some .int), Cond.methodLink RX0 75 Lib.Math.abs.name, Cond.static Lib.Math.abs.name, Cond.initialized "java/lang/Math", Cond.code Lib.Math.abs.name Lib.Math.abs.code 1 (some .int)]
def wsX0_leastByAll : List Cond := .code yX0_leastByAll cX0_leastByAll 4 (some .int) :: ((wsX0_leastByAll_r1 ++ wsX0_leastByAll_r2) ++ wsX30 ++ wsX00 ++ wsX10)
def wsX1_init : List Cond := .code yX1_init cX1_init 1 none :: ([.methodLink RX1 3 objectInit, .instanceMethod objectInit, .code objectInit ⟨#[0xb1]⟩ 1 none, .arrayClass .int, .fieldLink RX1 9 "FretSchool$Instrument" "open" "[I", .fieldLink RX1 15 "FretSchool$Instrument" "keeper" "I", .fieldLink RX1 19 "FretSchool$Instrument" "fretCount" "I"] ++ wsX10)
def wsX1_build : List Cond := .code yX1_build cX1_build 3 none :: ([.fieldLink RX1 15 "FretSchool$Instrument" "keeper" "I", .fieldLink RX1 19 "FretSchool$Instrument" "fretCount" "I"] ++ wsX10)
def wsX1_tuneAll : List Cond := .code yX1_tuneAll cX1_tuneAll 5 none :: ([.fieldLink RX1 9 "FretSchool$Instrument" "open" "[I"] ++ wsX10)
def wsX2_init : List Cond := .code yX2_init cX2_init 1 none :: ([.methodLink RX2 3 objectInit, .instanceMethod objectInit, .code objectInit ⟨#[0xb1]⟩ 1 none, .fieldLink RX2 9 "FretSchool$Order" "buyer" "I", .fieldLink RX2 15 "FretSchool$Order" "fretCount" "I", .fieldLink RX2 18 "FretSchool$Order" "readyDay" "I", .fieldLink RX2 21 "FretSchool$Order" "isFetched" "Z"] ++ wsX20)
def wsX2_place : List Cond := .code yX2_place cX2_place 4 none :: ([.fieldLink RX2 9 "FretSchool$Order" "buyer" "I", .fieldLink RX2 15 "FretSchool$Order" "fretCount" "I", .fieldLink RX2 18 "FretSchool$Order" "readyDay" "I"] ++ wsX20)
def wsX2_isReady : List Cond := .code yX2_isReady cX2_isReady 2 (some .boolean) :: ([.fieldLink RX2 18 "FretSchool$Order" "readyDay" "I"] ++ wsX20)
def wsX3_init : List Cond := .code yX3_init cX3_init 1 none :: ([.methodLink RX3 3 objectInit, .instanceMethod objectInit, .code objectInit ⟨#[0xb1]⟩ 1 none, .arrayClass .int, .fieldLink RX3 9 "FretSchool$Piece" "pitches" "[I", .fieldLink RX3 15 "FretSchool$Piece" "count" "I"] ++ wsX30)
def wsX3_isFull : List Cond := .code yX3_isFull cX3_isFull 1 (some .boolean) :: ([.fieldLink RX3 15 "FretSchool$Piece" "count" "I"] ++ wsX30)
def wsX3_append : List Cond := .code yX3_append cX3_append 2 none :: ([.fieldLink RX3 9 "FretSchool$Piece" "pitches" "[I", .fieldLink RX3 15 "FretSchool$Piece" "count" "I", .methodLink RX3 19 yX3_isFull, .instanceMethod yX3_isFull, .selects RX3 yX3_isFull yX3_isFull, .initialized RX3, .code yX3_isFull cX3_isFull 1 (some .boolean)] ++ wsX30)
def wsX3_canMove : List Cond := .code yX3_canMove cX3_canMove 4 (some .boolean) :: ([.fieldLink RX3 15 "FretSchool$Piece" "count" "I", .fieldLink RX3 9 "FretSchool$Piece" "pitches" "[I"] ++ wsX30)
def wsX3_move : List Cond := .code yX3_move cX3_move 3 none :: ([.fieldLink RX3 15 "FretSchool$Piece" "count" "I", .fieldLink RX3 9 "FretSchool$Piece" "pitches" "[I"] ++ wsX30)
def wsX4_init : List Cond := .code yX4_init cX4_init 1 none :: ([.methodLink RX4 3 objectInit, .instanceMethod objectInit, .code objectInit ⟨#[0xb1]⟩ 1 none, .fieldLink RX4 9 "FretSchool$Pupil" "grade" "I", .fieldLink RX4 15 "FretSchool$Pupil" "repertoire" "I"] ++ wsX40)
def wsX4_knows : List Cond := .code yX4_knows cX4_knows 2 (some .boolean) :: ([.fieldLink RX4 15 "FretSchool$Pupil" "repertoire" "I"] ++ wsX40)
def wsX4_takeIn : List Cond := .code yX4_takeIn cX4_takeIn 3 none :: ([.fieldLink RX4 15 "FretSchool$Pupil" "repertoire" "I", .fieldLink RX4 9 "FretSchool$Pupil" "grade" "I"] ++ wsX40)
def wsX5_init_r1 : List Cond := [Cond.methodLink RX5 3 objectInit, Cond.instanceMethod objectInit, Cond.code objectInit ⟨#[0xb1]⟩ 1 none, Cond.classLink RX5 9 RX3, Cond.fieldLink RX5 11 "FretSchool" "pieces" "[LFretSchool$Piece;", Cond.instantiable RX3 2, Cond.initialized RX3, Cond.classLink RX5 16 RX1, Cond.fieldLink RX5 18 "FretSchool" "builds" "[LFretSchool$Instrument;", Cond.instantiable RX1 3, Cond.initialized RX1, Cond.classLink RX5 23 RX4, Cond.fieldLink RX5 25 "FretSchool" "pupils" "[LFretSchool$Pupil;", Cond.instantiable RX4 2, Cond.initialized RX4, Cond.classLink RX5 30 RX2, Cond.fieldLink RX5 32 "FretSchool" "orders" "[LFretSchool$Order;", Cond.instantiable RX2 4, Cond.initialized RX2, Cond.arrayClass .int, Cond.fieldLink RX5 37 "FretSchool" "stock" "[I", Cond.classLink RX5 41 RX0, Cond.instantiable RX0 5, Cond.initialized RX0]
def wsX5_init_r2 : List Cond := [Cond.fieldLink RX5 44 "FretSchool" "hand" "LFretSchool$Hand;", Cond.fieldLink RX5 48 "FretSchool" "pieceCount" "I", Cond.fieldLink RX5 52 "FretSchool" "buildCount" "I", Cond.fieldLink RX5 55 "FretSchool" "orderCount" "I", Cond.fieldLink RX5 58 "FretSchool" "day" "I", Cond.instanceMethod yX3_init, Cond.code yX3_init cX3_init 1 none, Cond.methodLink RX3 3 objectInit, Cond.fieldLink RX3 9 "FretSchool$Piece" "pitches" "[I", Cond.fieldLink RX3 15 "FretSchool$Piece" "count" "I", Cond.instanceMethod yX1_init, Cond.code yX1_init cX1_init 1 none, Cond.methodLink RX1 3 objectInit, Cond.fieldLink RX1 9 "FretSchool$Instrument" "open" "[I", Cond.fieldLink RX1 15 "FretSchool$Instrument" "keeper" "I", Cond.fieldLink RX1 19 "FretSchool$Instrument" "fretCount" "I", Cond.instanceMethod yX4_init, Cond.code yX4_init cX4_init 1 none, Cond.methodLink RX4 3 objectInit, Cond.fieldLink RX4 9 "FretSchool$Pupil" "grade" "I", Cond.fieldLink RX4 15 "FretSchool$Pupil" "repertoire" "I", Cond.instanceMethod yX2_init, Cond.code yX2_init cX2_init 1 none, Cond.methodLink RX2 3 objectInit]
def wsX5_init_r3 : List Cond := [Cond.fieldLink RX2 9 "FretSchool$Order" "buyer" "I", Cond.fieldLink RX2 15 "FretSchool$Order" "fretCount" "I", Cond.fieldLink RX2 18 "FretSchool$Order" "readyDay" "I", Cond.fieldLink RX2 21 "FretSchool$Order" "isFetched" "Z", Cond.instanceMethod yX0_init, Cond.code yX0_init cX0_init 1 none, Cond.methodLink RX0 3 objectInit, Cond.fieldLink RX0 9 "FretSchool$Hand" "reach" "[I", Cond.classLink RX0 15 "[[I", Cond.fieldLink RX0 17 "FretSchool$Hand" "rest" "[[I", Cond.fieldLink RX0 20 "FretSchool$Hand" "row" "[I", Cond.fieldLink RX0 23 "FretSchool$Hand" "sum" "I", Cond.fieldLink RX0 27 "FretSchool$Hand" "greatest" "I"]
def wsX5_init : List Cond := .code yX5_init cX5_init 2 none :: ((wsX5_init_r1 ++ (wsX5_init_r2 ++ wsX5_init_r3)) ++ wsX50 ++ wsX30 ++ wsX10 ++ wsX40 ++ wsX20 ++ wsX00)
def wsX5_begin : List Cond := .code yX5_begin cX5_begin 2 (some .int) :: ([.classLink RX5 61 "java/lang/IllegalStateException", .initialized "java/lang/IllegalStateException", .fieldLink RX5 48 "FretSchool" "pieceCount" "I"] ++ wsX50 ++ (vx_atS RX5 65 "java/lang/IllegalStateException" ["java/lang/RuntimeException", "java/lang/Exception"]).filter goodWord)
def wsX5_needPiece : List Cond := .code yX5_needPiece cX5_needPiece 2 none :: ([.classLink RX5 209 "java/lang/IndexOutOfBoundsException", .initialized "java/lang/IndexOutOfBoundsException", .fieldLink RX5 48 "FretSchool" "pieceCount" "I"] ++ wsX50 ++ (vx_atS RX5 213 "java/lang/IndexOutOfBoundsException" ["java/lang/RuntimeException", "java/lang/Exception"]).filter goodWord)
def wsX5_needRange : List Cond := .code yX5_needRange cX5_needRange 3 none :: ([.classLink RX5 220 "java/lang/IllegalArgumentException", .initialized "java/lang/IllegalArgumentException"] ++ (vx_atS RX5 224 "java/lang/IllegalArgumentException" ["java/lang/RuntimeException", "java/lang/Exception"]).filter goodWord)
def wsX5_addNote_r1 : List Cond := [Cond.classLink RX5 61 "java/lang/IllegalStateException", Cond.initialized "java/lang/IllegalStateException", Cond.fieldLink RX5 11 "FretSchool" "pieces" "[LFretSchool$Piece;", Cond.fieldLink RX5 85 "FretSchool$Piece" "count" "I", Cond.methodLink RX5 68 yX5_needPiece, Cond.instanceMethod yX5_needPiece, Cond.selects RX5 yX5_needPiece yX5_needPiece, Cond.initialized RX5, Cond.code yX5_needPiece cX5_needPiece 2 none, Cond.classLink RX5 209 "java/lang/IndexOutOfBoundsException", Cond.initialized "java/lang/IndexOutOfBoundsException", Cond.fieldLink RX5 48 "FretSchool" "pieceCount" "I", Cond.methodLink RX5 72 yX5_needRange, Cond.static yX5_needRange, Cond.code yX5_needRange cX5_needRange 3 none, Cond.classLink RX5 220 "java/lang/IllegalArgumentException", Cond.initialized "java/lang/IllegalArgumentException", Cond.methodLink RX5 76 yX3_isFull, Cond.instanceMethod yX3_isFull, Cond.selects RX3 yX3_isFull yX3_isFull, Cond.initialized RX3, Cond.code yX3_isFull cX3_isFull 1 (some .boolean), Cond.fieldLink RX3 15 "FretSchool$Piece" "count" "I", Cond.methodLink RX5 82 yX3_append]
def wsX5_addNote_r2 : List Cond := [Cond.instanceMethod yX3_append, Cond.selects RX3 yX3_append yX3_append, Cond.code yX3_append cX3_append 2 none, Cond.fieldLink RX3 9 "FretSchool$Piece" "pitches" "[I", Cond.methodLink RX3 19 yX3_isFull]
def wsX5_addNote : List Cond := .code yX5_addNote cX5_addNote 4 (some .int) :: ((wsX5_addNote_r1 ++ wsX5_addNote_r2) ++ wsX50 ++ wsX30 ++ (vx_atS RX5 65 "java/lang/IllegalStateException" ["java/lang/RuntimeException", "java/lang/Exception"]).filter goodWord ++ (vx_atS RX5 213 "java/lang/IndexOutOfBoundsException" ["java/lang/RuntimeException", "java/lang/Exception"]).filter goodWord ++ (vx_atS RX5 224 "java/lang/IllegalArgumentException" ["java/lang/RuntimeException", "java/lang/Exception"]).filter goodWord)
def wsX5_transpose_r1 : List Cond := [Cond.classLink RX5 61 "java/lang/IllegalStateException", Cond.initialized "java/lang/IllegalStateException", Cond.fieldLink RX5 11 "FretSchool" "pieces" "[LFretSchool$Piece;", Cond.methodLink RX5 68 yX5_needPiece, Cond.instanceMethod yX5_needPiece, Cond.selects RX5 yX5_needPiece yX5_needPiece, Cond.initialized RX5, Cond.code yX5_needPiece cX5_needPiece 2 none, Cond.classLink RX5 209 "java/lang/IndexOutOfBoundsException", Cond.initialized "java/lang/IndexOutOfBoundsException", Cond.fieldLink RX5 48 "FretSchool" "pieceCount" "I", Cond.methodLink RX5 72 yX5_needRange, Cond.static yX5_needRange, Cond.code yX5_needRange cX5_needRange 3 none, Cond.classLink RX5 220 "java/lang/IllegalArgumentException", Cond.initialized "java/lang/IllegalArgumentException", Cond.methodLink RX5 88 yX3_canMove, Cond.instanceMethod yX3_canMove, Cond.selects RX3 yX3_canMove yX3_canMove, Cond.initialized RX3, Cond.code yX3_canMove cX3_canMove 4 (some .boolean), Cond.fieldLink RX3 15 "FretSchool$Piece" "count" "I", Cond.fieldLink RX3 9 "FretSchool$Piece" "pitches" "[I", Cond.methodLink RX5 94 yX3_move]
def wsX5_transpose_r2 : List Cond := [Cond.instanceMethod yX3_move, Cond.selects RX3 yX3_move yX3_move, Cond.code yX3_move cX3_move 3 none]
def wsX5_transpose : List Cond := .code yX5_transpose cX5_transpose 4 none :: ((wsX5_transpose_r1 ++ wsX5_transpose_r2) ++ wsX50 ++ wsX30 ++ (vx_atS RX5 65 "java/lang/IllegalStateException" ["java/lang/RuntimeException", "java/lang/Exception"]).filter goodWord ++ (vx_atS RX5 213 "java/lang/IndexOutOfBoundsException" ["java/lang/RuntimeException", "java/lang/Exception"]).filter goodWord ++ (vx_atS RX5 224 "java/lang/IllegalArgumentException" ["java/lang/RuntimeException", "java/lang/Exception"]).filter goodWord)
def wsX5_needNote : List Cond := .code yX5_needNote cX5_needNote 3 none :: ([.classLink RX5 209 "java/lang/IndexOutOfBoundsException", .initialized "java/lang/IndexOutOfBoundsException", .fieldLink RX5 11 "FretSchool" "pieces" "[LFretSchool$Piece;", .fieldLink RX5 85 "FretSchool$Piece" "count" "I", .methodLink RX5 68 yX5_needPiece, .instanceMethod yX5_needPiece, .selects RX5 yX5_needPiece yX5_needPiece, .initialized RX5, .code yX5_needPiece cX5_needPiece 2 none, .fieldLink RX5 48 "FretSchool" "pieceCount" "I"] ++ wsX50 ++ wsX30 ++ (vx_atS RX5 213 "java/lang/IndexOutOfBoundsException" ["java/lang/RuntimeException", "java/lang/Exception"]).filter goodWord)
def wsX5_pitch : List Cond := .code yX5_pitch cX5_pitch 3 (some .int) :: ([.fieldLink RX5 11 "FretSchool" "pieces" "[LFretSchool$Piece;", .fieldLink RX5 101 "FretSchool$Piece" "pitches" "[I", .methodLink RX5 97 yX5_needNote, .instanceMethod yX5_needNote, .selects RX5 yX5_needNote yX5_needNote, .initialized RX5, .code yX5_needNote cX5_needNote 3 none, .classLink RX5 209 "java/lang/IndexOutOfBoundsException", .initialized "java/lang/IndexOutOfBoundsException", .fieldLink RX5 85 "FretSchool$Piece" "count" "I", .methodLink RX5 68 yX5_needPiece, .instanceMethod yX5_needPiece, .selects RX5 yX5_needPiece yX5_needPiece, .code yX5_needPiece cX5_needPiece 2 none, .fieldLink RX5 48 "FretSchool" "pieceCount" "I"] ++ wsX50 ++ wsX30 ++ (vx_atS RX5 213 "java/lang/IndexOutOfBoundsException" ["java/lang/RuntimeException", "java/lang/Exception"]).filter goodWord)
def wsX5_needInstrument : List Cond := .code yX5_needInstrument cX5_needInstrument 2 none :: ([.classLink RX5 209 "java/lang/IndexOutOfBoundsException", .initialized "java/lang/IndexOutOfBoundsException", .fieldLink RX5 52 "FretSchool" "buildCount" "I"] ++ wsX50 ++ (vx_atS RX5 213 "java/lang/IndexOutOfBoundsException" ["java/lang/RuntimeException", "java/lang/Exception"]).filter goodWord)
def wsX5_tune : List Cond := .code yX5_tune cX5_tune 6 (some .int) :: ([.fieldLink RX5 18 "FretSchool" "builds" "[LFretSchool$Instrument;", .fieldLink RX5 107 "FretSchool$Instrument" "open" "[I", .methodLink RX5 104 yX5_needInstrument, .instanceMethod yX5_needInstrument, .selects RX5 yX5_needInstrument yX5_needInstrument, .initialized RX5, .code yX5_needInstrument cX5_needInstrument 2 none, .classLink RX5 209 "java/lang/IndexOutOfBoundsException", .initialized "java/lang/IndexOutOfBoundsException", .fieldLink RX5 52 "FretSchool" "buildCount" "I", .methodLink RX5 72 yX5_needRange, .static yX5_needRange, .code yX5_needRange cX5_needRange 3 none, .classLink RX5 220 "java/lang/IllegalArgumentException", .initialized "java/lang/IllegalArgumentException"] ++ wsX50 ++ wsX10 ++ (vx_atS RX5 213 "java/lang/IndexOutOfBoundsException" ["java/lang/RuntimeException", "java/lang/Exception"]).filter goodWord ++ (vx_atS RX5 224 "java/lang/IllegalArgumentException" ["java/lang/RuntimeException", "java/lang/Exception"]).filter goodWord)
def wsX5_owner : List Cond := .code yX5_owner cX5_owner 2 (some .int) :: ([.fieldLink RX5 18 "FretSchool" "builds" "[LFretSchool$Instrument;", .fieldLink RX5 110 "FretSchool$Instrument" "keeper" "I", .methodLink RX5 104 yX5_needInstrument, .instanceMethod yX5_needInstrument, .selects RX5 yX5_needInstrument yX5_needInstrument, .initialized RX5, .code yX5_needInstrument cX5_needInstrument 2 none, .classLink RX5 209 "java/lang/IndexOutOfBoundsException", .initialized "java/lang/IndexOutOfBoundsException", .fieldLink RX5 52 "FretSchool" "buildCount" "I"] ++ wsX50 ++ wsX10 ++ (vx_atS RX5 213 "java/lang/IndexOutOfBoundsException" ["java/lang/RuntimeException", "java/lang/Exception"]).filter goodWord)
def wsX5_instruments : List Cond := .code yX5_instruments cX5_instruments 1 (some .int) :: ([.fieldLink RX5 52 "FretSchool" "buildCount" "I"] ++ wsX50)
def wsX5_findBest_r1 : List Cond := [Cond.fieldLink RX5 44 "FretSchool" "hand" "LFretSchool$Hand;", Cond.fieldLink RX5 11 "FretSchool" "pieces" "[LFretSchool$Piece;", Cond.fieldLink RX5 18 "FretSchool" "builds" "[LFretSchool$Instrument;", Cond.methodLink RX5 68 yX5_needPiece, Cond.instanceMethod yX5_needPiece, Cond.selects RX5 yX5_needPiece yX5_needPiece, Cond.initialized RX5, Cond.code yX5_needPiece cX5_needPiece 2 none, Cond.classLink RX5 209 "java/lang/IndexOutOfBoundsException", Cond.initialized "java/lang/IndexOutOfBoundsException", Cond.fieldLink RX5 48 "FretSchool" "pieceCount" "I", Cond.methodLink RX5 104 yX5_needInstrument, Cond.instanceMethod yX5_needInstrument, Cond.selects RX5 yX5_needInstrument yX5_needInstrument, Cond.code yX5_needInstrument cX5_needInstrument 2 none, Cond.fieldLink RX5 52 "FretSchool" "buildCount" "I", Cond.methodLink RX5 225 yX0_placeBest, Cond.instanceMethod yX0_placeBest, Cond.selects RX0 yX0_placeBest yX0_placeBest, Cond.initialized RX0, Cond.code yX0_placeBest cX0_placeBest 4 (some .boolean), Cond.fieldLink RX0 34 "FretSchool$Piece" "count" "I", Cond.methodLink RX0 30 yX0_feelReach, Cond.instanceMethod yX0_feelReach]
def wsX5_findBest_r2 : List Cond := [Cond.selects RX0 yX0_feelReach yX0_feelReach, Cond.code yX0_feelReach cX0_feelReach 6 none, Cond.fieldLink RX0 9 "FretSchool$Hand" "reach" "[I", Cond.fieldLink RX0 58 "FretSchool$Piece" "pitches" "[I", Cond.methodLink RX0 52 yX1_highestPosition, Cond.instanceMethod yX1_highestPosition, Cond.selects RX1 yX1_highestPosition yX1_highestPosition, Cond.initialized RX1, Cond.code yX1_highestPosition cX1_highestPosition 1 (some .int), Cond.fieldLink RX1 19 "FretSchool$Instrument" "fretCount" "I", Cond.methodLink RX0 61 yX1_lowestString, Cond.instanceMethod yX1_lowestString, Cond.selects RX1 yX1_lowestString yX1_lowestString, Cond.code yX1_lowestString cX1_lowestString 5 (some .int), Cond.fieldLink RX1 9 "FretSchool$Instrument" "open" "[I", Cond.methodLink RX0 39 yX0_measureRest, Cond.instanceMethod yX0_measureRest, Cond.selects RX0 yX0_measureRest yX0_measureRest, Cond.code yX0_measureRest cX0_measureRest 5 none, Cond.fieldLink RX0 17 "FretSchool$Hand" "rest" "[[I", Cond.constant RX0 51 (1000000), Cond.methodLink RX0 65 yX0_nearest, Cond.instanceMethod yX0_nearest, Cond.selects RX0 yX0_nearest yX0_nearest]
def wsX5_findBest_r3 : List Cond := [Cond.code yX0_nearest cX0_nearest 7 (some .int), Cond.methodLink RX0 72 yX0_shift, Cond.static yX0_shift, Cond.code yX0_shift cX0_shift 2 (some .int), Cond.methodLink RX0 75 Lib.Math.abs.name, Cond.static Lib.Math.abs.name, Cond.initialized "java/lang/Math", Cond.code Lib.Math.abs.name Lib.Math.abs.code 1 (some .int), Cond.methodLink RX0 68 yX0_canReach, Cond.static yX0_canReach, Cond.code yX0_canReach cX0_canReach 2 (some .boolean), Cond.methodLink RX0 43 yX0_chooseRow, Cond.instanceMethod yX0_chooseRow, Cond.selects RX0 yX0_chooseRow yX0_chooseRow, Cond.code yX0_chooseRow cX0_chooseRow 6 (some .boolean), Cond.fieldLink RX0 23 "FretSchool$Hand" "sum" "I", Cond.fieldLink RX0 27 "FretSchool$Hand" "greatest" "I", Cond.fieldLink RX0 20 "FretSchool$Hand" "row" "[I"]
def wsX5_findBest : List Cond := .code yX5_findBest cX5_findBest 3 (some .boolean) :: ((wsX5_findBest_r1 ++ (wsX5_findBest_r2 ++ wsX5_findBest_r3)) ++ wsX50 ++ wsX30 ++ wsX00 ++ wsX10 ++ (vx_atS RX5 213 "java/lang/IndexOutOfBoundsException" ["java/lang/RuntimeException", "java/lang/Exception"]).filter goodWord)
def wsX5_shifts_r1 : List Cond := [Cond.fieldLink RX5 44 "FretSchool" "hand" "LFretSchool$Hand;", Cond.fieldLink RX5 117 "FretSchool$Hand" "sum" "I", Cond.methodLink RX5 113 yX5_findBest, Cond.instanceMethod yX5_findBest, Cond.selects RX5 yX5_findBest yX5_findBest, Cond.initialized RX5, Cond.code yX5_findBest cX5_findBest 3 (some .boolean), Cond.fieldLink RX5 11 "FretSchool" "pieces" "[LFretSchool$Piece;", Cond.fieldLink RX5 18 "FretSchool" "builds" "[LFretSchool$Instrument;", Cond.methodLink RX5 68 yX5_needPiece, Cond.instanceMethod yX5_needPiece, Cond.selects RX5 yX5_needPiece yX5_needPiece, Cond.code yX5_needPiece cX5_needPiece 2 none, Cond.classLink RX5 209 "java/lang/IndexOutOfBoundsException", Cond.initialized "java/lang/IndexOutOfBoundsException", Cond.fieldLink RX5 48 "FretSchool" "pieceCount" "I", Cond.methodLink RX5 104 yX5_needInstrument, Cond.instanceMethod yX5_needInstrument, Cond.selects RX5 yX5_needInstrument yX5_needInstrument, Cond.code yX5_needInstrument cX5_needInstrument 2 none, Cond.fieldLink RX5 52 "FretSchool" "buildCount" "I", Cond.methodLink RX5 225 yX0_placeBest, Cond.instanceMethod yX0_placeBest, Cond.selects RX0 yX0_placeBest yX0_placeBest]
def wsX5_shifts_r2 : List Cond := [Cond.initialized RX0, Cond.code yX0_placeBest cX0_placeBest 4 (some .boolean), Cond.fieldLink RX0 34 "FretSchool$Piece" "count" "I", Cond.methodLink RX0 30 yX0_feelReach, Cond.instanceMethod yX0_feelReach, Cond.selects RX0 yX0_feelReach yX0_feelReach, Cond.code yX0_feelReach cX0_feelReach 6 none, Cond.fieldLink RX0 9 "FretSchool$Hand" "reach" "[I", Cond.fieldLink RX0 58 "FretSchool$Piece" "pitches" "[I", Cond.methodLink RX0 52 yX1_highestPosition, Cond.instanceMethod yX1_highestPosition, Cond.selects RX1 yX1_highestPosition yX1_highestPosition, Cond.initialized RX1, Cond.code yX1_highestPosition cX1_highestPosition 1 (some .int), Cond.fieldLink RX1 19 "FretSchool$Instrument" "fretCount" "I", Cond.methodLink RX0 61 yX1_lowestString, Cond.instanceMethod yX1_lowestString, Cond.selects RX1 yX1_lowestString yX1_lowestString, Cond.code yX1_lowestString cX1_lowestString 5 (some .int), Cond.fieldLink RX1 9 "FretSchool$Instrument" "open" "[I", Cond.methodLink RX0 39 yX0_measureRest, Cond.instanceMethod yX0_measureRest, Cond.selects RX0 yX0_measureRest yX0_measureRest, Cond.code yX0_measureRest cX0_measureRest 5 none]
def wsX5_shifts_r3 : List Cond := [Cond.fieldLink RX0 17 "FretSchool$Hand" "rest" "[[I", Cond.constant RX0 51 (1000000), Cond.methodLink RX0 65 yX0_nearest, Cond.instanceMethod yX0_nearest, Cond.selects RX0 yX0_nearest yX0_nearest, Cond.code yX0_nearest cX0_nearest 7 (some .int), Cond.methodLink RX0 72 yX0_shift, Cond.static yX0_shift, Cond.code yX0_shift cX0_shift 2 (some .int), Cond.methodLink RX0 75 Lib.Math.abs.name, Cond.static Lib.Math.abs.name, Cond.initialized "java/lang/Math", Cond.code Lib.Math.abs.name Lib.Math.abs.code 1 (some .int), Cond.methodLink RX0 68 yX0_canReach, Cond.static yX0_canReach, Cond.code yX0_canReach cX0_canReach 2 (some .boolean), Cond.methodLink RX0 43 yX0_chooseRow, Cond.instanceMethod yX0_chooseRow, Cond.selects RX0 yX0_chooseRow yX0_chooseRow, Cond.code yX0_chooseRow cX0_chooseRow 6 (some .boolean), Cond.fieldLink RX0 23 "FretSchool$Hand" "sum" "I", Cond.fieldLink RX0 27 "FretSchool$Hand" "greatest" "I", Cond.fieldLink RX0 20 "FretSchool$Hand" "row" "[I"]
def wsX5_shifts : List Cond := .code yX5_shifts cX5_shifts 3 (some .int) :: ((wsX5_shifts_r1 ++ (wsX5_shifts_r2 ++ wsX5_shifts_r3)) ++ wsX50 ++ wsX00 ++ wsX30 ++ wsX10 ++ (vx_atS RX5 213 "java/lang/IndexOutOfBoundsException" ["java/lang/RuntimeException", "java/lang/Exception"]).filter goodWord)
def wsX5_shiftsByAll_r1 : List Cond := [Cond.classLink RX5 61 "java/lang/IllegalStateException", Cond.initialized "java/lang/IllegalStateException", Cond.fieldLink RX5 11 "FretSchool" "pieces" "[LFretSchool$Piece;", Cond.fieldLink RX5 85 "FretSchool$Piece" "count" "I", Cond.fieldLink RX5 44 "FretSchool" "hand" "LFretSchool$Hand;", Cond.fieldLink RX5 18 "FretSchool" "builds" "[LFretSchool$Instrument;", Cond.methodLink RX5 68 yX5_needPiece, Cond.instanceMethod yX5_needPiece, Cond.selects RX5 yX5_needPiece yX5_needPiece, Cond.initialized RX5, Cond.code yX5_needPiece cX5_needPiece 2 none, Cond.classLink RX5 209 "java/lang/IndexOutOfBoundsException", Cond.initialized "java/lang/IndexOutOfBoundsException", Cond.fieldLink RX5 48 "FretSchool" "pieceCount" "I", Cond.methodLink RX5 104 yX5_needInstrument, Cond.instanceMethod yX5_needInstrument, Cond.selects RX5 yX5_needInstrument yX5_needInstrument, Cond.code yX5_needInstrument cX5_needInstrument 2 none, Cond.fieldLink RX5 52 "FretSchool" "buildCount" "I", Cond.methodLink RX5 122 yX0_leastByAll, Cond.instanceMethod yX0_leastByAll, Cond.selects RX0 yX0_leastByAll yX0_leastByAll, Cond.initialized RX0, Cond.code yX0_leastByAll cX0_leastByAll 4 (some .int)]
def wsX5_shiftsByAll_r2 : List Cond := [Cond.fieldLink RX0 34 "FretSchool$Piece" "count" "I", Cond.fieldLink RX0 9 "FretSchool$Hand" "reach" "[I", Cond.constant RX0 51 (1000000), Cond.methodLink RX0 30 yX0_feelReach, Cond.instanceMethod yX0_feelReach, Cond.selects RX0 yX0_feelReach yX0_feelReach, Cond.code yX0_feelReach cX0_feelReach 6 none, Cond.fieldLink RX0 58 "FretSchool$Piece" "pitches" "[I", Cond.methodLink RX0 52 yX1_highestPosition, Cond.instanceMethod yX1_highestPosition, Cond.selects RX1 yX1_highestPosition yX1_highestPosition, Cond.initialized RX1, Cond.code yX1_highestPosition cX1_highestPosition 1 (some .int), Cond.fieldLink RX1 19 "FretSchool$Instrument" "fretCount" "I", Cond.methodLink RX0 61 yX1_lowestString, Cond.instanceMethod yX1_lowestString, Cond.selects RX1 yX1_lowestString yX1_lowestString, Cond.code yX1_lowestString cX1_lowestString 5 (some .int), Cond.fieldLink RX1 9 "FretSchool$Instrument" "open" "[I", Cond.methodLink RX0 47 yX0_leastFrom, Cond.static yX0_leastFrom, Cond.code yX0_leastFrom cX0_leastFrom 7 (some .int), Cond.methodLink RX0 68 yX0_canReach, Cond.static yX0_canReach]
def wsX5_shiftsByAll_r3 : List Cond := [Cond.code yX0_canReach cX0_canReach 2 (some .boolean), Cond.methodLink RX0 72 yX0_shift, Cond.static yX0_shift, Cond.code yX0_shift cX0_shift 2 (some .int), Cond.methodLink RX0 75 Lib.Math.abs.name, Cond.static Lib.Math.abs.name, Cond.initialized "java/lang/Math", Cond.code Lib.Math.abs.name Lib.Math.abs.code 1 (some .int)]
def wsX5_shiftsByAll : List Cond := .code yX5_shiftsByAll cX5_shiftsByAll 3 (some .int) :: ((wsX5_shiftsByAll_r1 ++ (wsX5_shiftsByAll_r2 ++ wsX5_shiftsByAll_r3)) ++ wsX50 ++ wsX30 ++ wsX00 ++ wsX10 ++ (vx_atS RX5 65 "java/lang/IllegalStateException" ["java/lang/RuntimeException", "java/lang/Exception"]).filter goodWord ++ (vx_atS RX5 213 "java/lang/IndexOutOfBoundsException" ["java/lang/RuntimeException", "java/lang/Exception"]).filter goodWord)
def wsX5_hardest_r1 : List Cond := [Cond.fieldLink RX5 44 "FretSchool" "hand" "LFretSchool$Hand;", Cond.fieldLink RX5 126 "FretSchool$Hand" "greatest" "I", Cond.methodLink RX5 113 yX5_findBest, Cond.instanceMethod yX5_findBest, Cond.selects RX5 yX5_findBest yX5_findBest, Cond.initialized RX5, Cond.code yX5_findBest cX5_findBest 3 (some .boolean), Cond.fieldLink RX5 11 "FretSchool" "pieces" "[LFretSchool$Piece;", Cond.fieldLink RX5 18 "FretSchool" "builds" "[LFretSchool$Instrument;", Cond.methodLink RX5 68 yX5_needPiece, Cond.instanceMethod yX5_needPiece, Cond.selects RX5 yX5_needPiece yX5_needPiece, Cond.code yX5_needPiece cX5_needPiece 2 none, Cond.classLink RX5 209 "java/lang/IndexOutOfBoundsException", Cond.initialized "java/lang/IndexOutOfBoundsException", Cond.fieldLink RX5 48 "FretSchool" "pieceCount" "I", Cond.methodLink RX5 104 yX5_needInstrument, Cond.instanceMethod yX5_needInstrument, Cond.selects RX5 yX5_needInstrument yX5_needInstrument, Cond.code yX5_needInstrument cX5_needInstrument 2 none, Cond.fieldLink RX5 52 "FretSchool" "buildCount" "I", Cond.methodLink RX5 225 yX0_placeBest, Cond.instanceMethod yX0_placeBest, Cond.selects RX0 yX0_placeBest yX0_placeBest]
def wsX5_hardest_r2 : List Cond := [Cond.initialized RX0, Cond.code yX0_placeBest cX0_placeBest 4 (some .boolean), Cond.fieldLink RX0 34 "FretSchool$Piece" "count" "I", Cond.methodLink RX0 30 yX0_feelReach, Cond.instanceMethod yX0_feelReach, Cond.selects RX0 yX0_feelReach yX0_feelReach, Cond.code yX0_feelReach cX0_feelReach 6 none, Cond.fieldLink RX0 9 "FretSchool$Hand" "reach" "[I", Cond.fieldLink RX0 58 "FretSchool$Piece" "pitches" "[I", Cond.methodLink RX0 52 yX1_highestPosition, Cond.instanceMethod yX1_highestPosition, Cond.selects RX1 yX1_highestPosition yX1_highestPosition, Cond.initialized RX1, Cond.code yX1_highestPosition cX1_highestPosition 1 (some .int), Cond.fieldLink RX1 19 "FretSchool$Instrument" "fretCount" "I", Cond.methodLink RX0 61 yX1_lowestString, Cond.instanceMethod yX1_lowestString, Cond.selects RX1 yX1_lowestString yX1_lowestString, Cond.code yX1_lowestString cX1_lowestString 5 (some .int), Cond.fieldLink RX1 9 "FretSchool$Instrument" "open" "[I", Cond.methodLink RX0 39 yX0_measureRest, Cond.instanceMethod yX0_measureRest, Cond.selects RX0 yX0_measureRest yX0_measureRest, Cond.code yX0_measureRest cX0_measureRest 5 none]
def wsX5_hardest_r3 : List Cond := [Cond.fieldLink RX0 17 "FretSchool$Hand" "rest" "[[I", Cond.constant RX0 51 (1000000), Cond.methodLink RX0 65 yX0_nearest, Cond.instanceMethod yX0_nearest, Cond.selects RX0 yX0_nearest yX0_nearest, Cond.code yX0_nearest cX0_nearest 7 (some .int), Cond.methodLink RX0 72 yX0_shift, Cond.static yX0_shift, Cond.code yX0_shift cX0_shift 2 (some .int), Cond.methodLink RX0 75 Lib.Math.abs.name, Cond.static Lib.Math.abs.name, Cond.initialized "java/lang/Math", Cond.code Lib.Math.abs.name Lib.Math.abs.code 1 (some .int), Cond.methodLink RX0 68 yX0_canReach, Cond.static yX0_canReach, Cond.code yX0_canReach cX0_canReach 2 (some .boolean), Cond.methodLink RX0 43 yX0_chooseRow, Cond.instanceMethod yX0_chooseRow, Cond.selects RX0 yX0_chooseRow yX0_chooseRow, Cond.code yX0_chooseRow cX0_chooseRow 6 (some .boolean), Cond.fieldLink RX0 23 "FretSchool$Hand" "sum" "I", Cond.fieldLink RX0 27 "FretSchool$Hand" "greatest" "I", Cond.fieldLink RX0 20 "FretSchool$Hand" "row" "[I"]
def wsX5_hardest : List Cond := .code yX5_hardest cX5_hardest 3 (some .int) :: ((wsX5_hardest_r1 ++ (wsX5_hardest_r2 ++ wsX5_hardest_r3)) ++ wsX50 ++ wsX00 ++ wsX30 ++ wsX10 ++ (vx_atS RX5 213 "java/lang/IndexOutOfBoundsException" ["java/lang/RuntimeException", "java/lang/Exception"]).filter goodWord)
def wsX5_position_r1 : List Cond := [Cond.fieldLink RX5 44 "FretSchool" "hand" "LFretSchool$Hand;", Cond.fieldLink RX5 129 "FretSchool$Hand" "row" "[I", Cond.methodLink RX5 97 yX5_needNote, Cond.instanceMethod yX5_needNote, Cond.selects RX5 yX5_needNote yX5_needNote, Cond.initialized RX5, Cond.code yX5_needNote cX5_needNote 3 none, Cond.classLink RX5 209 "java/lang/IndexOutOfBoundsException", Cond.initialized "java/lang/IndexOutOfBoundsException", Cond.fieldLink RX5 11 "FretSchool" "pieces" "[LFretSchool$Piece;", Cond.fieldLink RX5 85 "FretSchool$Piece" "count" "I", Cond.methodLink RX5 68 yX5_needPiece, Cond.instanceMethod yX5_needPiece, Cond.selects RX5 yX5_needPiece yX5_needPiece, Cond.code yX5_needPiece cX5_needPiece 2 none, Cond.fieldLink RX5 48 "FretSchool" "pieceCount" "I", Cond.methodLink RX5 113 yX5_findBest, Cond.instanceMethod yX5_findBest, Cond.selects RX5 yX5_findBest yX5_findBest, Cond.code yX5_findBest cX5_findBest 3 (some .boolean), Cond.fieldLink RX5 18 "FretSchool" "builds" "[LFretSchool$Instrument;", Cond.methodLink RX5 104 yX5_needInstrument, Cond.instanceMethod yX5_needInstrument, Cond.selects RX5 yX5_needInstrument yX5_needInstrument]
def wsX5_position_r2 : List Cond := [Cond.code yX5_needInstrument cX5_needInstrument 2 none, Cond.fieldLink RX5 52 "FretSchool" "buildCount" "I", Cond.methodLink RX5 225 yX0_placeBest, Cond.instanceMethod yX0_placeBest, Cond.selects RX0 yX0_placeBest yX0_placeBest, Cond.initialized RX0, Cond.code yX0_placeBest cX0_placeBest 4 (some .boolean), Cond.fieldLink RX0 34 "FretSchool$Piece" "count" "I", Cond.methodLink RX0 30 yX0_feelReach, Cond.instanceMethod yX0_feelReach, Cond.selects RX0 yX0_feelReach yX0_feelReach, Cond.code yX0_feelReach cX0_feelReach 6 none, Cond.fieldLink RX0 9 "FretSchool$Hand" "reach" "[I", Cond.fieldLink RX0 58 "FretSchool$Piece" "pitches" "[I", Cond.methodLink RX0 52 yX1_highestPosition, Cond.instanceMethod yX1_highestPosition, Cond.selects RX1 yX1_highestPosition yX1_highestPosition, Cond.initialized RX1, Cond.code yX1_highestPosition cX1_highestPosition 1 (some .int), Cond.fieldLink RX1 19 "FretSchool$Instrument" "fretCount" "I", Cond.methodLink RX0 61 yX1_lowestString, Cond.instanceMethod yX1_lowestString, Cond.selects RX1 yX1_lowestString yX1_lowestString, Cond.code yX1_lowestString cX1_lowestString 5 (some .int)]
def wsX5_position_r3 : List Cond := [Cond.fieldLink RX1 9 "FretSchool$Instrument" "open" "[I", Cond.methodLink RX0 39 yX0_measureRest, Cond.instanceMethod yX0_measureRest, Cond.selects RX0 yX0_measureRest yX0_measureRest, Cond.code yX0_measureRest cX0_measureRest 5 none, Cond.fieldLink RX0 17 "FretSchool$Hand" "rest" "[[I", Cond.constant RX0 51 (1000000), Cond.methodLink RX0 65 yX0_nearest, Cond.instanceMethod yX0_nearest, Cond.selects RX0 yX0_nearest yX0_nearest, Cond.code yX0_nearest cX0_nearest 7 (some .int), Cond.methodLink RX0 72 yX0_shift, Cond.static yX0_shift, Cond.code yX0_shift cX0_shift 2 (some .int), Cond.methodLink RX0 75 Lib.Math.abs.name, Cond.static Lib.Math.abs.name, Cond.initialized "java/lang/Math", Cond.code Lib.Math.abs.name Lib.Math.abs.code 1 (some .int), Cond.methodLink RX0 68 yX0_canReach, Cond.static yX0_canReach, Cond.code yX0_canReach cX0_canReach 2 (some .boolean), Cond.methodLink RX0 43 yX0_chooseRow, Cond.instanceMethod yX0_chooseRow, Cond.selects RX0 yX0_chooseRow yX0_chooseRow]
def wsX5_position_r4 : List Cond := [Cond.code yX0_chooseRow cX0_chooseRow 6 (some .boolean), Cond.fieldLink RX0 23 "FretSchool$Hand" "sum" "I", Cond.fieldLink RX0 27 "FretSchool$Hand" "greatest" "I", Cond.fieldLink RX0 20 "FretSchool$Hand" "row" "[I"]
def wsX5_position : List Cond := .code yX5_position cX5_position 4 (some .int) :: ((wsX5_position_r1 ++ (wsX5_position_r2 ++ (wsX5_position_r3 ++ wsX5_position_r4))) ++ wsX50 ++ wsX00 ++ wsX30 ++ wsX10 ++ (vx_atS RX5 213 "java/lang/IndexOutOfBoundsException" ["java/lang/RuntimeException", "java/lang/Exception"]).filter goodWord)
def wsX5_string_r1 : List Cond := [Cond.fieldLink RX5 18 "FretSchool" "builds" "[LFretSchool$Instrument;", Cond.fieldLink RX5 11 "FretSchool" "pieces" "[LFretSchool$Piece;", Cond.fieldLink RX5 101 "FretSchool$Piece" "pitches" "[I", Cond.fieldLink RX5 44 "FretSchool" "hand" "LFretSchool$Hand;", Cond.fieldLink RX5 129 "FretSchool$Hand" "row" "[I", Cond.methodLink RX5 97 yX5_needNote, Cond.instanceMethod yX5_needNote, Cond.selects RX5 yX5_needNote yX5_needNote, Cond.initialized RX5, Cond.code yX5_needNote cX5_needNote 3 none, Cond.classLink RX5 209 "java/lang/IndexOutOfBoundsException", Cond.initialized "java/lang/IndexOutOfBoundsException", Cond.fieldLink RX5 85 "FretSchool$Piece" "count" "I", Cond.methodLink RX5 68 yX5_needPiece, Cond.instanceMethod yX5_needPiece, Cond.selects RX5 yX5_needPiece yX5_needPiece, Cond.code yX5_needPiece cX5_needPiece 2 none, Cond.fieldLink RX5 48 "FretSchool" "pieceCount" "I", Cond.methodLink RX5 113 yX5_findBest, Cond.instanceMethod yX5_findBest, Cond.selects RX5 yX5_findBest yX5_findBest, Cond.code yX5_findBest cX5_findBest 3 (some .boolean), Cond.methodLink RX5 104 yX5_needInstrument, Cond.instanceMethod yX5_needInstrument]
def wsX5_string_r2 : List Cond := [Cond.selects RX5 yX5_needInstrument yX5_needInstrument, Cond.code yX5_needInstrument cX5_needInstrument 2 none, Cond.fieldLink RX5 52 "FretSchool" "buildCount" "I", Cond.methodLink RX5 225 yX0_placeBest, Cond.instanceMethod yX0_placeBest, Cond.selects RX0 yX0_placeBest yX0_placeBest, Cond.initialized RX0, Cond.code yX0_placeBest cX0_placeBest 4 (some .boolean), Cond.fieldLink RX0 34 "FretSchool$Piece" "count" "I", Cond.methodLink RX0 30 yX0_feelReach, Cond.instanceMethod yX0_feelReach, Cond.selects RX0 yX0_feelReach yX0_feelReach, Cond.code yX0_feelReach cX0_feelReach 6 none, Cond.fieldLink RX0 9 "FretSchool$Hand" "reach" "[I", Cond.fieldLink RX0 58 "FretSchool$Piece" "pitches" "[I", Cond.methodLink RX0 52 yX1_highestPosition, Cond.instanceMethod yX1_highestPosition, Cond.selects RX1 yX1_highestPosition yX1_highestPosition, Cond.initialized RX1, Cond.code yX1_highestPosition cX1_highestPosition 1 (some .int), Cond.fieldLink RX1 19 "FretSchool$Instrument" "fretCount" "I", Cond.methodLink RX0 61 yX1_lowestString, Cond.instanceMethod yX1_lowestString, Cond.selects RX1 yX1_lowestString yX1_lowestString]
def wsX5_string_r3 : List Cond := [Cond.code yX1_lowestString cX1_lowestString 5 (some .int), Cond.fieldLink RX1 9 "FretSchool$Instrument" "open" "[I", Cond.methodLink RX0 39 yX0_measureRest, Cond.instanceMethod yX0_measureRest, Cond.selects RX0 yX0_measureRest yX0_measureRest, Cond.code yX0_measureRest cX0_measureRest 5 none, Cond.fieldLink RX0 17 "FretSchool$Hand" "rest" "[[I", Cond.constant RX0 51 (1000000), Cond.methodLink RX0 65 yX0_nearest, Cond.instanceMethod yX0_nearest, Cond.selects RX0 yX0_nearest yX0_nearest, Cond.code yX0_nearest cX0_nearest 7 (some .int), Cond.methodLink RX0 72 yX0_shift, Cond.static yX0_shift, Cond.code yX0_shift cX0_shift 2 (some .int), Cond.methodLink RX0 75 Lib.Math.abs.name, Cond.static Lib.Math.abs.name, Cond.initialized "java/lang/Math", Cond.code Lib.Math.abs.name Lib.Math.abs.code 1 (some .int), Cond.methodLink RX0 68 yX0_canReach, Cond.static yX0_canReach, Cond.code yX0_canReach cX0_canReach 2 (some .boolean), Cond.methodLink RX0 43 yX0_chooseRow, Cond.instanceMethod yX0_chooseRow]
def wsX5_string_r4 : List Cond := [Cond.selects RX0 yX0_chooseRow yX0_chooseRow, Cond.code yX0_chooseRow cX0_chooseRow 6 (some .boolean), Cond.fieldLink RX0 23 "FretSchool$Hand" "sum" "I", Cond.fieldLink RX0 27 "FretSchool$Hand" "greatest" "I", Cond.fieldLink RX0 20 "FretSchool$Hand" "row" "[I", Cond.methodLink RX5 132 yX1_lowestString]
def wsX5_string : List Cond := .code yX5_string cX5_string 4 (some .int) :: ((wsX5_string_r1 ++ (wsX5_string_r2 ++ (wsX5_string_r3 ++ wsX5_string_r4))) ++ wsX50 ++ wsX30 ++ wsX00 ++ wsX10 ++ (vx_atS RX5 213 "java/lang/IndexOutOfBoundsException" ["java/lang/RuntimeException", "java/lang/Exception"]).filter goodWord)
def wsX5_needPupil : List Cond := .code yX5_needPupil cX5_needPupil 1 none :: ([.methodLink RX5 72 yX5_needRange, .static yX5_needRange, .initialized RX5, .code yX5_needRange cX5_needRange 3 none, .classLink RX5 220 "java/lang/IllegalArgumentException", .initialized "java/lang/IllegalArgumentException"] ++ (vx_atS RX5 224 "java/lang/IllegalArgumentException" ["java/lang/RuntimeException", "java/lang/Exception"]).filter goodWord)
def wsX5_learnableShift_r1 : List Cond := [Cond.fieldLink RX5 18 "FretSchool" "builds" "[LFretSchool$Instrument;", Cond.fieldLink RX5 110 "FretSchool$Instrument" "keeper" "I", Cond.fieldLink RX5 44 "FretSchool" "hand" "LFretSchool$Hand;", Cond.fieldLink RX5 126 "FretSchool$Hand" "greatest" "I", Cond.fieldLink RX5 25 "FretSchool" "pupils" "[LFretSchool$Pupil;", Cond.fieldLink RX5 153 "FretSchool$Pupil" "grade" "I", Cond.methodLink RX5 113 yX5_findBest, Cond.instanceMethod yX5_findBest, Cond.selects RX5 yX5_findBest yX5_findBest, Cond.initialized RX5, Cond.code yX5_findBest cX5_findBest 3 (some .boolean), Cond.fieldLink RX5 11 "FretSchool" "pieces" "[LFretSchool$Piece;", Cond.methodLink RX5 68 yX5_needPiece, Cond.instanceMethod yX5_needPiece, Cond.selects RX5 yX5_needPiece yX5_needPiece, Cond.code yX5_needPiece cX5_needPiece 2 none, Cond.classLink RX5 209 "java/lang/IndexOutOfBoundsException", Cond.initialized "java/lang/IndexOutOfBoundsException", Cond.fieldLink RX5 48 "FretSchool" "pieceCount" "I", Cond.methodLink RX5 104 yX5_needInstrument, Cond.instanceMethod yX5_needInstrument, Cond.selects RX5 yX5_needInstrument yX5_needInstrument, Cond.code yX5_needInstrument cX5_needInstrument 2 none, Cond.fieldLink RX5 52 "FretSchool" "buildCount" "I"]
def wsX5_learnableShift_r2 : List Cond := [Cond.methodLink RX5 225 yX0_placeBest, Cond.instanceMethod yX0_placeBest, Cond.selects RX0 yX0_placeBest yX0_placeBest, Cond.initialized RX0, Cond.code yX0_placeBest cX0_placeBest 4 (some .boolean), Cond.fieldLink RX0 34 "FretSchool$Piece" "count" "I", Cond.methodLink RX0 30 yX0_feelReach, Cond.instanceMethod yX0_feelReach, Cond.selects RX0 yX0_feelReach yX0_feelReach, Cond.code yX0_feelReach cX0_feelReach 6 none, Cond.fieldLink RX0 9 "FretSchool$Hand" "reach" "[I", Cond.fieldLink RX0 58 "FretSchool$Piece" "pitches" "[I", Cond.methodLink RX0 52 yX1_highestPosition, Cond.instanceMethod yX1_highestPosition, Cond.selects RX1 yX1_highestPosition yX1_highestPosition, Cond.initialized RX1, Cond.code yX1_highestPosition cX1_highestPosition 1 (some .int), Cond.fieldLink RX1 19 "FretSchool$Instrument" "fretCount" "I", Cond.methodLink RX0 61 yX1_lowestString, Cond.instanceMethod yX1_lowestString, Cond.selects RX1 yX1_lowestString yX1_lowestString, Cond.code yX1_lowestString cX1_lowestString 5 (some .int), Cond.fieldLink RX1 9 "FretSchool$Instrument" "open" "[I", Cond.methodLink RX0 39 yX0_measureRest]
def wsX5_learnableShift_r3 : List Cond := [Cond.instanceMethod yX0_measureRest, Cond.selects RX0 yX0_measureRest yX0_measureRest, Cond.code yX0_measureRest cX0_measureRest 5 none, Cond.fieldLink RX0 17 "FretSchool$Hand" "rest" "[[I", Cond.constant RX0 51 (1000000), Cond.methodLink RX0 65 yX0_nearest, Cond.instanceMethod yX0_nearest, Cond.selects RX0 yX0_nearest yX0_nearest, Cond.code yX0_nearest cX0_nearest 7 (some .int), Cond.methodLink RX0 72 yX0_shift, Cond.static yX0_shift, Cond.code yX0_shift cX0_shift 2 (some .int), Cond.methodLink RX0 75 Lib.Math.abs.name, Cond.static Lib.Math.abs.name, Cond.initialized "java/lang/Math", Cond.code Lib.Math.abs.name Lib.Math.abs.code 1 (some .int), Cond.methodLink RX0 68 yX0_canReach, Cond.static yX0_canReach, Cond.code yX0_canReach cX0_canReach 2 (some .boolean), Cond.methodLink RX0 43 yX0_chooseRow, Cond.instanceMethod yX0_chooseRow, Cond.selects RX0 yX0_chooseRow yX0_chooseRow, Cond.code yX0_chooseRow cX0_chooseRow 6 (some .boolean), Cond.fieldLink RX0 23 "FretSchool$Hand" "sum" "I"]
def wsX5_learnableShift_r4 : List Cond := [Cond.fieldLink RX0 27 "FretSchool$Hand" "greatest" "I", Cond.fieldLink RX0 20 "FretSchool$Hand" "row" "[I"]
def wsX5_learnableShift : List Cond := .code yX5_learnableShift cX5_learnableShift 4 (some .int) :: ((wsX5_learnableShift_r1 ++ (wsX5_learnableShift_r2 ++ (wsX5_learnableShift_r3 ++ wsX5_learnableShift_r4))) ++ wsX50 ++ wsX10 ++ wsX00 ++ wsX40 ++ wsX30 ++ (vx_atS RX5 213 "java/lang/IndexOutOfBoundsException" ["java/lang/RuntimeException", "java/lang/Exception"]).filter goodWord)
def wsX5_learn_r1 : List Cond := [Cond.classLink RX5 61 "java/lang/IllegalStateException", Cond.initialized "java/lang/IllegalStateException", Cond.fieldLink RX5 25 "FretSchool" "pupils" "[LFretSchool$Pupil;", Cond.fieldLink RX5 153 "FretSchool$Pupil" "grade" "I", Cond.methodLink RX5 68 yX5_needPiece, Cond.instanceMethod yX5_needPiece, Cond.selects RX5 yX5_needPiece yX5_needPiece, Cond.initialized RX5, Cond.code yX5_needPiece cX5_needPiece 2 none, Cond.classLink RX5 209 "java/lang/IndexOutOfBoundsException", Cond.initialized "java/lang/IndexOutOfBoundsException", Cond.fieldLink RX5 48 "FretSchool" "pieceCount" "I", Cond.methodLink RX5 104 yX5_needInstrument, Cond.instanceMethod yX5_needInstrument, Cond.selects RX5 yX5_needInstrument yX5_needInstrument, Cond.code yX5_needInstrument cX5_needInstrument 2 none, Cond.fieldLink RX5 52 "FretSchool" "buildCount" "I", Cond.methodLink RX5 136 yX5_needPupil, Cond.static yX5_needPupil, Cond.code yX5_needPupil cX5_needPupil 1 none, Cond.methodLink RX5 72 yX5_needRange, Cond.static yX5_needRange, Cond.code yX5_needRange cX5_needRange 3 none, Cond.classLink RX5 220 "java/lang/IllegalArgumentException"]
def wsX5_learn_r2 : List Cond := [Cond.initialized "java/lang/IllegalArgumentException", Cond.methodLink RX5 139 yX4_knows, Cond.instanceMethod yX4_knows, Cond.selects RX4 yX4_knows yX4_knows, Cond.initialized RX4, Cond.code yX4_knows cX4_knows 2 (some .boolean), Cond.fieldLink RX4 15 "FretSchool$Pupil" "repertoire" "I", Cond.methodLink RX5 144 yX5_learnableShift, Cond.instanceMethod yX5_learnableShift, Cond.selects RX5 yX5_learnableShift yX5_learnableShift, Cond.code yX5_learnableShift cX5_learnableShift 4 (some .int), Cond.fieldLink RX5 18 "FretSchool" "builds" "[LFretSchool$Instrument;", Cond.fieldLink RX5 110 "FretSchool$Instrument" "keeper" "I", Cond.fieldLink RX5 44 "FretSchool" "hand" "LFretSchool$Hand;", Cond.fieldLink RX5 126 "FretSchool$Hand" "greatest" "I", Cond.methodLink RX5 113 yX5_findBest, Cond.instanceMethod yX5_findBest, Cond.selects RX5 yX5_findBest yX5_findBest, Cond.code yX5_findBest cX5_findBest 3 (some .boolean), Cond.fieldLink RX5 11 "FretSchool" "pieces" "[LFretSchool$Piece;", Cond.methodLink RX5 225 yX0_placeBest, Cond.instanceMethod yX0_placeBest, Cond.selects RX0 yX0_placeBest yX0_placeBest, Cond.initialized RX0]
def wsX5_learn_r3 : List Cond := [Cond.code yX0_placeBest cX0_placeBest 4 (some .boolean), Cond.fieldLink RX0 34 "FretSchool$Piece" "count" "I", Cond.methodLink RX0 30 yX0_feelReach, Cond.instanceMethod yX0_feelReach, Cond.selects RX0 yX0_feelReach yX0_feelReach, Cond.code yX0_feelReach cX0_feelReach 6 none, Cond.fieldLink RX0 9 "FretSchool$Hand" "reach" "[I", Cond.fieldLink RX0 58 "FretSchool$Piece" "pitches" "[I", Cond.methodLink RX0 52 yX1_highestPosition, Cond.instanceMethod yX1_highestPosition, Cond.selects RX1 yX1_highestPosition yX1_highestPosition, Cond.initialized RX1, Cond.code yX1_highestPosition cX1_highestPosition 1 (some .int), Cond.fieldLink RX1 19 "FretSchool$Instrument" "fretCount" "I", Cond.methodLink RX0 61 yX1_lowestString, Cond.instanceMethod yX1_lowestString, Cond.selects RX1 yX1_lowestString yX1_lowestString, Cond.code yX1_lowestString cX1_lowestString 5 (some .int), Cond.fieldLink RX1 9 "FretSchool$Instrument" "open" "[I", Cond.methodLink RX0 39 yX0_measureRest, Cond.instanceMethod yX0_measureRest, Cond.selects RX0 yX0_measureRest yX0_measureRest, Cond.code yX0_measureRest cX0_measureRest 5 none, Cond.fieldLink RX0 17 "FretSchool$Hand" "rest" "[[I"]
def wsX5_learn_r4 : List Cond := [Cond.constant RX0 51 (1000000), Cond.methodLink RX0 65 yX0_nearest, Cond.instanceMethod yX0_nearest, Cond.selects RX0 yX0_nearest yX0_nearest, Cond.code yX0_nearest cX0_nearest 7 (some .int), Cond.methodLink RX0 72 yX0_shift, Cond.static yX0_shift, Cond.code yX0_shift cX0_shift 2 (some .int), Cond.methodLink RX0 75 Lib.Math.abs.name, Cond.static Lib.Math.abs.name, Cond.initialized "java/lang/Math", Cond.code Lib.Math.abs.name Lib.Math.abs.code 1 (some .int), Cond.methodLink RX0 68 yX0_canReach, Cond.static yX0_canReach, Cond.code yX0_canReach cX0_canReach 2 (some .boolean), Cond.methodLink RX0 43 yX0_chooseRow, Cond.instanceMethod yX0_chooseRow, Cond.selects RX0 yX0_chooseRow yX0_chooseRow, Cond.code yX0_chooseRow cX0_chooseRow 6 (some .boolean), Cond.fieldLink RX0 23 "FretSchool$Hand" "sum" "I", Cond.fieldLink RX0 27 "FretSchool$Hand" "greatest" "I", Cond.fieldLink RX0 20 "FretSchool$Hand" "row" "[I", Cond.methodLink RX5 150 yX4_takeIn, Cond.instanceMethod yX4_takeIn]
def wsX5_learn_r5 : List Cond := [Cond.selects RX4 yX4_takeIn yX4_takeIn, Cond.code yX4_takeIn cX4_takeIn 3 none, Cond.fieldLink RX4 9 "FretSchool$Pupil" "grade" "I"]
def wsX5_learn : List Cond := .code yX5_learn cX5_learn 6 (some .int) :: ((wsX5_learn_r1 ++ (wsX5_learn_r2 ++ (wsX5_learn_r3 ++ (wsX5_learn_r4 ++ wsX5_learn_r5)))) ++ wsX50 ++ wsX40 ++ wsX10 ++ wsX00 ++ wsX30 ++ (vx_atS RX5 65 "java/lang/IllegalStateException" ["java/lang/RuntimeException", "java/lang/Exception"]).filter goodWord ++ (vx_atS RX5 213 "java/lang/IndexOutOfBoundsException" ["java/lang/RuntimeException", "java/lang/Exception"]).filter goodWord ++ (vx_atS RX5 224 "java/lang/IllegalArgumentException" ["java/lang/RuntimeException", "java/lang/Exception"]).filter goodWord)
def wsX5_level : List Cond := .code yX5_level cX5_level 2 (some .int) :: ([.fieldLink RX5 25 "FretSchool" "pupils" "[LFretSchool$Pupil;", .fieldLink RX5 153 "FretSchool$Pupil" "grade" "I", .methodLink RX5 136 yX5_needPupil, .static yX5_needPupil, .initialized RX5, .code yX5_needPupil cX5_needPupil 1 none, .methodLink RX5 72 yX5_needRange, .static yX5_needRange, .code yX5_needRange cX5_needRange 3 none, .classLink RX5 220 "java/lang/IllegalArgumentException", .initialized "java/lang/IllegalArgumentException"] ++ wsX50 ++ wsX40 ++ (vx_atS RX5 224 "java/lang/IllegalArgumentException" ["java/lang/RuntimeException", "java/lang/Exception"]).filter goodWord)
def wsX5_known : List Cond := .code yX5_known cX5_known 2 (some .int) :: ([.fieldLink RX5 25 "FretSchool" "pupils" "[LFretSchool$Pupil;", .fieldLink RX5 156 "FretSchool$Pupil" "repertoire" "I", .methodLink RX5 136 yX5_needPupil, .static yX5_needPupil, .initialized RX5, .code yX5_needPupil cX5_needPupil 1 none, .methodLink RX5 72 yX5_needRange, .static yX5_needRange, .code yX5_needRange cX5_needRange 3 none, .classLink RX5 220 "java/lang/IllegalArgumentException", .initialized "java/lang/IllegalArgumentException"] ++ wsX50 ++ wsX40 ++ (vx_atS RX5 224 "java/lang/IllegalArgumentException" ["java/lang/RuntimeException", "java/lang/Exception"]).filter goodWord)
def wsX5_easiestShift_r1 : List Cond := [Cond.fieldLink RX5 52 "FretSchool" "buildCount" "I", Cond.methodLink RX5 144 yX5_learnableShift, Cond.instanceMethod yX5_learnableShift, Cond.selects RX5 yX5_learnableShift yX5_learnableShift, Cond.initialized RX5, Cond.code yX5_learnableShift cX5_learnableShift 4 (some .int), Cond.fieldLink RX5 18 "FretSchool" "builds" "[LFretSchool$Instrument;", Cond.fieldLink RX5 110 "FretSchool$Instrument" "keeper" "I", Cond.fieldLink RX5 44 "FretSchool" "hand" "LFretSchool$Hand;", Cond.fieldLink RX5 126 "FretSchool$Hand" "greatest" "I", Cond.fieldLink RX5 25 "FretSchool" "pupils" "[LFretSchool$Pupil;", Cond.fieldLink RX5 153 "FretSchool$Pupil" "grade" "I", Cond.methodLink RX5 113 yX5_findBest, Cond.instanceMethod yX5_findBest, Cond.selects RX5 yX5_findBest yX5_findBest, Cond.code yX5_findBest cX5_findBest 3 (some .boolean), Cond.fieldLink RX5 11 "FretSchool" "pieces" "[LFretSchool$Piece;", Cond.methodLink RX5 68 yX5_needPiece, Cond.instanceMethod yX5_needPiece, Cond.selects RX5 yX5_needPiece yX5_needPiece, Cond.code yX5_needPiece cX5_needPiece 2 none, Cond.classLink RX5 209 "java/lang/IndexOutOfBoundsException", Cond.initialized "java/lang/IndexOutOfBoundsException", Cond.fieldLink RX5 48 "FretSchool" "pieceCount" "I"]
def wsX5_easiestShift_r2 : List Cond := [Cond.methodLink RX5 104 yX5_needInstrument, Cond.instanceMethod yX5_needInstrument, Cond.selects RX5 yX5_needInstrument yX5_needInstrument, Cond.code yX5_needInstrument cX5_needInstrument 2 none, Cond.methodLink RX5 225 yX0_placeBest, Cond.instanceMethod yX0_placeBest, Cond.selects RX0 yX0_placeBest yX0_placeBest, Cond.initialized RX0, Cond.code yX0_placeBest cX0_placeBest 4 (some .boolean), Cond.fieldLink RX0 34 "FretSchool$Piece" "count" "I", Cond.methodLink RX0 30 yX0_feelReach, Cond.instanceMethod yX0_feelReach, Cond.selects RX0 yX0_feelReach yX0_feelReach, Cond.code yX0_feelReach cX0_feelReach 6 none, Cond.fieldLink RX0 9 "FretSchool$Hand" "reach" "[I", Cond.fieldLink RX0 58 "FretSchool$Piece" "pitches" "[I", Cond.methodLink RX0 52 yX1_highestPosition, Cond.instanceMethod yX1_highestPosition, Cond.selects RX1 yX1_highestPosition yX1_highestPosition, Cond.initialized RX1, Cond.code yX1_highestPosition cX1_highestPosition 1 (some .int), Cond.fieldLink RX1 19 "FretSchool$Instrument" "fretCount" "I", Cond.methodLink RX0 61 yX1_lowestString, Cond.instanceMethod yX1_lowestString]
def wsX5_easiestShift_r3 : List Cond := [Cond.selects RX1 yX1_lowestString yX1_lowestString, Cond.code yX1_lowestString cX1_lowestString 5 (some .int), Cond.fieldLink RX1 9 "FretSchool$Instrument" "open" "[I", Cond.methodLink RX0 39 yX0_measureRest, Cond.instanceMethod yX0_measureRest, Cond.selects RX0 yX0_measureRest yX0_measureRest, Cond.code yX0_measureRest cX0_measureRest 5 none, Cond.fieldLink RX0 17 "FretSchool$Hand" "rest" "[[I", Cond.constant RX0 51 (1000000), Cond.methodLink RX0 65 yX0_nearest, Cond.instanceMethod yX0_nearest, Cond.selects RX0 yX0_nearest yX0_nearest, Cond.code yX0_nearest cX0_nearest 7 (some .int), Cond.methodLink RX0 72 yX0_shift, Cond.static yX0_shift, Cond.code yX0_shift cX0_shift 2 (some .int), Cond.methodLink RX0 75 Lib.Math.abs.name, Cond.static Lib.Math.abs.name, Cond.initialized "java/lang/Math", Cond.code Lib.Math.abs.name Lib.Math.abs.code 1 (some .int), Cond.methodLink RX0 68 yX0_canReach, Cond.static yX0_canReach, Cond.code yX0_canReach cX0_canReach 2 (some .boolean), Cond.methodLink RX0 43 yX0_chooseRow]
def wsX5_easiestShift_r4 : List Cond := [Cond.instanceMethod yX0_chooseRow, Cond.selects RX0 yX0_chooseRow yX0_chooseRow, Cond.code yX0_chooseRow cX0_chooseRow 6 (some .boolean), Cond.fieldLink RX0 23 "FretSchool$Hand" "sum" "I", Cond.fieldLink RX0 27 "FretSchool$Hand" "greatest" "I", Cond.fieldLink RX0 20 "FretSchool$Hand" "row" "[I"]
def wsX5_easiestShift : List Cond := .code yX5_easiestShift cX5_easiestShift 6 (some .int) :: ((wsX5_easiestShift_r1 ++ (wsX5_easiestShift_r2 ++ (wsX5_easiestShift_r3 ++ wsX5_easiestShift_r4))) ++ wsX50 ++ wsX10 ++ wsX00 ++ wsX40 ++ wsX30 ++ (vx_atS RX5 213 "java/lang/IndexOutOfBoundsException" ["java/lang/RuntimeException", "java/lang/Exception"]).filter goodWord)
def wsX5_next_r1 : List Cond := [Cond.fieldLink RX5 48 "FretSchool" "pieceCount" "I", Cond.fieldLink RX5 25 "FretSchool" "pupils" "[LFretSchool$Pupil;", Cond.methodLink RX5 136 yX5_needPupil, Cond.static yX5_needPupil, Cond.initialized RX5, Cond.code yX5_needPupil cX5_needPupil 1 none, Cond.methodLink RX5 72 yX5_needRange, Cond.static yX5_needRange, Cond.code yX5_needRange cX5_needRange 3 none, Cond.classLink RX5 220 "java/lang/IllegalArgumentException", Cond.initialized "java/lang/IllegalArgumentException", Cond.methodLink RX5 139 yX4_knows, Cond.instanceMethod yX4_knows, Cond.selects RX4 yX4_knows yX4_knows, Cond.initialized RX4, Cond.code yX4_knows cX4_knows 2 (some .boolean), Cond.fieldLink RX4 15 "FretSchool$Pupil" "repertoire" "I", Cond.methodLink RX5 159 yX5_easiestShift, Cond.instanceMethod yX5_easiestShift, Cond.selects RX5 yX5_easiestShift yX5_easiestShift, Cond.code yX5_easiestShift cX5_easiestShift 6 (some .int), Cond.fieldLink RX5 52 "FretSchool" "buildCount" "I", Cond.methodLink RX5 144 yX5_learnableShift, Cond.instanceMethod yX5_learnableShift]
def wsX5_next_r2 : List Cond := [Cond.selects RX5 yX5_learnableShift yX5_learnableShift, Cond.code yX5_learnableShift cX5_learnableShift 4 (some .int), Cond.fieldLink RX5 18 "FretSchool" "builds" "[LFretSchool$Instrument;", Cond.fieldLink RX5 110 "FretSchool$Instrument" "keeper" "I", Cond.fieldLink RX5 44 "FretSchool" "hand" "LFretSchool$Hand;", Cond.fieldLink RX5 126 "FretSchool$Hand" "greatest" "I", Cond.fieldLink RX5 153 "FretSchool$Pupil" "grade" "I", Cond.methodLink RX5 113 yX5_findBest, Cond.instanceMethod yX5_findBest, Cond.selects RX5 yX5_findBest yX5_findBest, Cond.code yX5_findBest cX5_findBest 3 (some .boolean), Cond.fieldLink RX5 11 "FretSchool" "pieces" "[LFretSchool$Piece;", Cond.methodLink RX5 68 yX5_needPiece, Cond.instanceMethod yX5_needPiece, Cond.selects RX5 yX5_needPiece yX5_needPiece, Cond.code yX5_needPiece cX5_needPiece 2 none, Cond.classLink RX5 209 "java/lang/IndexOutOfBoundsException", Cond.initialized "java/lang/IndexOutOfBoundsException", Cond.methodLink RX5 104 yX5_needInstrument, Cond.instanceMethod yX5_needInstrument, Cond.selects RX5 yX5_needInstrument yX5_needInstrument, Cond.code yX5_needInstrument cX5_needInstrument 2 none, Cond.methodLink RX5 225 yX0_placeBest, Cond.instanceMethod yX0_placeBest]
def wsX5_next_r3 : List Cond := [Cond.selects RX0 yX0_placeBest yX0_placeBest, Cond.initialized RX0, Cond.code yX0_placeBest cX0_placeBest 4 (some .boolean), Cond.fieldLink RX0 34 "FretSchool$Piece" "count" "I", Cond.methodLink RX0 30 yX0_feelReach, Cond.instanceMethod yX0_feelReach, Cond.selects RX0 yX0_feelReach yX0_feelReach, Cond.code yX0_feelReach cX0_feelReach 6 none, Cond.fieldLink RX0 9 "FretSchool$Hand" "reach" "[I", Cond.fieldLink RX0 58 "FretSchool$Piece" "pitches" "[I", Cond.methodLink RX0 52 yX1_highestPosition, Cond.instanceMethod yX1_highestPosition, Cond.selects RX1 yX1_highestPosition yX1_highestPosition, Cond.initialized RX1, Cond.code yX1_highestPosition cX1_highestPosition 1 (some .int), Cond.fieldLink RX1 19 "FretSchool$Instrument" "fretCount" "I", Cond.methodLink RX0 61 yX1_lowestString, Cond.instanceMethod yX1_lowestString, Cond.selects RX1 yX1_lowestString yX1_lowestString, Cond.code yX1_lowestString cX1_lowestString 5 (some .int), Cond.fieldLink RX1 9 "FretSchool$Instrument" "open" "[I", Cond.methodLink RX0 39 yX0_measureRest, Cond.instanceMethod yX0_measureRest, Cond.selects RX0 yX0_measureRest yX0_measureRest]
def wsX5_next_r4 : List Cond := [Cond.code yX0_measureRest cX0_measureRest 5 none, Cond.fieldLink RX0 17 "FretSchool$Hand" "rest" "[[I", Cond.constant RX0 51 (1000000), Cond.methodLink RX0 65 yX0_nearest, Cond.instanceMethod yX0_nearest, Cond.selects RX0 yX0_nearest yX0_nearest, Cond.code yX0_nearest cX0_nearest 7 (some .int), Cond.methodLink RX0 72 yX0_shift, Cond.static yX0_shift, Cond.code yX0_shift cX0_shift 2 (some .int), Cond.methodLink RX0 75 Lib.Math.abs.name, Cond.static Lib.Math.abs.name, Cond.initialized "java/lang/Math", Cond.code Lib.Math.abs.name Lib.Math.abs.code 1 (some .int), Cond.methodLink RX0 68 yX0_canReach, Cond.static yX0_canReach, Cond.code yX0_canReach cX0_canReach 2 (some .boolean), Cond.methodLink RX0 43 yX0_chooseRow, Cond.instanceMethod yX0_chooseRow, Cond.selects RX0 yX0_chooseRow yX0_chooseRow, Cond.code yX0_chooseRow cX0_chooseRow 6 (some .boolean), Cond.fieldLink RX0 23 "FretSchool$Hand" "sum" "I", Cond.fieldLink RX0 27 "FretSchool$Hand" "greatest" "I", Cond.fieldLink RX0 20 "FretSchool$Hand" "row" "[I"]
def wsX5_next : List Cond := .code yX5_next cX5_next 6 (some .int) :: ((wsX5_next_r1 ++ (wsX5_next_r2 ++ (wsX5_next_r3 ++ wsX5_next_r4))) ++ wsX50 ++ wsX40 ++ wsX10 ++ wsX00 ++ wsX30 ++ (vx_atS RX5 224 "java/lang/IllegalArgumentException" ["java/lang/RuntimeException", "java/lang/Exception"]).filter goodWord ++ (vx_atS RX5 213 "java/lang/IndexOutOfBoundsException" ["java/lang/RuntimeException", "java/lang/Exception"]).filter goodWord)
def wsX5_addWood : List Cond := .code yX5_addWood cX5_addWood 3 (some .int) :: ([.fieldLink RX5 37 "FretSchool" "stock" "[I", .methodLink RX5 72 yX5_needRange, .static yX5_needRange, .initialized RX5, .code yX5_needRange cX5_needRange 3 none, .classLink RX5 220 "java/lang/IllegalArgumentException", .initialized "java/lang/IllegalArgumentException"] ++ wsX50 ++ (vx_atS RX5 224 "java/lang/IllegalArgumentException" ["java/lang/RuntimeException", "java/lang/Exception"]).filter goodWord)
def wsX5_ordersAtWork : List Cond := .code yX5_ordersAtWork cX5_ordersAtWork 3 (some .int) :: ([.fieldLink RX5 55 "FretSchool" "orderCount" "I", .fieldLink RX5 32 "FretSchool" "orders" "[LFretSchool$Order;", .fieldLink RX5 186 "FretSchool$Order" "isFetched" "Z", .fieldLink RX5 58 "FretSchool" "day" "I", .methodLink RX5 181 yX2_isReady, .instanceMethod yX2_isReady, .selects RX2 yX2_isReady yX2_isReady, .initialized RX2, .code yX2_isReady cX2_isReady 2 (some .boolean), .fieldLink RX2 18 "FretSchool$Order" "readyDay" "I"] ++ wsX50 ++ wsX20)
def wsX5_order_r1 : List Cond := [Cond.classLink RX5 61 "java/lang/IllegalStateException", Cond.initialized "java/lang/IllegalStateException", Cond.fieldLink RX5 37 "FretSchool" "stock" "[I", Cond.fieldLink RX5 55 "FretSchool" "orderCount" "I", Cond.fieldLink RX5 32 "FretSchool" "orders" "[LFretSchool$Order;", Cond.fieldLink RX5 58 "FretSchool" "day" "I", Cond.methodLink RX5 136 yX5_needPupil, Cond.static yX5_needPupil, Cond.initialized RX5, Cond.code yX5_needPupil cX5_needPupil 1 none, Cond.methodLink RX5 72 yX5_needRange, Cond.static yX5_needRange, Cond.code yX5_needRange cX5_needRange 3 none, Cond.classLink RX5 220 "java/lang/IllegalArgumentException", Cond.initialized "java/lang/IllegalArgumentException", Cond.methodLink RX5 164 yX5_ordersAtWork, Cond.instanceMethod yX5_ordersAtWork, Cond.selects RX5 yX5_ordersAtWork yX5_ordersAtWork, Cond.code yX5_ordersAtWork cX5_ordersAtWork 3 (some .int), Cond.fieldLink RX5 186 "FretSchool$Order" "isFetched" "Z", Cond.methodLink RX5 181 yX2_isReady, Cond.instanceMethod yX2_isReady, Cond.selects RX2 yX2_isReady yX2_isReady, Cond.initialized RX2]
def wsX5_order_r2 : List Cond := [Cond.code yX2_isReady cX2_isReady 2 (some .boolean), Cond.fieldLink RX2 18 "FretSchool$Order" "readyDay" "I", Cond.methodLink RX5 172 yX2_place, Cond.instanceMethod yX2_place, Cond.selects RX2 yX2_place yX2_place, Cond.code yX2_place cX2_place 4 none, Cond.fieldLink RX2 9 "FretSchool$Order" "buyer" "I", Cond.fieldLink RX2 15 "FretSchool$Order" "fretCount" "I"]
def wsX5_order : List Cond := .code yX5_order cX5_order 5 (some .int) :: ((wsX5_order_r1 ++ wsX5_order_r2) ++ wsX50 ++ wsX20 ++ (vx_atS RX5 65 "java/lang/IllegalStateException" ["java/lang/RuntimeException", "java/lang/Exception"]).filter goodWord ++ (vx_atS RX5 224 "java/lang/IllegalArgumentException" ["java/lang/RuntimeException", "java/lang/Exception"]).filter goodWord)
def wsX5_needOrder : List Cond := .code yX5_needOrder cX5_needOrder 2 none :: ([.classLink RX5 209 "java/lang/IndexOutOfBoundsException", .initialized "java/lang/IndexOutOfBoundsException", .fieldLink RX5 55 "FretSchool" "orderCount" "I"] ++ wsX50 ++ (vx_atS RX5 213 "java/lang/IndexOutOfBoundsException" ["java/lang/RuntimeException", "java/lang/Exception"]).filter goodWord)
def wsX5_ready : List Cond := .code yX5_ready cX5_ready 2 (some .int) :: ([.fieldLink RX5 32 "FretSchool" "orders" "[LFretSchool$Order;", .fieldLink RX5 178 "FretSchool$Order" "readyDay" "I", .methodLink RX5 175 yX5_needOrder, .instanceMethod yX5_needOrder, .selects RX5 yX5_needOrder yX5_needOrder, .initialized RX5, .code yX5_needOrder cX5_needOrder 2 none, .classLink RX5 209 "java/lang/IndexOutOfBoundsException", .initialized "java/lang/IndexOutOfBoundsException", .fieldLink RX5 55 "FretSchool" "orderCount" "I"] ++ wsX50 ++ wsX20 ++ (vx_atS RX5 213 "java/lang/IndexOutOfBoundsException" ["java/lang/RuntimeException", "java/lang/Exception"]).filter goodWord)
def wsX5_fetch_r1 : List Cond := [Cond.classLink RX5 61 "java/lang/IllegalStateException", Cond.initialized "java/lang/IllegalStateException", Cond.fieldLink RX5 32 "FretSchool" "orders" "[LFretSchool$Order;", Cond.fieldLink RX5 58 "FretSchool" "day" "I", Cond.fieldLink RX5 186 "FretSchool$Order" "isFetched" "Z", Cond.fieldLink RX5 52 "FretSchool" "buildCount" "I", Cond.fieldLink RX5 18 "FretSchool" "builds" "[LFretSchool$Instrument;", Cond.fieldLink RX5 194 "FretSchool$Order" "buyer" "I", Cond.fieldLink RX5 197 "FretSchool$Order" "fretCount" "I", Cond.methodLink RX5 175 yX5_needOrder, Cond.instanceMethod yX5_needOrder, Cond.selects RX5 yX5_needOrder yX5_needOrder, Cond.initialized RX5, Cond.code yX5_needOrder cX5_needOrder 2 none, Cond.classLink RX5 209 "java/lang/IndexOutOfBoundsException", Cond.initialized "java/lang/IndexOutOfBoundsException", Cond.fieldLink RX5 55 "FretSchool" "orderCount" "I", Cond.methodLink RX5 72 yX5_needRange, Cond.static yX5_needRange, Cond.code yX5_needRange cX5_needRange 3 none, Cond.classLink RX5 220 "java/lang/IllegalArgumentException", Cond.initialized "java/lang/IllegalArgumentException", Cond.methodLink RX5 181 yX2_isReady, Cond.instanceMethod yX2_isReady]
def wsX5_fetch_r2 : List Cond := [Cond.selects RX2 yX2_isReady yX2_isReady, Cond.initialized RX2, Cond.code yX2_isReady cX2_isReady 2 (some .boolean), Cond.fieldLink RX2 18 "FretSchool$Order" "readyDay" "I", Cond.methodLink RX5 200 yX1_build, Cond.instanceMethod yX1_build, Cond.selects RX1 yX1_build yX1_build, Cond.initialized RX1, Cond.code yX1_build cX1_build 3 none, Cond.fieldLink RX1 15 "FretSchool$Instrument" "keeper" "I", Cond.fieldLink RX1 19 "FretSchool$Instrument" "fretCount" "I", Cond.methodLink RX5 203 yX1_tuneAll, Cond.instanceMethod yX1_tuneAll, Cond.selects RX1 yX1_tuneAll yX1_tuneAll, Cond.code yX1_tuneAll cX1_tuneAll 5 none, Cond.fieldLink RX1 9 "FretSchool$Instrument" "open" "[I"]
def wsX5_fetch : List Cond := .code yX5_fetch cX5_fetch 8 (some .int) :: ((wsX5_fetch_r1 ++ wsX5_fetch_r2) ++ wsX50 ++ wsX20 ++ wsX10 ++ (vx_atS RX5 65 "java/lang/IllegalStateException" ["java/lang/RuntimeException", "java/lang/Exception"]).filter goodWord ++ (vx_atS RX5 213 "java/lang/IndexOutOfBoundsException" ["java/lang/RuntimeException", "java/lang/Exception"]).filter goodWord ++ (vx_atS RX5 224 "java/lang/IllegalArgumentException" ["java/lang/RuntimeException", "java/lang/Exception"]).filter goodWord)
def wsX5_pass : List Cond := .code yX5_pass cX5_pass 2 (some .int) :: ([.classLink RX5 61 "java/lang/IllegalStateException", .initialized "java/lang/IllegalStateException", .fieldLink RX5 58 "FretSchool" "day" "I", .methodLink RX5 72 yX5_needRange, .static yX5_needRange, .initialized RX5, .code yX5_needRange cX5_needRange 3 none, .classLink RX5 220 "java/lang/IllegalArgumentException", .initialized "java/lang/IllegalArgumentException"] ++ wsX50 ++ (vx_atS RX5 65 "java/lang/IllegalStateException" ["java/lang/RuntimeException", "java/lang/Exception"]).filter goodWord ++ (vx_atS RX5 224 "java/lang/IllegalArgumentException" ["java/lang/RuntimeException", "java/lang/Exception"]).filter goodWord)
def wsX5_today : List Cond := .code yX5_today cX5_today 1 (some .int) :: ([.fieldLink RX5 58 "FretSchool" "day" "I"] ++ wsX50)
def wsX6_init : List Cond := .code yX6_init cX6_init 2 none :: ([.methodLink RX6 1 objectInit, .instanceMethod objectInit, .code objectInit ⟨#[0xb1]⟩ 1 none, .arrayClass .int, .fieldLink RX6 7 "FretSchoolModel" "many" "[I", .fieldLink RX6 13 "FretSchoolModel" "pitch" "[I", .fieldLink RX6 16 "FretSchoolModel" "owner" "[I", .fieldLink RX6 19 "FretSchoolModel" "frets" "[I", .fieldLink RX6 22 "FretSchoolModel" "open" "[I", .fieldLink RX6 25 "FretSchoolModel" "level" "[I", .fieldLink RX6 28 "FretSchoolModel" "known" "[I", .fieldLink RX6 31 "FretSchoolModel" "stock" "[I", .fieldLink RX6 34 "FretSchoolModel" "buyer" "[I", .fieldLink RX6 37 "FretSchoolModel" "ordered" "[I", .fieldLink RX6 40 "FretSchoolModel" "readyOn" "[I", .arrayClass .boolean, .fieldLink RX6 43 "FretSchoolModel" "fetched" "[Z", .fieldLink RX6 47 "FretSchoolModel" "least" "[I", .fieldLink RX6 50 "FretSchoolModel" "best" "[I"] ++ wsX60)
def wsX6_thrown : List Cond := .code yX6_thrown cX6_thrown 1 (some .int) :: ([.fieldLink RX6 53 "FretSchoolModel" "thrown" "I"] ++ wsX60)
def wsX6_in : List Cond := .code yX6_in cX6_in 3 (some .boolean) :: ([])
def wsX6_goes : List Cond := .code yX6_goes cX6_goes 4 (some .boolean) :: ([.fieldLink RX6 53 "FretSchoolModel" "thrown" "I"] ++ wsX60)
def wsX6_told : List Cond := .code yX6_told cX6_told 2 (some .int) :: ([.fieldLink RX6 53 "FretSchoolModel" "thrown" "I"] ++ wsX60)
def wsX6_isPiece : List Cond := .code yX6_isPiece cX6_isPiece 2 (some .boolean) :: ([.fieldLink RX6 57 "FretSchoolModel" "pieces" "I", .methodLink RX6 60 yX6_in, .static yX6_in, .initialized RX6, .code yX6_in cX6_in 3 (some .boolean)] ++ wsX60)
def wsX6_isNote : List Cond := .code yX6_isNote cX6_isNote 3 (some .boolean) :: ([.fieldLink RX6 7 "FretSchoolModel" "many" "[I", .methodLink RX6 64 yX6_isPiece, .instanceMethod yX6_isPiece, .selects RX6 yX6_isPiece yX6_isPiece, .initialized RX6, .code yX6_isPiece cX6_isPiece 2 (some .boolean), .fieldLink RX6 57 "FretSchoolModel" "pieces" "I", .methodLink RX6 60 yX6_in, .static yX6_in, .code yX6_in cX6_in 3 (some .boolean)] ++ wsX60)
def wsX6_isInstrument : List Cond := .code yX6_isInstrument cX6_isInstrument 2 (some .boolean) :: ([.fieldLink RX6 68 "FretSchoolModel" "instruments" "I", .methodLink RX6 60 yX6_in, .static yX6_in, .initialized RX6, .code yX6_in cX6_in 3 (some .boolean)] ++ wsX60)
def wsX6_isOrder : List Cond := .code yX6_isOrder cX6_isOrder 2 (some .boolean) :: ([.fieldLink RX6 71 "FretSchoolModel" "orders" "I", .methodLink RX6 60 yX6_in, .static yX6_in, .initialized RX6, .code yX6_in cX6_in 3 (some .boolean)] ++ wsX60)
def wsX6_isPupil : List Cond := .code yX6_isPupil cX6_isPupil 1 (some .boolean) :: ([.methodLink RX6 60 yX6_in, .static yX6_in, .initialized RX6, .code yX6_in cX6_in 3 (some .boolean)])
def wsX6_begin : List Cond := .code yX6_begin cX6_begin 1 (some .int) :: ([.fieldLink RX6 57 "FretSchoolModel" "pieces" "I", .methodLink RX6 74 yX6_goes, .instanceMethod yX6_goes, .selects RX6 yX6_goes yX6_goes, .initialized RX6, .code yX6_goes cX6_goes 4 (some .boolean), .fieldLink RX6 53 "FretSchoolModel" "thrown" "I"] ++ wsX60)
def wsX6_addNote : List Cond := .code yX6_addNote cX6_addNote 4 (some .int) :: ([.fieldLink RX6 7 "FretSchoolModel" "many" "[I", .fieldLink RX6 13 "FretSchoolModel" "pitch" "[I", .methodLink RX6 64 yX6_isPiece, .instanceMethod yX6_isPiece, .selects RX6 yX6_isPiece yX6_isPiece, .initialized RX6, .code yX6_isPiece cX6_isPiece 2 (some .boolean), .fieldLink RX6 57 "FretSchoolModel" "pieces" "I", .methodLink RX6 60 yX6_in, .static yX6_in, .code yX6_in cX6_in 3 (some .boolean), .methodLink RX6 74 yX6_goes, .instanceMethod yX6_goes, .selects RX6 yX6_goes yX6_goes, .code yX6_goes cX6_goes 4 (some .boolean), .fieldLink RX6 53 "FretSchoolModel" "thrown" "I"] ++ wsX60)
def wsX6_transpose : List Cond := .code yX6_transpose cX6_transpose 7 none :: ([.fieldLink RX6 7 "FretSchoolModel" "many" "[I", .fieldLink RX6 13 "FretSchoolModel" "pitch" "[I", .methodLink RX6 64 yX6_isPiece, .instanceMethod yX6_isPiece, .selects RX6 yX6_isPiece yX6_isPiece, .initialized RX6, .code yX6_isPiece cX6_isPiece 2 (some .boolean), .fieldLink RX6 57 "FretSchoolModel" "pieces" "I", .methodLink RX6 60 yX6_in, .static yX6_in, .code yX6_in cX6_in 3 (some .boolean), .methodLink RX6 74 yX6_goes, .instanceMethod yX6_goes, .selects RX6 yX6_goes yX6_goes, .code yX6_goes cX6_goes 4 (some .boolean), .fieldLink RX6 53 "FretSchoolModel" "thrown" "I"] ++ wsX60)
def wsX6_pitch : List Cond := .code yX6_pitch cX6_pitch 3 (some .int) :: ([.fieldLink RX6 13 "FretSchoolModel" "pitch" "[I", .methodLink RX6 78 yX6_isNote, .instanceMethod yX6_isNote, .selects RX6 yX6_isNote yX6_isNote, .initialized RX6, .code yX6_isNote cX6_isNote 3 (some .boolean), .fieldLink RX6 7 "FretSchoolModel" "many" "[I", .methodLink RX6 64 yX6_isPiece, .instanceMethod yX6_isPiece, .selects RX6 yX6_isPiece yX6_isPiece, .code yX6_isPiece cX6_isPiece 2 (some .boolean), .fieldLink RX6 57 "FretSchoolModel" "pieces" "I", .methodLink RX6 60 yX6_in, .static yX6_in, .code yX6_in cX6_in 3 (some .boolean), .methodLink RX6 74 yX6_goes, .instanceMethod yX6_goes, .selects RX6 yX6_goes yX6_goes, .code yX6_goes cX6_goes 4 (some .boolean), .fieldLink RX6 53 "FretSchoolModel" "thrown" "I"] ++ wsX60)
def wsX6_tune : List Cond := .code yX6_tune cX6_tune 6 (some .int) :: ([.fieldLink RX6 22 "FretSchoolModel" "open" "[I", .methodLink RX6 82 yX6_isInstrument, .instanceMethod yX6_isInstrument, .selects RX6 yX6_isInstrument yX6_isInstrument, .initialized RX6, .code yX6_isInstrument cX6_isInstrument 2 (some .boolean), .fieldLink RX6 68 "FretSchoolModel" "instruments" "I", .methodLink RX6 60 yX6_in, .static yX6_in, .code yX6_in cX6_in 3 (some .boolean), .methodLink RX6 74 yX6_goes, .instanceMethod yX6_goes, .selects RX6 yX6_goes yX6_goes, .code yX6_goes cX6_goes 4 (some .boolean), .fieldLink RX6 53 "FretSchoolModel" "thrown" "I"] ++ wsX60)
def wsX6_owner : List Cond := .code yX6_owner cX6_owner 2 (some .int) :: ([.fieldLink RX6 16 "FretSchoolModel" "owner" "[I", .methodLink RX6 82 yX6_isInstrument, .instanceMethod yX6_isInstrument, .selects RX6 yX6_isInstrument yX6_isInstrument, .initialized RX6, .code yX6_isInstrument cX6_isInstrument 2 (some .boolean), .fieldLink RX6 68 "FretSchoolModel" "instruments" "I", .methodLink RX6 60 yX6_in, .static yX6_in, .code yX6_in cX6_in 3 (some .boolean), .methodLink RX6 74 yX6_goes, .instanceMethod yX6_goes, .selects RX6 yX6_goes yX6_goes, .code yX6_goes cX6_goes 4 (some .boolean), .fieldLink RX6 53 "FretSchoolModel" "thrown" "I"] ++ wsX60)
def wsX6_instruments : List Cond := .code yX6_instruments cX6_instruments 1 (some .int) :: ([.fieldLink RX6 68 "FretSchoolModel" "instruments" "I", .methodLink RX6 85 yX6_told, .instanceMethod yX6_told, .selects RX6 yX6_told yX6_told, .initialized RX6, .code yX6_told cX6_told 2 (some .int), .fieldLink RX6 53 "FretSchoolModel" "thrown" "I"] ++ wsX60)
def wsX6_lies : List Cond := .code yX6_lies cX6_lies 7 (some .boolean) :: ([.fieldLink RX6 13 "FretSchoolModel" "pitch" "[I", .fieldLink RX6 22 "FretSchoolModel" "open" "[I", .fieldLink RX6 19 "FretSchoolModel" "frets" "[I", .methodLink RX6 60 yX6_in, .static yX6_in, .initialized RX6, .code yX6_in cX6_in 3 (some .boolean)] ++ wsX60)
def wsX6_plays : List Cond := .code yX6_plays cX6_plays 7 (some .boolean) :: ([.methodLink RX6 89 yX6_lies, .instanceMethod yX6_lies, .selects RX6 yX6_lies yX6_lies, .initialized RX6, .code yX6_lies cX6_lies 7 (some .boolean), .fieldLink RX6 13 "FretSchoolModel" "pitch" "[I", .fieldLink RX6 22 "FretSchoolModel" "open" "[I", .fieldLink RX6 19 "FretSchoolModel" "frets" "[I", .methodLink RX6 60 yX6_in, .static yX6_in, .code yX6_in cX6_in 3 (some .boolean)] ++ wsX60)
def wsX6_apart : List Cond := .code yX6_apart cX6_apart 2 (some .int) :: ([])
def wsX6_from : List Cond := .code yX6_from cX6_from 8 (some .int) :: ([.constant RX6 97 (1000000), .fieldLink RX6 7 "FretSchoolModel" "many" "[I", .fieldLink RX6 19 "FretSchoolModel" "frets" "[I", .fieldLink RX6 47 "FretSchoolModel" "least" "[I", .methodLink RX6 93 yX6_plays, .instanceMethod yX6_plays, .selects RX6 yX6_plays yX6_plays, .initialized RX6, .code yX6_plays cX6_plays 7 (some .boolean), .methodLink RX6 89 yX6_lies, .instanceMethod yX6_lies, .selects RX6 yX6_lies yX6_lies, .code yX6_lies cX6_lies 7 (some .boolean), .fieldLink RX6 13 "FretSchoolModel" "pitch" "[I", .fieldLink RX6 22 "FretSchoolModel" "open" "[I", .methodLink RX6 60 yX6_in, .static yX6_in, .code yX6_in cX6_in 3 (some .boolean), .methodLink RX6 98 yX6_apart, .static yX6_apart, .code yX6_apart cX6_apart 2 (some .int)] ++ wsX60)
def wsX6_finds_r1 : List Cond := [Cond.fieldLink RX6 7 "FretSchoolModel" "many" "[I", Cond.fieldLink RX6 19 "FretSchoolModel" "frets" "[I", Cond.fieldLink RX6 47 "FretSchoolModel" "least" "[I", Cond.constant RX6 97 (1000000), Cond.fieldLink RX6 50 "FretSchoolModel" "best" "[I", Cond.methodLink RX6 102 yX6_from, Cond.instanceMethod yX6_from, Cond.selects RX6 yX6_from yX6_from, Cond.initialized RX6, Cond.code yX6_from cX6_from 8 (some .int), Cond.methodLink RX6 93 yX6_plays, Cond.instanceMethod yX6_plays, Cond.selects RX6 yX6_plays yX6_plays, Cond.code yX6_plays cX6_plays 7 (some .boolean), Cond.methodLink RX6 89 yX6_lies, Cond.instanceMethod yX6_lies, Cond.selects RX6 yX6_lies yX6_lies, Cond.code yX6_lies cX6_lies 7 (some .boolean), Cond.fieldLink RX6 13 "FretSchoolModel" "pitch" "[I", Cond.fieldLink RX6 22 "FretSchoolModel" "open" "[I", Cond.methodLink RX6 60 yX6_in, Cond.static yX6_in, Cond.code yX6_in cX6_in 3 (some .boolean), Cond.methodLink RX6 98 yX6_apart]
def wsX6_finds_r2 : List Cond := [Cond.static yX6_apart, Cond.code yX6_apart cX6_apart 2 (some .int)]
def wsX6_finds : List Cond := .code yX6_finds cX6_finds 7 (some .int) :: ((wsX6_finds_r1 ++ wsX6_finds_r2) ++ wsX60)
def wsX6_asks : List Cond := .code yX6_asks cX6_asks 3 (some .boolean) :: ([.methodLink RX6 64 yX6_isPiece, .instanceMethod yX6_isPiece, .selects RX6 yX6_isPiece yX6_isPiece, .initialized RX6, .code yX6_isPiece cX6_isPiece 2 (some .boolean), .fieldLink RX6 57 "FretSchoolModel" "pieces" "I", .methodLink RX6 60 yX6_in, .static yX6_in, .code yX6_in cX6_in 3 (some .boolean), .methodLink RX6 82 yX6_isInstrument, .instanceMethod yX6_isInstrument, .selects RX6 yX6_isInstrument yX6_isInstrument, .code yX6_isInstrument cX6_isInstrument 2 (some .boolean), .fieldLink RX6 68 "FretSchoolModel" "instruments" "I", .methodLink RX6 74 yX6_goes, .instanceMethod yX6_goes, .selects RX6 yX6_goes yX6_goes, .code yX6_goes cX6_goes 4 (some .boolean), .fieldLink RX6 53 "FretSchoolModel" "thrown" "I"] ++ wsX60)
def wsX6_shifts_r1 : List Cond := [Cond.methodLink RX6 106 yX6_asks, Cond.instanceMethod yX6_asks, Cond.selects RX6 yX6_asks yX6_asks, Cond.initialized RX6, Cond.code yX6_asks cX6_asks 3 (some .boolean), Cond.methodLink RX6 64 yX6_isPiece, Cond.instanceMethod yX6_isPiece, Cond.selects RX6 yX6_isPiece yX6_isPiece, Cond.code yX6_isPiece cX6_isPiece 2 (some .boolean), Cond.fieldLink RX6 57 "FretSchoolModel" "pieces" "I", Cond.methodLink RX6 60 yX6_in, Cond.static yX6_in, Cond.code yX6_in cX6_in 3 (some .boolean), Cond.methodLink RX6 82 yX6_isInstrument, Cond.instanceMethod yX6_isInstrument, Cond.selects RX6 yX6_isInstrument yX6_isInstrument, Cond.code yX6_isInstrument cX6_isInstrument 2 (some .boolean), Cond.fieldLink RX6 68 "FretSchoolModel" "instruments" "I", Cond.methodLink RX6 74 yX6_goes, Cond.instanceMethod yX6_goes, Cond.selects RX6 yX6_goes yX6_goes, Cond.code yX6_goes cX6_goes 4 (some .boolean), Cond.fieldLink RX6 53 "FretSchoolModel" "thrown" "I", Cond.methodLink RX6 109 yX6_finds]
def wsX6_shifts_r2 : List Cond := [Cond.instanceMethod yX6_finds, Cond.selects RX6 yX6_finds yX6_finds, Cond.code yX6_finds cX6_finds 7 (some .int), Cond.fieldLink RX6 7 "FretSchoolModel" "many" "[I", Cond.fieldLink RX6 19 "FretSchoolModel" "frets" "[I", Cond.fieldLink RX6 47 "FretSchoolModel" "least" "[I", Cond.constant RX6 97 (1000000), Cond.fieldLink RX6 50 "FretSchoolModel" "best" "[I", Cond.methodLink RX6 102 yX6_from, Cond.instanceMethod yX6_from, Cond.selects RX6 yX6_from yX6_from, Cond.code yX6_from cX6_from 8 (some .int), Cond.methodLink RX6 93 yX6_plays, Cond.instanceMethod yX6_plays, Cond.selects RX6 yX6_plays yX6_plays, Cond.code yX6_plays cX6_plays 7 (some .boolean), Cond.methodLink RX6 89 yX6_lies, Cond.instanceMethod yX6_lies, Cond.selects RX6 yX6_lies yX6_lies, Cond.code yX6_lies cX6_lies 7 (some .boolean), Cond.fieldLink RX6 13 "FretSchoolModel" "pitch" "[I", Cond.fieldLink RX6 22 "FretSchoolModel" "open" "[I", Cond.methodLink RX6 98 yX6_apart, Cond.static yX6_apart]
def wsX6_shifts_r3 : List Cond := [Cond.code yX6_apart cX6_apart 2 (some .int)]
def wsX6_shifts : List Cond := .code yX6_shifts cX6_shifts 3 (some .int) :: ((wsX6_shifts_r1 ++ (wsX6_shifts_r2 ++ wsX6_shifts_r3)) ++ wsX60)
def wsX6_shiftsByAll_r1 : List Cond := [Cond.fieldLink RX6 7 "FretSchoolModel" "many" "[I", Cond.methodLink RX6 64 yX6_isPiece, Cond.instanceMethod yX6_isPiece, Cond.selects RX6 yX6_isPiece yX6_isPiece, Cond.initialized RX6, Cond.code yX6_isPiece cX6_isPiece 2 (some .boolean), Cond.fieldLink RX6 57 "FretSchoolModel" "pieces" "I", Cond.methodLink RX6 60 yX6_in, Cond.static yX6_in, Cond.code yX6_in cX6_in 3 (some .boolean), Cond.methodLink RX6 82 yX6_isInstrument, Cond.instanceMethod yX6_isInstrument, Cond.selects RX6 yX6_isInstrument yX6_isInstrument, Cond.code yX6_isInstrument cX6_isInstrument 2 (some .boolean), Cond.fieldLink RX6 68 "FretSchoolModel" "instruments" "I", Cond.methodLink RX6 74 yX6_goes, Cond.instanceMethod yX6_goes, Cond.selects RX6 yX6_goes yX6_goes, Cond.code yX6_goes cX6_goes 4 (some .boolean), Cond.fieldLink RX6 53 "FretSchoolModel" "thrown" "I", Cond.methodLink RX6 109 yX6_finds, Cond.instanceMethod yX6_finds, Cond.selects RX6 yX6_finds yX6_finds, Cond.code yX6_finds cX6_finds 7 (some .int)]
def wsX6_shiftsByAll_r2 : List Cond := [Cond.fieldLink RX6 19 "FretSchoolModel" "frets" "[I", Cond.fieldLink RX6 47 "FretSchoolModel" "least" "[I", Cond.constant RX6 97 (1000000), Cond.fieldLink RX6 50 "FretSchoolModel" "best" "[I", Cond.methodLink RX6 102 yX6_from, Cond.instanceMethod yX6_from, Cond.selects RX6 yX6_from yX6_from, Cond.code yX6_from cX6_from 8 (some .int), Cond.methodLink RX6 93 yX6_plays, Cond.instanceMethod yX6_plays, Cond.selects RX6 yX6_plays yX6_plays, Cond.code yX6_plays cX6_plays 7 (some .boolean), Cond.methodLink RX6 89 yX6_lies, Cond.instanceMethod yX6_lies, Cond.selects RX6 yX6_lies yX6_lies, Cond.code yX6_lies cX6_lies 7 (some .boolean), Cond.fieldLink RX6 13 "FretSchoolModel" "pitch" "[I", Cond.fieldLink RX6 22 "FretSchoolModel" "open" "[I", Cond.methodLink RX6 98 yX6_apart, Cond.static yX6_apart, Cond.code yX6_apart cX6_apart 2 (some .int)]
def wsX6_shiftsByAll : List Cond := .code yX6_shiftsByAll cX6_shiftsByAll 4 (some .int) :: ((wsX6_shiftsByAll_r1 ++ wsX6_shiftsByAll_r2) ++ wsX60)
def wsX6_hardestOf_r1 : List Cond := [Cond.fieldLink RX6 7 "FretSchoolModel" "many" "[I", Cond.fieldLink RX6 50 "FretSchoolModel" "best" "[I", Cond.methodLink RX6 109 yX6_finds, Cond.instanceMethod yX6_finds, Cond.selects RX6 yX6_finds yX6_finds, Cond.initialized RX6, Cond.code yX6_finds cX6_finds 7 (some .int), Cond.fieldLink RX6 19 "FretSchoolModel" "frets" "[I", Cond.fieldLink RX6 47 "FretSchoolModel" "least" "[I", Cond.constant RX6 97 (1000000), Cond.methodLink RX6 102 yX6_from, Cond.instanceMethod yX6_from, Cond.selects RX6 yX6_from yX6_from, Cond.code yX6_from cX6_from 8 (some .int), Cond.methodLink RX6 93 yX6_plays, Cond.instanceMethod yX6_plays, Cond.selects RX6 yX6_plays yX6_plays, Cond.code yX6_plays cX6_plays 7 (some .boolean), Cond.methodLink RX6 89 yX6_lies, Cond.instanceMethod yX6_lies, Cond.selects RX6 yX6_lies yX6_lies, Cond.code yX6_lies cX6_lies 7 (some .boolean), Cond.fieldLink RX6 13 "FretSchoolModel" "pitch" "[I", Cond.fieldLink RX6 22 "FretSchoolModel" "open" "[I"]
def wsX6_hardestOf_r2 : List Cond := [Cond.methodLink RX6 60 yX6_in, Cond.static yX6_in, Cond.code yX6_in cX6_in 3 (some .boolean), Cond.methodLink RX6 98 yX6_apart, Cond.static yX6_apart, Cond.code yX6_apart cX6_apart 2 (some .int)]
def wsX6_hardestOf : List Cond := .code yX6_hardestOf cX6_hardestOf 6 (some .int) :: ((wsX6_hardestOf_r1 ++ wsX6_hardestOf_r2) ++ wsX60)
def wsX6_hardest_r1 : List Cond := [Cond.methodLink RX6 106 yX6_asks, Cond.instanceMethod yX6_asks, Cond.selects RX6 yX6_asks yX6_asks, Cond.initialized RX6, Cond.code yX6_asks cX6_asks 3 (some .boolean), Cond.methodLink RX6 64 yX6_isPiece, Cond.instanceMethod yX6_isPiece, Cond.selects RX6 yX6_isPiece yX6_isPiece, Cond.code yX6_isPiece cX6_isPiece 2 (some .boolean), Cond.fieldLink RX6 57 "FretSchoolModel" "pieces" "I", Cond.methodLink RX6 60 yX6_in, Cond.static yX6_in, Cond.code yX6_in cX6_in 3 (some .boolean), Cond.methodLink RX6 82 yX6_isInstrument, Cond.instanceMethod yX6_isInstrument, Cond.selects RX6 yX6_isInstrument yX6_isInstrument, Cond.code yX6_isInstrument cX6_isInstrument 2 (some .boolean), Cond.fieldLink RX6 68 "FretSchoolModel" "instruments" "I", Cond.methodLink RX6 74 yX6_goes, Cond.instanceMethod yX6_goes, Cond.selects RX6 yX6_goes yX6_goes, Cond.code yX6_goes cX6_goes 4 (some .boolean), Cond.fieldLink RX6 53 "FretSchoolModel" "thrown" "I", Cond.methodLink RX6 112 yX6_hardestOf]
def wsX6_hardest_r2 : List Cond := [Cond.instanceMethod yX6_hardestOf, Cond.selects RX6 yX6_hardestOf yX6_hardestOf, Cond.code yX6_hardestOf cX6_hardestOf 6 (some .int), Cond.fieldLink RX6 7 "FretSchoolModel" "many" "[I", Cond.fieldLink RX6 50 "FretSchoolModel" "best" "[I", Cond.methodLink RX6 109 yX6_finds, Cond.instanceMethod yX6_finds, Cond.selects RX6 yX6_finds yX6_finds, Cond.code yX6_finds cX6_finds 7 (some .int), Cond.fieldLink RX6 19 "FretSchoolModel" "frets" "[I", Cond.fieldLink RX6 47 "FretSchoolModel" "least" "[I", Cond.constant RX6 97 (1000000), Cond.methodLink RX6 102 yX6_from, Cond.instanceMethod yX6_from, Cond.selects RX6 yX6_from yX6_from, Cond.code yX6_from cX6_from 8 (some .int), Cond.methodLink RX6 93 yX6_plays, Cond.instanceMethod yX6_plays, Cond.selects RX6 yX6_plays yX6_plays, Cond.code yX6_plays cX6_plays 7 (some .boolean), Cond.methodLink RX6 89 yX6_lies, Cond.instanceMethod yX6_lies, Cond.selects RX6 yX6_lies yX6_lies, Cond.code yX6_lies cX6_lies 7 (some .boolean)]
def wsX6_hardest_r3 : List Cond := [Cond.fieldLink RX6 13 "FretSchoolModel" "pitch" "[I", Cond.fieldLink RX6 22 "FretSchoolModel" "open" "[I", Cond.methodLink RX6 98 yX6_apart, Cond.static yX6_apart, Cond.code yX6_apart cX6_apart 2 (some .int)]
def wsX6_hardest : List Cond := .code yX6_hardest cX6_hardest 3 (some .int) :: ((wsX6_hardest_r1 ++ (wsX6_hardest_r2 ++ wsX6_hardest_r3)) ++ wsX60)
def wsX6_asksNote : List Cond := .code yX6_asksNote cX6_asksNote 4 (some .boolean) :: ([.methodLink RX6 78 yX6_isNote, .instanceMethod yX6_isNote, .selects RX6 yX6_isNote yX6_isNote, .initialized RX6, .code yX6_isNote cX6_isNote 3 (some .boolean), .fieldLink RX6 7 "FretSchoolModel" "many" "[I", .methodLink RX6 64 yX6_isPiece, .instanceMethod yX6_isPiece, .selects RX6 yX6_isPiece yX6_isPiece, .code yX6_isPiece cX6_isPiece 2 (some .boolean), .fieldLink RX6 57 "FretSchoolModel" "pieces" "I", .methodLink RX6 60 yX6_in, .static yX6_in, .code yX6_in cX6_in 3 (some .boolean), .methodLink RX6 82 yX6_isInstrument, .instanceMethod yX6_isInstrument, .selects RX6 yX6_isInstrument yX6_isInstrument, .code yX6_isInstrument cX6_isInstrument 2 (some .boolean), .fieldLink RX6 68 "FretSchoolModel" "instruments" "I", .methodLink RX6 74 yX6_goes, .instanceMethod yX6_goes, .selects RX6 yX6_goes yX6_goes, .code yX6_goes cX6_goes 4 (some .boolean), .fieldLink RX6 53 "FretSchoolModel" "thrown" "I"] ++ wsX60)
def wsX6_position_r1 : List Cond := [Cond.fieldLink RX6 50 "FretSchoolModel" "best" "[I", Cond.methodLink RX6 115 yX6_asksNote, Cond.instanceMethod yX6_asksNote, Cond.selects RX6 yX6_asksNote yX6_asksNote, Cond.initialized RX6, Cond.code yX6_asksNote cX6_asksNote 4 (some .boolean), Cond.methodLink RX6 78 yX6_isNote, Cond.instanceMethod yX6_isNote, Cond.selects RX6 yX6_isNote yX6_isNote, Cond.code yX6_isNote cX6_isNote 3 (some .boolean), Cond.fieldLink RX6 7 "FretSchoolModel" "many" "[I", Cond.methodLink RX6 64 yX6_isPiece, Cond.instanceMethod yX6_isPiece, Cond.selects RX6 yX6_isPiece yX6_isPiece, Cond.code yX6_isPiece cX6_isPiece 2 (some .boolean), Cond.fieldLink RX6 57 "FretSchoolModel" "pieces" "I", Cond.methodLink RX6 60 yX6_in, Cond.static yX6_in, Cond.code yX6_in cX6_in 3 (some .boolean), Cond.methodLink RX6 82 yX6_isInstrument, Cond.instanceMethod yX6_isInstrument, Cond.selects RX6 yX6_isInstrument yX6_isInstrument, Cond.code yX6_isInstrument cX6_isInstrument 2 (some .boolean), Cond.fieldLink RX6 68 "FretSchoolModel" "instruments" "I"]
def wsX6_position_r2 : List Cond := [Cond.methodLink RX6 74 yX6_goes, Cond.instanceMethod yX6_goes, Cond.selects RX6 yX6_goes yX6_goes, Cond.code yX6_goes cX6_goes 4 (some .boolean), Cond.fieldLink RX6 53 "FretSchoolModel" "thrown" "I", Cond.methodLink RX6 109 yX6_finds, Cond.instanceMethod yX6_finds, Cond.selects RX6 yX6_finds yX6_finds, Cond.code yX6_finds cX6_finds 7 (some .int), Cond.fieldLink RX6 19 "FretSchoolModel" "frets" "[I", Cond.fieldLink RX6 47 "FretSchoolModel" "least" "[I", Cond.constant RX6 97 (1000000), Cond.methodLink RX6 102 yX6_from, Cond.instanceMethod yX6_from, Cond.selects RX6 yX6_from yX6_from, Cond.code yX6_from cX6_from 8 (some .int), Cond.methodLink RX6 93 yX6_plays, Cond.instanceMethod yX6_plays, Cond.selects RX6 yX6_plays yX6_plays, Cond.code yX6_plays cX6_plays 7 (some .boolean), Cond.methodLink RX6 89 yX6_lies, Cond.instanceMethod yX6_lies, Cond.selects RX6 yX6_lies yX6_lies, Cond.code yX6_lies cX6_lies 7 (some .boolean)]
def wsX6_position_r3 : List Cond := [Cond.fieldLink RX6 13 "FretSchoolModel" "pitch" "[I", Cond.fieldLink RX6 22 "FretSchoolModel" "open" "[I", Cond.methodLink RX6 98 yX6_apart, Cond.static yX6_apart, Cond.code yX6_apart cX6_apart 2 (some .int)]
def wsX6_position : List Cond := .code yX6_position cX6_position 4 (some .int) :: ((wsX6_position_r1 ++ (wsX6_position_r2 ++ wsX6_position_r3)) ++ wsX60)
def wsX6_string_r1 : List Cond := [Cond.fieldLink RX6 50 "FretSchoolModel" "best" "[I", Cond.methodLink RX6 115 yX6_asksNote, Cond.instanceMethod yX6_asksNote, Cond.selects RX6 yX6_asksNote yX6_asksNote, Cond.initialized RX6, Cond.code yX6_asksNote cX6_asksNote 4 (some .boolean), Cond.methodLink RX6 78 yX6_isNote, Cond.instanceMethod yX6_isNote, Cond.selects RX6 yX6_isNote yX6_isNote, Cond.code yX6_isNote cX6_isNote 3 (some .boolean), Cond.fieldLink RX6 7 "FretSchoolModel" "many" "[I", Cond.methodLink RX6 64 yX6_isPiece, Cond.instanceMethod yX6_isPiece, Cond.selects RX6 yX6_isPiece yX6_isPiece, Cond.code yX6_isPiece cX6_isPiece 2 (some .boolean), Cond.fieldLink RX6 57 "FretSchoolModel" "pieces" "I", Cond.methodLink RX6 60 yX6_in, Cond.static yX6_in, Cond.code yX6_in cX6_in 3 (some .boolean), Cond.methodLink RX6 82 yX6_isInstrument, Cond.instanceMethod yX6_isInstrument, Cond.selects RX6 yX6_isInstrument yX6_isInstrument, Cond.code yX6_isInstrument cX6_isInstrument 2 (some .boolean), Cond.fieldLink RX6 68 "FretSchoolModel" "instruments" "I"]
def wsX6_string_r2 : List Cond := [Cond.methodLink RX6 74 yX6_goes, Cond.instanceMethod yX6_goes, Cond.selects RX6 yX6_goes yX6_goes, Cond.code yX6_goes cX6_goes 4 (some .boolean), Cond.fieldLink RX6 53 "FretSchoolModel" "thrown" "I", Cond.methodLink RX6 109 yX6_finds, Cond.instanceMethod yX6_finds, Cond.selects RX6 yX6_finds yX6_finds, Cond.code yX6_finds cX6_finds 7 (some .int), Cond.fieldLink RX6 19 "FretSchoolModel" "frets" "[I", Cond.fieldLink RX6 47 "FretSchoolModel" "least" "[I", Cond.constant RX6 97 (1000000), Cond.methodLink RX6 102 yX6_from, Cond.instanceMethod yX6_from, Cond.selects RX6 yX6_from yX6_from, Cond.code yX6_from cX6_from 8 (some .int), Cond.methodLink RX6 93 yX6_plays, Cond.instanceMethod yX6_plays, Cond.selects RX6 yX6_plays yX6_plays, Cond.code yX6_plays cX6_plays 7 (some .boolean), Cond.methodLink RX6 89 yX6_lies, Cond.instanceMethod yX6_lies, Cond.selects RX6 yX6_lies yX6_lies, Cond.code yX6_lies cX6_lies 7 (some .boolean)]
def wsX6_string_r3 : List Cond := [Cond.fieldLink RX6 13 "FretSchoolModel" "pitch" "[I", Cond.fieldLink RX6 22 "FretSchoolModel" "open" "[I", Cond.methodLink RX6 98 yX6_apart, Cond.static yX6_apart, Cond.code yX6_apart cX6_apart 2 (some .int)]
def wsX6_string : List Cond := .code yX6_string cX6_string 6 (some .int) :: ((wsX6_string_r1 ++ (wsX6_string_r2 ++ wsX6_string_r3)) ++ wsX60)
def wsX6_isKnown : List Cond := .code yX6_isKnown cX6_isKnown 3 (some .boolean) :: ([.fieldLink RX6 28 "FretSchoolModel" "known" "[I"] ++ wsX60)
def wsX6_canLearn_r1 : List Cond := [Cond.fieldLink RX6 16 "FretSchoolModel" "owner" "[I", Cond.fieldLink RX6 25 "FretSchoolModel" "level" "[I", Cond.methodLink RX6 112 yX6_hardestOf, Cond.instanceMethod yX6_hardestOf, Cond.selects RX6 yX6_hardestOf yX6_hardestOf, Cond.initialized RX6, Cond.code yX6_hardestOf cX6_hardestOf 6 (some .int), Cond.fieldLink RX6 7 "FretSchoolModel" "many" "[I", Cond.fieldLink RX6 50 "FretSchoolModel" "best" "[I", Cond.methodLink RX6 109 yX6_finds, Cond.instanceMethod yX6_finds, Cond.selects RX6 yX6_finds yX6_finds, Cond.code yX6_finds cX6_finds 7 (some .int), Cond.fieldLink RX6 19 "FretSchoolModel" "frets" "[I", Cond.fieldLink RX6 47 "FretSchoolModel" "least" "[I", Cond.constant RX6 97 (1000000), Cond.methodLink RX6 102 yX6_from, Cond.instanceMethod yX6_from, Cond.selects RX6 yX6_from yX6_from, Cond.code yX6_from cX6_from 8 (some .int), Cond.methodLink RX6 93 yX6_plays, Cond.instanceMethod yX6_plays, Cond.selects RX6 yX6_plays yX6_plays, Cond.code yX6_plays cX6_plays 7 (some .boolean)]
def wsX6_canLearn_r2 : List Cond := [Cond.methodLink RX6 89 yX6_lies, Cond.instanceMethod yX6_lies, Cond.selects RX6 yX6_lies yX6_lies, Cond.code yX6_lies cX6_lies 7 (some .boolean), Cond.fieldLink RX6 13 "FretSchoolModel" "pitch" "[I", Cond.fieldLink RX6 22 "FretSchoolModel" "open" "[I", Cond.methodLink RX6 60 yX6_in, Cond.static yX6_in, Cond.code yX6_in cX6_in 3 (some .boolean), Cond.methodLink RX6 98 yX6_apart, Cond.static yX6_apart, Cond.code yX6_apart cX6_apart 2 (some .int), Cond.methodLink RX6 118 yX6_isKnown, Cond.instanceMethod yX6_isKnown, Cond.selects RX6 yX6_isKnown yX6_isKnown, Cond.code yX6_isKnown cX6_isKnown 3 (some .boolean), Cond.fieldLink RX6 28 "FretSchoolModel" "known" "[I"]
def wsX6_canLearn : List Cond := .code yX6_canLearn cX6_canLearn 5 (some .boolean) :: ((wsX6_canLearn_r1 ++ wsX6_canLearn_r2) ++ wsX60)
def wsX6_learn_r1 : List Cond := [Cond.fieldLink RX6 25 "FretSchoolModel" "level" "[I", Cond.fieldLink RX6 28 "FretSchoolModel" "known" "[I", Cond.methodLink RX6 64 yX6_isPiece, Cond.instanceMethod yX6_isPiece, Cond.selects RX6 yX6_isPiece yX6_isPiece, Cond.initialized RX6, Cond.code yX6_isPiece cX6_isPiece 2 (some .boolean), Cond.fieldLink RX6 57 "FretSchoolModel" "pieces" "I", Cond.methodLink RX6 60 yX6_in, Cond.static yX6_in, Cond.code yX6_in cX6_in 3 (some .boolean), Cond.methodLink RX6 82 yX6_isInstrument, Cond.instanceMethod yX6_isInstrument, Cond.selects RX6 yX6_isInstrument yX6_isInstrument, Cond.code yX6_isInstrument cX6_isInstrument 2 (some .boolean), Cond.fieldLink RX6 68 "FretSchoolModel" "instruments" "I", Cond.methodLink RX6 121 yX6_isPupil, Cond.static yX6_isPupil, Cond.code yX6_isPupil cX6_isPupil 1 (some .boolean), Cond.methodLink RX6 124 yX6_canLearn, Cond.instanceMethod yX6_canLearn, Cond.selects RX6 yX6_canLearn yX6_canLearn, Cond.code yX6_canLearn cX6_canLearn 5 (some .boolean), Cond.fieldLink RX6 16 "FretSchoolModel" "owner" "[I"]
def wsX6_learn_r2 : List Cond := [Cond.methodLink RX6 112 yX6_hardestOf, Cond.instanceMethod yX6_hardestOf, Cond.selects RX6 yX6_hardestOf yX6_hardestOf, Cond.code yX6_hardestOf cX6_hardestOf 6 (some .int), Cond.fieldLink RX6 7 "FretSchoolModel" "many" "[I", Cond.fieldLink RX6 50 "FretSchoolModel" "best" "[I", Cond.methodLink RX6 109 yX6_finds, Cond.instanceMethod yX6_finds, Cond.selects RX6 yX6_finds yX6_finds, Cond.code yX6_finds cX6_finds 7 (some .int), Cond.fieldLink RX6 19 "FretSchoolModel" "frets" "[I", Cond.fieldLink RX6 47 "FretSchoolModel" "least" "[I", Cond.constant RX6 97 (1000000), Cond.methodLink RX6 102 yX6_from, Cond.instanceMethod yX6_from, Cond.selects RX6 yX6_from yX6_from, Cond.code yX6_from cX6_from 8 (some .int), Cond.methodLink RX6 93 yX6_plays, Cond.instanceMethod yX6_plays, Cond.selects RX6 yX6_plays yX6_plays, Cond.code yX6_plays cX6_plays 7 (some .boolean), Cond.methodLink RX6 89 yX6_lies, Cond.instanceMethod yX6_lies, Cond.selects RX6 yX6_lies yX6_lies]
def wsX6_learn_r3 : List Cond := [Cond.code yX6_lies cX6_lies 7 (some .boolean), Cond.fieldLink RX6 13 "FretSchoolModel" "pitch" "[I", Cond.fieldLink RX6 22 "FretSchoolModel" "open" "[I", Cond.methodLink RX6 98 yX6_apart, Cond.static yX6_apart, Cond.code yX6_apart cX6_apart 2 (some .int), Cond.methodLink RX6 118 yX6_isKnown, Cond.instanceMethod yX6_isKnown, Cond.selects RX6 yX6_isKnown yX6_isKnown, Cond.code yX6_isKnown cX6_isKnown 3 (some .boolean), Cond.methodLink RX6 74 yX6_goes, Cond.instanceMethod yX6_goes, Cond.selects RX6 yX6_goes yX6_goes, Cond.code yX6_goes cX6_goes 4 (some .boolean), Cond.fieldLink RX6 53 "FretSchoolModel" "thrown" "I"]
def wsX6_learn : List Cond := .code yX6_learn cX6_learn 6 (some .int) :: ((wsX6_learn_r1 ++ (wsX6_learn_r2 ++ wsX6_learn_r3)) ++ wsX60)
def wsX6_level : List Cond := .code yX6_level cX6_level 2 (some .int) :: ([.fieldLink RX6 25 "FretSchoolModel" "level" "[I", .methodLink RX6 121 yX6_isPupil, .static yX6_isPupil, .initialized RX6, .code yX6_isPupil cX6_isPupil 1 (some .boolean), .methodLink RX6 60 yX6_in, .static yX6_in, .code yX6_in cX6_in 3 (some .boolean), .methodLink RX6 74 yX6_goes, .instanceMethod yX6_goes, .selects RX6 yX6_goes yX6_goes, .code yX6_goes cX6_goes 4 (some .boolean), .fieldLink RX6 53 "FretSchoolModel" "thrown" "I"] ++ wsX60)
def wsX6_known : List Cond := .code yX6_known cX6_known 2 (some .int) :: ([.fieldLink RX6 28 "FretSchoolModel" "known" "[I", .methodLink RX6 121 yX6_isPupil, .static yX6_isPupil, .initialized RX6, .code yX6_isPupil cX6_isPupil 1 (some .boolean), .methodLink RX6 60 yX6_in, .static yX6_in, .code yX6_in cX6_in 3 (some .boolean), .methodLink RX6 74 yX6_goes, .instanceMethod yX6_goes, .selects RX6 yX6_goes yX6_goes, .code yX6_goes cX6_goes 4 (some .boolean), .fieldLink RX6 53 "FretSchoolModel" "thrown" "I"] ++ wsX60)
def wsX6_next_r1 : List Cond := [Cond.constant RX6 97 (1000000), Cond.fieldLink RX6 57 "FretSchoolModel" "pieces" "I", Cond.fieldLink RX6 68 "FretSchoolModel" "instruments" "I", Cond.methodLink RX6 121 yX6_isPupil, Cond.static yX6_isPupil, Cond.initialized RX6, Cond.code yX6_isPupil cX6_isPupil 1 (some .boolean), Cond.methodLink RX6 60 yX6_in, Cond.static yX6_in, Cond.code yX6_in cX6_in 3 (some .boolean), Cond.methodLink RX6 74 yX6_goes, Cond.instanceMethod yX6_goes, Cond.selects RX6 yX6_goes yX6_goes, Cond.code yX6_goes cX6_goes 4 (some .boolean), Cond.fieldLink RX6 53 "FretSchoolModel" "thrown" "I", Cond.methodLink RX6 124 yX6_canLearn, Cond.instanceMethod yX6_canLearn, Cond.selects RX6 yX6_canLearn yX6_canLearn, Cond.code yX6_canLearn cX6_canLearn 5 (some .boolean), Cond.fieldLink RX6 16 "FretSchoolModel" "owner" "[I", Cond.fieldLink RX6 25 "FretSchoolModel" "level" "[I", Cond.methodLink RX6 112 yX6_hardestOf, Cond.instanceMethod yX6_hardestOf, Cond.selects RX6 yX6_hardestOf yX6_hardestOf]
def wsX6_next_r2 : List Cond := [Cond.code yX6_hardestOf cX6_hardestOf 6 (some .int), Cond.fieldLink RX6 7 "FretSchoolModel" "many" "[I", Cond.fieldLink RX6 50 "FretSchoolModel" "best" "[I", Cond.methodLink RX6 109 yX6_finds, Cond.instanceMethod yX6_finds, Cond.selects RX6 yX6_finds yX6_finds, Cond.code yX6_finds cX6_finds 7 (some .int), Cond.fieldLink RX6 19 "FretSchoolModel" "frets" "[I", Cond.fieldLink RX6 47 "FretSchoolModel" "least" "[I", Cond.methodLink RX6 102 yX6_from, Cond.instanceMethod yX6_from, Cond.selects RX6 yX6_from yX6_from, Cond.code yX6_from cX6_from 8 (some .int), Cond.methodLink RX6 93 yX6_plays, Cond.instanceMethod yX6_plays, Cond.selects RX6 yX6_plays yX6_plays, Cond.code yX6_plays cX6_plays 7 (some .boolean), Cond.methodLink RX6 89 yX6_lies, Cond.instanceMethod yX6_lies, Cond.selects RX6 yX6_lies yX6_lies, Cond.code yX6_lies cX6_lies 7 (some .boolean), Cond.fieldLink RX6 13 "FretSchoolModel" "pitch" "[I", Cond.fieldLink RX6 22 "FretSchoolModel" "open" "[I", Cond.methodLink RX6 98 yX6_apart]
def wsX6_next_r3 : List Cond := [Cond.static yX6_apart, Cond.code yX6_apart cX6_apart 2 (some .int), Cond.methodLink RX6 118 yX6_isKnown, Cond.instanceMethod yX6_isKnown, Cond.selects RX6 yX6_isKnown yX6_isKnown, Cond.code yX6_isKnown cX6_isKnown 3 (some .boolean), Cond.fieldLink RX6 28 "FretSchoolModel" "known" "[I"]
def wsX6_next : List Cond := .code yX6_next cX6_next 6 (some .int) :: ((wsX6_next_r1 ++ (wsX6_next_r2 ++ wsX6_next_r3)) ++ wsX60)
def wsX6_addWood : List Cond := .code yX6_addWood cX6_addWood 3 (some .int) :: ([.fieldLink RX6 31 "FretSchoolModel" "stock" "[I", .methodLink RX6 60 yX6_in, .static yX6_in, .initialized RX6, .code yX6_in cX6_in 3 (some .boolean), .methodLink RX6 74 yX6_goes, .instanceMethod yX6_goes, .selects RX6 yX6_goes yX6_goes, .code yX6_goes cX6_goes 4 (some .boolean), .fieldLink RX6 53 "FretSchoolModel" "thrown" "I"] ++ wsX60)
def wsX6_atWork : List Cond := .code yX6_atWork cX6_atWork 3 (some .int) :: ([.fieldLink RX6 71 "FretSchoolModel" "orders" "I", .fieldLink RX6 43 "FretSchoolModel" "fetched" "[Z", .fieldLink RX6 127 "FretSchoolModel" "today" "I", .fieldLink RX6 40 "FretSchoolModel" "readyOn" "[I"] ++ wsX60)
def wsX6_order : List Cond := .code yX6_order cX6_order 5 (some .int) :: ([.fieldLink RX6 31 "FretSchoolModel" "stock" "[I", .fieldLink RX6 71 "FretSchoolModel" "orders" "I", .fieldLink RX6 34 "FretSchoolModel" "buyer" "[I", .fieldLink RX6 37 "FretSchoolModel" "ordered" "[I", .fieldLink RX6 40 "FretSchoolModel" "readyOn" "[I", .fieldLink RX6 127 "FretSchoolModel" "today" "I", .methodLink RX6 121 yX6_isPupil, .static yX6_isPupil, .initialized RX6, .code yX6_isPupil cX6_isPupil 1 (some .boolean), .methodLink RX6 60 yX6_in, .static yX6_in, .code yX6_in cX6_in 3 (some .boolean), .methodLink RX6 130 yX6_atWork, .instanceMethod yX6_atWork, .selects RX6 yX6_atWork yX6_atWork, .code yX6_atWork cX6_atWork 3 (some .int), .fieldLink RX6 43 "FretSchoolModel" "fetched" "[Z", .methodLink RX6 74 yX6_goes, .instanceMethod yX6_goes, .selects RX6 yX6_goes yX6_goes, .code yX6_goes cX6_goes 4 (some .boolean), .fieldLink RX6 53 "FretSchoolModel" "thrown" "I"] ++ wsX60)
def wsX6_ready : List Cond := .code yX6_ready cX6_ready 2 (some .int) :: ([.fieldLink RX6 40 "FretSchoolModel" "readyOn" "[I", .methodLink RX6 134 yX6_isOrder, .instanceMethod yX6_isOrder, .selects RX6 yX6_isOrder yX6_isOrder, .initialized RX6, .code yX6_isOrder cX6_isOrder 2 (some .boolean), .fieldLink RX6 71 "FretSchoolModel" "orders" "I", .methodLink RX6 60 yX6_in, .static yX6_in, .code yX6_in cX6_in 3 (some .boolean), .methodLink RX6 74 yX6_goes, .instanceMethod yX6_goes, .selects RX6 yX6_goes yX6_goes, .code yX6_goes cX6_goes 4 (some .boolean), .fieldLink RX6 53 "FretSchoolModel" "thrown" "I"] ++ wsX60)
def wsX6_isOpen : List Cond := .code yX6_isOpen cX6_isOpen 1 (some .boolean) :: ([.methodLink RX6 60 yX6_in, .static yX6_in, .initialized RX6, .code yX6_in cX6_in 3 (some .boolean)])
def wsX6_fetch_r1 : List Cond := [Cond.fieldLink RX6 127 "FretSchoolModel" "today" "I", Cond.fieldLink RX6 40 "FretSchoolModel" "readyOn" "[I", Cond.fieldLink RX6 43 "FretSchoolModel" "fetched" "[Z", Cond.fieldLink RX6 68 "FretSchoolModel" "instruments" "I", Cond.fieldLink RX6 16 "FretSchoolModel" "owner" "[I", Cond.fieldLink RX6 34 "FretSchoolModel" "buyer" "[I", Cond.fieldLink RX6 19 "FretSchoolModel" "frets" "[I", Cond.fieldLink RX6 37 "FretSchoolModel" "ordered" "[I", Cond.fieldLink RX6 22 "FretSchoolModel" "open" "[I", Cond.methodLink RX6 134 yX6_isOrder, Cond.instanceMethod yX6_isOrder, Cond.selects RX6 yX6_isOrder yX6_isOrder, Cond.initialized RX6, Cond.code yX6_isOrder cX6_isOrder 2 (some .boolean), Cond.fieldLink RX6 71 "FretSchoolModel" "orders" "I", Cond.methodLink RX6 60 yX6_in, Cond.static yX6_in, Cond.code yX6_in cX6_in 3 (some .boolean), Cond.methodLink RX6 137 yX6_isOpen, Cond.static yX6_isOpen, Cond.code yX6_isOpen cX6_isOpen 1 (some .boolean), Cond.methodLink RX6 74 yX6_goes, Cond.instanceMethod yX6_goes, Cond.selects RX6 yX6_goes yX6_goes]
def wsX6_fetch_r2 : List Cond := [Cond.code yX6_goes cX6_goes 4 (some .boolean), Cond.fieldLink RX6 53 "FretSchoolModel" "thrown" "I"]
def wsX6_fetch : List Cond := .code yX6_fetch cX6_fetch 8 (some .int) :: ((wsX6_fetch_r1 ++ wsX6_fetch_r2) ++ wsX60)
def wsX6_pass : List Cond := .code yX6_pass cX6_pass 3 (some .int) :: ([.fieldLink RX6 127 "FretSchoolModel" "today" "I", .methodLink RX6 60 yX6_in, .static yX6_in, .initialized RX6, .code yX6_in cX6_in 3 (some .boolean), .methodLink RX6 74 yX6_goes, .instanceMethod yX6_goes, .selects RX6 yX6_goes yX6_goes, .code yX6_goes cX6_goes 4 (some .boolean), .fieldLink RX6 53 "FretSchoolModel" "thrown" "I"] ++ wsX60)
def wsX6_today : List Cond := .code yX6_today cX6_today 1 (some .int) :: ([.fieldLink RX6 127 "FretSchoolModel" "today" "I", .methodLink RX6 85 yX6_told, .instanceMethod yX6_told, .selects RX6 yX6_told yX6_told, .initialized RX6, .code yX6_told cX6_told 2 (some .int), .fieldLink RX6 53 "FretSchoolModel" "thrown" "I"] ++ wsX60)
def wsJ9_abs_0f7a4 : List Cond := .code yJ9_abs_0f7a4 cJ9_abs_0f7a4 1 (some .int) :: ([])
def wsL_begin : List Cond := .codeWith yL_begin cL_begin 3 (some .int) [(0, 8, 11, 13)] :: ([.classLink RL 13 "java/lang/IllegalStateException", .methodLink RL 7 yX5_begin, .instanceMethod yX5_begin, .selects RX5 yX5_begin yX5_begin, .initialized RX5, .code yX5_begin cX5_begin 2 (some .int), .classLink RX5 61 "java/lang/IllegalStateException", .initialized "java/lang/IllegalStateException", .fieldLink RX5 48 "FretSchool" "pieceCount" "I"] ++ wsX50 ++ (vx_atS RX5 65 "java/lang/IllegalStateException" ["java/lang/RuntimeException", "java/lang/Exception"]).filter goodWord)
def wsL_addNote_r1 : List Cond := [Cond.classLink RL 19 "java/lang/IndexOutOfBoundsException", Cond.classLink RL 21 "java/lang/IllegalArgumentException", Cond.classLink RL 13 "java/lang/IllegalStateException", Cond.methodLink RL 15 yX5_addNote, Cond.instanceMethod yX5_addNote, Cond.selects RX5 yX5_addNote yX5_addNote, Cond.initialized RX5, Cond.code yX5_addNote cX5_addNote 4 (some .int), Cond.classLink RX5 61 "java/lang/IllegalStateException", Cond.initialized "java/lang/IllegalStateException", Cond.fieldLink RX5 11 "FretSchool" "pieces" "[LFretSchool$Piece;", Cond.fieldLink RX5 85 "FretSchool$Piece" "count" "I", Cond.methodLink RX5 68 yX5_needPiece, Cond.instanceMethod yX5_needPiece, Cond.selects RX5 yX5_needPiece yX5_needPiece, Cond.code yX5_needPiece cX5_needPiece 2 none, Cond.classLink RX5 209 "java/lang/IndexOutOfBoundsException", Cond.initialized "java/lang/IndexOutOfBoundsException", Cond.fieldLink RX5 48 "FretSchool" "pieceCount" "I", Cond.methodLink RX5 72 yX5_needRange, Cond.static yX5_needRange, Cond.code yX5_needRange cX5_needRange 3 none, Cond.classLink RX5 220 "java/lang/IllegalArgumentException", Cond.initialized "java/lang/IllegalArgumentException"]
def wsL_addNote_r2 : List Cond := [Cond.methodLink RX5 76 yX3_isFull, Cond.instanceMethod yX3_isFull, Cond.selects RX3 yX3_isFull yX3_isFull, Cond.initialized RX3, Cond.code yX3_isFull cX3_isFull 1 (some .boolean), Cond.fieldLink RX3 15 "FretSchool$Piece" "count" "I", Cond.methodLink RX5 82 yX3_append, Cond.instanceMethod yX3_append, Cond.selects RX3 yX3_append yX3_append, Cond.code yX3_append cX3_append 2 none, Cond.fieldLink RX3 9 "FretSchool$Piece" "pitches" "[I", Cond.methodLink RX3 19 yX3_isFull]
def wsL_addNote : List Cond := .codeWith yL_addNote cL_addNote 5 (some .int) [(0, 10, 13, 19), (0, 10, 17, 21), (0, 10, 21, 13)] :: ((wsL_addNote_r1 ++ wsL_addNote_r2) ++ wsX50 ++ wsX30 ++ (vx_atS RX5 65 "java/lang/IllegalStateException" ["java/lang/RuntimeException", "java/lang/Exception"]).filter goodWord ++ (vx_atS RX5 213 "java/lang/IndexOutOfBoundsException" ["java/lang/RuntimeException", "java/lang/Exception"]).filter goodWord ++ (vx_atS RX5 224 "java/lang/IllegalArgumentException" ["java/lang/RuntimeException", "java/lang/Exception"]).filter goodWord)
def wsL_transpose_r1 : List Cond := [Cond.classLink RL 19 "java/lang/IndexOutOfBoundsException", Cond.classLink RL 21 "java/lang/IllegalArgumentException", Cond.classLink RL 13 "java/lang/IllegalStateException", Cond.methodLink RL 23 yX5_transpose, Cond.instanceMethod yX5_transpose, Cond.selects RX5 yX5_transpose yX5_transpose, Cond.initialized RX5, Cond.code yX5_transpose cX5_transpose 4 none, Cond.classLink RX5 61 "java/lang/IllegalStateException", Cond.initialized "java/lang/IllegalStateException", Cond.fieldLink RX5 11 "FretSchool" "pieces" "[LFretSchool$Piece;", Cond.methodLink RX5 68 yX5_needPiece, Cond.instanceMethod yX5_needPiece, Cond.selects RX5 yX5_needPiece yX5_needPiece, Cond.code yX5_needPiece cX5_needPiece 2 none, Cond.classLink RX5 209 "java/lang/IndexOutOfBoundsException", Cond.initialized "java/lang/IndexOutOfBoundsException", Cond.fieldLink RX5 48 "FretSchool" "pieceCount" "I", Cond.methodLink RX5 72 yX5_needRange, Cond.static yX5_needRange, Cond.code yX5_needRange cX5_needRange 3 none, Cond.classLink RX5 220 "java/lang/IllegalArgumentException", Cond.initialized "java/lang/IllegalArgumentException", Cond.methodLink RX5 88 yX3_canMove]
def wsL_transpose_r2 : List Cond := [Cond.instanceMethod yX3_canMove, Cond.selects RX3 yX3_canMove yX3_canMove, Cond.initialized RX3, Cond.code yX3_canMove cX3_canMove 4 (some .boolean), Cond.fieldLink RX3 15 "FretSchool$Piece" "count" "I", Cond.fieldLink RX3 9 "FretSchool$Piece" "pitches" "[I", Cond.methodLink RX5 94 yX3_move, Cond.instanceMethod yX3_move, Cond.selects RX3 yX3_move yX3_move, Cond.code yX3_move cX3_move 3 none]
def wsL_transpose : List Cond := .codeWith yL_transpose cL_transpose 4 (some .int) [(0, 6, 9, 19), (0, 6, 12, 21), (0, 6, 15, 13)] :: ((wsL_transpose_r1 ++ wsL_transpose_r2) ++ wsX50 ++ wsX30 ++ (vx_atS RX5 65 "java/lang/IllegalStateException" ["java/lang/RuntimeException", "java/lang/Exception"]).filter goodWord ++ (vx_atS RX5 213 "java/lang/IndexOutOfBoundsException" ["java/lang/RuntimeException", "java/lang/Exception"]).filter goodWord ++ (vx_atS RX5 224 "java/lang/IllegalArgumentException" ["java/lang/RuntimeException", "java/lang/Exception"]).filter goodWord)
def wsL_pitch : List Cond := .codeWith yL_pitch cL_pitch 5 (some .int) [(0, 10, 13, 19)] :: ([.classLink RL 19 "java/lang/IndexOutOfBoundsException", .methodLink RL 27 yX5_pitch, .instanceMethod yX5_pitch, .selects RX5 yX5_pitch yX5_pitch, .initialized RX5, .code yX5_pitch cX5_pitch 3 (some .int), .fieldLink RX5 11 "FretSchool" "pieces" "[LFretSchool$Piece;", .fieldLink RX5 101 "FretSchool$Piece" "pitches" "[I", .methodLink RX5 97 yX5_needNote, .instanceMethod yX5_needNote, .selects RX5 yX5_needNote yX5_needNote, .code yX5_needNote cX5_needNote 3 none, .classLink RX5 209 "java/lang/IndexOutOfBoundsException", .initialized "java/lang/IndexOutOfBoundsException", .fieldLink RX5 85 "FretSchool$Piece" "count" "I", .methodLink RX5 68 yX5_needPiece, .instanceMethod yX5_needPiece, .selects RX5 yX5_needPiece yX5_needPiece, .code yX5_needPiece cX5_needPiece 2 none, .fieldLink RX5 48 "FretSchool" "pieceCount" "I"] ++ wsX50 ++ wsX30 ++ (vx_atS RX5 213 "java/lang/IndexOutOfBoundsException" ["java/lang/RuntimeException", "java/lang/Exception"]).filter goodWord)
def wsL_tune : List Cond := .codeWith yL_tune cL_tune 6 (some .int) [(0, 12, 15, 19), (0, 12, 19, 21)] :: ([.classLink RL 19 "java/lang/IndexOutOfBoundsException", .classLink RL 21 "java/lang/IllegalArgumentException", .methodLink RL 30 yX5_tune, .instanceMethod yX5_tune, .selects RX5 yX5_tune yX5_tune, .initialized RX5, .code yX5_tune cX5_tune 6 (some .int), .fieldLink RX5 18 "FretSchool" "builds" "[LFretSchool$Instrument;", .fieldLink RX5 107 "FretSchool$Instrument" "open" "[I", .methodLink RX5 104 yX5_needInstrument, .instanceMethod yX5_needInstrument, .selects RX5 yX5_needInstrument yX5_needInstrument, .code yX5_needInstrument cX5_needInstrument 2 none, .classLink RX5 209 "java/lang/IndexOutOfBoundsException", .initialized "java/lang/IndexOutOfBoundsException", .fieldLink RX5 52 "FretSchool" "buildCount" "I", .methodLink RX5 72 yX5_needRange, .static yX5_needRange, .code yX5_needRange cX5_needRange 3 none, .classLink RX5 220 "java/lang/IllegalArgumentException", .initialized "java/lang/IllegalArgumentException"] ++ wsX50 ++ wsX10 ++ (vx_atS RX5 213 "java/lang/IndexOutOfBoundsException" ["java/lang/RuntimeException", "java/lang/Exception"]).filter goodWord ++ (vx_atS RX5 224 "java/lang/IllegalArgumentException" ["java/lang/RuntimeException", "java/lang/Exception"]).filter goodWord)
def wsL_owner : List Cond := .codeWith yL_owner cL_owner 4 (some .int) [(0, 9, 12, 19)] :: ([.classLink RL 19 "java/lang/IndexOutOfBoundsException", .methodLink RL 34 yX5_owner, .instanceMethod yX5_owner, .selects RX5 yX5_owner yX5_owner, .initialized RX5, .code yX5_owner cX5_owner 2 (some .int), .fieldLink RX5 18 "FretSchool" "builds" "[LFretSchool$Instrument;", .fieldLink RX5 110 "FretSchool$Instrument" "keeper" "I", .methodLink RX5 104 yX5_needInstrument, .instanceMethod yX5_needInstrument, .selects RX5 yX5_needInstrument yX5_needInstrument, .code yX5_needInstrument cX5_needInstrument 2 none, .classLink RX5 209 "java/lang/IndexOutOfBoundsException", .initialized "java/lang/IndexOutOfBoundsException", .fieldLink RX5 52 "FretSchool" "buildCount" "I"] ++ wsX50 ++ wsX10 ++ (vx_atS RX5 213 "java/lang/IndexOutOfBoundsException" ["java/lang/RuntimeException", "java/lang/Exception"]).filter goodWord)
def wsL_shifts_r1 : List Cond := [Cond.classLink RL 19 "java/lang/IndexOutOfBoundsException", Cond.methodLink RL 38 yX5_shifts, Cond.instanceMethod yX5_shifts, Cond.selects RX5 yX5_shifts yX5_shifts, Cond.initialized RX5, Cond.code yX5_shifts cX5_shifts 3 (some .int), Cond.fieldLink RX5 44 "FretSchool" "hand" "LFretSchool$Hand;", Cond.fieldLink RX5 117 "FretSchool$Hand" "sum" "I", Cond.methodLink RX5 113 yX5_findBest, Cond.instanceMethod yX5_findBest, Cond.selects RX5 yX5_findBest yX5_findBest, Cond.code yX5_findBest cX5_findBest 3 (some .boolean), Cond.fieldLink RX5 11 "FretSchool" "pieces" "[LFretSchool$Piece;", Cond.fieldLink RX5 18 "FretSchool" "builds" "[LFretSchool$Instrument;", Cond.methodLink RX5 68 yX5_needPiece, Cond.instanceMethod yX5_needPiece, Cond.selects RX5 yX5_needPiece yX5_needPiece, Cond.code yX5_needPiece cX5_needPiece 2 none, Cond.classLink RX5 209 "java/lang/IndexOutOfBoundsException", Cond.initialized "java/lang/IndexOutOfBoundsException", Cond.fieldLink RX5 48 "FretSchool" "pieceCount" "I", Cond.methodLink RX5 104 yX5_needInstrument, Cond.instanceMethod yX5_needInstrument, Cond.selects RX5 yX5_needInstrument yX5_needInstrument]
def wsL_shifts_r2 : List Cond := [Cond.code yX5_needInstrument cX5_needInstrument 2 none, Cond.fieldLink RX5 52 "FretSchool" "buildCount" "I", Cond.methodLink RX5 225 yX0_placeBest, Cond.instanceMethod yX0_placeBest, Cond.selects RX0 yX0_placeBest yX0_placeBest, Cond.initialized RX0, Cond.code yX0_placeBest cX0_placeBest 4 (some .boolean), Cond.fieldLink RX0 34 "FretSchool$Piece" "count" "I", Cond.methodLink RX0 30 yX0_feelReach, Cond.instanceMethod yX0_feelReach, Cond.selects RX0 yX0_feelReach yX0_feelReach, Cond.code yX0_feelReach cX0_feelReach 6 none, Cond.fieldLink RX0 9 "FretSchool$Hand" "reach" "[I", Cond.fieldLink RX0 58 "FretSchool$Piece" "pitches" "[I", Cond.methodLink RX0 52 yX1_highestPosition, Cond.instanceMethod yX1_highestPosition, Cond.selects RX1 yX1_highestPosition yX1_highestPosition, Cond.initialized RX1, Cond.code yX1_highestPosition cX1_highestPosition 1 (some .int), Cond.fieldLink RX1 19 "FretSchool$Instrument" "fretCount" "I", Cond.methodLink RX0 61 yX1_lowestString, Cond.instanceMethod yX1_lowestString, Cond.selects RX1 yX1_lowestString yX1_lowestString, Cond.code yX1_lowestString cX1_lowestString 5 (some .int)]
def wsL_shifts_r3 : List Cond := [Cond.fieldLink RX1 9 "FretSchool$Instrument" "open" "[I", Cond.methodLink RX0 39 yX0_measureRest, Cond.instanceMethod yX0_measureRest, Cond.selects RX0 yX0_measureRest yX0_measureRest, Cond.code yX0_measureRest cX0_measureRest 5 none, Cond.fieldLink RX0 17 "FretSchool$Hand" "rest" "[[I", Cond.constant RX0 51 (1000000), Cond.methodLink RX0 65 yX0_nearest, Cond.instanceMethod yX0_nearest, Cond.selects RX0 yX0_nearest yX0_nearest, Cond.code yX0_nearest cX0_nearest 7 (some .int), Cond.methodLink RX0 72 yX0_shift, Cond.static yX0_shift, Cond.code yX0_shift cX0_shift 2 (some .int), Cond.methodLink RX0 75 Lib.Math.abs.name, Cond.static Lib.Math.abs.name, Cond.initialized "java/lang/Math", Cond.code Lib.Math.abs.name Lib.Math.abs.code 1 (some .int), Cond.methodLink RX0 68 yX0_canReach, Cond.static yX0_canReach, Cond.code yX0_canReach cX0_canReach 2 (some .boolean), Cond.methodLink RX0 43 yX0_chooseRow, Cond.instanceMethod yX0_chooseRow, Cond.selects RX0 yX0_chooseRow yX0_chooseRow]
def wsL_shifts_r4 : List Cond := [Cond.code yX0_chooseRow cX0_chooseRow 6 (some .boolean), Cond.fieldLink RX0 23 "FretSchool$Hand" "sum" "I", Cond.fieldLink RX0 27 "FretSchool$Hand" "greatest" "I", Cond.fieldLink RX0 20 "FretSchool$Hand" "row" "[I"]
def wsL_shifts : List Cond := .codeWith yL_shifts cL_shifts 5 (some .int) [(0, 10, 13, 19)] :: ((wsL_shifts_r1 ++ (wsL_shifts_r2 ++ (wsL_shifts_r3 ++ wsL_shifts_r4))) ++ wsX50 ++ wsX00 ++ wsX30 ++ wsX10 ++ (vx_atS RX5 213 "java/lang/IndexOutOfBoundsException" ["java/lang/RuntimeException", "java/lang/Exception"]).filter goodWord)
def wsL_shiftsByAll_r1 : List Cond := [Cond.classLink RL 19 "java/lang/IndexOutOfBoundsException", Cond.classLink RL 13 "java/lang/IllegalStateException", Cond.methodLink RL 41 yX5_shiftsByAll, Cond.instanceMethod yX5_shiftsByAll, Cond.selects RX5 yX5_shiftsByAll yX5_shiftsByAll, Cond.initialized RX5, Cond.code yX5_shiftsByAll cX5_shiftsByAll 3 (some .int), Cond.classLink RX5 61 "java/lang/IllegalStateException", Cond.initialized "java/lang/IllegalStateException", Cond.fieldLink RX5 11 "FretSchool" "pieces" "[LFretSchool$Piece;", Cond.fieldLink RX5 85 "FretSchool$Piece" "count" "I", Cond.fieldLink RX5 44 "FretSchool" "hand" "LFretSchool$Hand;", Cond.fieldLink RX5 18 "FretSchool" "builds" "[LFretSchool$Instrument;", Cond.methodLink RX5 68 yX5_needPiece, Cond.instanceMethod yX5_needPiece, Cond.selects RX5 yX5_needPiece yX5_needPiece, Cond.code yX5_needPiece cX5_needPiece 2 none, Cond.classLink RX5 209 "java/lang/IndexOutOfBoundsException", Cond.initialized "java/lang/IndexOutOfBoundsException", Cond.fieldLink RX5 48 "FretSchool" "pieceCount" "I", Cond.methodLink RX5 104 yX5_needInstrument, Cond.instanceMethod yX5_needInstrument, Cond.selects RX5 yX5_needInstrument yX5_needInstrument, Cond.code yX5_needInstrument cX5_needInstrument 2 none]
def wsL_shiftsByAll_r2 : List Cond := [Cond.fieldLink RX5 52 "FretSchool" "buildCount" "I", Cond.methodLink RX5 122 yX0_leastByAll, Cond.instanceMethod yX0_leastByAll, Cond.selects RX0 yX0_leastByAll yX0_leastByAll, Cond.initialized RX0, Cond.code yX0_leastByAll cX0_leastByAll 4 (some .int), Cond.fieldLink RX0 34 "FretSchool$Piece" "count" "I", Cond.fieldLink RX0 9 "FretSchool$Hand" "reach" "[I", Cond.constant RX0 51 (1000000), Cond.methodLink RX0 30 yX0_feelReach, Cond.instanceMethod yX0_feelReach, Cond.selects RX0 yX0_feelReach yX0_feelReach, Cond.code yX0_feelReach cX0_feelReach 6 none, Cond.fieldLink RX0 58 "FretSchool$Piece" "pitches" "[I", Cond.methodLink RX0 52 yX1_highestPosition, Cond.instanceMethod yX1_highestPosition, Cond.selects RX1 yX1_highestPosition yX1_highestPosition, Cond.initialized RX1, Cond.code yX1_highestPosition cX1_highestPosition 1 (some .int), Cond.fieldLink RX1 19 "FretSchool$Instrument" "fretCount" "I", Cond.methodLink RX0 61 yX1_lowestString, Cond.instanceMethod yX1_lowestString, Cond.selects RX1 yX1_lowestString yX1_lowestString, Cond.code yX1_lowestString cX1_lowestString 5 (some .int)]
def wsL_shiftsByAll_r3 : List Cond := [Cond.fieldLink RX1 9 "FretSchool$Instrument" "open" "[I", Cond.methodLink RX0 47 yX0_leastFrom, Cond.static yX0_leastFrom, Cond.code yX0_leastFrom cX0_leastFrom 7 (some .int), Cond.methodLink RX0 68 yX0_canReach, Cond.static yX0_canReach, Cond.code yX0_canReach cX0_canReach 2 (some .boolean), Cond.methodLink RX0 72 yX0_shift, Cond.static yX0_shift, Cond.code yX0_shift cX0_shift 2 (some .int), Cond.methodLink RX0 75 Lib.Math.abs.name, Cond.static Lib.Math.abs.name, Cond.initialized "java/lang/Math", Cond.code Lib.Math.abs.name Lib.Math.abs.code 1 (some .int)]
def wsL_shiftsByAll : List Cond := .codeWith yL_shiftsByAll cL_shiftsByAll 5 (some .int) [(0, 10, 13, 19), (0, 10, 17, 13)] :: ((wsL_shiftsByAll_r1 ++ (wsL_shiftsByAll_r2 ++ wsL_shiftsByAll_r3)) ++ wsX50 ++ wsX30 ++ wsX00 ++ wsX10 ++ (vx_atS RX5 65 "java/lang/IllegalStateException" ["java/lang/RuntimeException", "java/lang/Exception"]).filter goodWord ++ (vx_atS RX5 213 "java/lang/IndexOutOfBoundsException" ["java/lang/RuntimeException", "java/lang/Exception"]).filter goodWord)
def wsL_hardest_r1 : List Cond := [Cond.classLink RL 19 "java/lang/IndexOutOfBoundsException", Cond.methodLink RL 44 yX5_hardest, Cond.instanceMethod yX5_hardest, Cond.selects RX5 yX5_hardest yX5_hardest, Cond.initialized RX5, Cond.code yX5_hardest cX5_hardest 3 (some .int), Cond.fieldLink RX5 44 "FretSchool" "hand" "LFretSchool$Hand;", Cond.fieldLink RX5 126 "FretSchool$Hand" "greatest" "I", Cond.methodLink RX5 113 yX5_findBest, Cond.instanceMethod yX5_findBest, Cond.selects RX5 yX5_findBest yX5_findBest, Cond.code yX5_findBest cX5_findBest 3 (some .boolean), Cond.fieldLink RX5 11 "FretSchool" "pieces" "[LFretSchool$Piece;", Cond.fieldLink RX5 18 "FretSchool" "builds" "[LFretSchool$Instrument;", Cond.methodLink RX5 68 yX5_needPiece, Cond.instanceMethod yX5_needPiece, Cond.selects RX5 yX5_needPiece yX5_needPiece, Cond.code yX5_needPiece cX5_needPiece 2 none, Cond.classLink RX5 209 "java/lang/IndexOutOfBoundsException", Cond.initialized "java/lang/IndexOutOfBoundsException", Cond.fieldLink RX5 48 "FretSchool" "pieceCount" "I", Cond.methodLink RX5 104 yX5_needInstrument, Cond.instanceMethod yX5_needInstrument, Cond.selects RX5 yX5_needInstrument yX5_needInstrument]
def wsL_hardest_r2 : List Cond := [Cond.code yX5_needInstrument cX5_needInstrument 2 none, Cond.fieldLink RX5 52 "FretSchool" "buildCount" "I", Cond.methodLink RX5 225 yX0_placeBest, Cond.instanceMethod yX0_placeBest, Cond.selects RX0 yX0_placeBest yX0_placeBest, Cond.initialized RX0, Cond.code yX0_placeBest cX0_placeBest 4 (some .boolean), Cond.fieldLink RX0 34 "FretSchool$Piece" "count" "I", Cond.methodLink RX0 30 yX0_feelReach, Cond.instanceMethod yX0_feelReach, Cond.selects RX0 yX0_feelReach yX0_feelReach, Cond.code yX0_feelReach cX0_feelReach 6 none, Cond.fieldLink RX0 9 "FretSchool$Hand" "reach" "[I", Cond.fieldLink RX0 58 "FretSchool$Piece" "pitches" "[I", Cond.methodLink RX0 52 yX1_highestPosition, Cond.instanceMethod yX1_highestPosition, Cond.selects RX1 yX1_highestPosition yX1_highestPosition, Cond.initialized RX1, Cond.code yX1_highestPosition cX1_highestPosition 1 (some .int), Cond.fieldLink RX1 19 "FretSchool$Instrument" "fretCount" "I", Cond.methodLink RX0 61 yX1_lowestString, Cond.instanceMethod yX1_lowestString, Cond.selects RX1 yX1_lowestString yX1_lowestString, Cond.code yX1_lowestString cX1_lowestString 5 (some .int)]
def wsL_hardest_r3 : List Cond := [Cond.fieldLink RX1 9 "FretSchool$Instrument" "open" "[I", Cond.methodLink RX0 39 yX0_measureRest, Cond.instanceMethod yX0_measureRest, Cond.selects RX0 yX0_measureRest yX0_measureRest, Cond.code yX0_measureRest cX0_measureRest 5 none, Cond.fieldLink RX0 17 "FretSchool$Hand" "rest" "[[I", Cond.constant RX0 51 (1000000), Cond.methodLink RX0 65 yX0_nearest, Cond.instanceMethod yX0_nearest, Cond.selects RX0 yX0_nearest yX0_nearest, Cond.code yX0_nearest cX0_nearest 7 (some .int), Cond.methodLink RX0 72 yX0_shift, Cond.static yX0_shift, Cond.code yX0_shift cX0_shift 2 (some .int), Cond.methodLink RX0 75 Lib.Math.abs.name, Cond.static Lib.Math.abs.name, Cond.initialized "java/lang/Math", Cond.code Lib.Math.abs.name Lib.Math.abs.code 1 (some .int), Cond.methodLink RX0 68 yX0_canReach, Cond.static yX0_canReach, Cond.code yX0_canReach cX0_canReach 2 (some .boolean), Cond.methodLink RX0 43 yX0_chooseRow, Cond.instanceMethod yX0_chooseRow, Cond.selects RX0 yX0_chooseRow yX0_chooseRow]
def wsL_hardest_r4 : List Cond := [Cond.code yX0_chooseRow cX0_chooseRow 6 (some .boolean), Cond.fieldLink RX0 23 "FretSchool$Hand" "sum" "I", Cond.fieldLink RX0 27 "FretSchool$Hand" "greatest" "I", Cond.fieldLink RX0 20 "FretSchool$Hand" "row" "[I"]
def wsL_hardest : List Cond := .codeWith yL_hardest cL_hardest 5 (some .int) [(0, 10, 13, 19)] :: ((wsL_hardest_r1 ++ (wsL_hardest_r2 ++ (wsL_hardest_r3 ++ wsL_hardest_r4))) ++ wsX50 ++ wsX00 ++ wsX30 ++ wsX10 ++ (vx_atS RX5 213 "java/lang/IndexOutOfBoundsException" ["java/lang/RuntimeException", "java/lang/Exception"]).filter goodWord)
def wsL_position_r1 : List Cond := [Cond.classLink RL 19 "java/lang/IndexOutOfBoundsException", Cond.methodLink RL 47 yX5_position, Cond.instanceMethod yX5_position, Cond.selects RX5 yX5_position yX5_position, Cond.initialized RX5, Cond.code yX5_position cX5_position 4 (some .int), Cond.fieldLink RX5 44 "FretSchool" "hand" "LFretSchool$Hand;", Cond.fieldLink RX5 129 "FretSchool$Hand" "row" "[I", Cond.methodLink RX5 97 yX5_needNote, Cond.instanceMethod yX5_needNote, Cond.selects RX5 yX5_needNote yX5_needNote, Cond.code yX5_needNote cX5_needNote 3 none, Cond.classLink RX5 209 "java/lang/IndexOutOfBoundsException", Cond.initialized "java/lang/IndexOutOfBoundsException", Cond.fieldLink RX5 11 "FretSchool" "pieces" "[LFretSchool$Piece;", Cond.fieldLink RX5 85 "FretSchool$Piece" "count" "I", Cond.methodLink RX5 68 yX5_needPiece, Cond.instanceMethod yX5_needPiece, Cond.selects RX5 yX5_needPiece yX5_needPiece, Cond.code yX5_needPiece cX5_needPiece 2 none, Cond.fieldLink RX5 48 "FretSchool" "pieceCount" "I", Cond.methodLink RX5 113 yX5_findBest, Cond.instanceMethod yX5_findBest, Cond.selects RX5 yX5_findBest yX5_findBest]
def wsL_position_r2 : List Cond := [Cond.code yX5_findBest cX5_findBest 3 (some .boolean), Cond.fieldLink RX5 18 "FretSchool" "builds" "[LFretSchool$Instrument;", Cond.methodLink RX5 104 yX5_needInstrument, Cond.instanceMethod yX5_needInstrument, Cond.selects RX5 yX5_needInstrument yX5_needInstrument, Cond.code yX5_needInstrument cX5_needInstrument 2 none, Cond.fieldLink RX5 52 "FretSchool" "buildCount" "I", Cond.methodLink RX5 225 yX0_placeBest, Cond.instanceMethod yX0_placeBest, Cond.selects RX0 yX0_placeBest yX0_placeBest, Cond.initialized RX0, Cond.code yX0_placeBest cX0_placeBest 4 (some .boolean), Cond.fieldLink RX0 34 "FretSchool$Piece" "count" "I", Cond.methodLink RX0 30 yX0_feelReach, Cond.instanceMethod yX0_feelReach, Cond.selects RX0 yX0_feelReach yX0_feelReach, Cond.code yX0_feelReach cX0_feelReach 6 none, Cond.fieldLink RX0 9 "FretSchool$Hand" "reach" "[I", Cond.fieldLink RX0 58 "FretSchool$Piece" "pitches" "[I", Cond.methodLink RX0 52 yX1_highestPosition, Cond.instanceMethod yX1_highestPosition, Cond.selects RX1 yX1_highestPosition yX1_highestPosition, Cond.initialized RX1, Cond.code yX1_highestPosition cX1_highestPosition 1 (some .int)]
def wsL_position_r3 : List Cond := [Cond.fieldLink RX1 19 "FretSchool$Instrument" "fretCount" "I", Cond.methodLink RX0 61 yX1_lowestString, Cond.instanceMethod yX1_lowestString, Cond.selects RX1 yX1_lowestString yX1_lowestString, Cond.code yX1_lowestString cX1_lowestString 5 (some .int), Cond.fieldLink RX1 9 "FretSchool$Instrument" "open" "[I", Cond.methodLink RX0 39 yX0_measureRest, Cond.instanceMethod yX0_measureRest, Cond.selects RX0 yX0_measureRest yX0_measureRest, Cond.code yX0_measureRest cX0_measureRest 5 none, Cond.fieldLink RX0 17 "FretSchool$Hand" "rest" "[[I", Cond.constant RX0 51 (1000000), Cond.methodLink RX0 65 yX0_nearest, Cond.instanceMethod yX0_nearest, Cond.selects RX0 yX0_nearest yX0_nearest, Cond.code yX0_nearest cX0_nearest 7 (some .int), Cond.methodLink RX0 72 yX0_shift, Cond.static yX0_shift, Cond.code yX0_shift cX0_shift 2 (some .int), Cond.methodLink RX0 75 Lib.Math.abs.name, Cond.static Lib.Math.abs.name, Cond.initialized "java/lang/Math", Cond.code Lib.Math.abs.name Lib.Math.abs.code 1 (some .int), Cond.methodLink RX0 68 yX0_canReach]
def wsL_position_r4 : List Cond := [Cond.static yX0_canReach, Cond.code yX0_canReach cX0_canReach 2 (some .boolean), Cond.methodLink RX0 43 yX0_chooseRow, Cond.instanceMethod yX0_chooseRow, Cond.selects RX0 yX0_chooseRow yX0_chooseRow, Cond.code yX0_chooseRow cX0_chooseRow 6 (some .boolean), Cond.fieldLink RX0 23 "FretSchool$Hand" "sum" "I", Cond.fieldLink RX0 27 "FretSchool$Hand" "greatest" "I", Cond.fieldLink RX0 20 "FretSchool$Hand" "row" "[I"]
def wsL_position : List Cond := .codeWith yL_position cL_position 6 (some .int) [(0, 12, 15, 19)] :: ((wsL_position_r1 ++ (wsL_position_r2 ++ (wsL_position_r3 ++ wsL_position_r4))) ++ wsX50 ++ wsX00 ++ wsX30 ++ wsX10 ++ (vx_atS RX5 213 "java/lang/IndexOutOfBoundsException" ["java/lang/RuntimeException", "java/lang/Exception"]).filter goodWord)
def wsL_string_r1 : List Cond := [Cond.classLink RL 19 "java/lang/IndexOutOfBoundsException", Cond.methodLink RL 50 yX5_string, Cond.instanceMethod yX5_string, Cond.selects RX5 yX5_string yX5_string, Cond.initialized RX5, Cond.code yX5_string cX5_string 4 (some .int), Cond.fieldLink RX5 18 "FretSchool" "builds" "[LFretSchool$Instrument;", Cond.fieldLink RX5 11 "FretSchool" "pieces" "[LFretSchool$Piece;", Cond.fieldLink RX5 101 "FretSchool$Piece" "pitches" "[I", Cond.fieldLink RX5 44 "FretSchool" "hand" "LFretSchool$Hand;", Cond.fieldLink RX5 129 "FretSchool$Hand" "row" "[I", Cond.methodLink RX5 97 yX5_needNote, Cond.instanceMethod yX5_needNote, Cond.selects RX5 yX5_needNote yX5_needNote, Cond.code yX5_needNote cX5_needNote 3 none, Cond.classLink RX5 209 "java/lang/IndexOutOfBoundsException", Cond.initialized "java/lang/IndexOutOfBoundsException", Cond.fieldLink RX5 85 "FretSchool$Piece" "count" "I", Cond.methodLink RX5 68 yX5_needPiece, Cond.instanceMethod yX5_needPiece, Cond.selects RX5 yX5_needPiece yX5_needPiece, Cond.code yX5_needPiece cX5_needPiece 2 none, Cond.fieldLink RX5 48 "FretSchool" "pieceCount" "I", Cond.methodLink RX5 113 yX5_findBest]
def wsL_string_r2 : List Cond := [Cond.instanceMethod yX5_findBest, Cond.selects RX5 yX5_findBest yX5_findBest, Cond.code yX5_findBest cX5_findBest 3 (some .boolean), Cond.methodLink RX5 104 yX5_needInstrument, Cond.instanceMethod yX5_needInstrument, Cond.selects RX5 yX5_needInstrument yX5_needInstrument, Cond.code yX5_needInstrument cX5_needInstrument 2 none, Cond.fieldLink RX5 52 "FretSchool" "buildCount" "I", Cond.methodLink RX5 225 yX0_placeBest, Cond.instanceMethod yX0_placeBest, Cond.selects RX0 yX0_placeBest yX0_placeBest, Cond.initialized RX0, Cond.code yX0_placeBest cX0_placeBest 4 (some .boolean), Cond.fieldLink RX0 34 "FretSchool$Piece" "count" "I", Cond.methodLink RX0 30 yX0_feelReach, Cond.instanceMethod yX0_feelReach, Cond.selects RX0 yX0_feelReach yX0_feelReach, Cond.code yX0_feelReach cX0_feelReach 6 none, Cond.fieldLink RX0 9 "FretSchool$Hand" "reach" "[I", Cond.fieldLink RX0 58 "FretSchool$Piece" "pitches" "[I", Cond.methodLink RX0 52 yX1_highestPosition, Cond.instanceMethod yX1_highestPosition, Cond.selects RX1 yX1_highestPosition yX1_highestPosition, Cond.initialized RX1]
def wsL_string_r3 : List Cond := [Cond.code yX1_highestPosition cX1_highestPosition 1 (some .int), Cond.fieldLink RX1 19 "FretSchool$Instrument" "fretCount" "I", Cond.methodLink RX0 61 yX1_lowestString, Cond.instanceMethod yX1_lowestString, Cond.selects RX1 yX1_lowestString yX1_lowestString, Cond.code yX1_lowestString cX1_lowestString 5 (some .int), Cond.fieldLink RX1 9 "FretSchool$Instrument" "open" "[I", Cond.methodLink RX0 39 yX0_measureRest, Cond.instanceMethod yX0_measureRest, Cond.selects RX0 yX0_measureRest yX0_measureRest, Cond.code yX0_measureRest cX0_measureRest 5 none, Cond.fieldLink RX0 17 "FretSchool$Hand" "rest" "[[I", Cond.constant RX0 51 (1000000), Cond.methodLink RX0 65 yX0_nearest, Cond.instanceMethod yX0_nearest, Cond.selects RX0 yX0_nearest yX0_nearest, Cond.code yX0_nearest cX0_nearest 7 (some .int), Cond.methodLink RX0 72 yX0_shift, Cond.static yX0_shift, Cond.code yX0_shift cX0_shift 2 (some .int), Cond.methodLink RX0 75 Lib.Math.abs.name, Cond.static Lib.Math.abs.name, Cond.initialized "java/lang/Math", Cond.code Lib.Math.abs.name Lib.Math.abs.code 1 (some .int)]
def wsL_string_r4 : List Cond := [Cond.methodLink RX0 68 yX0_canReach, Cond.static yX0_canReach, Cond.code yX0_canReach cX0_canReach 2 (some .boolean), Cond.methodLink RX0 43 yX0_chooseRow, Cond.instanceMethod yX0_chooseRow, Cond.selects RX0 yX0_chooseRow yX0_chooseRow, Cond.code yX0_chooseRow cX0_chooseRow 6 (some .boolean), Cond.fieldLink RX0 23 "FretSchool$Hand" "sum" "I", Cond.fieldLink RX0 27 "FretSchool$Hand" "greatest" "I", Cond.fieldLink RX0 20 "FretSchool$Hand" "row" "[I", Cond.methodLink RX5 132 yX1_lowestString]
def wsL_string : List Cond := .codeWith yL_string cL_string 6 (some .int) [(0, 12, 15, 19)] :: ((wsL_string_r1 ++ (wsL_string_r2 ++ (wsL_string_r3 ++ wsL_string_r4))) ++ wsX50 ++ wsX30 ++ wsX00 ++ wsX10 ++ (vx_atS RX5 213 "java/lang/IndexOutOfBoundsException" ["java/lang/RuntimeException", "java/lang/Exception"]).filter goodWord)
def wsL_learn_r1 : List Cond := [Cond.classLink RL 19 "java/lang/IndexOutOfBoundsException", Cond.classLink RL 21 "java/lang/IllegalArgumentException", Cond.classLink RL 13 "java/lang/IllegalStateException", Cond.methodLink RL 53 yX5_learn, Cond.instanceMethod yX5_learn, Cond.selects RX5 yX5_learn yX5_learn, Cond.initialized RX5, Cond.code yX5_learn cX5_learn 6 (some .int), Cond.classLink RX5 61 "java/lang/IllegalStateException", Cond.initialized "java/lang/IllegalStateException", Cond.fieldLink RX5 25 "FretSchool" "pupils" "[LFretSchool$Pupil;", Cond.fieldLink RX5 153 "FretSchool$Pupil" "grade" "I", Cond.methodLink RX5 68 yX5_needPiece, Cond.instanceMethod yX5_needPiece, Cond.selects RX5 yX5_needPiece yX5_needPiece, Cond.code yX5_needPiece cX5_needPiece 2 none, Cond.classLink RX5 209 "java/lang/IndexOutOfBoundsException", Cond.initialized "java/lang/IndexOutOfBoundsException", Cond.fieldLink RX5 48 "FretSchool" "pieceCount" "I", Cond.methodLink RX5 104 yX5_needInstrument, Cond.instanceMethod yX5_needInstrument, Cond.selects RX5 yX5_needInstrument yX5_needInstrument, Cond.code yX5_needInstrument cX5_needInstrument 2 none, Cond.fieldLink RX5 52 "FretSchool" "buildCount" "I"]
def wsL_learn_r2 : List Cond := [Cond.methodLink RX5 136 yX5_needPupil, Cond.static yX5_needPupil, Cond.code yX5_needPupil cX5_needPupil 1 none, Cond.methodLink RX5 72 yX5_needRange, Cond.static yX5_needRange, Cond.code yX5_needRange cX5_needRange 3 none, Cond.classLink RX5 220 "java/lang/IllegalArgumentException", Cond.initialized "java/lang/IllegalArgumentException", Cond.methodLink RX5 139 yX4_knows, Cond.instanceMethod yX4_knows, Cond.selects RX4 yX4_knows yX4_knows, Cond.initialized RX4, Cond.code yX4_knows cX4_knows 2 (some .boolean), Cond.fieldLink RX4 15 "FretSchool$Pupil" "repertoire" "I", Cond.methodLink RX5 144 yX5_learnableShift, Cond.instanceMethod yX5_learnableShift, Cond.selects RX5 yX5_learnableShift yX5_learnableShift, Cond.code yX5_learnableShift cX5_learnableShift 4 (some .int), Cond.fieldLink RX5 18 "FretSchool" "builds" "[LFretSchool$Instrument;", Cond.fieldLink RX5 110 "FretSchool$Instrument" "keeper" "I", Cond.fieldLink RX5 44 "FretSchool" "hand" "LFretSchool$Hand;", Cond.fieldLink RX5 126 "FretSchool$Hand" "greatest" "I", Cond.methodLink RX5 113 yX5_findBest, Cond.instanceMethod yX5_findBest]
def wsL_learn_r3 : List Cond := [Cond.selects RX5 yX5_findBest yX5_findBest, Cond.code yX5_findBest cX5_findBest 3 (some .boolean), Cond.fieldLink RX5 11 "FretSchool" "pieces" "[LFretSchool$Piece;", Cond.methodLink RX5 225 yX0_placeBest, Cond.instanceMethod yX0_placeBest, Cond.selects RX0 yX0_placeBest yX0_placeBest, Cond.initialized RX0, Cond.code yX0_placeBest cX0_placeBest 4 (some .boolean), Cond.fieldLink RX0 34 "FretSchool$Piece" "count" "I", Cond.methodLink RX0 30 yX0_feelReach, Cond.instanceMethod yX0_feelReach, Cond.selects RX0 yX0_feelReach yX0_feelReach, Cond.code yX0_feelReach cX0_feelReach 6 none, Cond.fieldLink RX0 9 "FretSchool$Hand" "reach" "[I", Cond.fieldLink RX0 58 "FretSchool$Piece" "pitches" "[I", Cond.methodLink RX0 52 yX1_highestPosition, Cond.instanceMethod yX1_highestPosition, Cond.selects RX1 yX1_highestPosition yX1_highestPosition, Cond.initialized RX1, Cond.code yX1_highestPosition cX1_highestPosition 1 (some .int), Cond.fieldLink RX1 19 "FretSchool$Instrument" "fretCount" "I", Cond.methodLink RX0 61 yX1_lowestString, Cond.instanceMethod yX1_lowestString, Cond.selects RX1 yX1_lowestString yX1_lowestString]
def wsL_learn_r4 : List Cond := [Cond.code yX1_lowestString cX1_lowestString 5 (some .int), Cond.fieldLink RX1 9 "FretSchool$Instrument" "open" "[I", Cond.methodLink RX0 39 yX0_measureRest, Cond.instanceMethod yX0_measureRest, Cond.selects RX0 yX0_measureRest yX0_measureRest, Cond.code yX0_measureRest cX0_measureRest 5 none, Cond.fieldLink RX0 17 "FretSchool$Hand" "rest" "[[I", Cond.constant RX0 51 (1000000), Cond.methodLink RX0 65 yX0_nearest, Cond.instanceMethod yX0_nearest, Cond.selects RX0 yX0_nearest yX0_nearest, Cond.code yX0_nearest cX0_nearest 7 (some .int), Cond.methodLink RX0 72 yX0_shift, Cond.static yX0_shift, Cond.code yX0_shift cX0_shift 2 (some .int), Cond.methodLink RX0 75 Lib.Math.abs.name, Cond.static Lib.Math.abs.name, Cond.initialized "java/lang/Math", Cond.code Lib.Math.abs.name Lib.Math.abs.code 1 (some .int), Cond.methodLink RX0 68 yX0_canReach, Cond.static yX0_canReach, Cond.code yX0_canReach cX0_canReach 2 (some .boolean), Cond.methodLink RX0 43 yX0_chooseRow, Cond.instanceMethod yX0_chooseRow]
def wsL_learn_r5 : List Cond := [Cond.selects RX0 yX0_chooseRow yX0_chooseRow, Cond.code yX0_chooseRow cX0_chooseRow 6 (some .boolean), Cond.fieldLink RX0 23 "FretSchool$Hand" "sum" "I", Cond.fieldLink RX0 27 "FretSchool$Hand" "greatest" "I", Cond.fieldLink RX0 20 "FretSchool$Hand" "row" "[I", Cond.methodLink RX5 150 yX4_takeIn, Cond.instanceMethod yX4_takeIn, Cond.selects RX4 yX4_takeIn yX4_takeIn, Cond.code yX4_takeIn cX4_takeIn 3 none, Cond.fieldLink RX4 9 "FretSchool$Pupil" "grade" "I"]
def wsL_learn : List Cond := .codeWith yL_learn cL_learn 6 (some .int) [(0, 12, 15, 19), (0, 12, 19, 21), (0, 12, 23, 13)] :: ((wsL_learn_r1 ++ (wsL_learn_r2 ++ (wsL_learn_r3 ++ (wsL_learn_r4 ++ wsL_learn_r5)))) ++ wsX50 ++ wsX40 ++ wsX10 ++ wsX00 ++ wsX30 ++ (vx_atS RX5 65 "java/lang/IllegalStateException" ["java/lang/RuntimeException", "java/lang/Exception"]).filter goodWord ++ (vx_atS RX5 213 "java/lang/IndexOutOfBoundsException" ["java/lang/RuntimeException", "java/lang/Exception"]).filter goodWord ++ (vx_atS RX5 224 "java/lang/IllegalArgumentException" ["java/lang/RuntimeException", "java/lang/Exception"]).filter goodWord)
def wsL_level : List Cond := .codeWith yL_level cL_level 4 (some .int) [(0, 9, 12, 21)] :: ([.classLink RL 21 "java/lang/IllegalArgumentException", .methodLink RL 56 yX5_level, .instanceMethod yX5_level, .selects RX5 yX5_level yX5_level, .initialized RX5, .code yX5_level cX5_level 2 (some .int), .fieldLink RX5 25 "FretSchool" "pupils" "[LFretSchool$Pupil;", .fieldLink RX5 153 "FretSchool$Pupil" "grade" "I", .methodLink RX5 136 yX5_needPupil, .static yX5_needPupil, .code yX5_needPupil cX5_needPupil 1 none, .methodLink RX5 72 yX5_needRange, .static yX5_needRange, .code yX5_needRange cX5_needRange 3 none, .classLink RX5 220 "java/lang/IllegalArgumentException", .initialized "java/lang/IllegalArgumentException"] ++ wsX50 ++ wsX40 ++ (vx_atS RX5 224 "java/lang/IllegalArgumentException" ["java/lang/RuntimeException", "java/lang/Exception"]).filter goodWord)
def wsL_known : List Cond := .codeWith yL_known cL_known 4 (some .int) [(0, 9, 12, 21)] :: ([.classLink RL 21 "java/lang/IllegalArgumentException", .methodLink RL 59 yX5_known, .instanceMethod yX5_known, .selects RX5 yX5_known yX5_known, .initialized RX5, .code yX5_known cX5_known 2 (some .int), .fieldLink RX5 25 "FretSchool" "pupils" "[LFretSchool$Pupil;", .fieldLink RX5 156 "FretSchool$Pupil" "repertoire" "I", .methodLink RX5 136 yX5_needPupil, .static yX5_needPupil, .code yX5_needPupil cX5_needPupil 1 none, .methodLink RX5 72 yX5_needRange, .static yX5_needRange, .code yX5_needRange cX5_needRange 3 none, .classLink RX5 220 "java/lang/IllegalArgumentException", .initialized "java/lang/IllegalArgumentException"] ++ wsX50 ++ wsX40 ++ (vx_atS RX5 224 "java/lang/IllegalArgumentException" ["java/lang/RuntimeException", "java/lang/Exception"]).filter goodWord)
def wsL_next_r1 : List Cond := [Cond.classLink RL 21 "java/lang/IllegalArgumentException", Cond.methodLink RL 62 yX5_next, Cond.instanceMethod yX5_next, Cond.selects RX5 yX5_next yX5_next, Cond.initialized RX5, Cond.code yX5_next cX5_next 6 (some .int), Cond.fieldLink RX5 48 "FretSchool" "pieceCount" "I", Cond.fieldLink RX5 25 "FretSchool" "pupils" "[LFretSchool$Pupil;", Cond.methodLink RX5 136 yX5_needPupil, Cond.static yX5_needPupil, Cond.code yX5_needPupil cX5_needPupil 1 none, Cond.methodLink RX5 72 yX5_needRange, Cond.static yX5_needRange, Cond.code yX5_needRange cX5_needRange 3 none, Cond.classLink RX5 220 "java/lang/IllegalArgumentException", Cond.initialized "java/lang/IllegalArgumentException", Cond.methodLink RX5 139 yX4_knows, Cond.instanceMethod yX4_knows, Cond.selects RX4 yX4_knows yX4_knows, Cond.initialized RX4, Cond.code yX4_knows cX4_knows 2 (some .boolean), Cond.fieldLink RX4 15 "FretSchool$Pupil" "repertoire" "I", Cond.methodLink RX5 159 yX5_easiestShift, Cond.instanceMethod yX5_easiestShift]
def wsL_next_r2 : List Cond := [Cond.selects RX5 yX5_easiestShift yX5_easiestShift, Cond.code yX5_easiestShift cX5_easiestShift 6 (some .int), Cond.fieldLink RX5 52 "FretSchool" "buildCount" "I", Cond.methodLink RX5 144 yX5_learnableShift, Cond.instanceMethod yX5_learnableShift, Cond.selects RX5 yX5_learnableShift yX5_learnableShift, Cond.code yX5_learnableShift cX5_learnableShift 4 (some .int), Cond.fieldLink RX5 18 "FretSchool" "builds" "[LFretSchool$Instrument;", Cond.fieldLink RX5 110 "FretSchool$Instrument" "keeper" "I", Cond.fieldLink RX5 44 "FretSchool" "hand" "LFretSchool$Hand;", Cond.fieldLink RX5 126 "FretSchool$Hand" "greatest" "I", Cond.fieldLink RX5 153 "FretSchool$Pupil" "grade" "I", Cond.methodLink RX5 113 yX5_findBest, Cond.instanceMethod yX5_findBest, Cond.selects RX5 yX5_findBest yX5_findBest, Cond.code yX5_findBest cX5_findBest 3 (some .boolean), Cond.fieldLink RX5 11 "FretSchool" "pieces" "[LFretSchool$Piece;", Cond.methodLink RX5 68 yX5_needPiece, Cond.instanceMethod yX5_needPiece, Cond.selects RX5 yX5_needPiece yX5_needPiece, Cond.code yX5_needPiece cX5_needPiece 2 none, Cond.classLink RX5 209 "java/lang/IndexOutOfBoundsException", Cond.initialized "java/lang/IndexOutOfBoundsException", Cond.methodLink RX5 104 yX5_needInstrument]
def wsL_next_r3 : List Cond := [Cond.instanceMethod yX5_needInstrument, Cond.selects RX5 yX5_needInstrument yX5_needInstrument, Cond.code yX5_needInstrument cX5_needInstrument 2 none, Cond.methodLink RX5 225 yX0_placeBest, Cond.instanceMethod yX0_placeBest, Cond.selects RX0 yX0_placeBest yX0_placeBest, Cond.initialized RX0, Cond.code yX0_placeBest cX0_placeBest 4 (some .boolean), Cond.fieldLink RX0 34 "FretSchool$Piece" "count" "I", Cond.methodLink RX0 30 yX0_feelReach, Cond.instanceMethod yX0_feelReach, Cond.selects RX0 yX0_feelReach yX0_feelReach, Cond.code yX0_feelReach cX0_feelReach 6 none, Cond.fieldLink RX0 9 "FretSchool$Hand" "reach" "[I", Cond.fieldLink RX0 58 "FretSchool$Piece" "pitches" "[I", Cond.methodLink RX0 52 yX1_highestPosition, Cond.instanceMethod yX1_highestPosition, Cond.selects RX1 yX1_highestPosition yX1_highestPosition, Cond.initialized RX1, Cond.code yX1_highestPosition cX1_highestPosition 1 (some .int), Cond.fieldLink RX1 19 "FretSchool$Instrument" "fretCount" "I", Cond.methodLink RX0 61 yX1_lowestString, Cond.instanceMethod yX1_lowestString, Cond.selects RX1 yX1_lowestString yX1_lowestString]
def wsL_next_r4 : List Cond := [Cond.code yX1_lowestString cX1_lowestString 5 (some .int), Cond.fieldLink RX1 9 "FretSchool$Instrument" "open" "[I", Cond.methodLink RX0 39 yX0_measureRest, Cond.instanceMethod yX0_measureRest, Cond.selects RX0 yX0_measureRest yX0_measureRest, Cond.code yX0_measureRest cX0_measureRest 5 none, Cond.fieldLink RX0 17 "FretSchool$Hand" "rest" "[[I", Cond.constant RX0 51 (1000000), Cond.methodLink RX0 65 yX0_nearest, Cond.instanceMethod yX0_nearest, Cond.selects RX0 yX0_nearest yX0_nearest, Cond.code yX0_nearest cX0_nearest 7 (some .int), Cond.methodLink RX0 72 yX0_shift, Cond.static yX0_shift, Cond.code yX0_shift cX0_shift 2 (some .int), Cond.methodLink RX0 75 Lib.Math.abs.name, Cond.static Lib.Math.abs.name, Cond.initialized "java/lang/Math", Cond.code Lib.Math.abs.name Lib.Math.abs.code 1 (some .int), Cond.methodLink RX0 68 yX0_canReach, Cond.static yX0_canReach, Cond.code yX0_canReach cX0_canReach 2 (some .boolean), Cond.methodLink RX0 43 yX0_chooseRow, Cond.instanceMethod yX0_chooseRow]
def wsL_next_r5 : List Cond := [Cond.selects RX0 yX0_chooseRow yX0_chooseRow, Cond.code yX0_chooseRow cX0_chooseRow 6 (some .boolean), Cond.fieldLink RX0 23 "FretSchool$Hand" "sum" "I", Cond.fieldLink RX0 27 "FretSchool$Hand" "greatest" "I", Cond.fieldLink RX0 20 "FretSchool$Hand" "row" "[I"]
def wsL_next : List Cond := .codeWith yL_next cL_next 4 (some .int) [(0, 9, 12, 21)] :: ((wsL_next_r1 ++ (wsL_next_r2 ++ (wsL_next_r3 ++ (wsL_next_r4 ++ wsL_next_r5)))) ++ wsX50 ++ wsX40 ++ wsX10 ++ wsX00 ++ wsX30 ++ (vx_atS RX5 224 "java/lang/IllegalArgumentException" ["java/lang/RuntimeException", "java/lang/Exception"]).filter goodWord ++ (vx_atS RX5 213 "java/lang/IndexOutOfBoundsException" ["java/lang/RuntimeException", "java/lang/Exception"]).filter goodWord)
def wsL_addWood : List Cond := .codeWith yL_addWood cL_addWood 5 (some .int) [(0, 10, 13, 21)] :: ([.classLink RL 21 "java/lang/IllegalArgumentException", .methodLink RL 65 yX5_addWood, .instanceMethod yX5_addWood, .selects RX5 yX5_addWood yX5_addWood, .initialized RX5, .code yX5_addWood cX5_addWood 3 (some .int), .fieldLink RX5 37 "FretSchool" "stock" "[I", .methodLink RX5 72 yX5_needRange, .static yX5_needRange, .code yX5_needRange cX5_needRange 3 none, .classLink RX5 220 "java/lang/IllegalArgumentException", .initialized "java/lang/IllegalArgumentException"] ++ wsX50 ++ (vx_atS RX5 224 "java/lang/IllegalArgumentException" ["java/lang/RuntimeException", "java/lang/Exception"]).filter goodWord)
def wsL_order_r1 : List Cond := [Cond.classLink RL 21 "java/lang/IllegalArgumentException", Cond.classLink RL 13 "java/lang/IllegalStateException", Cond.methodLink RL 68 yX5_order, Cond.instanceMethod yX5_order, Cond.selects RX5 yX5_order yX5_order, Cond.initialized RX5, Cond.code yX5_order cX5_order 5 (some .int), Cond.classLink RX5 61 "java/lang/IllegalStateException", Cond.initialized "java/lang/IllegalStateException", Cond.fieldLink RX5 37 "FretSchool" "stock" "[I", Cond.fieldLink RX5 55 "FretSchool" "orderCount" "I", Cond.fieldLink RX5 32 "FretSchool" "orders" "[LFretSchool$Order;", Cond.fieldLink RX5 58 "FretSchool" "day" "I", Cond.methodLink RX5 136 yX5_needPupil, Cond.static yX5_needPupil, Cond.code yX5_needPupil cX5_needPupil 1 none, Cond.methodLink RX5 72 yX5_needRange, Cond.static yX5_needRange, Cond.code yX5_needRange cX5_needRange 3 none, Cond.classLink RX5 220 "java/lang/IllegalArgumentException", Cond.initialized "java/lang/IllegalArgumentException", Cond.methodLink RX5 164 yX5_ordersAtWork, Cond.instanceMethod yX5_ordersAtWork, Cond.selects RX5 yX5_ordersAtWork yX5_ordersAtWork]
def wsL_order_r2 : List Cond := [Cond.code yX5_ordersAtWork cX5_ordersAtWork 3 (some .int), Cond.fieldLink RX5 186 "FretSchool$Order" "isFetched" "Z", Cond.methodLink RX5 181 yX2_isReady, Cond.instanceMethod yX2_isReady, Cond.selects RX2 yX2_isReady yX2_isReady, Cond.initialized RX2, Cond.code yX2_isReady cX2_isReady 2 (some .boolean), Cond.fieldLink RX2 18 "FretSchool$Order" "readyDay" "I", Cond.methodLink RX5 172 yX2_place, Cond.instanceMethod yX2_place, Cond.selects RX2 yX2_place yX2_place, Cond.code yX2_place cX2_place 4 none, Cond.fieldLink RX2 9 "FretSchool$Order" "buyer" "I", Cond.fieldLink RX2 15 "FretSchool$Order" "fretCount" "I"]
def wsL_order : List Cond := .codeWith yL_order cL_order 6 (some .int) [(0, 12, 15, 21), (0, 12, 19, 13)] :: ((wsL_order_r1 ++ wsL_order_r2) ++ wsX50 ++ wsX20 ++ (vx_atS RX5 65 "java/lang/IllegalStateException" ["java/lang/RuntimeException", "java/lang/Exception"]).filter goodWord ++ (vx_atS RX5 224 "java/lang/IllegalArgumentException" ["java/lang/RuntimeException", "java/lang/Exception"]).filter goodWord)
def wsL_ready : List Cond := .codeWith yL_ready cL_ready 4 (some .int) [(0, 9, 12, 19)] :: ([.classLink RL 19 "java/lang/IndexOutOfBoundsException", .methodLink RL 71 yX5_ready, .instanceMethod yX5_ready, .selects RX5 yX5_ready yX5_ready, .initialized RX5, .code yX5_ready cX5_ready 2 (some .int), .fieldLink RX5 32 "FretSchool" "orders" "[LFretSchool$Order;", .fieldLink RX5 178 "FretSchool$Order" "readyDay" "I", .methodLink RX5 175 yX5_needOrder, .instanceMethod yX5_needOrder, .selects RX5 yX5_needOrder yX5_needOrder, .code yX5_needOrder cX5_needOrder 2 none, .classLink RX5 209 "java/lang/IndexOutOfBoundsException", .initialized "java/lang/IndexOutOfBoundsException", .fieldLink RX5 55 "FretSchool" "orderCount" "I"] ++ wsX50 ++ wsX20 ++ (vx_atS RX5 213 "java/lang/IndexOutOfBoundsException" ["java/lang/RuntimeException", "java/lang/Exception"]).filter goodWord)
def wsL_fetch_r1 : List Cond := [Cond.classLink RL 19 "java/lang/IndexOutOfBoundsException", Cond.classLink RL 21 "java/lang/IllegalArgumentException", Cond.classLink RL 13 "java/lang/IllegalStateException", Cond.methodLink RL 74 yX5_fetch, Cond.instanceMethod yX5_fetch, Cond.selects RX5 yX5_fetch yX5_fetch, Cond.initialized RX5, Cond.code yX5_fetch cX5_fetch 8 (some .int), Cond.classLink RX5 61 "java/lang/IllegalStateException", Cond.initialized "java/lang/IllegalStateException", Cond.fieldLink RX5 32 "FretSchool" "orders" "[LFretSchool$Order;", Cond.fieldLink RX5 58 "FretSchool" "day" "I", Cond.fieldLink RX5 186 "FretSchool$Order" "isFetched" "Z", Cond.fieldLink RX5 52 "FretSchool" "buildCount" "I", Cond.fieldLink RX5 18 "FretSchool" "builds" "[LFretSchool$Instrument;", Cond.fieldLink RX5 194 "FretSchool$Order" "buyer" "I", Cond.fieldLink RX5 197 "FretSchool$Order" "fretCount" "I", Cond.methodLink RX5 175 yX5_needOrder, Cond.instanceMethod yX5_needOrder, Cond.selects RX5 yX5_needOrder yX5_needOrder, Cond.code yX5_needOrder cX5_needOrder 2 none, Cond.classLink RX5 209 "java/lang/IndexOutOfBoundsException", Cond.initialized "java/lang/IndexOutOfBoundsException", Cond.fieldLink RX5 55 "FretSchool" "orderCount" "I"]
def wsL_fetch_r2 : List Cond := [Cond.methodLink RX5 72 yX5_needRange, Cond.static yX5_needRange, Cond.code yX5_needRange cX5_needRange 3 none, Cond.classLink RX5 220 "java/lang/IllegalArgumentException", Cond.initialized "java/lang/IllegalArgumentException", Cond.methodLink RX5 181 yX2_isReady, Cond.instanceMethod yX2_isReady, Cond.selects RX2 yX2_isReady yX2_isReady, Cond.initialized RX2, Cond.code yX2_isReady cX2_isReady 2 (some .boolean), Cond.fieldLink RX2 18 "FretSchool$Order" "readyDay" "I", Cond.methodLink RX5 200 yX1_build, Cond.instanceMethod yX1_build, Cond.selects RX1 yX1_build yX1_build, Cond.initialized RX1, Cond.code yX1_build cX1_build 3 none, Cond.fieldLink RX1 15 "FretSchool$Instrument" "keeper" "I", Cond.fieldLink RX1 19 "FretSchool$Instrument" "fretCount" "I", Cond.methodLink RX5 203 yX1_tuneAll, Cond.instanceMethod yX1_tuneAll, Cond.selects RX1 yX1_tuneAll yX1_tuneAll, Cond.code yX1_tuneAll cX1_tuneAll 5 none, Cond.fieldLink RX1 9 "FretSchool$Instrument" "open" "[I"]
def wsL_fetch : List Cond := .codeWith yL_fetch cL_fetch 8 (some .int) [(0, 16, 19, 19), (0, 16, 23, 21), (0, 16, 27, 13)] :: ((wsL_fetch_r1 ++ wsL_fetch_r2) ++ wsX50 ++ wsX20 ++ wsX10 ++ (vx_atS RX5 65 "java/lang/IllegalStateException" ["java/lang/RuntimeException", "java/lang/Exception"]).filter goodWord ++ (vx_atS RX5 213 "java/lang/IndexOutOfBoundsException" ["java/lang/RuntimeException", "java/lang/Exception"]).filter goodWord ++ (vx_atS RX5 224 "java/lang/IllegalArgumentException" ["java/lang/RuntimeException", "java/lang/Exception"]).filter goodWord)
def wsL_pass : List Cond := .codeWith yL_pass cL_pass 4 (some .int) [(0, 9, 12, 21), (0, 9, 15, 13)] :: ([.classLink RL 21 "java/lang/IllegalArgumentException", .classLink RL 13 "java/lang/IllegalStateException", .methodLink RL 78 yX5_pass, .instanceMethod yX5_pass, .selects RX5 yX5_pass yX5_pass, .initialized RX5, .code yX5_pass cX5_pass 2 (some .int), .classLink RX5 61 "java/lang/IllegalStateException", .initialized "java/lang/IllegalStateException", .fieldLink RX5 58 "FretSchool" "day" "I", .methodLink RX5 72 yX5_needRange, .static yX5_needRange, .code yX5_needRange cX5_needRange 3 none, .classLink RX5 220 "java/lang/IllegalArgumentException", .initialized "java/lang/IllegalArgumentException"] ++ wsX50 ++ (vx_atS RX5 65 "java/lang/IllegalStateException" ["java/lang/RuntimeException", "java/lang/Exception"]).filter goodWord ++ (vx_atS RX5 224 "java/lang/IllegalArgumentException" ["java/lang/RuntimeException", "java/lang/Exception"]).filter goodWord)
def wsL_law0_r1 : List Cond := [Cond.classLink RL 8 RX5, Cond.instantiable RX5 10, Cond.initialized RX5, Cond.classLink RL 82 RX6, Cond.instantiable RX6 19, Cond.initialized RX6, Cond.arrayClass .long, Cond.methodLink RL 81 yX5_init, Cond.instanceMethod yX5_init, Cond.code yX5_init cX5_init 2 none, Cond.methodLink RX5 3 objectInit, Cond.instanceMethod objectInit, Cond.code objectInit ⟨#[0xb1]⟩ 1 none, Cond.classLink RX5 9 RX3, Cond.fieldLink RX5 11 "FretSchool" "pieces" "[LFretSchool$Piece;", Cond.instantiable RX3 2, Cond.initialized RX3, Cond.classLink RX5 16 RX1, Cond.fieldLink RX5 18 "FretSchool" "builds" "[LFretSchool$Instrument;", Cond.instantiable RX1 3, Cond.initialized RX1, Cond.classLink RX5 23 RX4, Cond.fieldLink RX5 25 "FretSchool" "pupils" "[LFretSchool$Pupil;", Cond.instantiable RX4 2]
def wsL_law0_r2 : List Cond := [Cond.initialized RX4, Cond.classLink RX5 30 RX2, Cond.fieldLink RX5 32 "FretSchool" "orders" "[LFretSchool$Order;", Cond.instantiable RX2 4, Cond.initialized RX2, Cond.arrayClass .int, Cond.fieldLink RX5 37 "FretSchool" "stock" "[I", Cond.classLink RX5 41 RX0, Cond.instantiable RX0 5, Cond.initialized RX0, Cond.fieldLink RX5 44 "FretSchool" "hand" "LFretSchool$Hand;", Cond.fieldLink RX5 48 "FretSchool" "pieceCount" "I", Cond.fieldLink RX5 52 "FretSchool" "buildCount" "I", Cond.fieldLink RX5 55 "FretSchool" "orderCount" "I", Cond.fieldLink RX5 58 "FretSchool" "day" "I", Cond.instanceMethod yX3_init, Cond.code yX3_init cX3_init 1 none, Cond.methodLink RX3 3 objectInit, Cond.fieldLink RX3 9 "FretSchool$Piece" "pitches" "[I", Cond.fieldLink RX3 15 "FretSchool$Piece" "count" "I", Cond.instanceMethod yX1_init, Cond.code yX1_init cX1_init 1 none, Cond.methodLink RX1 3 objectInit, Cond.fieldLink RX1 9 "FretSchool$Instrument" "open" "[I"]
def wsL_law0_r3 : List Cond := [Cond.fieldLink RX1 15 "FretSchool$Instrument" "keeper" "I", Cond.fieldLink RX1 19 "FretSchool$Instrument" "fretCount" "I", Cond.instanceMethod yX4_init, Cond.code yX4_init cX4_init 1 none, Cond.methodLink RX4 3 objectInit, Cond.fieldLink RX4 9 "FretSchool$Pupil" "grade" "I", Cond.fieldLink RX4 15 "FretSchool$Pupil" "repertoire" "I", Cond.instanceMethod yX2_init, Cond.code yX2_init cX2_init 1 none, Cond.methodLink RX2 3 objectInit, Cond.fieldLink RX2 9 "FretSchool$Order" "buyer" "I", Cond.fieldLink RX2 15 "FretSchool$Order" "fretCount" "I", Cond.fieldLink RX2 18 "FretSchool$Order" "readyDay" "I", Cond.fieldLink RX2 21 "FretSchool$Order" "isFetched" "Z", Cond.instanceMethod yX0_init, Cond.code yX0_init cX0_init 1 none, Cond.methodLink RX0 3 objectInit, Cond.fieldLink RX0 9 "FretSchool$Hand" "reach" "[I", Cond.classLink RX0 15 "[[I", Cond.fieldLink RX0 17 "FretSchool$Hand" "rest" "[[I", Cond.fieldLink RX0 20 "FretSchool$Hand" "row" "[I", Cond.fieldLink RX0 23 "FretSchool$Hand" "sum" "I", Cond.fieldLink RX0 27 "FretSchool$Hand" "greatest" "I", Cond.methodLink RL 84 yX6_init]
def wsL_law0_r4 : List Cond := [Cond.instanceMethod yX6_init, Cond.code yX6_init cX6_init 2 none, Cond.methodLink RX6 1 objectInit, Cond.fieldLink RX6 7 "FretSchoolModel" "many" "[I", Cond.fieldLink RX6 13 "FretSchoolModel" "pitch" "[I", Cond.fieldLink RX6 16 "FretSchoolModel" "owner" "[I", Cond.fieldLink RX6 19 "FretSchoolModel" "frets" "[I", Cond.fieldLink RX6 22 "FretSchoolModel" "open" "[I", Cond.fieldLink RX6 25 "FretSchoolModel" "level" "[I", Cond.fieldLink RX6 28 "FretSchoolModel" "known" "[I", Cond.fieldLink RX6 31 "FretSchoolModel" "stock" "[I", Cond.fieldLink RX6 34 "FretSchoolModel" "buyer" "[I", Cond.fieldLink RX6 37 "FretSchoolModel" "ordered" "[I", Cond.fieldLink RX6 40 "FretSchoolModel" "readyOn" "[I", Cond.arrayClass .boolean, Cond.fieldLink RX6 43 "FretSchoolModel" "fetched" "[Z", Cond.fieldLink RX6 47 "FretSchoolModel" "least" "[I", Cond.fieldLink RX6 50 "FretSchoolModel" "best" "[I", Cond.methodLink RL 85 yL_begin, Cond.static yL_begin, Cond.initialized RL, Cond.codeWith yL_begin cL_begin 3 (some .int) [(0, 8, 11, 13)], Cond.classLink RL 13 "java/lang/IllegalStateException", Cond.methodLink RL 7 yX5_begin]
def wsL_law0_r5 : List Cond := [Cond.instanceMethod yX5_begin, Cond.selects RX5 yX5_begin yX5_begin, Cond.code yX5_begin cX5_begin 2 (some .int), Cond.classLink RX5 61 "java/lang/IllegalStateException", Cond.initialized "java/lang/IllegalStateException", Cond.methodLink RL 90 yX6_begin, Cond.instanceMethod yX6_begin, Cond.selects RX6 yX6_begin yX6_begin, Cond.code yX6_begin cX6_begin 1 (some .int), Cond.fieldLink RX6 57 "FretSchoolModel" "pieces" "I", Cond.methodLink RX6 74 yX6_goes, Cond.instanceMethod yX6_goes, Cond.selects RX6 yX6_goes yX6_goes, Cond.code yX6_goes cX6_goes 4 (some .boolean), Cond.fieldLink RX6 53 "FretSchoolModel" "thrown" "I", Cond.methodLink RL 91 yX6_thrown, Cond.instanceMethod yX6_thrown, Cond.selects RX6 yX6_thrown yX6_thrown, Cond.code yX6_thrown cX6_thrown 1 (some .int), Cond.methodLink RL 94 yL_addNote, Cond.static yL_addNote, Cond.codeWith yL_addNote cL_addNote 5 (some .int) [(0, 10, 13, 19), (0, 10, 17, 21), (0, 10, 21, 13)], Cond.classLink RL 19 "java/lang/IndexOutOfBoundsException", Cond.classLink RL 21 "java/lang/IllegalArgumentException"]
def wsL_law0_r6 : List Cond := [Cond.methodLink RL 15 yX5_addNote, Cond.instanceMethod yX5_addNote, Cond.selects RX5 yX5_addNote yX5_addNote, Cond.code yX5_addNote cX5_addNote 4 (some .int), Cond.fieldLink RX5 85 "FretSchool$Piece" "count" "I", Cond.methodLink RX5 68 yX5_needPiece, Cond.instanceMethod yX5_needPiece, Cond.selects RX5 yX5_needPiece yX5_needPiece, Cond.code yX5_needPiece cX5_needPiece 2 none, Cond.classLink RX5 209 "java/lang/IndexOutOfBoundsException", Cond.initialized "java/lang/IndexOutOfBoundsException", Cond.methodLink RX5 72 yX5_needRange, Cond.static yX5_needRange, Cond.code yX5_needRange cX5_needRange 3 none, Cond.classLink RX5 220 "java/lang/IllegalArgumentException", Cond.initialized "java/lang/IllegalArgumentException", Cond.methodLink RX5 76 yX3_isFull, Cond.instanceMethod yX3_isFull, Cond.selects RX3 yX3_isFull yX3_isFull, Cond.code yX3_isFull cX3_isFull 1 (some .boolean), Cond.methodLink RX5 82 yX3_append, Cond.instanceMethod yX3_append, Cond.selects RX3 yX3_append yX3_append, Cond.code yX3_append cX3_append 2 none]
def wsL_law0_r7 : List Cond := [Cond.methodLink RX3 19 yX3_isFull, Cond.methodLink RL 97 yX6_addNote, Cond.instanceMethod yX6_addNote, Cond.selects RX6 yX6_addNote yX6_addNote, Cond.code yX6_addNote cX6_addNote 4 (some .int), Cond.methodLink RX6 64 yX6_isPiece, Cond.instanceMethod yX6_isPiece, Cond.selects RX6 yX6_isPiece yX6_isPiece, Cond.code yX6_isPiece cX6_isPiece 2 (some .boolean), Cond.methodLink RX6 60 yX6_in, Cond.static yX6_in, Cond.code yX6_in cX6_in 3 (some .boolean), Cond.methodLink RL 98 yL_transpose, Cond.static yL_transpose, Cond.codeWith yL_transpose cL_transpose 4 (some .int) [(0, 6, 9, 19), (0, 6, 12, 21), (0, 6, 15, 13)], Cond.methodLink RL 23 yX5_transpose, Cond.instanceMethod yX5_transpose, Cond.selects RX5 yX5_transpose yX5_transpose, Cond.code yX5_transpose cX5_transpose 4 none, Cond.methodLink RX5 88 yX3_canMove, Cond.instanceMethod yX3_canMove, Cond.selects RX3 yX3_canMove yX3_canMove, Cond.code yX3_canMove cX3_canMove 4 (some .boolean), Cond.methodLink RX5 94 yX3_move]
def wsL_law0_r8 : List Cond := [Cond.instanceMethod yX3_move, Cond.selects RX3 yX3_move yX3_move, Cond.code yX3_move cX3_move 3 none, Cond.methodLink RL 101 yX6_transpose, Cond.instanceMethod yX6_transpose, Cond.selects RX6 yX6_transpose yX6_transpose, Cond.code yX6_transpose cX6_transpose 7 none, Cond.methodLink RL 102 yL_pitch, Cond.static yL_pitch, Cond.codeWith yL_pitch cL_pitch 5 (some .int) [(0, 10, 13, 19)], Cond.methodLink RL 27 yX5_pitch, Cond.instanceMethod yX5_pitch, Cond.selects RX5 yX5_pitch yX5_pitch, Cond.code yX5_pitch cX5_pitch 3 (some .int), Cond.fieldLink RX5 101 "FretSchool$Piece" "pitches" "[I", Cond.methodLink RX5 97 yX5_needNote, Cond.instanceMethod yX5_needNote, Cond.selects RX5 yX5_needNote yX5_needNote, Cond.code yX5_needNote cX5_needNote 3 none, Cond.methodLink RL 104 yX6_pitch, Cond.instanceMethod yX6_pitch, Cond.selects RX6 yX6_pitch yX6_pitch, Cond.code yX6_pitch cX6_pitch 3 (some .int), Cond.methodLink RX6 78 yX6_isNote]
def wsL_law0_r9 : List Cond := [Cond.instanceMethod yX6_isNote, Cond.selects RX6 yX6_isNote yX6_isNote, Cond.code yX6_isNote cX6_isNote 3 (some .boolean), Cond.methodLink RL 105 yL_tune, Cond.static yL_tune, Cond.codeWith yL_tune cL_tune 6 (some .int) [(0, 12, 15, 19), (0, 12, 19, 21)], Cond.methodLink RL 30 yX5_tune, Cond.instanceMethod yX5_tune, Cond.selects RX5 yX5_tune yX5_tune, Cond.code yX5_tune cX5_tune 6 (some .int), Cond.fieldLink RX5 107 "FretSchool$Instrument" "open" "[I", Cond.methodLink RX5 104 yX5_needInstrument, Cond.instanceMethod yX5_needInstrument, Cond.selects RX5 yX5_needInstrument yX5_needInstrument, Cond.code yX5_needInstrument cX5_needInstrument 2 none, Cond.methodLink RL 108 yX6_tune, Cond.instanceMethod yX6_tune, Cond.selects RX6 yX6_tune yX6_tune, Cond.code yX6_tune cX6_tune 6 (some .int), Cond.methodLink RX6 82 yX6_isInstrument, Cond.instanceMethod yX6_isInstrument, Cond.selects RX6 yX6_isInstrument yX6_isInstrument, Cond.code yX6_isInstrument cX6_isInstrument 2 (some .boolean), Cond.fieldLink RX6 68 "FretSchoolModel" "instruments" "I"]
def wsL_law0_r10 : List Cond := [Cond.methodLink RL 109 yL_owner, Cond.static yL_owner, Cond.codeWith yL_owner cL_owner 4 (some .int) [(0, 9, 12, 19)], Cond.methodLink RL 34 yX5_owner, Cond.instanceMethod yX5_owner, Cond.selects RX5 yX5_owner yX5_owner, Cond.code yX5_owner cX5_owner 2 (some .int), Cond.fieldLink RX5 110 "FretSchool$Instrument" "keeper" "I", Cond.methodLink RL 112 yX6_owner, Cond.instanceMethod yX6_owner, Cond.selects RX6 yX6_owner yX6_owner, Cond.code yX6_owner cX6_owner 2 (some .int), Cond.methodLink RL 113 yX5_instruments, Cond.instanceMethod yX5_instruments, Cond.selects RX5 yX5_instruments yX5_instruments, Cond.code yX5_instruments cX5_instruments 1 (some .int), Cond.methodLink RL 116 yX6_instruments, Cond.instanceMethod yX6_instruments, Cond.selects RX6 yX6_instruments yX6_instruments, Cond.code yX6_instruments cX6_instruments 1 (some .int), Cond.methodLink RX6 85 yX6_told, Cond.instanceMethod yX6_told, Cond.selects RX6 yX6_told yX6_told, Cond.code yX6_told cX6_told 2 (some .int)]
def wsL_law0_r11 : List Cond := [Cond.methodLink RL 117 yL_shifts, Cond.static yL_shifts, Cond.codeWith yL_shifts cL_shifts 5 (some .int) [(0, 10, 13, 19)], Cond.methodLink RL 38 yX5_shifts, Cond.instanceMethod yX5_shifts, Cond.selects RX5 yX5_shifts yX5_shifts, Cond.code yX5_shifts cX5_shifts 3 (some .int), Cond.fieldLink RX5 117 "FretSchool$Hand" "sum" "I", Cond.methodLink RX5 113 yX5_findBest, Cond.instanceMethod yX5_findBest, Cond.selects RX5 yX5_findBest yX5_findBest, Cond.code yX5_findBest cX5_findBest 3 (some .boolean), Cond.methodLink RX5 225 yX0_placeBest, Cond.instanceMethod yX0_placeBest, Cond.selects RX0 yX0_placeBest yX0_placeBest, Cond.code yX0_placeBest cX0_placeBest 4 (some .boolean), Cond.fieldLink RX0 34 "FretSchool$Piece" "count" "I", Cond.methodLink RX0 30 yX0_feelReach, Cond.instanceMethod yX0_feelReach, Cond.selects RX0 yX0_feelReach yX0_feelReach, Cond.code yX0_feelReach cX0_feelReach 6 none, Cond.fieldLink RX0 58 "FretSchool$Piece" "pitches" "[I", Cond.methodLink RX0 52 yX1_highestPosition, Cond.instanceMethod yX1_highestPosition]
def wsL_law0_r12 : List Cond := [Cond.selects RX1 yX1_highestPosition yX1_highestPosition, Cond.code yX1_highestPosition cX1_highestPosition 1 (some .int), Cond.methodLink RX0 61 yX1_lowestString, Cond.instanceMethod yX1_lowestString, Cond.selects RX1 yX1_lowestString yX1_lowestString, Cond.code yX1_lowestString cX1_lowestString 5 (some .int), Cond.methodLink RX0 39 yX0_measureRest, Cond.instanceMethod yX0_measureRest, Cond.selects RX0 yX0_measureRest yX0_measureRest, Cond.code yX0_measureRest cX0_measureRest 5 none, Cond.constant RX0 51 (1000000), Cond.methodLink RX0 65 yX0_nearest, Cond.instanceMethod yX0_nearest, Cond.selects RX0 yX0_nearest yX0_nearest, Cond.code yX0_nearest cX0_nearest 7 (some .int), Cond.methodLink RX0 72 yX0_shift, Cond.static yX0_shift, Cond.code yX0_shift cX0_shift 2 (some .int), Cond.methodLink RX0 75 Lib.Math.abs.name, Cond.static Lib.Math.abs.name, Cond.initialized "java/lang/Math", Cond.code Lib.Math.abs.name Lib.Math.abs.code 1 (some .int), Cond.methodLink RX0 68 yX0_canReach, Cond.static yX0_canReach]
def wsL_law0_r13 : List Cond := [Cond.code yX0_canReach cX0_canReach 2 (some .boolean), Cond.methodLink RX0 43 yX0_chooseRow, Cond.instanceMethod yX0_chooseRow, Cond.selects RX0 yX0_chooseRow yX0_chooseRow, Cond.code yX0_chooseRow cX0_chooseRow 6 (some .boolean), Cond.methodLink RL 119 yX6_shifts, Cond.instanceMethod yX6_shifts, Cond.selects RX6 yX6_shifts yX6_shifts, Cond.code yX6_shifts cX6_shifts 3 (some .int), Cond.methodLink RX6 106 yX6_asks, Cond.instanceMethod yX6_asks, Cond.selects RX6 yX6_asks yX6_asks, Cond.code yX6_asks cX6_asks 3 (some .boolean), Cond.methodLink RX6 109 yX6_finds, Cond.instanceMethod yX6_finds, Cond.selects RX6 yX6_finds yX6_finds, Cond.code yX6_finds cX6_finds 7 (some .int), Cond.constant RX6 97 (1000000), Cond.methodLink RX6 102 yX6_from, Cond.instanceMethod yX6_from, Cond.selects RX6 yX6_from yX6_from, Cond.code yX6_from cX6_from 8 (some .int), Cond.methodLink RX6 93 yX6_plays, Cond.instanceMethod yX6_plays]
def wsL_law0_r14 : List Cond := [Cond.selects RX6 yX6_plays yX6_plays, Cond.code yX6_plays cX6_plays 7 (some .boolean), Cond.methodLink RX6 89 yX6_lies, Cond.instanceMethod yX6_lies, Cond.selects RX6 yX6_lies yX6_lies, Cond.code yX6_lies cX6_lies 7 (some .boolean), Cond.methodLink RX6 98 yX6_apart, Cond.static yX6_apart, Cond.code yX6_apart cX6_apart 2 (some .int), Cond.methodLink RL 120 yL_shiftsByAll, Cond.static yL_shiftsByAll, Cond.codeWith yL_shiftsByAll cL_shiftsByAll 5 (some .int) [(0, 10, 13, 19), (0, 10, 17, 13)], Cond.methodLink RL 41 yX5_shiftsByAll, Cond.instanceMethod yX5_shiftsByAll, Cond.selects RX5 yX5_shiftsByAll yX5_shiftsByAll, Cond.code yX5_shiftsByAll cX5_shiftsByAll 3 (some .int), Cond.methodLink RX5 122 yX0_leastByAll, Cond.instanceMethod yX0_leastByAll, Cond.selects RX0 yX0_leastByAll yX0_leastByAll, Cond.code yX0_leastByAll cX0_leastByAll 4 (some .int), Cond.methodLink RX0 47 yX0_leastFrom, Cond.static yX0_leastFrom, Cond.code yX0_leastFrom cX0_leastFrom 7 (some .int), Cond.methodLink RL 122 yX6_shiftsByAll]
def wsL_law0_r15 : List Cond := [Cond.instanceMethod yX6_shiftsByAll, Cond.selects RX6 yX6_shiftsByAll yX6_shiftsByAll, Cond.code yX6_shiftsByAll cX6_shiftsByAll 4 (some .int), Cond.methodLink RL 123 yL_hardest, Cond.static yL_hardest, Cond.codeWith yL_hardest cL_hardest 5 (some .int) [(0, 10, 13, 19)], Cond.methodLink RL 44 yX5_hardest, Cond.instanceMethod yX5_hardest, Cond.selects RX5 yX5_hardest yX5_hardest, Cond.code yX5_hardest cX5_hardest 3 (some .int), Cond.fieldLink RX5 126 "FretSchool$Hand" "greatest" "I", Cond.methodLink RL 125 yX6_hardest, Cond.instanceMethod yX6_hardest, Cond.selects RX6 yX6_hardest yX6_hardest, Cond.code yX6_hardest cX6_hardest 3 (some .int), Cond.methodLink RX6 112 yX6_hardestOf, Cond.instanceMethod yX6_hardestOf, Cond.selects RX6 yX6_hardestOf yX6_hardestOf, Cond.code yX6_hardestOf cX6_hardestOf 6 (some .int), Cond.methodLink RL 126 yL_position, Cond.static yL_position, Cond.codeWith yL_position cL_position 6 (some .int) [(0, 12, 15, 19)], Cond.methodLink RL 47 yX5_position, Cond.instanceMethod yX5_position]
def wsL_law0_r16 : List Cond := [Cond.selects RX5 yX5_position yX5_position, Cond.code yX5_position cX5_position 4 (some .int), Cond.fieldLink RX5 129 "FretSchool$Hand" "row" "[I", Cond.methodLink RL 128 yX6_position, Cond.instanceMethod yX6_position, Cond.selects RX6 yX6_position yX6_position, Cond.code yX6_position cX6_position 4 (some .int), Cond.methodLink RX6 115 yX6_asksNote, Cond.instanceMethod yX6_asksNote, Cond.selects RX6 yX6_asksNote yX6_asksNote, Cond.code yX6_asksNote cX6_asksNote 4 (some .boolean), Cond.methodLink RL 129 yL_string, Cond.static yL_string, Cond.codeWith yL_string cL_string 6 (some .int) [(0, 12, 15, 19)], Cond.methodLink RL 50 yX5_string, Cond.instanceMethod yX5_string, Cond.selects RX5 yX5_string yX5_string, Cond.code yX5_string cX5_string 4 (some .int), Cond.methodLink RX5 132 yX1_lowestString, Cond.methodLink RL 131 yX6_string, Cond.instanceMethod yX6_string, Cond.selects RX6 yX6_string yX6_string, Cond.code yX6_string cX6_string 6 (some .int), Cond.methodLink RL 132 yL_learn]
def wsL_law0_r17 : List Cond := [Cond.static yL_learn, Cond.codeWith yL_learn cL_learn 6 (some .int) [(0, 12, 15, 19), (0, 12, 19, 21), (0, 12, 23, 13)], Cond.methodLink RL 53 yX5_learn, Cond.instanceMethod yX5_learn, Cond.selects RX5 yX5_learn yX5_learn, Cond.code yX5_learn cX5_learn 6 (some .int), Cond.fieldLink RX5 153 "FretSchool$Pupil" "grade" "I", Cond.methodLink RX5 136 yX5_needPupil, Cond.static yX5_needPupil, Cond.code yX5_needPupil cX5_needPupil 1 none, Cond.methodLink RX5 139 yX4_knows, Cond.instanceMethod yX4_knows, Cond.selects RX4 yX4_knows yX4_knows, Cond.code yX4_knows cX4_knows 2 (some .boolean), Cond.methodLink RX5 144 yX5_learnableShift, Cond.instanceMethod yX5_learnableShift, Cond.selects RX5 yX5_learnableShift yX5_learnableShift, Cond.code yX5_learnableShift cX5_learnableShift 4 (some .int), Cond.methodLink RX5 150 yX4_takeIn, Cond.instanceMethod yX4_takeIn, Cond.selects RX4 yX4_takeIn yX4_takeIn, Cond.code yX4_takeIn cX4_takeIn 3 none, Cond.methodLink RL 134 yX6_learn, Cond.instanceMethod yX6_learn]
def wsL_law0_r18 : List Cond := [Cond.selects RX6 yX6_learn yX6_learn, Cond.code yX6_learn cX6_learn 6 (some .int), Cond.methodLink RX6 121 yX6_isPupil, Cond.static yX6_isPupil, Cond.code yX6_isPupil cX6_isPupil 1 (some .boolean), Cond.methodLink RX6 124 yX6_canLearn, Cond.instanceMethod yX6_canLearn, Cond.selects RX6 yX6_canLearn yX6_canLearn, Cond.code yX6_canLearn cX6_canLearn 5 (some .boolean), Cond.methodLink RX6 118 yX6_isKnown, Cond.instanceMethod yX6_isKnown, Cond.selects RX6 yX6_isKnown yX6_isKnown, Cond.code yX6_isKnown cX6_isKnown 3 (some .boolean), Cond.methodLink RL 135 yL_level, Cond.static yL_level, Cond.codeWith yL_level cL_level 4 (some .int) [(0, 9, 12, 21)], Cond.methodLink RL 56 yX5_level, Cond.instanceMethod yX5_level, Cond.selects RX5 yX5_level yX5_level, Cond.code yX5_level cX5_level 2 (some .int), Cond.methodLink RL 137 yX6_level, Cond.instanceMethod yX6_level, Cond.selects RX6 yX6_level yX6_level, Cond.code yX6_level cX6_level 2 (some .int)]
def wsL_law0_r19 : List Cond := [Cond.methodLink RL 138 yL_known, Cond.static yL_known, Cond.codeWith yL_known cL_known 4 (some .int) [(0, 9, 12, 21)], Cond.methodLink RL 59 yX5_known, Cond.instanceMethod yX5_known, Cond.selects RX5 yX5_known yX5_known, Cond.code yX5_known cX5_known 2 (some .int), Cond.fieldLink RX5 156 "FretSchool$Pupil" "repertoire" "I", Cond.methodLink RL 140 yX6_known, Cond.instanceMethod yX6_known, Cond.selects RX6 yX6_known yX6_known, Cond.code yX6_known cX6_known 2 (some .int), Cond.methodLink RL 141 yL_next, Cond.static yL_next, Cond.codeWith yL_next cL_next 4 (some .int) [(0, 9, 12, 21)], Cond.methodLink RL 62 yX5_next, Cond.instanceMethod yX5_next, Cond.selects RX5 yX5_next yX5_next, Cond.code yX5_next cX5_next 6 (some .int), Cond.methodLink RX5 159 yX5_easiestShift, Cond.instanceMethod yX5_easiestShift, Cond.selects RX5 yX5_easiestShift yX5_easiestShift, Cond.code yX5_easiestShift cX5_easiestShift 6 (some .int), Cond.methodLink RL 143 yX6_next]
def wsL_law0_r20 : List Cond := [Cond.instanceMethod yX6_next, Cond.selects RX6 yX6_next yX6_next, Cond.code yX6_next cX6_next 6 (some .int), Cond.methodLink RL 144 yL_addWood, Cond.static yL_addWood, Cond.codeWith yL_addWood cL_addWood 5 (some .int) [(0, 10, 13, 21)], Cond.methodLink RL 65 yX5_addWood, Cond.instanceMethod yX5_addWood, Cond.selects RX5 yX5_addWood yX5_addWood, Cond.code yX5_addWood cX5_addWood 3 (some .int), Cond.methodLink RL 146 yX6_addWood, Cond.instanceMethod yX6_addWood, Cond.selects RX6 yX6_addWood yX6_addWood, Cond.code yX6_addWood cX6_addWood 3 (some .int), Cond.methodLink RL 147 yL_order, Cond.static yL_order, Cond.codeWith yL_order cL_order 6 (some .int) [(0, 12, 15, 21), (0, 12, 19, 13)], Cond.methodLink RL 68 yX5_order, Cond.instanceMethod yX5_order, Cond.selects RX5 yX5_order yX5_order, Cond.code yX5_order cX5_order 5 (some .int), Cond.methodLink RX5 164 yX5_ordersAtWork, Cond.instanceMethod yX5_ordersAtWork, Cond.selects RX5 yX5_ordersAtWork yX5_ordersAtWork]
def wsL_law0_r21 : List Cond := [Cond.code yX5_ordersAtWork cX5_ordersAtWork 3 (some .int), Cond.fieldLink RX5 186 "FretSchool$Order" "isFetched" "Z", Cond.methodLink RX5 181 yX2_isReady, Cond.instanceMethod yX2_isReady, Cond.selects RX2 yX2_isReady yX2_isReady, Cond.code yX2_isReady cX2_isReady 2 (some .boolean), Cond.methodLink RX5 172 yX2_place, Cond.instanceMethod yX2_place, Cond.selects RX2 yX2_place yX2_place, Cond.code yX2_place cX2_place 4 none, Cond.methodLink RL 149 yX6_order, Cond.instanceMethod yX6_order, Cond.selects RX6 yX6_order yX6_order, Cond.code yX6_order cX6_order 5 (some .int), Cond.fieldLink RX6 71 "FretSchoolModel" "orders" "I", Cond.fieldLink RX6 127 "FretSchoolModel" "today" "I", Cond.methodLink RX6 130 yX6_atWork, Cond.instanceMethod yX6_atWork, Cond.selects RX6 yX6_atWork yX6_atWork, Cond.code yX6_atWork cX6_atWork 3 (some .int), Cond.methodLink RL 150 yL_ready, Cond.static yL_ready, Cond.codeWith yL_ready cL_ready 4 (some .int) [(0, 9, 12, 19)], Cond.methodLink RL 71 yX5_ready]
def wsL_law0_r22 : List Cond := [Cond.instanceMethod yX5_ready, Cond.selects RX5 yX5_ready yX5_ready, Cond.code yX5_ready cX5_ready 2 (some .int), Cond.fieldLink RX5 178 "FretSchool$Order" "readyDay" "I", Cond.methodLink RX5 175 yX5_needOrder, Cond.instanceMethod yX5_needOrder, Cond.selects RX5 yX5_needOrder yX5_needOrder, Cond.code yX5_needOrder cX5_needOrder 2 none, Cond.methodLink RL 152 yX6_ready, Cond.instanceMethod yX6_ready, Cond.selects RX6 yX6_ready yX6_ready, Cond.code yX6_ready cX6_ready 2 (some .int), Cond.methodLink RX6 134 yX6_isOrder, Cond.instanceMethod yX6_isOrder, Cond.selects RX6 yX6_isOrder yX6_isOrder, Cond.code yX6_isOrder cX6_isOrder 2 (some .boolean), Cond.methodLink RL 153 yL_fetch, Cond.static yL_fetch, Cond.codeWith yL_fetch cL_fetch 8 (some .int) [(0, 16, 19, 19), (0, 16, 23, 21), (0, 16, 27, 13)], Cond.methodLink RL 74 yX5_fetch, Cond.instanceMethod yX5_fetch, Cond.selects RX5 yX5_fetch yX5_fetch, Cond.code yX5_fetch cX5_fetch 8 (some .int), Cond.fieldLink RX5 194 "FretSchool$Order" "buyer" "I"]
def wsL_law0_r23 : List Cond := [Cond.fieldLink RX5 197 "FretSchool$Order" "fretCount" "I", Cond.methodLink RX5 200 yX1_build, Cond.instanceMethod yX1_build, Cond.selects RX1 yX1_build yX1_build, Cond.code yX1_build cX1_build 3 none, Cond.methodLink RX5 203 yX1_tuneAll, Cond.instanceMethod yX1_tuneAll, Cond.selects RX1 yX1_tuneAll yX1_tuneAll, Cond.code yX1_tuneAll cX1_tuneAll 5 none, Cond.methodLink RL 156 yX6_fetch, Cond.instanceMethod yX6_fetch, Cond.selects RX6 yX6_fetch yX6_fetch, Cond.code yX6_fetch cX6_fetch 8 (some .int), Cond.methodLink RX6 137 yX6_isOpen, Cond.static yX6_isOpen, Cond.code yX6_isOpen cX6_isOpen 1 (some .boolean), Cond.methodLink RL 157 yL_pass, Cond.static yL_pass, Cond.codeWith yL_pass cL_pass 4 (some .int) [(0, 9, 12, 21), (0, 9, 15, 13)], Cond.methodLink RL 78 yX5_pass, Cond.instanceMethod yX5_pass, Cond.selects RX5 yX5_pass yX5_pass, Cond.code yX5_pass cX5_pass 2 (some .int), Cond.methodLink RL 159 yX6_pass]
def wsL_law0_r24 : List Cond := [Cond.instanceMethod yX6_pass, Cond.selects RX6 yX6_pass yX6_pass, Cond.code yX6_pass cX6_pass 3 (some .int), Cond.methodLink RL 160 yX5_today, Cond.instanceMethod yX5_today, Cond.selects RX5 yX5_today yX5_today, Cond.code yX5_today cX5_today 1 (some .int), Cond.methodLink RL 163 yX6_today, Cond.instanceMethod yX6_today, Cond.selects RX6 yX6_today yX6_today, Cond.code yX6_today cX6_today 1 (some .int)]
def wsL_law0 : List Cond := (wsL_law0_r1 ++ (wsL_law0_r2 ++ (wsL_law0_r3 ++ (wsL_law0_r4 ++ (wsL_law0_r5 ++ (wsL_law0_r6 ++ (wsL_law0_r7 ++ (wsL_law0_r8 ++ (wsL_law0_r9 ++ (wsL_law0_r10 ++ (wsL_law0_r11 ++ (wsL_law0_r12 ++ (wsL_law0_r13 ++ (wsL_law0_r14 ++ (wsL_law0_r15 ++ (wsL_law0_r16 ++ (wsL_law0_r17 ++ (wsL_law0_r18 ++ (wsL_law0_r19 ++ (wsL_law0_r20 ++ (wsL_law0_r21 ++ (wsL_law0_r22 ++ (wsL_law0_r23 ++ wsL_law0_r24))))))))))))))))))))))) ++ wsX50 ++ wsX60 ++ wsX30 ++ wsX10 ++ wsX40 ++ wsX20 ++ wsX00 ++ ([] : List Cond)
def wsL_law : List Cond := wsL_law0 ++ (vx_atS RX5 65 "java/lang/IllegalStateException" ["java/lang/RuntimeException", "java/lang/Exception"]).filter goodWord ++ (vx_atS RX5 213 "java/lang/IndexOutOfBoundsException" ["java/lang/RuntimeException", "java/lang/Exception"]).filter goodWord ++ (vx_atS RX5 224 "java/lang/IllegalArgumentException" ["java/lang/RuntimeException", "java/lang/Exception"]).filter goodWord
set_option maxRecDepth 20000 in
theorem wsL_law_in0 : ∀ w ∈ wsL_law0, w ∈ lw_tbl := fun w h => (goodIn_p wsL_law0 [48, 51, 57, 76, 95, 111, 134, 583, 203, 651, 655, 647, 280, 284, 303, 323, 328, 659, 663, 666, 336, 340, 345, 670, 352, 356, 674, 678, 364, 368, 682, 686, 376, 690, 191, 694, 698, 383, 387, 391, 395, 399, 403, 407, 411, 415, 418, 421, 425, 702, 706, 710, 714, 718, 722, 726, 432, 437, 440, 730, 447, 734, 738, 454, 742, 746, 461, 750, 469, 472, 476, 481, 486, 754, 757, 761, 765, 493, 769, 500, 773, 507, 511, 777, 518, 781, 525, 530, 534, 540, 785, 789, 547, 551, 793, 797, 559, 566, 570, 801, 804, 577, 808, 195, 812] (by decide +kernel) (by decide +kernel) w h).1
theorem wsL_law_x0 : ∀ w ∈ (vx_atS RX5 65 "java/lang/IllegalStateException" ["java/lang/RuntimeException", "java/lang/Exception"]).filter goodWord, w ∈ lw_tbl := by decide +kernel
theorem wsL_law_x1 : ∀ w ∈ (vx_atS RX5 213 "java/lang/IndexOutOfBoundsException" ["java/lang/RuntimeException", "java/lang/Exception"]).filter goodWord, w ∈ lw_tbl := by decide +kernel
theorem wsL_law_x2 : ∀ w ∈ (vx_atS RX5 224 "java/lang/IllegalArgumentException" ["java/lang/RuntimeException", "java/lang/Exception"]).filter goodWord, w ∈ lw_tbl := by decide +kernel
theorem wsL_law_in : ∀ w ∈ wsL_law, w ∈ lw_tbl := fun w h => (List.mem_append.mp h).elim (fun h => (List.mem_append.mp h).elim (fun h => (List.mem_append.mp h).elim (fun h => wsL_law_in0 w h) (fun h => wsL_law_x0 w h)) (fun h => wsL_law_x1 w h)) (fun h => wsL_law_x2 w h)
theorem inlX0 : ∀ w ∈ wsX00, w ∈ wsL_law := fun _ h => List.mem_append_left _ (List.mem_append_left _ (List.mem_append_left _ (List.mem_append_left _ (List.mem_append_right _ h))))
theorem inX0 : ∀ w ∈ wsX00, w ∈ lw_tbl := fun w h => wsL_law_in w (inlX0 w h)
theorem inlX1 : ∀ w ∈ wsX10, w ∈ wsL_law := fun _ h => List.mem_append_left _ (List.mem_append_left _ (List.mem_append_left _ (List.mem_append_left _ (List.mem_append_left _ (List.mem_append_left _ (List.mem_append_left _ (List.mem_append_right _ h)))))))
theorem inX1 : ∀ w ∈ wsX10, w ∈ lw_tbl := fun w h => wsL_law_in w (inlX1 w h)
theorem inlX2 : ∀ w ∈ wsX20, w ∈ wsL_law := fun _ h => List.mem_append_left _ (List.mem_append_left _ (List.mem_append_left _ (List.mem_append_left _ (List.mem_append_left _ (List.mem_append_right _ h)))))
theorem inX2 : ∀ w ∈ wsX20, w ∈ lw_tbl := fun w h => wsL_law_in w (inlX2 w h)
theorem inlX3 : ∀ w ∈ wsX30, w ∈ wsL_law := fun _ h => List.mem_append_left _ (List.mem_append_left _ (List.mem_append_left _ (List.mem_append_left _ (List.mem_append_left _ (List.mem_append_left _ (List.mem_append_left _ (List.mem_append_left _ (List.mem_append_right _ h))))))))
theorem inX3 : ∀ w ∈ wsX30, w ∈ lw_tbl := fun w h => wsL_law_in w (inlX3 w h)
theorem inlX4 : ∀ w ∈ wsX40, w ∈ wsL_law := fun _ h => List.mem_append_left _ (List.mem_append_left _ (List.mem_append_left _ (List.mem_append_left _ (List.mem_append_left _ (List.mem_append_left _ (List.mem_append_right _ h))))))
theorem inX4 : ∀ w ∈ wsX40, w ∈ lw_tbl := fun w h => wsL_law_in w (inlX4 w h)
theorem inlX5 : ∀ w ∈ wsX50, w ∈ wsL_law := fun _ h => List.mem_append_left _ (List.mem_append_left _ (List.mem_append_left _ (List.mem_append_left _ (List.mem_append_left _ (List.mem_append_left _ (List.mem_append_left _ (List.mem_append_left _ (List.mem_append_left _ (List.mem_append_left _ (List.mem_append_right _ h))))))))))
theorem inX5 : ∀ w ∈ wsX50, w ∈ lw_tbl := fun w h => wsL_law_in w (inlX5 w h)
theorem inlX6 : ∀ w ∈ wsX60, w ∈ wsL_law := fun _ h => List.mem_append_left _ (List.mem_append_left _ (List.mem_append_left _ (List.mem_append_left _ (List.mem_append_left _ (List.mem_append_left _ (List.mem_append_left _ (List.mem_append_left _ (List.mem_append_left _ (List.mem_append_right _ h)))))))))
theorem inX6 : ∀ w ∈ wsX60, w ∈ lw_tbl := fun w h => wsL_law_in w (inlX6 w h)
theorem inJ9 : ∀ w ∈ wsJ90, w ∈ lw_tbl := by decide +kernel
theorem inJ0 : ∀ w ∈ wsJ00, w ∈ lw_tbl := by decide +kernel
theorem dX0_init_0 : decode cX0_init 0 = .ok (.aload_n 0, 1) := by decide +kernel
theorem dX0_init_1 : decode cX0_init 1 = .ok (.invokespecial 3, 3) := by decide +kernel
theorem dX0_init_4 : decode cX0_init 4 = .ok (.aload_n 0, 1) := by decide +kernel
theorem dX0_init_5 : decode cX0_init 5 = .ok (.bipush 16, 2) := by decide +kernel
theorem dX0_init_7 : decode cX0_init 7 = .ok (.newarray .int, 2) := by decide +kernel
theorem dX0_init_9 : decode cX0_init 9 = .ok (.putfield 9, 3) := by decide +kernel
theorem dX0_init_12 : decode cX0_init 12 = .ok (.aload_n 0, 1) := by decide +kernel
theorem dX0_init_13 : decode cX0_init 13 = .ok (.bipush 16, 2) := by decide +kernel
theorem dX0_init_15 : decode cX0_init 15 = .ok (.bipush 14, 2) := by decide +kernel
theorem dX0_init_17 : decode cX0_init 17 = .ok (.multianewarray 15 2, 4) := by decide +kernel
theorem dX0_init_21 : decode cX0_init 21 = .ok (.putfield 17, 3) := by decide +kernel
theorem dX0_init_24 : decode cX0_init 24 = .ok (.aload_n 0, 1) := by decide +kernel
theorem dX0_init_25 : decode cX0_init 25 = .ok (.bipush 16, 2) := by decide +kernel
theorem dX0_init_27 : decode cX0_init 27 = .ok (.newarray .int, 2) := by decide +kernel
theorem dX0_init_29 : decode cX0_init 29 = .ok (.putfield 20, 3) := by decide +kernel
theorem dX0_init_32 : decode cX0_init 32 = .ok (.aload_n 0, 1) := by decide +kernel
theorem dX0_init_33 : decode cX0_init 33 = .ok (.iconst 0, 1) := by decide +kernel
theorem dX0_init_34 : decode cX0_init 34 = .ok (.putfield 23, 3) := by decide +kernel
theorem dX0_init_37 : decode cX0_init 37 = .ok (.aload_n 0, 1) := by decide +kernel
theorem dX0_init_38 : decode cX0_init 38 = .ok (.iconst 0, 1) := by decide +kernel
theorem dX0_init_39 : decode cX0_init 39 = .ok (.putfield 27, 3) := by decide +kernel
theorem dX0_init_42 : decode cX0_init 42 = .ok (.return_, 1) := by decide +kernel
set_option maxRecDepth 20000 in
theorem ggX0_placeBest_X0_feelReach : GoodIn wsX0_placeBest wsX0_feelReach := goodIn_r _ [6, 1, 7, 8, 9, 10, 11, 12, 13, 14, 15, 16, 17, 18, 19, 47, 48, 49, 50, 51, 52, 53, 54, 55, 56] (by decide +kernel) (by decide +kernel)
set_option maxRecDepth 20000 in
theorem gX0_placeBest_X0_feelReach : GoodIn wsX0_placeBest (wsV RX0 30 RX0 yX0_feelReach wsX0_feelReach) := goodIn_app (goodIn_of _ (by decide +kernel)) ggX0_placeBest_X0_feelReach
set_option maxRecDepth 20000 in
theorem ggX0_placeBest_X0_measureRest : GoodIn wsX0_placeBest wsX0_measureRest := goodIn_r _ [23, 7, 24, 25, 26, 27, 28, 5, 29, 30, 31, 32, 33, 34, 35, 36, 37, 38, 39, 49, 50, 51, 52, 53] (by decide +kernel) (by decide +kernel)
set_option maxRecDepth 20000 in
theorem gX0_placeBest_X0_measureRest : GoodIn wsX0_placeBest (wsV RX0 39 RX0 yX0_measureRest wsX0_measureRest) := goodIn_app (goodIn_of _ (by decide +kernel)) ggX0_placeBest_X0_measureRest
set_option maxRecDepth 20000 in
theorem ggX0_placeBest_X0_chooseRow : GoodIn wsX0_placeBest wsX0_chooseRow := goodIn_r _ [43, 44, 45, 46, 26, 27, 28, 5, 29, 25, 24, 30, 31, 32, 33, 34, 35, 36, 49, 50, 51, 52, 53] (by decide +kernel) (by decide +kernel)
set_option maxRecDepth 20000 in
theorem gX0_placeBest_X0_chooseRow : GoodIn wsX0_placeBest (wsV RX0 43 RX0 yX0_chooseRow wsX0_chooseRow) := goodIn_app (goodIn_of _ (by decide +kernel)) ggX0_placeBest_X0_chooseRow
theorem dX0_placeBest_0 : decode cX0_placeBest 0 = .ok (.aload_n 0, 1) := by decide +kernel
theorem dX0_placeBest_1 : decode cX0_placeBest 1 = .ok (.aload_n 1, 1) := by decide +kernel
theorem dX0_placeBest_2 : decode cX0_placeBest 2 = .ok (.aload_n 2, 1) := by decide +kernel
theorem dX0_placeBest_3 : decode cX0_placeBest 3 = .ok (.invokevirtual 30, 3) := by decide +kernel
theorem dX0_placeBest_6 : decode cX0_placeBest 6 = .ok (.aload_n 1, 1) := by decide +kernel
theorem dX0_placeBest_7 : decode cX0_placeBest 7 = .ok (.getfield 34, 3) := by decide +kernel
theorem dX0_placeBest_10 : decode cX0_placeBest 10 = .ok (.iconst 1, 1) := by decide +kernel
theorem dX0_placeBest_11 : decode cX0_placeBest 11 = .ok (.isub, 1) := by decide +kernel
theorem dX0_placeBest_12 : decode cX0_placeBest 12 = .ok (.istore_n 3, 1) := by decide +kernel
theorem dX0_placeBest_13 : decode cX0_placeBest 13 = .ok (.iload_n 3, 1) := by decide +kernel
theorem dX0_placeBest_14 : decode cX0_placeBest 14 = .ok (.ifCond .lt 29, 3) := by decide +kernel
theorem dX0_placeBest_17 : decode cX0_placeBest 17 = .ok (.aload_n 0, 1) := by decide +kernel
theorem dX0_placeBest_18 : decode cX0_placeBest 18 = .ok (.iload_n 3, 1) := by decide +kernel
theorem dX0_placeBest_19 : decode cX0_placeBest 19 = .ok (.iload_n 3, 1) := by decide +kernel
theorem dX0_placeBest_20 : decode cX0_placeBest 20 = .ok (.aload_n 1, 1) := by decide +kernel
theorem dX0_placeBest_21 : decode cX0_placeBest 21 = .ok (.getfield 34, 3) := by decide +kernel
theorem dX0_placeBest_24 : decode cX0_placeBest 24 = .ok (.iconst 1, 1) := by decide +kernel
theorem dX0_placeBest_25 : decode cX0_placeBest 25 = .ok (.isub, 1) := by decide +kernel
theorem dX0_placeBest_26 : decode cX0_placeBest 26 = .ok (.if_icmp .ne 7, 3) := by decide +kernel
theorem dX0_placeBest_29 : decode cX0_placeBest 29 = .ok (.iconst 1, 1) := by decide +kernel
theorem dX0_placeBest_30 : decode cX0_placeBest 30 = .ok (.goto 4, 3) := by decide +kernel
theorem dX0_placeBest_33 : decode cX0_placeBest 33 = .ok (.iconst 0, 1) := by decide +kernel
theorem dX0_placeBest_34 : decode cX0_placeBest 34 = .ok (.invokevirtual 39, 3) := by decide +kernel
theorem dX0_placeBest_37 : decode cX0_placeBest 37 = .ok (.iinc 3 (-1), 3) := by decide +kernel
theorem dX0_placeBest_40 : decode cX0_placeBest 40 = .ok (.goto (-27), 3) := by decide +kernel
theorem dX0_placeBest_43 : decode cX0_placeBest 43 = .ok (.aload_n 1, 1) := by decide +kernel
theorem dX0_placeBest_44 : decode cX0_placeBest 44 = .ok (.getfield 34, 3) := by decide +kernel
theorem dX0_placeBest_47 : decode cX0_placeBest 47 = .ok (.ifCond .le 18, 3) := by decide +kernel
theorem dX0_placeBest_50 : decode cX0_placeBest 50 = .ok (.aload_n 0, 1) := by decide +kernel
theorem dX0_placeBest_51 : decode cX0_placeBest 51 = .ok (.aload_n 1, 1) := by decide +kernel
theorem dX0_placeBest_52 : decode cX0_placeBest 52 = .ok (.getfield 34, 3) := by decide +kernel
theorem dX0_placeBest_55 : decode cX0_placeBest 55 = .ok (.invokevirtual 43, 3) := by decide +kernel
theorem dX0_placeBest_58 : decode cX0_placeBest 58 = .ok (.ifCond .eq 7, 3) := by decide +kernel
theorem dX0_placeBest_61 : decode cX0_placeBest 61 = .ok (.iconst 1, 1) := by decide +kernel
theorem dX0_placeBest_62 : decode cX0_placeBest 62 = .ok (.goto 4, 3) := by decide +kernel
theorem dX0_placeBest_65 : decode cX0_placeBest 65 = .ok (.iconst 0, 1) := by decide +kernel
theorem dX0_placeBest_66 : decode cX0_placeBest 66 = .ok (.ireturn, 1) := by decide +kernel
set_option maxRecDepth 20000 in
theorem ggX0_leastByAll_X0_feelReach : GoodIn wsX0_leastByAll wsX0_feelReach := goodIn_r _ [8, 1, 2, 9, 10, 11, 12, 13, 14, 15, 16, 17, 18, 19, 20, 34, 35, 36, 37, 38, 39, 40, 41, 42, 43] (by decide +kernel) (by decide +kernel)
set_option maxRecDepth 20000 in
theorem gX0_leastByAll_X0_feelReach : GoodIn wsX0_leastByAll (wsV RX0 30 RX0 yX0_feelReach wsX0_feelReach) := goodIn_app (goodIn_of _ (by decide +kernel)) ggX0_leastByAll_X0_feelReach
set_option maxRecDepth 20000 in
theorem ggX0_leastByAll_X0_leastFrom : GoodIn wsX0_leastByAll wsX0_leastFrom := goodIn_r _ [23, 3, 24, 25, 7, 26, 27, 28, 29, 30, 31, 32, 33, 21, 22] (by decide +kernel) (by decide +kernel)
set_option maxRecDepth 20000 in
theorem gX0_leastByAll_X0_leastFrom : GoodIn wsX0_leastByAll (va_wsS RX0 47 yX0_leastFrom wsX0_leastFrom) := goodIn_app (goodIn_of _ (by decide +kernel)) ggX0_leastByAll_X0_leastFrom
theorem dX0_leastByAll_0 : decode cX0_leastByAll 0 = .ok (.aload_n 1, 1) := by decide +kernel
theorem dX0_leastByAll_1 : decode cX0_leastByAll 1 = .ok (.getfield 34, 3) := by decide +kernel
theorem dX0_leastByAll_4 : decode cX0_leastByAll 4 = .ok (.ifCond .ne 5, 3) := by decide +kernel
theorem dX0_leastByAll_7 : decode cX0_leastByAll 7 = .ok (.iconst (-1), 1) := by decide +kernel
theorem dX0_leastByAll_8 : decode cX0_leastByAll 8 = .ok (.ireturn, 1) := by decide +kernel
theorem dX0_leastByAll_9 : decode cX0_leastByAll 9 = .ok (.aload_n 0, 1) := by decide +kernel
theorem dX0_leastByAll_10 : decode cX0_leastByAll 10 = .ok (.aload_n 1, 1) := by decide +kernel
theorem dX0_leastByAll_11 : decode cX0_leastByAll 11 = .ok (.aload_n 2, 1) := by decide +kernel
theorem dX0_leastByAll_12 : decode cX0_leastByAll 12 = .ok (.invokevirtual 30, 3) := by decide +kernel
theorem dX0_leastByAll_15 : decode cX0_leastByAll 15 = .ok (.aload_n 0, 1) := by decide +kernel
theorem dX0_leastByAll_16 : decode cX0_leastByAll 16 = .ok (.getfield 9, 3) := by decide +kernel
theorem dX0_leastByAll_19 : decode cX0_leastByAll 19 = .ok (.aload_n 1, 1) := by decide +kernel
theorem dX0_leastByAll_20 : decode cX0_leastByAll 20 = .ok (.getfield 34, 3) := by decide +kernel
theorem dX0_leastByAll_23 : decode cX0_leastByAll 23 = .ok (.iconst 0, 1) := by decide +kernel
theorem dX0_leastByAll_24 : decode cX0_leastByAll 24 = .ok (.iconst 0, 1) := by decide +kernel
theorem dX0_leastByAll_25 : decode cX0_leastByAll 25 = .ok (.invokestatic 47, 3) := by decide +kernel
theorem dX0_leastByAll_28 : decode cX0_leastByAll 28 = .ok (.istore_n 3, 1) := by decide +kernel
theorem dX0_leastByAll_29 : decode cX0_leastByAll 29 = .ok (.iload_n 3, 1) := by decide +kernel
theorem dX0_leastByAll_30 : decode cX0_leastByAll 30 = .ok (.ldc 51, 2) := by decide +kernel
theorem dX0_leastByAll_32 : decode cX0_leastByAll 32 = .ok (.if_icmp .ge 7, 3) := by decide +kernel
theorem dX0_leastByAll_35 : decode cX0_leastByAll 35 = .ok (.iload_n 3, 1) := by decide +kernel
theorem dX0_leastByAll_36 : decode cX0_leastByAll 36 = .ok (.goto 4, 3) := by decide +kernel
theorem dX0_leastByAll_39 : decode cX0_leastByAll 39 = .ok (.iconst (-1), 1) := by decide +kernel
theorem dX0_leastByAll_40 : decode cX0_leastByAll 40 = .ok (.ireturn, 1) := by decide +kernel
set_option maxRecDepth 20000 in
theorem ggX0_feelReach_X1_highestPosition : GoodIn wsX0_feelReach wsX1_highestPosition := goodIn_r _ [8, 9, 22, 23, 24] (by decide +kernel) (by decide +kernel)
set_option maxRecDepth 20000 in
theorem gX0_feelReach_X1_highestPosition : GoodIn wsX0_feelReach (wsV RX0 52 RX1 yX1_highestPosition wsX1_highestPosition) := goodIn_app (goodIn_of _ (by decide +kernel)) ggX0_feelReach_X1_highestPosition
set_option maxRecDepth 20000 in
theorem ggX0_feelReach_X1_lowestString : GoodIn wsX0_feelReach wsX1_lowestString := goodIn_r _ [13, 14, 22, 23, 24] (by decide +kernel) (by decide +kernel)
set_option maxRecDepth 20000 in
theorem gX0_feelReach_X1_lowestString : GoodIn wsX0_feelReach (wsV RX0 61 RX1 yX1_lowestString wsX1_lowestString) := goodIn_app (goodIn_of _ (by decide +kernel)) ggX0_feelReach_X1_lowestString
theorem dX0_feelReach_0 : decode cX0_feelReach 0 = .ok (.aload_n 2, 1) := by decide +kernel
theorem dX0_feelReach_1 : decode cX0_feelReach 1 = .ok (.invokevirtual 52, 3) := by decide +kernel
theorem dX0_feelReach_4 : decode cX0_feelReach 4 = .ok (.istore_n 3, 1) := by decide +kernel
theorem dX0_feelReach_5 : decode cX0_feelReach 5 = .ok (.iconst 0, 1) := by decide +kernel
theorem dX0_feelReach_6 : decode cX0_feelReach 6 = .ok (.istore 4, 2) := by decide +kernel
theorem dX0_feelReach_8 : decode cX0_feelReach 8 = .ok (.iload 4, 2) := by decide +kernel
theorem dX0_feelReach_10 : decode cX0_feelReach 10 = .ok (.aload_n 1, 1) := by decide +kernel
theorem dX0_feelReach_11 : decode cX0_feelReach 11 = .ok (.getfield 34, 3) := by decide +kernel
theorem dX0_feelReach_14 : decode cX0_feelReach 14 = .ok (.if_icmp .ge 63, 3) := by decide +kernel
theorem dX0_feelReach_17 : decode cX0_feelReach 17 = .ok (.aload_n 0, 1) := by decide +kernel
theorem dX0_feelReach_18 : decode cX0_feelReach 18 = .ok (.getfield 9, 3) := by decide +kernel
theorem dX0_feelReach_21 : decode cX0_feelReach 21 = .ok (.iload 4, 2) := by decide +kernel
theorem dX0_feelReach_23 : decode cX0_feelReach 23 = .ok (.iconst 0, 1) := by decide +kernel
theorem dX0_feelReach_24 : decode cX0_feelReach 24 = .ok (.iastore, 1) := by decide +kernel
theorem dX0_feelReach_25 : decode cX0_feelReach 25 = .ok (.iconst 1, 1) := by decide +kernel
theorem dX0_feelReach_26 : decode cX0_feelReach 26 = .ok (.istore 5, 2) := by decide +kernel
theorem dX0_feelReach_28 : decode cX0_feelReach 28 = .ok (.iload 5, 2) := by decide +kernel
theorem dX0_feelReach_30 : decode cX0_feelReach 30 = .ok (.iload_n 3, 1) := by decide +kernel
theorem dX0_feelReach_31 : decode cX0_feelReach 31 = .ok (.if_icmp .gt 40, 3) := by decide +kernel
theorem dX0_feelReach_34 : decode cX0_feelReach 34 = .ok (.aload_n 2, 1) := by decide +kernel
theorem dX0_feelReach_35 : decode cX0_feelReach 35 = .ok (.aload_n 1, 1) := by decide +kernel
theorem dX0_feelReach_36 : decode cX0_feelReach 36 = .ok (.getfield 58, 3) := by decide +kernel
theorem dX0_feelReach_39 : decode cX0_feelReach 39 = .ok (.iload 4, 2) := by decide +kernel
theorem dX0_feelReach_41 : decode cX0_feelReach 41 = .ok (.iaload, 1) := by decide +kernel
theorem dX0_feelReach_42 : decode cX0_feelReach 42 = .ok (.iload 5, 2) := by decide +kernel
theorem dX0_feelReach_44 : decode cX0_feelReach 44 = .ok (.invokevirtual 61, 3) := by decide +kernel
theorem dX0_feelReach_47 : decode cX0_feelReach 47 = .ok (.iconst (-1), 1) := by decide +kernel
theorem dX0_feelReach_48 : decode cX0_feelReach 48 = .ok (.if_icmp .eq 17, 3) := by decide +kernel
theorem dX0_feelReach_51 : decode cX0_feelReach 51 = .ok (.aload_n 0, 1) := by decide +kernel
theorem dX0_feelReach_52 : decode cX0_feelReach 52 = .ok (.getfield 9, 3) := by decide +kernel
theorem dX0_feelReach_55 : decode cX0_feelReach 55 = .ok (.iload 4, 2) := by decide +kernel
theorem dX0_feelReach_57 : decode cX0_feelReach 57 = .ok (.dup2, 1) := by decide +kernel
theorem dX0_feelReach_58 : decode cX0_feelReach 58 = .ok (.iaload, 1) := by decide +kernel
theorem dX0_feelReach_59 : decode cX0_feelReach 59 = .ok (.iconst 1, 1) := by decide +kernel
theorem dX0_feelReach_60 : decode cX0_feelReach 60 = .ok (.iload 5, 2) := by decide +kernel
theorem dX0_feelReach_62 : decode cX0_feelReach 62 = .ok (.ishl, 1) := by decide +kernel
theorem dX0_feelReach_63 : decode cX0_feelReach 63 = .ok (.ior, 1) := by decide +kernel
theorem dX0_feelReach_64 : decode cX0_feelReach 64 = .ok (.iastore, 1) := by decide +kernel
theorem dX0_feelReach_65 : decode cX0_feelReach 65 = .ok (.iinc 5 1, 3) := by decide +kernel
theorem dX0_feelReach_68 : decode cX0_feelReach 68 = .ok (.goto (-40), 3) := by decide +kernel
theorem dX0_feelReach_71 : decode cX0_feelReach 71 = .ok (.iinc 4 1, 3) := by decide +kernel
theorem dX0_feelReach_74 : decode cX0_feelReach 74 = .ok (.goto (-66), 3) := by decide +kernel
theorem dX0_feelReach_77 : decode cX0_feelReach 77 = .ok (.return_, 1) := by decide +kernel
set_option maxRecDepth 20000 in
theorem ggX0_measureRest_X0_nearest : GoodIn wsX0_measureRest wsX0_nearest := goodIn_r _ [8, 3, 2, 9, 10, 7, 11, 12, 13, 14, 15, 19, 20, 21, 22, 23] (by decide +kernel) (by decide +kernel)
set_option maxRecDepth 20000 in
theorem gX0_measureRest_X0_nearest : GoodIn wsX0_measureRest (wsV RX0 65 RX0 yX0_nearest wsX0_nearest) := goodIn_app (goodIn_of _ (by decide +kernel)) ggX0_measureRest_X0_nearest
set_option maxRecDepth 20000 in
theorem ggX0_measureRest_X0_canReach : GoodIn wsX0_measureRest wsX0_canReach := goodIn_r _ [18] (by decide +kernel) (by decide +kernel)
set_option maxRecDepth 20000 in
theorem gX0_measureRest_X0_canReach : GoodIn wsX0_measureRest (va_wsS RX0 68 yX0_canReach wsX0_canReach) := goodIn_app (goodIn_of _ (by decide +kernel)) ggX0_measureRest_X0_canReach
set_option maxRecDepth 20000 in
theorem ggX0_measureRest_X0_shift : GoodIn wsX0_measureRest wsX0_shift := goodIn_r _ [11, 12, 13, 14, 15] (by decide +kernel) (by decide +kernel)
set_option maxRecDepth 20000 in
theorem gX0_measureRest_X0_shift : GoodIn wsX0_measureRest (va_wsS RX0 72 yX0_shift wsX0_shift) := goodIn_app (goodIn_of _ (by decide +kernel)) ggX0_measureRest_X0_shift
theorem dX0_measureRest_0 : decode cX0_measureRest 0 = .ok (.iconst 1, 1) := by decide +kernel
theorem dX0_measureRest_1 : decode cX0_measureRest 1 = .ok (.istore_n 3, 1) := by decide +kernel
theorem dX0_measureRest_2 : decode cX0_measureRest 2 = .ok (.iload_n 3, 1) := by decide +kernel
theorem dX0_measureRest_3 : decode cX0_measureRest 3 = .ok (.bipush 13, 2) := by decide +kernel
theorem dX0_measureRest_5 : decode cX0_measureRest 5 = .ok (.if_icmp .gt 95, 3) := by decide +kernel
theorem dX0_measureRest_8 : decode cX0_measureRest 8 = .ok (.iconst 0, 1) := by decide +kernel
theorem dX0_measureRest_9 : decode cX0_measureRest 9 = .ok (.istore 4, 2) := by decide +kernel
theorem dX0_measureRest_11 : decode cX0_measureRest 11 = .ok (.iload_n 2, 1) := by decide +kernel
theorem dX0_measureRest_12 : decode cX0_measureRest 12 = .ok (.ifCond .ne 13, 3) := by decide +kernel
theorem dX0_measureRest_15 : decode cX0_measureRest 15 = .ok (.aload_n 0, 1) := by decide +kernel
theorem dX0_measureRest_16 : decode cX0_measureRest 16 = .ok (.iload_n 1, 1) := by decide +kernel
theorem dX0_measureRest_17 : decode cX0_measureRest 17 = .ok (.iconst 1, 1) := by decide +kernel
theorem dX0_measureRest_18 : decode cX0_measureRest 18 = .ok (.iadd, 1) := by decide +kernel
theorem dX0_measureRest_19 : decode cX0_measureRest 19 = .ok (.iload_n 3, 1) := by decide +kernel
theorem dX0_measureRest_20 : decode cX0_measureRest 20 = .ok (.invokevirtual 65, 3) := by decide +kernel
theorem dX0_measureRest_23 : decode cX0_measureRest 23 = .ok (.istore 4, 2) := by decide +kernel
theorem dX0_measureRest_25 : decode cX0_measureRest 25 = .ok (.aload_n 0, 1) := by decide +kernel
theorem dX0_measureRest_26 : decode cX0_measureRest 26 = .ok (.getfield 9, 3) := by decide +kernel
theorem dX0_measureRest_29 : decode cX0_measureRest 29 = .ok (.iload_n 1, 1) := by decide +kernel
theorem dX0_measureRest_30 : decode cX0_measureRest 30 = .ok (.iaload, 1) := by decide +kernel
theorem dX0_measureRest_31 : decode cX0_measureRest 31 = .ok (.iload_n 3, 1) := by decide +kernel
theorem dX0_measureRest_32 : decode cX0_measureRest 32 = .ok (.invokestatic 68, 3) := by decide +kernel
theorem dX0_measureRest_35 : decode cX0_measureRest 35 = .ok (.ifCond .eq 12, 3) := by decide +kernel
theorem dX0_measureRest_38 : decode cX0_measureRest 38 = .ok (.iload_n 2, 1) := by decide +kernel
theorem dX0_measureRest_39 : decode cX0_measureRest 39 = .ok (.ifCond .ne 21, 3) := by decide +kernel
theorem dX0_measureRest_42 : decode cX0_measureRest 42 = .ok (.iload 4, 2) := by decide +kernel
theorem dX0_measureRest_44 : decode cX0_measureRest 44 = .ok (.ifCond .ne 16, 3) := by decide +kernel
theorem dX0_measureRest_47 : decode cX0_measureRest 47 = .ok (.aload_n 0, 1) := by decide +kernel
theorem dX0_measureRest_48 : decode cX0_measureRest 48 = .ok (.getfield 17, 3) := by decide +kernel
theorem dX0_measureRest_51 : decode cX0_measureRest 51 = .ok (.iload_n 1, 1) := by decide +kernel
theorem dX0_measureRest_52 : decode cX0_measureRest 52 = .ok (.aaload, 1) := by decide +kernel
theorem dX0_measureRest_53 : decode cX0_measureRest 53 = .ok (.iload_n 3, 1) := by decide +kernel
theorem dX0_measureRest_54 : decode cX0_measureRest 54 = .ok (.ldc 51, 2) := by decide +kernel
theorem dX0_measureRest_56 : decode cX0_measureRest 56 = .ok (.iastore, 1) := by decide +kernel
theorem dX0_measureRest_57 : decode cX0_measureRest 57 = .ok (.goto 37, 3) := by decide +kernel
theorem dX0_measureRest_60 : decode cX0_measureRest 60 = .ok (.aload_n 0, 1) := by decide +kernel
theorem dX0_measureRest_61 : decode cX0_measureRest 61 = .ok (.getfield 17, 3) := by decide +kernel
theorem dX0_measureRest_64 : decode cX0_measureRest 64 = .ok (.iload_n 1, 1) := by decide +kernel
theorem dX0_measureRest_65 : decode cX0_measureRest 65 = .ok (.aaload, 1) := by decide +kernel
theorem dX0_measureRest_66 : decode cX0_measureRest 66 = .ok (.iload_n 3, 1) := by decide +kernel
theorem dX0_measureRest_67 : decode cX0_measureRest 67 = .ok (.iload_n 2, 1) := by decide +kernel
theorem dX0_measureRest_68 : decode cX0_measureRest 68 = .ok (.ifCond .eq 7, 3) := by decide +kernel
theorem dX0_measureRest_71 : decode cX0_measureRest 71 = .ok (.iconst 0, 1) := by decide +kernel
theorem dX0_measureRest_72 : decode cX0_measureRest 72 = .ok (.goto 21, 3) := by decide +kernel
theorem dX0_measureRest_75 : decode cX0_measureRest 75 = .ok (.iload_n 3, 1) := by decide +kernel
theorem dX0_measureRest_76 : decode cX0_measureRest 76 = .ok (.iload 4, 2) := by decide +kernel
theorem dX0_measureRest_78 : decode cX0_measureRest 78 = .ok (.invokestatic 72, 3) := by decide +kernel
theorem dX0_measureRest_81 : decode cX0_measureRest 81 = .ok (.aload_n 0, 1) := by decide +kernel
theorem dX0_measureRest_82 : decode cX0_measureRest 82 = .ok (.getfield 17, 3) := by decide +kernel
theorem dX0_measureRest_85 : decode cX0_measureRest 85 = .ok (.iload_n 1, 1) := by decide +kernel
theorem dX0_measureRest_86 : decode cX0_measureRest 86 = .ok (.iconst 1, 1) := by decide +kernel
theorem dX0_measureRest_87 : decode cX0_measureRest 87 = .ok (.iadd, 1) := by decide +kernel
theorem dX0_measureRest_88 : decode cX0_measureRest 88 = .ok (.aaload, 1) := by decide +kernel
theorem dX0_measureRest_89 : decode cX0_measureRest 89 = .ok (.iload 4, 2) := by decide +kernel
theorem dX0_measureRest_91 : decode cX0_measureRest 91 = .ok (.iaload, 1) := by decide +kernel
theorem dX0_measureRest_92 : decode cX0_measureRest 92 = .ok (.iadd, 1) := by decide +kernel
theorem dX0_measureRest_93 : decode cX0_measureRest 93 = .ok (.iastore, 1) := by decide +kernel
theorem dX0_measureRest_94 : decode cX0_measureRest 94 = .ok (.iinc 3 1, 3) := by decide +kernel
theorem dX0_measureRest_97 : decode cX0_measureRest 97 = .ok (.goto (-95), 3) := by decide +kernel
theorem dX0_measureRest_100 : decode cX0_measureRest 100 = .ok (.return_, 1) := by decide +kernel
set_option maxRecDepth 20000 in
theorem ggX0_chooseRow_X0_nearest : GoodIn wsX0_chooseRow wsX0_nearest := goodIn_r _ [8, 9, 10, 11, 12, 7, 13, 14, 15, 16, 17, 18, 19, 20, 21, 22] (by decide +kernel) (by decide +kernel)
set_option maxRecDepth 20000 in
theorem gX0_chooseRow_X0_nearest : GoodIn wsX0_chooseRow (wsV RX0 65 RX0 yX0_nearest wsX0_nearest) := goodIn_app (goodIn_of _ (by decide +kernel)) ggX0_chooseRow_X0_nearest
set_option maxRecDepth 20000 in
theorem ggX0_chooseRow_X0_shift : GoodIn wsX0_chooseRow wsX0_shift := goodIn_r _ [13, 14, 15, 16, 17] (by decide +kernel) (by decide +kernel)
set_option maxRecDepth 20000 in
theorem gX0_chooseRow_X0_shift : GoodIn wsX0_chooseRow (va_wsS RX0 72 yX0_shift wsX0_shift) := goodIn_app (goodIn_of _ (by decide +kernel)) ggX0_chooseRow_X0_shift
theorem dX0_chooseRow_0 : decode cX0_chooseRow 0 = .ok (.aload_n 0, 1) := by decide +kernel
theorem dX0_chooseRow_1 : decode cX0_chooseRow 1 = .ok (.iconst 0, 1) := by decide +kernel
theorem dX0_chooseRow_2 : decode cX0_chooseRow 2 = .ok (.putfield 23, 3) := by decide +kernel
theorem dX0_chooseRow_5 : decode cX0_chooseRow 5 = .ok (.aload_n 0, 1) := by decide +kernel
theorem dX0_chooseRow_6 : decode cX0_chooseRow 6 = .ok (.iconst 0, 1) := by decide +kernel
theorem dX0_chooseRow_7 : decode cX0_chooseRow 7 = .ok (.putfield 27, 3) := by decide +kernel
theorem dX0_chooseRow_10 : decode cX0_chooseRow 10 = .ok (.iconst 0, 1) := by decide +kernel
theorem dX0_chooseRow_11 : decode cX0_chooseRow 11 = .ok (.istore_n 2, 1) := by decide +kernel
theorem dX0_chooseRow_12 : decode cX0_chooseRow 12 = .ok (.iconst 0, 1) := by decide +kernel
theorem dX0_chooseRow_13 : decode cX0_chooseRow 13 = .ok (.istore_n 3, 1) := by decide +kernel
theorem dX0_chooseRow_14 : decode cX0_chooseRow 14 = .ok (.iload_n 3, 1) := by decide +kernel
theorem dX0_chooseRow_15 : decode cX0_chooseRow 15 = .ok (.iload_n 1, 1) := by decide +kernel
theorem dX0_chooseRow_16 : decode cX0_chooseRow 16 = .ok (.if_icmp .ge 76, 3) := by decide +kernel
theorem dX0_chooseRow_19 : decode cX0_chooseRow 19 = .ok (.aload_n 0, 1) := by decide +kernel
theorem dX0_chooseRow_20 : decode cX0_chooseRow 20 = .ok (.iload_n 3, 1) := by decide +kernel
theorem dX0_chooseRow_21 : decode cX0_chooseRow 21 = .ok (.iload_n 2, 1) := by decide +kernel
theorem dX0_chooseRow_22 : decode cX0_chooseRow 22 = .ok (.invokevirtual 65, 3) := by decide +kernel
theorem dX0_chooseRow_25 : decode cX0_chooseRow 25 = .ok (.istore 4, 2) := by decide +kernel
theorem dX0_chooseRow_27 : decode cX0_chooseRow 27 = .ok (.iload 4, 2) := by decide +kernel
theorem dX0_chooseRow_29 : decode cX0_chooseRow 29 = .ok (.ifCond .ne 5, 3) := by decide +kernel
theorem dX0_chooseRow_32 : decode cX0_chooseRow 32 = .ok (.iconst 0, 1) := by decide +kernel
theorem dX0_chooseRow_33 : decode cX0_chooseRow 33 = .ok (.ireturn, 1) := by decide +kernel
theorem dX0_chooseRow_34 : decode cX0_chooseRow 34 = .ok (.iload_n 2, 1) := by decide +kernel
theorem dX0_chooseRow_35 : decode cX0_chooseRow 35 = .ok (.iload 4, 2) := by decide +kernel
theorem dX0_chooseRow_37 : decode cX0_chooseRow 37 = .ok (.invokestatic 72, 3) := by decide +kernel
theorem dX0_chooseRow_40 : decode cX0_chooseRow 40 = .ok (.istore 5, 2) := by decide +kernel
theorem dX0_chooseRow_42 : decode cX0_chooseRow 42 = .ok (.aload_n 0, 1) := by decide +kernel
theorem dX0_chooseRow_43 : decode cX0_chooseRow 43 = .ok (.dup, 1) := by decide +kernel
theorem dX0_chooseRow_44 : decode cX0_chooseRow 44 = .ok (.getfield 23, 3) := by decide +kernel
theorem dX0_chooseRow_47 : decode cX0_chooseRow 47 = .ok (.iload 5, 2) := by decide +kernel
theorem dX0_chooseRow_49 : decode cX0_chooseRow 49 = .ok (.iadd, 1) := by decide +kernel
theorem dX0_chooseRow_50 : decode cX0_chooseRow 50 = .ok (.putfield 23, 3) := by decide +kernel
theorem dX0_chooseRow_53 : decode cX0_chooseRow 53 = .ok (.aload_n 0, 1) := by decide +kernel
theorem dX0_chooseRow_54 : decode cX0_chooseRow 54 = .ok (.iload 5, 2) := by decide +kernel
theorem dX0_chooseRow_56 : decode cX0_chooseRow 56 = .ok (.aload_n 0, 1) := by decide +kernel
theorem dX0_chooseRow_57 : decode cX0_chooseRow 57 = .ok (.getfield 27, 3) := by decide +kernel
theorem dX0_chooseRow_60 : decode cX0_chooseRow 60 = .ok (.if_icmp .le 8, 3) := by decide +kernel
theorem dX0_chooseRow_63 : decode cX0_chooseRow 63 = .ok (.iload 5, 2) := by decide +kernel
theorem dX0_chooseRow_65 : decode cX0_chooseRow 65 = .ok (.goto 7, 3) := by decide +kernel
theorem dX0_chooseRow_68 : decode cX0_chooseRow 68 = .ok (.aload_n 0, 1) := by decide +kernel
theorem dX0_chooseRow_69 : decode cX0_chooseRow 69 = .ok (.getfield 27, 3) := by decide +kernel
theorem dX0_chooseRow_72 : decode cX0_chooseRow 72 = .ok (.putfield 27, 3) := by decide +kernel
theorem dX0_chooseRow_75 : decode cX0_chooseRow 75 = .ok (.aload_n 0, 1) := by decide +kernel
theorem dX0_chooseRow_76 : decode cX0_chooseRow 76 = .ok (.getfield 20, 3) := by decide +kernel
theorem dX0_chooseRow_79 : decode cX0_chooseRow 79 = .ok (.iload_n 3, 1) := by decide +kernel
theorem dX0_chooseRow_80 : decode cX0_chooseRow 80 = .ok (.iload 4, 2) := by decide +kernel
theorem dX0_chooseRow_82 : decode cX0_chooseRow 82 = .ok (.iastore, 1) := by decide +kernel
theorem dX0_chooseRow_83 : decode cX0_chooseRow 83 = .ok (.iload 4, 2) := by decide +kernel
theorem dX0_chooseRow_85 : decode cX0_chooseRow 85 = .ok (.istore_n 2, 1) := by decide +kernel
theorem dX0_chooseRow_86 : decode cX0_chooseRow 86 = .ok (.iinc 3 1, 3) := by decide +kernel
theorem dX0_chooseRow_89 : decode cX0_chooseRow 89 = .ok (.goto (-75), 3) := by decide +kernel
theorem dX0_chooseRow_92 : decode cX0_chooseRow 92 = .ok (.iconst 1, 1) := by decide +kernel
theorem dX0_chooseRow_93 : decode cX0_chooseRow 93 = .ok (.ireturn, 1) := by decide +kernel
set_option maxRecDepth 20000 in
theorem ggX0_nearest_X0_shift : GoodIn wsX0_nearest wsX0_shift := goodIn_r _ [6, 7, 8, 9, 10] (by decide +kernel) (by decide +kernel)
set_option maxRecDepth 20000 in
theorem gX0_nearest_X0_shift : GoodIn wsX0_nearest (va_wsS RX0 72 yX0_shift wsX0_shift) := goodIn_app (goodIn_of _ (by decide +kernel)) ggX0_nearest_X0_shift
theorem dX0_nearest_0 : decode cX0_nearest 0 = .ok (.iconst 0, 1) := by decide +kernel
theorem dX0_nearest_1 : decode cX0_nearest 1 = .ok (.istore_n 3, 1) := by decide +kernel
theorem dX0_nearest_2 : decode cX0_nearest 2 = .ok (.ldc 51, 2) := by decide +kernel
theorem dX0_nearest_4 : decode cX0_nearest 4 = .ok (.istore 4, 2) := by decide +kernel
theorem dX0_nearest_6 : decode cX0_nearest 6 = .ok (.iconst 1, 1) := by decide +kernel
theorem dX0_nearest_7 : decode cX0_nearest 7 = .ok (.istore 5, 2) := by decide +kernel
theorem dX0_nearest_9 : decode cX0_nearest 9 = .ok (.iload 5, 2) := by decide +kernel
theorem dX0_nearest_11 : decode cX0_nearest 11 = .ok (.bipush 13, 2) := by decide +kernel
theorem dX0_nearest_13 : decode cX0_nearest 13 = .ok (.if_icmp .gt 41, 3) := by decide +kernel
theorem dX0_nearest_16 : decode cX0_nearest 16 = .ok (.iload_n 2, 1) := by decide +kernel
theorem dX0_nearest_17 : decode cX0_nearest 17 = .ok (.iload 5, 2) := by decide +kernel
theorem dX0_nearest_19 : decode cX0_nearest 19 = .ok (.invokestatic 72, 3) := by decide +kernel
theorem dX0_nearest_22 : decode cX0_nearest 22 = .ok (.aload_n 0, 1) := by decide +kernel
theorem dX0_nearest_23 : decode cX0_nearest 23 = .ok (.getfield 17, 3) := by decide +kernel
theorem dX0_nearest_26 : decode cX0_nearest 26 = .ok (.iload_n 1, 1) := by decide +kernel
theorem dX0_nearest_27 : decode cX0_nearest 27 = .ok (.aaload, 1) := by decide +kernel
theorem dX0_nearest_28 : decode cX0_nearest 28 = .ok (.iload 5, 2) := by decide +kernel
theorem dX0_nearest_30 : decode cX0_nearest 30 = .ok (.iaload, 1) := by decide +kernel
theorem dX0_nearest_31 : decode cX0_nearest 31 = .ok (.iadd, 1) := by decide +kernel
theorem dX0_nearest_32 : decode cX0_nearest 32 = .ok (.istore 6, 2) := by decide +kernel
theorem dX0_nearest_34 : decode cX0_nearest 34 = .ok (.iload 6, 2) := by decide +kernel
theorem dX0_nearest_36 : decode cX0_nearest 36 = .ok (.iload 4, 2) := by decide +kernel
theorem dX0_nearest_38 : decode cX0_nearest 38 = .ok (.if_icmp .ge 10, 3) := by decide +kernel
theorem dX0_nearest_41 : decode cX0_nearest 41 = .ok (.iload 5, 2) := by decide +kernel
theorem dX0_nearest_43 : decode cX0_nearest 43 = .ok (.istore_n 3, 1) := by decide +kernel
theorem dX0_nearest_44 : decode cX0_nearest 44 = .ok (.iload 6, 2) := by decide +kernel
theorem dX0_nearest_46 : decode cX0_nearest 46 = .ok (.istore 4, 2) := by decide +kernel
theorem dX0_nearest_48 : decode cX0_nearest 48 = .ok (.iinc 5 1, 3) := by decide +kernel
theorem dX0_nearest_51 : decode cX0_nearest 51 = .ok (.goto (-42), 3) := by decide +kernel
theorem dX0_nearest_54 : decode cX0_nearest 54 = .ok (.iload_n 3, 1) := by decide +kernel
theorem dX0_nearest_55 : decode cX0_nearest 55 = .ok (.ireturn, 1) := by decide +kernel
set_option maxRecDepth 20000 in
theorem ggX0_leastFrom_X0_canReach : GoodIn wsX0_leastFrom wsX0_canReach := goodIn_r _ [5] (by decide +kernel) (by decide +kernel)
set_option maxRecDepth 20000 in
theorem gX0_leastFrom_X0_canReach : GoodIn wsX0_leastFrom (va_wsS RX0 68 yX0_canReach wsX0_canReach) := goodIn_app (goodIn_of _ (by decide +kernel)) ggX0_leastFrom_X0_canReach
set_option maxRecDepth 20000 in
theorem ggX0_leastFrom_X0_shift : GoodIn wsX0_leastFrom wsX0_shift := goodIn_r _ [8, 9, 10, 11, 12] (by decide +kernel) (by decide +kernel)
set_option maxRecDepth 20000 in
theorem gX0_leastFrom_X0_shift : GoodIn wsX0_leastFrom (va_wsS RX0 72 yX0_shift wsX0_shift) := goodIn_app (goodIn_of _ (by decide +kernel)) ggX0_leastFrom_X0_shift
set_option maxRecDepth 20000 in
theorem ggX0_leastFrom_X0_leastFrom : GoodIn wsX0_leastFrom wsX0_leastFrom := goodIn_r _ [0, 1, 2, 3, 4, 5, 6, 7, 8, 9, 10, 11, 12, 13, 14] (by decide +kernel) (by decide +kernel)
set_option maxRecDepth 20000 in
theorem gX0_leastFrom_X0_leastFrom : GoodIn wsX0_leastFrom (va_wsS RX0 47 yX0_leastFrom wsX0_leastFrom) := goodIn_app (goodIn_of _ (by decide +kernel)) ggX0_leastFrom_X0_leastFrom
theorem dX0_leastFrom_0 : decode cX0_leastFrom 0 = .ok (.iload_n 2, 1) := by decide +kernel
theorem dX0_leastFrom_1 : decode cX0_leastFrom 1 = .ok (.iload_n 1, 1) := by decide +kernel
theorem dX0_leastFrom_2 : decode cX0_leastFrom 2 = .ok (.if_icmp .ge 8, 3) := by decide +kernel
theorem dX0_leastFrom_5 : decode cX0_leastFrom 5 = .ok (.iload_n 2, 1) := by decide +kernel
theorem dX0_leastFrom_6 : decode cX0_leastFrom 6 = .ok (.iconst 4, 1) := by decide +kernel
theorem dX0_leastFrom_7 : decode cX0_leastFrom 7 = .ok (.if_icmp .lt 5, 3) := by decide +kernel
theorem dX0_leastFrom_10 : decode cX0_leastFrom 10 = .ok (.iconst 0, 1) := by decide +kernel
theorem dX0_leastFrom_11 : decode cX0_leastFrom 11 = .ok (.ireturn, 1) := by decide +kernel
theorem dX0_leastFrom_12 : decode cX0_leastFrom 12 = .ok (.ldc 51, 2) := by decide +kernel
theorem dX0_leastFrom_14 : decode cX0_leastFrom 14 = .ok (.istore 4, 2) := by decide +kernel
theorem dX0_leastFrom_16 : decode cX0_leastFrom 16 = .ok (.iconst 1, 1) := by decide +kernel
theorem dX0_leastFrom_17 : decode cX0_leastFrom 17 = .ok (.istore 5, 2) := by decide +kernel
theorem dX0_leastFrom_19 : decode cX0_leastFrom 19 = .ok (.iload 5, 2) := by decide +kernel
theorem dX0_leastFrom_21 : decode cX0_leastFrom 21 = .ok (.bipush 13, 2) := by decide +kernel
theorem dX0_leastFrom_23 : decode cX0_leastFrom 23 = .ok (.if_icmp .gt 55, 3) := by decide +kernel
theorem dX0_leastFrom_26 : decode cX0_leastFrom 26 = .ok (.aload_n 0, 1) := by decide +kernel
theorem dX0_leastFrom_27 : decode cX0_leastFrom 27 = .ok (.iload_n 2, 1) := by decide +kernel
theorem dX0_leastFrom_28 : decode cX0_leastFrom 28 = .ok (.iaload, 1) := by decide +kernel
theorem dX0_leastFrom_29 : decode cX0_leastFrom 29 = .ok (.iload 5, 2) := by decide +kernel
theorem dX0_leastFrom_31 : decode cX0_leastFrom 31 = .ok (.invokestatic 68, 3) := by decide +kernel
theorem dX0_leastFrom_34 : decode cX0_leastFrom 34 = .ok (.ifCond .eq 38, 3) := by decide +kernel
theorem dX0_leastFrom_37 : decode cX0_leastFrom 37 = .ok (.iload_n 3, 1) := by decide +kernel
theorem dX0_leastFrom_38 : decode cX0_leastFrom 38 = .ok (.iload 5, 2) := by decide +kernel
theorem dX0_leastFrom_40 : decode cX0_leastFrom 40 = .ok (.invokestatic 72, 3) := by decide +kernel
theorem dX0_leastFrom_43 : decode cX0_leastFrom 43 = .ok (.aload_n 0, 1) := by decide +kernel
theorem dX0_leastFrom_44 : decode cX0_leastFrom 44 = .ok (.iload_n 1, 1) := by decide +kernel
theorem dX0_leastFrom_45 : decode cX0_leastFrom 45 = .ok (.iload_n 2, 1) := by decide +kernel
theorem dX0_leastFrom_46 : decode cX0_leastFrom 46 = .ok (.iconst 1, 1) := by decide +kernel
theorem dX0_leastFrom_47 : decode cX0_leastFrom 47 = .ok (.iadd, 1) := by decide +kernel
theorem dX0_leastFrom_48 : decode cX0_leastFrom 48 = .ok (.iload 5, 2) := by decide +kernel
theorem dX0_leastFrom_50 : decode cX0_leastFrom 50 = .ok (.invokestatic 47, 3) := by decide +kernel
theorem dX0_leastFrom_53 : decode cX0_leastFrom 53 = .ok (.iadd, 1) := by decide +kernel
theorem dX0_leastFrom_54 : decode cX0_leastFrom 54 = .ok (.istore 6, 2) := by decide +kernel
theorem dX0_leastFrom_56 : decode cX0_leastFrom 56 = .ok (.iload 6, 2) := by decide +kernel
theorem dX0_leastFrom_58 : decode cX0_leastFrom 58 = .ok (.iload 4, 2) := by decide +kernel
theorem dX0_leastFrom_60 : decode cX0_leastFrom 60 = .ok (.if_icmp .ge 8, 3) := by decide +kernel
theorem dX0_leastFrom_63 : decode cX0_leastFrom 63 = .ok (.iload 6, 2) := by decide +kernel
theorem dX0_leastFrom_65 : decode cX0_leastFrom 65 = .ok (.goto 5, 3) := by decide +kernel
theorem dX0_leastFrom_68 : decode cX0_leastFrom 68 = .ok (.iload 4, 2) := by decide +kernel
theorem dX0_leastFrom_70 : decode cX0_leastFrom 70 = .ok (.istore 4, 2) := by decide +kernel
theorem dX0_leastFrom_72 : decode cX0_leastFrom 72 = .ok (.iinc 5 1, 3) := by decide +kernel
theorem dX0_leastFrom_75 : decode cX0_leastFrom 75 = .ok (.goto (-56), 3) := by decide +kernel
theorem dX0_leastFrom_78 : decode cX0_leastFrom 78 = .ok (.iload 4, 2) := by decide +kernel
theorem dX0_leastFrom_80 : decode cX0_leastFrom 80 = .ok (.ireturn, 1) := by decide +kernel
theorem dX0_canReach_0 : decode cX0_canReach 0 = .ok (.iload_n 0, 1) := by decide +kernel
theorem dX0_canReach_1 : decode cX0_canReach 1 = .ok (.iconst 1, 1) := by decide +kernel
theorem dX0_canReach_2 : decode cX0_canReach 2 = .ok (.iload_n 1, 1) := by decide +kernel
theorem dX0_canReach_3 : decode cX0_canReach 3 = .ok (.ishl, 1) := by decide +kernel
theorem dX0_canReach_4 : decode cX0_canReach 4 = .ok (.iand, 1) := by decide +kernel
theorem dX0_canReach_5 : decode cX0_canReach 5 = .ok (.ifCond .eq 7, 3) := by decide +kernel
theorem dX0_canReach_8 : decode cX0_canReach 8 = .ok (.iconst 1, 1) := by decide +kernel
theorem dX0_canReach_9 : decode cX0_canReach 9 = .ok (.goto 4, 3) := by decide +kernel
theorem dX0_canReach_12 : decode cX0_canReach 12 = .ok (.iconst 0, 1) := by decide +kernel
theorem dX0_canReach_13 : decode cX0_canReach 13 = .ok (.ireturn, 1) := by decide +kernel
theorem dX0_shift_0 : decode cX0_shift 0 = .ok (.iload_n 0, 1) := by decide +kernel
theorem dX0_shift_1 : decode cX0_shift 1 = .ok (.ifCond .ne 7, 3) := by decide +kernel
theorem dX0_shift_4 : decode cX0_shift 4 = .ok (.iconst 0, 1) := by decide +kernel
theorem dX0_shift_5 : decode cX0_shift 5 = .ok (.goto 9, 3) := by decide +kernel
theorem dX0_shift_8 : decode cX0_shift 8 = .ok (.iload_n 1, 1) := by decide +kernel
theorem dX0_shift_9 : decode cX0_shift 9 = .ok (.iload_n 0, 1) := by decide +kernel
theorem dX0_shift_10 : decode cX0_shift 10 = .ok (.isub, 1) := by decide +kernel
theorem dX0_shift_11 : decode cX0_shift 11 = .ok (.invokestatic 75, 3) := by decide +kernel
theorem dX0_shift_14 : decode cX0_shift 14 = .ok (.ireturn, 1) := by decide +kernel
theorem dX1_init_0 : decode cX1_init 0 = .ok (.aload_n 0, 1) := by decide +kernel
theorem dX1_init_1 : decode cX1_init 1 = .ok (.invokespecial 3, 3) := by decide +kernel
theorem dX1_init_4 : decode cX1_init 4 = .ok (.aload_n 0, 1) := by decide +kernel
theorem dX1_init_5 : decode cX1_init 5 = .ok (.iconst 4, 1) := by decide +kernel
theorem dX1_init_6 : decode cX1_init 6 = .ok (.newarray .int, 2) := by decide +kernel
theorem dX1_init_8 : decode cX1_init 8 = .ok (.putfield 9, 3) := by decide +kernel
theorem dX1_init_11 : decode cX1_init 11 = .ok (.aload_n 0, 1) := by decide +kernel
theorem dX1_init_12 : decode cX1_init 12 = .ok (.iconst 0, 1) := by decide +kernel
theorem dX1_init_13 : decode cX1_init 13 = .ok (.putfield 15, 3) := by decide +kernel
theorem dX1_init_16 : decode cX1_init 16 = .ok (.aload_n 0, 1) := by decide +kernel
theorem dX1_init_17 : decode cX1_init 17 = .ok (.iconst 4, 1) := by decide +kernel
theorem dX1_init_18 : decode cX1_init 18 = .ok (.putfield 19, 3) := by decide +kernel
theorem dX1_init_21 : decode cX1_init 21 = .ok (.return_, 1) := by decide +kernel
theorem dX1_build_0 : decode cX1_build 0 = .ok (.aload_n 0, 1) := by decide +kernel
theorem dX1_build_1 : decode cX1_build 1 = .ok (.iload_n 1, 1) := by decide +kernel
theorem dX1_build_2 : decode cX1_build 2 = .ok (.putfield 15, 3) := by decide +kernel
theorem dX1_build_5 : decode cX1_build 5 = .ok (.aload_n 0, 1) := by decide +kernel
theorem dX1_build_6 : decode cX1_build 6 = .ok (.iload_n 2, 1) := by decide +kernel
theorem dX1_build_7 : decode cX1_build 7 = .ok (.putfield 19, 3) := by decide +kernel
theorem dX1_build_10 : decode cX1_build 10 = .ok (.return_, 1) := by decide +kernel
theorem dX1_tuneAll_0 : decode cX1_tuneAll 0 = .ok (.aload_n 0, 1) := by decide +kernel
theorem dX1_tuneAll_1 : decode cX1_tuneAll 1 = .ok (.getfield 9, 3) := by decide +kernel
theorem dX1_tuneAll_4 : decode cX1_tuneAll 4 = .ok (.iconst 0, 1) := by decide +kernel
theorem dX1_tuneAll_5 : decode cX1_tuneAll 5 = .ok (.iload_n 1, 1) := by decide +kernel
theorem dX1_tuneAll_6 : decode cX1_tuneAll 6 = .ok (.iastore, 1) := by decide +kernel
theorem dX1_tuneAll_7 : decode cX1_tuneAll 7 = .ok (.aload_n 0, 1) := by decide +kernel
theorem dX1_tuneAll_8 : decode cX1_tuneAll 8 = .ok (.getfield 9, 3) := by decide +kernel
theorem dX1_tuneAll_11 : decode cX1_tuneAll 11 = .ok (.iconst 1, 1) := by decide +kernel
theorem dX1_tuneAll_12 : decode cX1_tuneAll 12 = .ok (.iload_n 2, 1) := by decide +kernel
theorem dX1_tuneAll_13 : decode cX1_tuneAll 13 = .ok (.iastore, 1) := by decide +kernel
theorem dX1_tuneAll_14 : decode cX1_tuneAll 14 = .ok (.aload_n 0, 1) := by decide +kernel
theorem dX1_tuneAll_15 : decode cX1_tuneAll 15 = .ok (.getfield 9, 3) := by decide +kernel
theorem dX1_tuneAll_18 : decode cX1_tuneAll 18 = .ok (.iconst 2, 1) := by decide +kernel
theorem dX1_tuneAll_19 : decode cX1_tuneAll 19 = .ok (.iload_n 3, 1) := by decide +kernel
theorem dX1_tuneAll_20 : decode cX1_tuneAll 20 = .ok (.iastore, 1) := by decide +kernel
theorem dX1_tuneAll_21 : decode cX1_tuneAll 21 = .ok (.aload_n 0, 1) := by decide +kernel
theorem dX1_tuneAll_22 : decode cX1_tuneAll 22 = .ok (.getfield 9, 3) := by decide +kernel
theorem dX1_tuneAll_25 : decode cX1_tuneAll 25 = .ok (.iconst 3, 1) := by decide +kernel
theorem dX1_tuneAll_26 : decode cX1_tuneAll 26 = .ok (.iload 4, 2) := by decide +kernel
theorem dX1_tuneAll_28 : decode cX1_tuneAll 28 = .ok (.iastore, 1) := by decide +kernel
theorem dX1_tuneAll_29 : decode cX1_tuneAll 29 = .ok (.return_, 1) := by decide +kernel
theorem dX1_highestPosition_0 : decode cX1_highestPosition 0 = .ok (.aload_n 0, 1) := by decide +kernel
theorem dX1_highestPosition_1 : decode cX1_highestPosition 1 = .ok (.getfield 19, 3) := by decide +kernel
theorem dX1_highestPosition_4 : decode cX1_highestPosition 4 = .ok (.iconst 3, 1) := by decide +kernel
theorem dX1_highestPosition_5 : decode cX1_highestPosition 5 = .ok (.isub, 1) := by decide +kernel
theorem dX1_highestPosition_6 : decode cX1_highestPosition 6 = .ok (.ireturn, 1) := by decide +kernel
theorem dX1_lowestString_0 : decode cX1_lowestString 0 = .ok (.iconst 0, 1) := by decide +kernel
theorem dX1_lowestString_1 : decode cX1_lowestString 1 = .ok (.istore_n 3, 1) := by decide +kernel
theorem dX1_lowestString_2 : decode cX1_lowestString 2 = .ok (.iload_n 3, 1) := by decide +kernel
theorem dX1_lowestString_3 : decode cX1_lowestString 3 = .ok (.iconst 4, 1) := by decide +kernel
theorem dX1_lowestString_4 : decode cX1_lowestString 4 = .ok (.if_icmp .ge 40, 3) := by decide +kernel
theorem dX1_lowestString_7 : decode cX1_lowestString 7 = .ok (.iload_n 1, 1) := by decide +kernel
theorem dX1_lowestString_8 : decode cX1_lowestString 8 = .ok (.aload_n 0, 1) := by decide +kernel
theorem dX1_lowestString_9 : decode cX1_lowestString 9 = .ok (.getfield 9, 3) := by decide +kernel
theorem dX1_lowestString_12 : decode cX1_lowestString 12 = .ok (.iload_n 3, 1) := by decide +kernel
theorem dX1_lowestString_13 : decode cX1_lowestString 13 = .ok (.iaload, 1) := by decide +kernel
theorem dX1_lowestString_14 : decode cX1_lowestString 14 = .ok (.isub, 1) := by decide +kernel
theorem dX1_lowestString_15 : decode cX1_lowestString 15 = .ok (.istore 4, 2) := by decide +kernel
theorem dX1_lowestString_17 : decode cX1_lowestString 17 = .ok (.iload 4, 2) := by decide +kernel
theorem dX1_lowestString_19 : decode cX1_lowestString 19 = .ok (.ifCond .eq 17, 3) := by decide +kernel
theorem dX1_lowestString_22 : decode cX1_lowestString 22 = .ok (.iload 4, 2) := by decide +kernel
theorem dX1_lowestString_24 : decode cX1_lowestString 24 = .ok (.iload_n 2, 1) := by decide +kernel
theorem dX1_lowestString_25 : decode cX1_lowestString 25 = .ok (.if_icmp .lt 13, 3) := by decide +kernel
theorem dX1_lowestString_28 : decode cX1_lowestString 28 = .ok (.iload 4, 2) := by decide +kernel
theorem dX1_lowestString_30 : decode cX1_lowestString 30 = .ok (.iload_n 2, 1) := by decide +kernel
theorem dX1_lowestString_31 : decode cX1_lowestString 31 = .ok (.iconst 3, 1) := by decide +kernel
theorem dX1_lowestString_32 : decode cX1_lowestString 32 = .ok (.iadd, 1) := by decide +kernel
theorem dX1_lowestString_33 : decode cX1_lowestString 33 = .ok (.if_icmp .gt 5, 3) := by decide +kernel
theorem dX1_lowestString_36 : decode cX1_lowestString 36 = .ok (.iload_n 3, 1) := by decide +kernel
theorem dX1_lowestString_37 : decode cX1_lowestString 37 = .ok (.ireturn, 1) := by decide +kernel
theorem dX1_lowestString_38 : decode cX1_lowestString 38 = .ok (.iinc 3 1, 3) := by decide +kernel
theorem dX1_lowestString_41 : decode cX1_lowestString 41 = .ok (.goto (-39), 3) := by decide +kernel
theorem dX1_lowestString_44 : decode cX1_lowestString 44 = .ok (.iconst (-1), 1) := by decide +kernel
theorem dX1_lowestString_45 : decode cX1_lowestString 45 = .ok (.ireturn, 1) := by decide +kernel
theorem dX2_init_0 : decode cX2_init 0 = .ok (.aload_n 0, 1) := by decide +kernel
theorem dX2_init_1 : decode cX2_init 1 = .ok (.invokespecial 3, 3) := by decide +kernel
theorem dX2_init_4 : decode cX2_init 4 = .ok (.aload_n 0, 1) := by decide +kernel
theorem dX2_init_5 : decode cX2_init 5 = .ok (.iconst 0, 1) := by decide +kernel
theorem dX2_init_6 : decode cX2_init 6 = .ok (.putfield 9, 3) := by decide +kernel
theorem dX2_init_9 : decode cX2_init 9 = .ok (.aload_n 0, 1) := by decide +kernel
theorem dX2_init_10 : decode cX2_init 10 = .ok (.iconst 4, 1) := by decide +kernel
theorem dX2_init_11 : decode cX2_init 11 = .ok (.putfield 15, 3) := by decide +kernel
theorem dX2_init_14 : decode cX2_init 14 = .ok (.aload_n 0, 1) := by decide +kernel
theorem dX2_init_15 : decode cX2_init 15 = .ok (.iconst 0, 1) := by decide +kernel
theorem dX2_init_16 : decode cX2_init 16 = .ok (.putfield 18, 3) := by decide +kernel
theorem dX2_init_19 : decode cX2_init 19 = .ok (.aload_n 0, 1) := by decide +kernel
theorem dX2_init_20 : decode cX2_init 20 = .ok (.iconst 0, 1) := by decide +kernel
theorem dX2_init_21 : decode cX2_init 21 = .ok (.putfield 21, 3) := by decide +kernel
theorem dX2_init_24 : decode cX2_init 24 = .ok (.return_, 1) := by decide +kernel
theorem dX2_place_0 : decode cX2_place 0 = .ok (.aload_n 0, 1) := by decide +kernel
theorem dX2_place_1 : decode cX2_place 1 = .ok (.iload_n 1, 1) := by decide +kernel
theorem dX2_place_2 : decode cX2_place 2 = .ok (.putfield 9, 3) := by decide +kernel
theorem dX2_place_5 : decode cX2_place 5 = .ok (.aload_n 0, 1) := by decide +kernel
theorem dX2_place_6 : decode cX2_place 6 = .ok (.iload_n 2, 1) := by decide +kernel
theorem dX2_place_7 : decode cX2_place 7 = .ok (.putfield 15, 3) := by decide +kernel
theorem dX2_place_10 : decode cX2_place 10 = .ok (.aload_n 0, 1) := by decide +kernel
theorem dX2_place_11 : decode cX2_place 11 = .ok (.iload_n 3, 1) := by decide +kernel
theorem dX2_place_12 : decode cX2_place 12 = .ok (.putfield 18, 3) := by decide +kernel
theorem dX2_place_15 : decode cX2_place 15 = .ok (.return_, 1) := by decide +kernel
theorem dX2_isReady_0 : decode cX2_isReady 0 = .ok (.iload_n 1, 1) := by decide +kernel
theorem dX2_isReady_1 : decode cX2_isReady 1 = .ok (.aload_n 0, 1) := by decide +kernel
theorem dX2_isReady_2 : decode cX2_isReady 2 = .ok (.getfield 18, 3) := by decide +kernel
theorem dX2_isReady_5 : decode cX2_isReady 5 = .ok (.if_icmp .lt 7, 3) := by decide +kernel
theorem dX2_isReady_8 : decode cX2_isReady 8 = .ok (.iconst 1, 1) := by decide +kernel
theorem dX2_isReady_9 : decode cX2_isReady 9 = .ok (.goto 4, 3) := by decide +kernel
theorem dX2_isReady_12 : decode cX2_isReady 12 = .ok (.iconst 0, 1) := by decide +kernel
theorem dX2_isReady_13 : decode cX2_isReady 13 = .ok (.ireturn, 1) := by decide +kernel
theorem dX3_init_0 : decode cX3_init 0 = .ok (.aload_n 0, 1) := by decide +kernel
theorem dX3_init_1 : decode cX3_init 1 = .ok (.invokespecial 3, 3) := by decide +kernel
theorem dX3_init_4 : decode cX3_init 4 = .ok (.aload_n 0, 1) := by decide +kernel
theorem dX3_init_5 : decode cX3_init 5 = .ok (.bipush 16, 2) := by decide +kernel
theorem dX3_init_7 : decode cX3_init 7 = .ok (.newarray .int, 2) := by decide +kernel
theorem dX3_init_9 : decode cX3_init 9 = .ok (.putfield 9, 3) := by decide +kernel
theorem dX3_init_12 : decode cX3_init 12 = .ok (.aload_n 0, 1) := by decide +kernel
theorem dX3_init_13 : decode cX3_init 13 = .ok (.iconst 0, 1) := by decide +kernel
theorem dX3_init_14 : decode cX3_init 14 = .ok (.putfield 15, 3) := by decide +kernel
theorem dX3_init_17 : decode cX3_init 17 = .ok (.return_, 1) := by decide +kernel
theorem dX3_isFull_0 : decode cX3_isFull 0 = .ok (.aload_n 0, 1) := by decide +kernel
theorem dX3_isFull_1 : decode cX3_isFull 1 = .ok (.getfield 15, 3) := by decide +kernel
theorem dX3_isFull_4 : decode cX3_isFull 4 = .ok (.bipush 16, 2) := by decide +kernel
theorem dX3_isFull_6 : decode cX3_isFull 6 = .ok (.if_icmp .lt 7, 3) := by decide +kernel
theorem dX3_isFull_9 : decode cX3_isFull 9 = .ok (.iconst 1, 1) := by decide +kernel
theorem dX3_isFull_10 : decode cX3_isFull 10 = .ok (.goto 4, 3) := by decide +kernel
theorem dX3_isFull_13 : decode cX3_isFull 13 = .ok (.iconst 0, 1) := by decide +kernel
theorem dX3_isFull_14 : decode cX3_isFull 14 = .ok (.ireturn, 1) := by decide +kernel
set_option maxRecDepth 20000 in
theorem ggX3_append_X3_isFull : GoodIn wsX3_append wsX3_isFull := goodIn_r _ [7, 2, 8, 9] (by decide +kernel) (by decide +kernel)
set_option maxRecDepth 20000 in
theorem gX3_append_X3_isFull : GoodIn wsX3_append (wsV RX3 19 RX3 yX3_isFull wsX3_isFull) := goodIn_app (goodIn_of _ (by decide +kernel)) ggX3_append_X3_isFull
theorem dX3_append_0 : decode cX3_append 0 = .ok (.aload_n 0, 1) := by decide +kernel
theorem dX3_append_1 : decode cX3_append 1 = .ok (.invokevirtual 19, 3) := by decide +kernel
theorem dX3_append_4 : decode cX3_append 4 = .ok (.ifCond .eq 4, 3) := by decide +kernel
theorem dX3_append_7 : decode cX3_append 7 = .ok (.return_, 1) := by decide +kernel
theorem dX3_append_8 : decode cX3_append 8 = .ok (.aload_n 0, 1) := by decide +kernel
theorem dX3_append_9 : decode cX3_append 9 = .ok (.getfield 9, 3) := by decide +kernel
theorem dX3_append_12 : decode cX3_append 12 = .ok (.aload_n 0, 1) := by decide +kernel
theorem dX3_append_13 : decode cX3_append 13 = .ok (.getfield 15, 3) := by decide +kernel
theorem dX3_append_16 : decode cX3_append 16 = .ok (.iload_n 1, 1) := by decide +kernel
theorem dX3_append_17 : decode cX3_append 17 = .ok (.iastore, 1) := by decide +kernel
theorem dX3_append_18 : decode cX3_append 18 = .ok (.aload_n 0, 1) := by decide +kernel
theorem dX3_append_19 : decode cX3_append 19 = .ok (.dup, 1) := by decide +kernel
theorem dX3_append_20 : decode cX3_append 20 = .ok (.getfield 15, 3) := by decide +kernel
theorem dX3_append_23 : decode cX3_append 23 = .ok (.iconst 1, 1) := by decide +kernel
theorem dX3_append_24 : decode cX3_append 24 = .ok (.iadd, 1) := by decide +kernel
theorem dX3_append_25 : decode cX3_append 25 = .ok (.putfield 15, 3) := by decide +kernel
theorem dX3_append_28 : decode cX3_append 28 = .ok (.return_, 1) := by decide +kernel
theorem dX3_canMove_0 : decode cX3_canMove 0 = .ok (.iconst 0, 1) := by decide +kernel
theorem dX3_canMove_1 : decode cX3_canMove 1 = .ok (.istore_n 2, 1) := by decide +kernel
theorem dX3_canMove_2 : decode cX3_canMove 2 = .ok (.iload_n 2, 1) := by decide +kernel
theorem dX3_canMove_3 : decode cX3_canMove 3 = .ok (.aload_n 0, 1) := by decide +kernel
theorem dX3_canMove_4 : decode cX3_canMove 4 = .ok (.getfield 15, 3) := by decide +kernel
theorem dX3_canMove_7 : decode cX3_canMove 7 = .ok (.if_icmp .ge 30, 3) := by decide +kernel
theorem dX3_canMove_10 : decode cX3_canMove 10 = .ok (.aload_n 0, 1) := by decide +kernel
theorem dX3_canMove_11 : decode cX3_canMove 11 = .ok (.getfield 9, 3) := by decide +kernel
theorem dX3_canMove_14 : decode cX3_canMove 14 = .ok (.iload_n 2, 1) := by decide +kernel
theorem dX3_canMove_15 : decode cX3_canMove 15 = .ok (.iaload, 1) := by decide +kernel
theorem dX3_canMove_16 : decode cX3_canMove 16 = .ok (.iload_n 1, 1) := by decide +kernel
theorem dX3_canMove_17 : decode cX3_canMove 17 = .ok (.iadd, 1) := by decide +kernel
theorem dX3_canMove_18 : decode cX3_canMove 18 = .ok (.istore_n 3, 1) := by decide +kernel
theorem dX3_canMove_19 : decode cX3_canMove 19 = .ok (.iload_n 3, 1) := by decide +kernel
theorem dX3_canMove_20 : decode cX3_canMove 20 = .ok (.ifCond .lt 9, 3) := by decide +kernel
theorem dX3_canMove_23 : decode cX3_canMove 23 = .ok (.iload_n 3, 1) := by decide +kernel
theorem dX3_canMove_24 : decode cX3_canMove 24 = .ok (.bipush 80, 2) := by decide +kernel
theorem dX3_canMove_26 : decode cX3_canMove 26 = .ok (.if_icmp .le 5, 3) := by decide +kernel
theorem dX3_canMove_29 : decode cX3_canMove 29 = .ok (.iconst 0, 1) := by decide +kernel
theorem dX3_canMove_30 : decode cX3_canMove 30 = .ok (.ireturn, 1) := by decide +kernel
theorem dX3_canMove_31 : decode cX3_canMove 31 = .ok (.iinc 2 1, 3) := by decide +kernel
theorem dX3_canMove_34 : decode cX3_canMove 34 = .ok (.goto (-32), 3) := by decide +kernel
theorem dX3_canMove_37 : decode cX3_canMove 37 = .ok (.iconst 1, 1) := by decide +kernel
theorem dX3_canMove_38 : decode cX3_canMove 38 = .ok (.ireturn, 1) := by decide +kernel
theorem dX3_move_0 : decode cX3_move 0 = .ok (.iconst 0, 1) := by decide +kernel
theorem dX3_move_1 : decode cX3_move 1 = .ok (.istore_n 2, 1) := by decide +kernel
theorem dX3_move_2 : decode cX3_move 2 = .ok (.iload_n 2, 1) := by decide +kernel
theorem dX3_move_3 : decode cX3_move 3 = .ok (.aload_n 0, 1) := by decide +kernel
theorem dX3_move_4 : decode cX3_move 4 = .ok (.getfield 15, 3) := by decide +kernel
theorem dX3_move_7 : decode cX3_move 7 = .ok (.if_icmp .ge 19, 3) := by decide +kernel
theorem dX3_move_10 : decode cX3_move 10 = .ok (.aload_n 0, 1) := by decide +kernel
theorem dX3_move_11 : decode cX3_move 11 = .ok (.getfield 9, 3) := by decide +kernel
theorem dX3_move_14 : decode cX3_move 14 = .ok (.iload_n 2, 1) := by decide +kernel
theorem dX3_move_15 : decode cX3_move 15 = .ok (.dup2, 1) := by decide +kernel
theorem dX3_move_16 : decode cX3_move 16 = .ok (.iaload, 1) := by decide +kernel
theorem dX3_move_17 : decode cX3_move 17 = .ok (.iload_n 1, 1) := by decide +kernel
theorem dX3_move_18 : decode cX3_move 18 = .ok (.iadd, 1) := by decide +kernel
theorem dX3_move_19 : decode cX3_move 19 = .ok (.iastore, 1) := by decide +kernel
theorem dX3_move_20 : decode cX3_move 20 = .ok (.iinc 2 1, 3) := by decide +kernel
theorem dX3_move_23 : decode cX3_move 23 = .ok (.goto (-21), 3) := by decide +kernel
theorem dX3_move_26 : decode cX3_move 26 = .ok (.return_, 1) := by decide +kernel
theorem dX4_init_0 : decode cX4_init 0 = .ok (.aload_n 0, 1) := by decide +kernel
theorem dX4_init_1 : decode cX4_init 1 = .ok (.invokespecial 3, 3) := by decide +kernel
theorem dX4_init_4 : decode cX4_init 4 = .ok (.aload_n 0, 1) := by decide +kernel
theorem dX4_init_5 : decode cX4_init 5 = .ok (.iconst 2, 1) := by decide +kernel
theorem dX4_init_6 : decode cX4_init 6 = .ok (.putfield 9, 3) := by decide +kernel
theorem dX4_init_9 : decode cX4_init 9 = .ok (.aload_n 0, 1) := by decide +kernel
theorem dX4_init_10 : decode cX4_init 10 = .ok (.iconst 0, 1) := by decide +kernel
theorem dX4_init_11 : decode cX4_init 11 = .ok (.putfield 15, 3) := by decide +kernel
theorem dX4_init_14 : decode cX4_init 14 = .ok (.return_, 1) := by decide +kernel
theorem dX4_knows_0 : decode cX4_knows 0 = .ok (.aload_n 0, 1) := by decide +kernel
theorem dX4_knows_1 : decode cX4_knows 1 = .ok (.getfield 15, 3) := by decide +kernel
theorem dX4_knows_4 : decode cX4_knows 4 = .ok (.iconst 1, 1) := by decide +kernel
theorem dX4_knows_5 : decode cX4_knows 5 = .ok (.iload_n 1, 1) := by decide +kernel
theorem dX4_knows_6 : decode cX4_knows 6 = .ok (.ishl, 1) := by decide +kernel
theorem dX4_knows_7 : decode cX4_knows 7 = .ok (.iand, 1) := by decide +kernel
theorem dX4_knows_8 : decode cX4_knows 8 = .ok (.ifCond .eq 7, 3) := by decide +kernel
theorem dX4_knows_11 : decode cX4_knows 11 = .ok (.iconst 1, 1) := by decide +kernel
theorem dX4_knows_12 : decode cX4_knows 12 = .ok (.goto 4, 3) := by decide +kernel
theorem dX4_knows_15 : decode cX4_knows 15 = .ok (.iconst 0, 1) := by decide +kernel
theorem dX4_knows_16 : decode cX4_knows 16 = .ok (.ireturn, 1) := by decide +kernel
theorem dX4_takeIn_0 : decode cX4_takeIn 0 = .ok (.aload_n 0, 1) := by decide +kernel
theorem dX4_takeIn_1 : decode cX4_takeIn 1 = .ok (.dup, 1) := by decide +kernel
theorem dX4_takeIn_2 : decode cX4_takeIn 2 = .ok (.getfield 15, 3) := by decide +kernel
theorem dX4_takeIn_5 : decode cX4_takeIn 5 = .ok (.iconst 1, 1) := by decide +kernel
theorem dX4_takeIn_6 : decode cX4_takeIn 6 = .ok (.iload_n 1, 1) := by decide +kernel
theorem dX4_takeIn_7 : decode cX4_takeIn 7 = .ok (.ishl, 1) := by decide +kernel
theorem dX4_takeIn_8 : decode cX4_takeIn 8 = .ok (.ior, 1) := by decide +kernel
theorem dX4_takeIn_9 : decode cX4_takeIn 9 = .ok (.putfield 15, 3) := by decide +kernel
theorem dX4_takeIn_12 : decode cX4_takeIn 12 = .ok (.iload_n 2, 1) := by decide +kernel
theorem dX4_takeIn_13 : decode cX4_takeIn 13 = .ok (.aload_n 0, 1) := by decide +kernel
theorem dX4_takeIn_14 : decode cX4_takeIn 14 = .ok (.getfield 9, 3) := by decide +kernel
theorem dX4_takeIn_17 : decode cX4_takeIn 17 = .ok (.if_icmp .ne 13, 3) := by decide +kernel
theorem dX4_takeIn_20 : decode cX4_takeIn 20 = .ok (.aload_n 0, 1) := by decide +kernel
theorem dX4_takeIn_21 : decode cX4_takeIn 21 = .ok (.dup, 1) := by decide +kernel
theorem dX4_takeIn_22 : decode cX4_takeIn 22 = .ok (.getfield 9, 3) := by decide +kernel
theorem dX4_takeIn_25 : decode cX4_takeIn 25 = .ok (.iconst 1, 1) := by decide +kernel
theorem dX4_takeIn_26 : decode cX4_takeIn 26 = .ok (.iadd, 1) := by decide +kernel
theorem dX4_takeIn_27 : decode cX4_takeIn 27 = .ok (.putfield 9, 3) := by decide +kernel
theorem dX4_takeIn_30 : decode cX4_takeIn 30 = .ok (.return_, 1) := by decide +kernel
set_option maxRecDepth 20000 in
theorem ggX5_init_X3_init : GoodIn wsX5_init wsX3_init := goodIn_r _ [31, 32, 2, 3, 20, 33, 34, 72, 73] (by decide +kernel) (by decide +kernel)
set_option maxRecDepth 20000 in
theorem gX5_init_X3_init_n15 : GoodIn wsX5_init (wsX3_init) := ggX5_init_X3_init
set_option maxRecDepth 20000 in
theorem ggX5_init_X1_init : GoodIn wsX5_init wsX1_init := goodIn_r _ [36, 37, 2, 3, 20, 38, 39, 40, 74, 75, 76] (by decide +kernel) (by decide +kernel)
set_option maxRecDepth 20000 in
theorem gX5_init_X1_init_n22 : GoodIn wsX5_init (wsX1_init) := ggX5_init_X1_init
set_option maxRecDepth 20000 in
theorem ggX5_init_X4_init : GoodIn wsX5_init wsX4_init := goodIn_r _ [42, 43, 2, 3, 44, 45, 77, 78] (by decide +kernel) (by decide +kernel)
set_option maxRecDepth 20000 in
theorem gX5_init_X4_init_n29 : GoodIn wsX5_init (wsX4_init) := ggX5_init_X4_init
set_option maxRecDepth 20000 in
theorem ggX5_init_X2_init : GoodIn wsX5_init wsX2_init := goodIn_r _ [47, 48, 2, 3, 49, 50, 51, 52, 79, 80, 81, 82] (by decide +kernel) (by decide +kernel)
set_option maxRecDepth 20000 in
theorem gX5_init_X2_init_n36 : GoodIn wsX5_init (wsX2_init) := ggX5_init_X2_init
set_option maxRecDepth 20000 in
theorem ggX5_init_X0_init : GoodIn wsX5_init wsX0_init := goodIn_r _ [54, 55, 2, 3, 20, 56, 57, 58, 59, 60, 61, 83, 84, 85, 86, 87] (by decide +kernel) (by decide +kernel)
set_option maxRecDepth 20000 in
theorem gX5_init_X0_init_n43 : GoodIn wsX5_init (wsX0_init) := ggX5_init_X0_init
theorem dX5_init_0 : decode cX5_init 0 = .ok (.aload_n 0, 1) := by decide +kernel
theorem dX5_init_1 : decode cX5_init 1 = .ok (.invokespecial 3, 3) := by decide +kernel
theorem dX5_init_4 : decode cX5_init 4 = .ok (.aload_n 0, 1) := by decide +kernel
theorem dX5_init_5 : decode cX5_init 5 = .ok (.bipush 8, 2) := by decide +kernel
theorem dX5_init_7 : decode cX5_init 7 = .ok (.anewarray 9, 3) := by decide +kernel
theorem dX5_init_10 : decode cX5_init 10 = .ok (.putfield 11, 3) := by decide +kernel
theorem dX5_init_13 : decode cX5_init 13 = .ok (.iconst 0, 1) := by decide +kernel
theorem dX5_init_14 : decode cX5_init 14 = .ok (.istore_n 1, 1) := by decide +kernel
theorem dX5_init_15 : decode cX5_init 15 = .ok (.iload_n 1, 1) := by decide +kernel
theorem dX5_init_16 : decode cX5_init 16 = .ok (.bipush 8, 2) := by decide +kernel
theorem dX5_init_18 : decode cX5_init 18 = .ok (.if_icmp .ge 22, 3) := by decide +kernel
theorem dX5_init_21 : decode cX5_init 21 = .ok (.aload_n 0, 1) := by decide +kernel
theorem dX5_init_22 : decode cX5_init 22 = .ok (.getfield 11, 3) := by decide +kernel
theorem dX5_init_25 : decode cX5_init 25 = .ok (.iload_n 1, 1) := by decide +kernel
theorem dX5_init_26 : decode cX5_init 26 = .ok (.new 9, 3) := by decide +kernel
theorem dX5_init_29 : decode cX5_init 29 = .ok (.dup, 1) := by decide +kernel
theorem dX5_init_30 : decode cX5_init 30 = .ok (.invokespecial 15, 3) := by decide +kernel
theorem dX5_init_33 : decode cX5_init 33 = .ok (.aastore, 1) := by decide +kernel
theorem dX5_init_34 : decode cX5_init 34 = .ok (.iinc 1 1, 3) := by decide +kernel
theorem dX5_init_37 : decode cX5_init 37 = .ok (.goto (-22), 3) := by decide +kernel
theorem dX5_init_40 : decode cX5_init 40 = .ok (.aload_n 0, 1) := by decide +kernel
theorem dX5_init_41 : decode cX5_init 41 = .ok (.bipush 8, 2) := by decide +kernel
theorem dX5_init_43 : decode cX5_init 43 = .ok (.anewarray 16, 3) := by decide +kernel
theorem dX5_init_46 : decode cX5_init 46 = .ok (.putfield 18, 3) := by decide +kernel
theorem dX5_init_49 : decode cX5_init 49 = .ok (.iconst 0, 1) := by decide +kernel
theorem dX5_init_50 : decode cX5_init 50 = .ok (.istore_n 1, 1) := by decide +kernel
theorem dX5_init_51 : decode cX5_init 51 = .ok (.iload_n 1, 1) := by decide +kernel
theorem dX5_init_52 : decode cX5_init 52 = .ok (.bipush 8, 2) := by decide +kernel
theorem dX5_init_54 : decode cX5_init 54 = .ok (.if_icmp .ge 22, 3) := by decide +kernel
theorem dX5_init_57 : decode cX5_init 57 = .ok (.aload_n 0, 1) := by decide +kernel
theorem dX5_init_58 : decode cX5_init 58 = .ok (.getfield 18, 3) := by decide +kernel
theorem dX5_init_61 : decode cX5_init 61 = .ok (.iload_n 1, 1) := by decide +kernel
theorem dX5_init_62 : decode cX5_init 62 = .ok (.new 16, 3) := by decide +kernel
theorem dX5_init_65 : decode cX5_init 65 = .ok (.dup, 1) := by decide +kernel
theorem dX5_init_66 : decode cX5_init 66 = .ok (.invokespecial 22, 3) := by decide +kernel
theorem dX5_init_69 : decode cX5_init 69 = .ok (.aastore, 1) := by decide +kernel
theorem dX5_init_70 : decode cX5_init 70 = .ok (.iinc 1 1, 3) := by decide +kernel
theorem dX5_init_73 : decode cX5_init 73 = .ok (.goto (-22), 3) := by decide +kernel
theorem dX5_init_76 : decode cX5_init 76 = .ok (.aload_n 0, 1) := by decide +kernel
theorem dX5_init_77 : decode cX5_init 77 = .ok (.iconst 5, 1) := by decide +kernel
theorem dX5_init_78 : decode cX5_init 78 = .ok (.anewarray 23, 3) := by decide +kernel
theorem dX5_init_81 : decode cX5_init 81 = .ok (.putfield 25, 3) := by decide +kernel
theorem dX5_init_84 : decode cX5_init 84 = .ok (.iconst 0, 1) := by decide +kernel
theorem dX5_init_85 : decode cX5_init 85 = .ok (.istore_n 1, 1) := by decide +kernel
theorem dX5_init_86 : decode cX5_init 86 = .ok (.iload_n 1, 1) := by decide +kernel
theorem dX5_init_87 : decode cX5_init 87 = .ok (.iconst 5, 1) := by decide +kernel
theorem dX5_init_88 : decode cX5_init 88 = .ok (.if_icmp .ge 22, 3) := by decide +kernel
theorem dX5_init_91 : decode cX5_init 91 = .ok (.aload_n 0, 1) := by decide +kernel
theorem dX5_init_92 : decode cX5_init 92 = .ok (.getfield 25, 3) := by decide +kernel
theorem dX5_init_95 : decode cX5_init 95 = .ok (.iload_n 1, 1) := by decide +kernel
theorem dX5_init_96 : decode cX5_init 96 = .ok (.new 23, 3) := by decide +kernel
theorem dX5_init_99 : decode cX5_init 99 = .ok (.dup, 1) := by decide +kernel
theorem dX5_init_100 : decode cX5_init 100 = .ok (.invokespecial 29, 3) := by decide +kernel
theorem dX5_init_103 : decode cX5_init 103 = .ok (.aastore, 1) := by decide +kernel
theorem dX5_init_104 : decode cX5_init 104 = .ok (.iinc 1 1, 3) := by decide +kernel
theorem dX5_init_107 : decode cX5_init 107 = .ok (.goto (-21), 3) := by decide +kernel
theorem dX5_init_110 : decode cX5_init 110 = .ok (.aload_n 0, 1) := by decide +kernel
theorem dX5_init_111 : decode cX5_init 111 = .ok (.bipush 20, 2) := by decide +kernel
theorem dX5_init_113 : decode cX5_init 113 = .ok (.anewarray 30, 3) := by decide +kernel
theorem dX5_init_116 : decode cX5_init 116 = .ok (.putfield 32, 3) := by decide +kernel
theorem dX5_init_119 : decode cX5_init 119 = .ok (.iconst 0, 1) := by decide +kernel
theorem dX5_init_120 : decode cX5_init 120 = .ok (.istore_n 1, 1) := by decide +kernel
theorem dX5_init_121 : decode cX5_init 121 = .ok (.iload_n 1, 1) := by decide +kernel
theorem dX5_init_122 : decode cX5_init 122 = .ok (.bipush 20, 2) := by decide +kernel
theorem dX5_init_124 : decode cX5_init 124 = .ok (.if_icmp .ge 22, 3) := by decide +kernel
theorem dX5_init_127 : decode cX5_init 127 = .ok (.aload_n 0, 1) := by decide +kernel
theorem dX5_init_128 : decode cX5_init 128 = .ok (.getfield 32, 3) := by decide +kernel
theorem dX5_init_131 : decode cX5_init 131 = .ok (.iload_n 1, 1) := by decide +kernel
theorem dX5_init_132 : decode cX5_init 132 = .ok (.new 30, 3) := by decide +kernel
theorem dX5_init_135 : decode cX5_init 135 = .ok (.dup, 1) := by decide +kernel
theorem dX5_init_136 : decode cX5_init 136 = .ok (.invokespecial 36, 3) := by decide +kernel
theorem dX5_init_139 : decode cX5_init 139 = .ok (.aastore, 1) := by decide +kernel
theorem dX5_init_140 : decode cX5_init 140 = .ok (.iinc 1 1, 3) := by decide +kernel
theorem dX5_init_143 : decode cX5_init 143 = .ok (.goto (-22), 3) := by decide +kernel
theorem dX5_init_146 : decode cX5_init 146 = .ok (.aload_n 0, 1) := by decide +kernel
theorem dX5_init_147 : decode cX5_init 147 = .ok (.iconst 4, 1) := by decide +kernel
theorem dX5_init_148 : decode cX5_init 148 = .ok (.newarray .int, 2) := by decide +kernel
theorem dX5_init_150 : decode cX5_init 150 = .ok (.putfield 37, 3) := by decide +kernel
theorem dX5_init_153 : decode cX5_init 153 = .ok (.aload_n 0, 1) := by decide +kernel
theorem dX5_init_154 : decode cX5_init 154 = .ok (.new 41, 3) := by decide +kernel
theorem dX5_init_157 : decode cX5_init 157 = .ok (.dup, 1) := by decide +kernel
theorem dX5_init_158 : decode cX5_init 158 = .ok (.invokespecial 43, 3) := by decide +kernel
theorem dX5_init_161 : decode cX5_init 161 = .ok (.putfield 44, 3) := by decide +kernel
theorem dX5_init_164 : decode cX5_init 164 = .ok (.aload_n 0, 1) := by decide +kernel
theorem dX5_init_165 : decode cX5_init 165 = .ok (.iconst 0, 1) := by decide +kernel
theorem dX5_init_166 : decode cX5_init 166 = .ok (.putfield 48, 3) := by decide +kernel
theorem dX5_init_169 : decode cX5_init 169 = .ok (.aload_n 0, 1) := by decide +kernel
theorem dX5_init_170 : decode cX5_init 170 = .ok (.iconst 0, 1) := by decide +kernel
theorem dX5_init_171 : decode cX5_init 171 = .ok (.putfield 52, 3) := by decide +kernel
theorem dX5_init_174 : decode cX5_init 174 = .ok (.aload_n 0, 1) := by decide +kernel
theorem dX5_init_175 : decode cX5_init 175 = .ok (.iconst 0, 1) := by decide +kernel
theorem dX5_init_176 : decode cX5_init 176 = .ok (.putfield 55, 3) := by decide +kernel
theorem dX5_init_179 : decode cX5_init 179 = .ok (.aload_n 0, 1) := by decide +kernel
theorem dX5_init_180 : decode cX5_init 180 = .ok (.iconst 0, 1) := by decide +kernel
theorem dX5_init_181 : decode cX5_init 181 = .ok (.putfield 58, 3) := by decide +kernel
theorem dX5_init_184 : decode cX5_init 184 = .ok (.return_, 1) := by decide +kernel
theorem dX5_begin_0 : decode cX5_begin 0 = .ok (.aload_n 0, 1) := by decide +kernel
theorem dX5_begin_1 : decode cX5_begin 1 = .ok (.getfield 48, 3) := by decide +kernel
theorem dX5_begin_4 : decode cX5_begin 4 = .ok (.bipush 8, 2) := by decide +kernel
theorem dX5_begin_6 : decode cX5_begin 6 = .ok (.if_icmp .lt 13, 3) := by decide +kernel
theorem dX5_begin_9 : decode cX5_begin 9 = .ok (.new 61, 3) := by decide +kernel
theorem dX5_begin_12 : decode cX5_begin 12 = .ok (.dup, 1) := by decide +kernel
theorem dX5_begin_13 : decode cX5_begin 13 = .ok (.ldc 63, 2) := by decide +kernel
theorem dX5_begin_15 : decode cX5_begin 15 = .ok (.invokespecial 65, 3) := by decide +kernel
theorem dX5_begin_18 : decode cX5_begin 18 = .ok (.athrow, 1) := by decide +kernel
theorem dX5_begin_19 : decode cX5_begin 19 = .ok (.aload_n 0, 1) := by decide +kernel
theorem dX5_begin_20 : decode cX5_begin 20 = .ok (.getfield 48, 3) := by decide +kernel
theorem dX5_begin_23 : decode cX5_begin 23 = .ok (.istore_n 1, 1) := by decide +kernel
theorem dX5_begin_24 : decode cX5_begin 24 = .ok (.aload_n 0, 1) := by decide +kernel
theorem dX5_begin_25 : decode cX5_begin 25 = .ok (.dup, 1) := by decide +kernel
theorem dX5_begin_26 : decode cX5_begin 26 = .ok (.getfield 48, 3) := by decide +kernel
theorem dX5_begin_29 : decode cX5_begin 29 = .ok (.iconst 1, 1) := by decide +kernel
theorem dX5_begin_30 : decode cX5_begin 30 = .ok (.iadd, 1) := by decide +kernel
theorem dX5_begin_31 : decode cX5_begin 31 = .ok (.putfield 48, 3) := by decide +kernel
theorem dX5_begin_34 : decode cX5_begin 34 = .ok (.iload_n 1, 1) := by decide +kernel
theorem dX5_begin_35 : decode cX5_begin 35 = .ok (.ireturn, 1) := by decide +kernel
set_option maxRecDepth 20000 in
theorem ggX5_addNote_X5_needPiece : GoodIn wsX5_addNote wsX5_needPiece := goodIn_ca (goodIn_r _ [9, 10, 11, 12, 30, 31, 32, 33, 34, 35, 36, 37, 38, 39] (by decide +kernel) (by decide +kernel)) (goodIn_sub (fun _ h => List.mem_cons_of_mem _ (List.mem_append_left _ (List.mem_append_right _ h))) (by decide +kernel))
set_option maxRecDepth 20000 in
theorem gX5_addNote_X5_needPiece : GoodIn wsX5_addNote (wsV RX5 68 RX5 yX5_needPiece wsX5_needPiece) := goodIn_app (goodIn_of _ (by decide +kernel)) ggX5_addNote_X5_needPiece
set_option maxRecDepth 20000 in
theorem ggX5_addNote_X5_needRange : GoodIn wsX5_addNote wsX5_needRange := goodIn_ca (goodIn_r _ [15, 16, 17] (by decide +kernel) (by decide +kernel)) (goodIn_sub (fun _ h => List.mem_cons_of_mem _ (List.mem_append_right _ h)) (by decide +kernel))
set_option maxRecDepth 20000 in
theorem gX5_addNote_X5_needRange : GoodIn wsX5_addNote (va_wsS RX5 72 yX5_needRange wsX5_needRange) := goodIn_app (goodIn_of _ (by decide +kernel)) ggX5_addNote_X5_needRange
set_option maxRecDepth 20000 in
theorem ggX5_addNote_X3_isFull : GoodIn wsX5_addNote wsX3_isFull := goodIn_r _ [22, 23, 40, 41] (by decide +kernel) (by decide +kernel)
set_option maxRecDepth 20000 in
theorem gX5_addNote_X3_isFull : GoodIn wsX5_addNote (wsV RX5 76 RX3 yX3_isFull wsX3_isFull) := goodIn_app (goodIn_of _ (by decide +kernel)) ggX5_addNote_X3_isFull
set_option maxRecDepth 20000 in
theorem ggX5_addNote_X3_append : GoodIn wsX5_addNote wsX3_append := goodIn_r _ [27, 28, 23, 29, 19, 20, 21, 22, 40, 41] (by decide +kernel) (by decide +kernel)
set_option maxRecDepth 20000 in
theorem gX5_addNote_X3_append : GoodIn wsX5_addNote (wsV RX5 82 RX3 yX3_append wsX3_append) := goodIn_app (goodIn_of _ (by decide +kernel)) ggX5_addNote_X3_append
theorem dX5_addNote_0 : decode cX5_addNote 0 = .ok (.aload_n 0, 1) := by decide +kernel
theorem dX5_addNote_1 : decode cX5_addNote 1 = .ok (.iload_n 1, 1) := by decide +kernel
theorem dX5_addNote_2 : decode cX5_addNote 2 = .ok (.invokevirtual 68, 3) := by decide +kernel
theorem dX5_addNote_5 : decode cX5_addNote 5 = .ok (.iload_n 2, 1) := by decide +kernel
theorem dX5_addNote_6 : decode cX5_addNote 6 = .ok (.iconst 0, 1) := by decide +kernel
theorem dX5_addNote_7 : decode cX5_addNote 7 = .ok (.bipush 80, 2) := by decide +kernel
theorem dX5_addNote_9 : decode cX5_addNote 9 = .ok (.invokestatic 72, 3) := by decide +kernel
theorem dX5_addNote_12 : decode cX5_addNote 12 = .ok (.aload_n 0, 1) := by decide +kernel
theorem dX5_addNote_13 : decode cX5_addNote 13 = .ok (.getfield 11, 3) := by decide +kernel
theorem dX5_addNote_16 : decode cX5_addNote 16 = .ok (.iload_n 1, 1) := by decide +kernel
theorem dX5_addNote_17 : decode cX5_addNote 17 = .ok (.aaload, 1) := by decide +kernel
theorem dX5_addNote_18 : decode cX5_addNote 18 = .ok (.astore_n 3, 1) := by decide +kernel
theorem dX5_addNote_19 : decode cX5_addNote 19 = .ok (.aload_n 3, 1) := by decide +kernel
theorem dX5_addNote_20 : decode cX5_addNote 20 = .ok (.invokevirtual 76, 3) := by decide +kernel
theorem dX5_addNote_23 : decode cX5_addNote 23 = .ok (.ifCond .eq 13, 3) := by decide +kernel
theorem dX5_addNote_26 : decode cX5_addNote 26 = .ok (.new 61, 3) := by decide +kernel
theorem dX5_addNote_29 : decode cX5_addNote 29 = .ok (.dup, 1) := by decide +kernel
theorem dX5_addNote_30 : decode cX5_addNote 30 = .ok (.ldc 80, 2) := by decide +kernel
theorem dX5_addNote_32 : decode cX5_addNote 32 = .ok (.invokespecial 65, 3) := by decide +kernel
theorem dX5_addNote_35 : decode cX5_addNote 35 = .ok (.athrow, 1) := by decide +kernel
theorem dX5_addNote_36 : decode cX5_addNote 36 = .ok (.aload_n 3, 1) := by decide +kernel
theorem dX5_addNote_37 : decode cX5_addNote 37 = .ok (.iload_n 2, 1) := by decide +kernel
theorem dX5_addNote_38 : decode cX5_addNote 38 = .ok (.invokevirtual 82, 3) := by decide +kernel
theorem dX5_addNote_41 : decode cX5_addNote 41 = .ok (.aload_n 3, 1) := by decide +kernel
theorem dX5_addNote_42 : decode cX5_addNote 42 = .ok (.getfield 85, 3) := by decide +kernel
theorem dX5_addNote_45 : decode cX5_addNote 45 = .ok (.ireturn, 1) := by decide +kernel
set_option maxRecDepth 20000 in
theorem ggX5_transpose_X5_needPiece : GoodIn wsX5_transpose wsX5_needPiece := goodIn_ca (goodIn_r _ [8, 9, 10, 11, 28, 29, 30, 31, 32, 33, 34, 35, 36, 37] (by decide +kernel) (by decide +kernel)) (goodIn_sub (fun _ h => List.mem_cons_of_mem _ (List.mem_append_left _ (List.mem_append_right _ h))) (by decide +kernel))
set_option maxRecDepth 20000 in
theorem gX5_transpose_X5_needPiece : GoodIn wsX5_transpose (wsV RX5 68 RX5 yX5_needPiece wsX5_needPiece) := goodIn_app (goodIn_of _ (by decide +kernel)) ggX5_transpose_X5_needPiece
set_option maxRecDepth 20000 in
theorem ggX5_transpose_X5_needRange : GoodIn wsX5_transpose wsX5_needRange := goodIn_ca (goodIn_r _ [14, 15, 16] (by decide +kernel) (by decide +kernel)) (goodIn_sub (fun _ h => List.mem_cons_of_mem _ (List.mem_append_right _ h)) (by decide +kernel))
set_option maxRecDepth 20000 in
theorem gX5_transpose_X5_needRange : GoodIn wsX5_transpose (va_wsS RX5 72 yX5_needRange wsX5_needRange) := goodIn_app (goodIn_of _ (by decide +kernel)) ggX5_transpose_X5_needRange
set_option maxRecDepth 20000 in
theorem ggX5_transpose_X3_canMove : GoodIn wsX5_transpose wsX3_canMove := goodIn_r _ [21, 22, 23, 38, 39] (by decide +kernel) (by decide +kernel)
set_option maxRecDepth 20000 in
theorem gX5_transpose_X3_canMove : GoodIn wsX5_transpose (wsV RX5 88 RX3 yX3_canMove wsX3_canMove) := goodIn_app (goodIn_of _ (by decide +kernel)) ggX5_transpose_X3_canMove
set_option maxRecDepth 20000 in
theorem ggX5_transpose_X3_move : GoodIn wsX5_transpose wsX3_move := goodIn_r _ [27, 22, 23, 38, 39] (by decide +kernel) (by decide +kernel)
set_option maxRecDepth 20000 in
theorem gX5_transpose_X3_move : GoodIn wsX5_transpose (wsV RX5 94 RX3 yX3_move wsX3_move) := goodIn_app (goodIn_of _ (by decide +kernel)) ggX5_transpose_X3_move
theorem dX5_transpose_0 : decode cX5_transpose 0 = .ok (.aload_n 0, 1) := by decide +kernel
theorem dX5_transpose_1 : decode cX5_transpose 1 = .ok (.iload_n 1, 1) := by decide +kernel
theorem dX5_transpose_2 : decode cX5_transpose 2 = .ok (.invokevirtual 68, 3) := by decide +kernel
theorem dX5_transpose_5 : decode cX5_transpose 5 = .ok (.iload_n 2, 1) := by decide +kernel
theorem dX5_transpose_6 : decode cX5_transpose 6 = .ok (.bipush (-40), 2) := by decide +kernel
theorem dX5_transpose_8 : decode cX5_transpose 8 = .ok (.bipush 40, 2) := by decide +kernel
theorem dX5_transpose_10 : decode cX5_transpose 10 = .ok (.invokestatic 72, 3) := by decide +kernel
theorem dX5_transpose_13 : decode cX5_transpose 13 = .ok (.aload_n 0, 1) := by decide +kernel
theorem dX5_transpose_14 : decode cX5_transpose 14 = .ok (.getfield 11, 3) := by decide +kernel
theorem dX5_transpose_17 : decode cX5_transpose 17 = .ok (.iload_n 1, 1) := by decide +kernel
theorem dX5_transpose_18 : decode cX5_transpose 18 = .ok (.aaload, 1) := by decide +kernel
theorem dX5_transpose_19 : decode cX5_transpose 19 = .ok (.astore_n 3, 1) := by decide +kernel
theorem dX5_transpose_20 : decode cX5_transpose 20 = .ok (.aload_n 3, 1) := by decide +kernel
theorem dX5_transpose_21 : decode cX5_transpose 21 = .ok (.iload_n 2, 1) := by decide +kernel
theorem dX5_transpose_22 : decode cX5_transpose 22 = .ok (.invokevirtual 88, 3) := by decide +kernel
theorem dX5_transpose_25 : decode cX5_transpose 25 = .ok (.ifCond .ne 13, 3) := by decide +kernel
theorem dX5_transpose_28 : decode cX5_transpose 28 = .ok (.new 61, 3) := by decide +kernel
theorem dX5_transpose_31 : decode cX5_transpose 31 = .ok (.dup, 1) := by decide +kernel
theorem dX5_transpose_32 : decode cX5_transpose 32 = .ok (.ldc 92, 2) := by decide +kernel
theorem dX5_transpose_34 : decode cX5_transpose 34 = .ok (.invokespecial 65, 3) := by decide +kernel
theorem dX5_transpose_37 : decode cX5_transpose 37 = .ok (.athrow, 1) := by decide +kernel
theorem dX5_transpose_38 : decode cX5_transpose 38 = .ok (.aload_n 3, 1) := by decide +kernel
theorem dX5_transpose_39 : decode cX5_transpose 39 = .ok (.iload_n 2, 1) := by decide +kernel
theorem dX5_transpose_40 : decode cX5_transpose 40 = .ok (.invokevirtual 94, 3) := by decide +kernel
theorem dX5_transpose_43 : decode cX5_transpose 43 = .ok (.return_, 1) := by decide +kernel
set_option maxRecDepth 20000 in
theorem ggX5_pitch_X5_needNote : GoodIn wsX5_pitch wsX5_needNote := goodIn_ca (goodIn_r _ [7, 8, 9, 1, 10, 11, 12, 13, 6, 14, 15, 16, 17, 18, 19, 20, 21, 22, 23, 24, 25, 26, 27] (by decide +kernel) (by decide +kernel)) (goodIn_sub (fun _ h => List.mem_cons_of_mem _ (List.mem_append_right _ h)) (by decide +kernel))
set_option maxRecDepth 20000 in
theorem gX5_pitch_X5_needNote : GoodIn wsX5_pitch (wsV RX5 97 RX5 yX5_needNote wsX5_needNote) := goodIn_app (goodIn_of _ (by decide +kernel)) ggX5_pitch_X5_needNote
theorem dX5_pitch_0 : decode cX5_pitch 0 = .ok (.aload_n 0, 1) := by decide +kernel
theorem dX5_pitch_1 : decode cX5_pitch 1 = .ok (.iload_n 1, 1) := by decide +kernel
theorem dX5_pitch_2 : decode cX5_pitch 2 = .ok (.iload_n 2, 1) := by decide +kernel
theorem dX5_pitch_3 : decode cX5_pitch 3 = .ok (.invokevirtual 97, 3) := by decide +kernel
theorem dX5_pitch_6 : decode cX5_pitch 6 = .ok (.aload_n 0, 1) := by decide +kernel
theorem dX5_pitch_7 : decode cX5_pitch 7 = .ok (.getfield 11, 3) := by decide +kernel
theorem dX5_pitch_10 : decode cX5_pitch 10 = .ok (.iload_n 1, 1) := by decide +kernel
theorem dX5_pitch_11 : decode cX5_pitch 11 = .ok (.aaload, 1) := by decide +kernel
theorem dX5_pitch_12 : decode cX5_pitch 12 = .ok (.getfield 101, 3) := by decide +kernel
theorem dX5_pitch_15 : decode cX5_pitch 15 = .ok (.iload_n 2, 1) := by decide +kernel
theorem dX5_pitch_16 : decode cX5_pitch 16 = .ok (.iaload, 1) := by decide +kernel
theorem dX5_pitch_17 : decode cX5_pitch 17 = .ok (.ireturn, 1) := by decide +kernel
set_option maxRecDepth 20000 in
theorem ggX5_tune_X5_needInstrument : GoodIn wsX5_tune wsX5_needInstrument := goodIn_ca (goodIn_r _ [7, 8, 9, 10, 16, 17, 18, 19, 20, 21, 22, 23, 24, 25] (by decide +kernel) (by decide +kernel)) (goodIn_sub (fun _ h => List.mem_cons_of_mem _ (List.mem_append_left _ (List.mem_append_right _ h))) (by decide +kernel))
set_option maxRecDepth 20000 in
theorem gX5_tune_X5_needInstrument : GoodIn wsX5_tune (wsV RX5 104 RX5 yX5_needInstrument wsX5_needInstrument) := goodIn_app (goodIn_of _ (by decide +kernel)) ggX5_tune_X5_needInstrument
set_option maxRecDepth 20000 in
theorem ggX5_tune_X5_needRange : GoodIn wsX5_tune wsX5_needRange := goodIn_ca (goodIn_r _ [13, 14, 15] (by decide +kernel) (by decide +kernel)) (goodIn_sub (fun _ h => List.mem_cons_of_mem _ (List.mem_append_right _ h)) (by decide +kernel))
set_option maxRecDepth 20000 in
theorem gX5_tune_X5_needRange : GoodIn wsX5_tune (va_wsS RX5 72 yX5_needRange wsX5_needRange) := goodIn_app (goodIn_of _ (by decide +kernel)) ggX5_tune_X5_needRange
theorem dX5_tune_0 : decode cX5_tune 0 = .ok (.aload_n 0, 1) := by decide +kernel
theorem dX5_tune_1 : decode cX5_tune 1 = .ok (.iload_n 1, 1) := by decide +kernel
theorem dX5_tune_2 : decode cX5_tune 2 = .ok (.invokevirtual 104, 3) := by decide +kernel
theorem dX5_tune_5 : decode cX5_tune 5 = .ok (.iload_n 2, 1) := by decide +kernel
theorem dX5_tune_6 : decode cX5_tune 6 = .ok (.iconst 0, 1) := by decide +kernel
theorem dX5_tune_7 : decode cX5_tune 7 = .ok (.iconst 3, 1) := by decide +kernel
theorem dX5_tune_8 : decode cX5_tune 8 = .ok (.invokestatic 72, 3) := by decide +kernel
theorem dX5_tune_11 : decode cX5_tune 11 = .ok (.iload_n 3, 1) := by decide +kernel
theorem dX5_tune_12 : decode cX5_tune 12 = .ok (.iconst 0, 1) := by decide +kernel
theorem dX5_tune_13 : decode cX5_tune 13 = .ok (.bipush 60, 2) := by decide +kernel
theorem dX5_tune_15 : decode cX5_tune 15 = .ok (.invokestatic 72, 3) := by decide +kernel
theorem dX5_tune_18 : decode cX5_tune 18 = .ok (.aload_n 0, 1) := by decide +kernel
theorem dX5_tune_19 : decode cX5_tune 19 = .ok (.getfield 18, 3) := by decide +kernel
theorem dX5_tune_22 : decode cX5_tune 22 = .ok (.iload_n 1, 1) := by decide +kernel
theorem dX5_tune_23 : decode cX5_tune 23 = .ok (.aaload, 1) := by decide +kernel
theorem dX5_tune_24 : decode cX5_tune 24 = .ok (.getfield 107, 3) := by decide +kernel
theorem dX5_tune_27 : decode cX5_tune 27 = .ok (.astore 4, 2) := by decide +kernel
theorem dX5_tune_29 : decode cX5_tune 29 = .ok (.aload 4, 2) := by decide +kernel
theorem dX5_tune_31 : decode cX5_tune 31 = .ok (.iload_n 2, 1) := by decide +kernel
theorem dX5_tune_32 : decode cX5_tune 32 = .ok (.iaload, 1) := by decide +kernel
theorem dX5_tune_33 : decode cX5_tune 33 = .ok (.istore 5, 2) := by decide +kernel
theorem dX5_tune_35 : decode cX5_tune 35 = .ok (.aload 4, 2) := by decide +kernel
theorem dX5_tune_37 : decode cX5_tune 37 = .ok (.iload_n 2, 1) := by decide +kernel
theorem dX5_tune_38 : decode cX5_tune 38 = .ok (.iload_n 3, 1) := by decide +kernel
theorem dX5_tune_39 : decode cX5_tune 39 = .ok (.iastore, 1) := by decide +kernel
theorem dX5_tune_40 : decode cX5_tune 40 = .ok (.iload 5, 2) := by decide +kernel
theorem dX5_tune_42 : decode cX5_tune 42 = .ok (.ireturn, 1) := by decide +kernel
set_option maxRecDepth 20000 in
theorem ggX5_owner_X5_needInstrument : GoodIn wsX5_owner wsX5_needInstrument := goodIn_ca (goodIn_r _ [7, 8, 9, 10, 11, 12, 13, 14, 15, 16, 17, 18, 19, 20] (by decide +kernel) (by decide +kernel)) (goodIn_sub (fun _ h => List.mem_cons_of_mem _ (List.mem_append_right _ h)) (by decide +kernel))
set_option maxRecDepth 20000 in
theorem gX5_owner_X5_needInstrument : GoodIn wsX5_owner (wsV RX5 104 RX5 yX5_needInstrument wsX5_needInstrument) := goodIn_app (goodIn_of _ (by decide +kernel)) ggX5_owner_X5_needInstrument
theorem dX5_owner_0 : decode cX5_owner 0 = .ok (.aload_n 0, 1) := by decide +kernel
theorem dX5_owner_1 : decode cX5_owner 1 = .ok (.iload_n 1, 1) := by decide +kernel
theorem dX5_owner_2 : decode cX5_owner 2 = .ok (.invokevirtual 104, 3) := by decide +kernel
theorem dX5_owner_5 : decode cX5_owner 5 = .ok (.aload_n 0, 1) := by decide +kernel
theorem dX5_owner_6 : decode cX5_owner 6 = .ok (.getfield 18, 3) := by decide +kernel
theorem dX5_owner_9 : decode cX5_owner 9 = .ok (.iload_n 1, 1) := by decide +kernel
theorem dX5_owner_10 : decode cX5_owner 10 = .ok (.aaload, 1) := by decide +kernel
theorem dX5_owner_11 : decode cX5_owner 11 = .ok (.getfield 110, 3) := by decide +kernel
theorem dX5_owner_14 : decode cX5_owner 14 = .ok (.ireturn, 1) := by decide +kernel
theorem dX5_instruments_0 : decode cX5_instruments 0 = .ok (.aload_n 0, 1) := by decide +kernel
theorem dX5_instruments_1 : decode cX5_instruments 1 = .ok (.getfield 52, 3) := by decide +kernel
theorem dX5_instruments_4 : decode cX5_instruments 4 = .ok (.ireturn, 1) := by decide +kernel
set_option maxRecDepth 20000 in
theorem ggX5_shifts_X5_findBest : GoodIn wsX5_shifts wsX5_findBest := goodIn_ca (goodIn_r _ [7, 1, 8, 9, 10, 11, 12, 6, 13, 14, 15, 16, 17, 18, 19, 20, 21, 22, 23, 24, 25, 26, 27, 28, 29, 30, 31, 32, 33, 34, 35, 36, 37, 38, 39, 40, 41, 42, 43, 44, 45, 46, 47, 48, 49, 50, 51, 52, 53, 54, 55, 56, 57, 58, 59, 60, 61, 62, 63, 64, 65, 66, 67, 68, 69, 70, 71, 72, 73, 74, 75, 76, 77, 78, 79, 80, 81, 87, 88, 82, 83, 84, 85, 86, 89, 90, 91] (by decide +kernel) (by decide +kernel)) (goodIn_sub (fun _ h => List.mem_cons_of_mem _ (List.mem_append_right _ h)) (by decide +kernel))
set_option maxRecDepth 20000 in
theorem gX5_shifts_X5_findBest : GoodIn wsX5_shifts (wsV RX5 113 RX5 yX5_findBest wsX5_findBest) := goodIn_app (goodIn_of _ (by decide +kernel)) ggX5_shifts_X5_findBest
theorem dX5_shifts_0 : decode cX5_shifts 0 = .ok (.aload_n 0, 1) := by decide +kernel
theorem dX5_shifts_1 : decode cX5_shifts 1 = .ok (.iload_n 1, 1) := by decide +kernel
theorem dX5_shifts_2 : decode cX5_shifts 2 = .ok (.iload_n 2, 1) := by decide +kernel
theorem dX5_shifts_3 : decode cX5_shifts 3 = .ok (.invokevirtual 113, 3) := by decide +kernel
theorem dX5_shifts_6 : decode cX5_shifts 6 = .ok (.ifCond .eq 13, 3) := by decide +kernel
theorem dX5_shifts_9 : decode cX5_shifts 9 = .ok (.aload_n 0, 1) := by decide +kernel
theorem dX5_shifts_10 : decode cX5_shifts 10 = .ok (.getfield 44, 3) := by decide +kernel
theorem dX5_shifts_13 : decode cX5_shifts 13 = .ok (.getfield 117, 3) := by decide +kernel
theorem dX5_shifts_16 : decode cX5_shifts 16 = .ok (.goto 4, 3) := by decide +kernel
theorem dX5_shifts_19 : decode cX5_shifts 19 = .ok (.iconst (-1), 1) := by decide +kernel
theorem dX5_shifts_20 : decode cX5_shifts 20 = .ok (.ireturn, 1) := by decide +kernel
set_option maxRecDepth 20000 in
theorem ggX5_shiftsByAll_X5_needPiece : GoodIn wsX5_shiftsByAll wsX5_needPiece := goodIn_ca (goodIn_r _ [11, 12, 13, 14, 57, 58, 59, 60, 61, 62, 63, 64, 65, 66] (by decide +kernel) (by decide +kernel)) (goodIn_sub (fun _ h => List.mem_cons_of_mem _ (List.mem_append_right _ h)) (by decide +kernel))
set_option maxRecDepth 20000 in
theorem gX5_shiftsByAll_X5_needPiece : GoodIn wsX5_shiftsByAll (wsV RX5 68 RX5 yX5_needPiece wsX5_needPiece) := goodIn_app (goodIn_of _ (by decide +kernel)) ggX5_shiftsByAll_X5_needPiece
set_option maxRecDepth 20000 in
theorem ggX5_shiftsByAll_X5_needInstrument : GoodIn wsX5_shiftsByAll wsX5_needInstrument := goodIn_ca (goodIn_r _ [18, 12, 13, 19, 57, 58, 59, 60, 61, 62, 63, 64, 65, 66] (by decide +kernel) (by decide +kernel)) (goodIn_sub (fun _ h => List.mem_cons_of_mem _ (List.mem_append_right _ h)) (by decide +kernel))
set_option maxRecDepth 20000 in
theorem gX5_shiftsByAll_X5_needInstrument : GoodIn wsX5_shiftsByAll (wsV RX5 104 RX5 yX5_needInstrument wsX5_needInstrument) := goodIn_app (goodIn_of _ (by decide +kernel)) ggX5_shiftsByAll_X5_needInstrument
set_option maxRecDepth 20000 in
theorem ggX5_shiftsByAll_X0_leastByAll : GoodIn wsX5_shiftsByAll wsX0_leastByAll := goodIn_r _ [24, 25, 26, 27, 28, 29, 30, 23, 31, 32, 33, 34, 35, 36, 37, 38, 39, 40, 41, 42, 43, 44, 45, 46, 47, 48, 49, 50, 51, 52, 53, 54, 55, 56, 67, 68, 69, 70, 71, 72, 73, 74, 75, 76] (by decide +kernel) (by decide +kernel)
set_option maxRecDepth 20000 in
theorem gX5_shiftsByAll_X0_leastByAll : GoodIn wsX5_shiftsByAll (wsV RX5 122 RX0 yX0_leastByAll wsX0_leastByAll) := goodIn_app (goodIn_of _ (by decide +kernel)) ggX5_shiftsByAll_X0_leastByAll
theorem dX5_shiftsByAll_0 : decode cX5_shiftsByAll 0 = .ok (.aload_n 0, 1) := by decide +kernel
theorem dX5_shiftsByAll_1 : decode cX5_shiftsByAll 1 = .ok (.iload_n 1, 1) := by decide +kernel
theorem dX5_shiftsByAll_2 : decode cX5_shiftsByAll 2 = .ok (.invokevirtual 68, 3) := by decide +kernel
theorem dX5_shiftsByAll_5 : decode cX5_shiftsByAll 5 = .ok (.aload_n 0, 1) := by decide +kernel
theorem dX5_shiftsByAll_6 : decode cX5_shiftsByAll 6 = .ok (.iload_n 2, 1) := by decide +kernel
theorem dX5_shiftsByAll_7 : decode cX5_shiftsByAll 7 = .ok (.invokevirtual 104, 3) := by decide +kernel
theorem dX5_shiftsByAll_10 : decode cX5_shiftsByAll 10 = .ok (.aload_n 0, 1) := by decide +kernel
theorem dX5_shiftsByAll_11 : decode cX5_shiftsByAll 11 = .ok (.getfield 11, 3) := by decide +kernel
theorem dX5_shiftsByAll_14 : decode cX5_shiftsByAll 14 = .ok (.iload_n 1, 1) := by decide +kernel
theorem dX5_shiftsByAll_15 : decode cX5_shiftsByAll 15 = .ok (.aaload, 1) := by decide +kernel
theorem dX5_shiftsByAll_16 : decode cX5_shiftsByAll 16 = .ok (.getfield 85, 3) := by decide +kernel
theorem dX5_shiftsByAll_19 : decode cX5_shiftsByAll 19 = .ok (.iconst 4, 1) := by decide +kernel
theorem dX5_shiftsByAll_20 : decode cX5_shiftsByAll 20 = .ok (.if_icmp .le 13, 3) := by decide +kernel
theorem dX5_shiftsByAll_23 : decode cX5_shiftsByAll 23 = .ok (.new 61, 3) := by decide +kernel
theorem dX5_shiftsByAll_26 : decode cX5_shiftsByAll 26 = .ok (.dup, 1) := by decide +kernel
theorem dX5_shiftsByAll_27 : decode cX5_shiftsByAll 27 = .ok (.ldc 120, 2) := by decide +kernel
theorem dX5_shiftsByAll_29 : decode cX5_shiftsByAll 29 = .ok (.invokespecial 65, 3) := by decide +kernel
theorem dX5_shiftsByAll_32 : decode cX5_shiftsByAll 32 = .ok (.athrow, 1) := by decide +kernel
theorem dX5_shiftsByAll_33 : decode cX5_shiftsByAll 33 = .ok (.aload_n 0, 1) := by decide +kernel
theorem dX5_shiftsByAll_34 : decode cX5_shiftsByAll 34 = .ok (.getfield 44, 3) := by decide +kernel
theorem dX5_shiftsByAll_37 : decode cX5_shiftsByAll 37 = .ok (.aload_n 0, 1) := by decide +kernel
theorem dX5_shiftsByAll_38 : decode cX5_shiftsByAll 38 = .ok (.getfield 11, 3) := by decide +kernel
theorem dX5_shiftsByAll_41 : decode cX5_shiftsByAll 41 = .ok (.iload_n 1, 1) := by decide +kernel
theorem dX5_shiftsByAll_42 : decode cX5_shiftsByAll 42 = .ok (.aaload, 1) := by decide +kernel
theorem dX5_shiftsByAll_43 : decode cX5_shiftsByAll 43 = .ok (.aload_n 0, 1) := by decide +kernel
theorem dX5_shiftsByAll_44 : decode cX5_shiftsByAll 44 = .ok (.getfield 18, 3) := by decide +kernel
theorem dX5_shiftsByAll_47 : decode cX5_shiftsByAll 47 = .ok (.iload_n 2, 1) := by decide +kernel
theorem dX5_shiftsByAll_48 : decode cX5_shiftsByAll 48 = .ok (.aaload, 1) := by decide +kernel
theorem dX5_shiftsByAll_49 : decode cX5_shiftsByAll 49 = .ok (.invokevirtual 122, 3) := by decide +kernel
theorem dX5_shiftsByAll_52 : decode cX5_shiftsByAll 52 = .ok (.ireturn, 1) := by decide +kernel
set_option maxRecDepth 20000 in
theorem ggX5_hardest_X5_findBest : GoodIn wsX5_hardest wsX5_findBest := goodIn_ca (goodIn_r _ [7, 1, 8, 9, 10, 11, 12, 6, 13, 14, 15, 16, 17, 18, 19, 20, 21, 22, 23, 24, 25, 26, 27, 28, 29, 30, 31, 32, 33, 34, 35, 36, 37, 38, 39, 40, 41, 42, 43, 44, 45, 46, 47, 48, 49, 50, 51, 52, 53, 54, 55, 56, 57, 58, 59, 60, 61, 62, 63, 64, 65, 66, 67, 68, 69, 70, 71, 72, 73, 74, 75, 76, 77, 78, 79, 80, 81, 87, 88, 82, 83, 84, 85, 86, 89, 90, 91] (by decide +kernel) (by decide +kernel)) (goodIn_sub (fun _ h => List.mem_cons_of_mem _ (List.mem_append_right _ h)) (by decide +kernel))
set_option maxRecDepth 20000 in
theorem gX5_hardest_X5_findBest : GoodIn wsX5_hardest (wsV RX5 113 RX5 yX5_findBest wsX5_findBest) := goodIn_app (goodIn_of _ (by decide +kernel)) ggX5_hardest_X5_findBest
theorem dX5_hardest_0 : decode cX5_hardest 0 = .ok (.aload_n 0, 1) := by decide +kernel
theorem dX5_hardest_1 : decode cX5_hardest 1 = .ok (.iload_n 1, 1) := by decide +kernel
theorem dX5_hardest_2 : decode cX5_hardest 2 = .ok (.iload_n 2, 1) := by decide +kernel
theorem dX5_hardest_3 : decode cX5_hardest 3 = .ok (.invokevirtual 113, 3) := by decide +kernel
theorem dX5_hardest_6 : decode cX5_hardest 6 = .ok (.ifCond .eq 13, 3) := by decide +kernel
theorem dX5_hardest_9 : decode cX5_hardest 9 = .ok (.aload_n 0, 1) := by decide +kernel
theorem dX5_hardest_10 : decode cX5_hardest 10 = .ok (.getfield 44, 3) := by decide +kernel
theorem dX5_hardest_13 : decode cX5_hardest 13 = .ok (.getfield 126, 3) := by decide +kernel
theorem dX5_hardest_16 : decode cX5_hardest 16 = .ok (.goto 4, 3) := by decide +kernel
theorem dX5_hardest_19 : decode cX5_hardest 19 = .ok (.iconst (-1), 1) := by decide +kernel
theorem dX5_hardest_20 : decode cX5_hardest 20 = .ok (.ireturn, 1) := by decide +kernel
set_option maxRecDepth 20000 in
theorem ggX5_position_X5_needNote : GoodIn wsX5_position wsX5_needNote := goodIn_ca (goodIn_r _ [7, 8, 9, 10, 11, 12, 13, 14, 6, 15, 16, 77, 78, 79, 80, 81, 82, 83, 84, 85, 86, 92, 93] (by decide +kernel) (by decide +kernel)) (goodIn_sub (fun _ h => List.mem_cons_of_mem _ (List.mem_append_right _ h)) (by decide +kernel))
set_option maxRecDepth 20000 in
theorem gX5_position_X5_needNote : GoodIn wsX5_position (wsV RX5 97 RX5 yX5_needNote wsX5_needNote) := goodIn_app (goodIn_of _ (by decide +kernel)) ggX5_position_X5_needNote
set_option maxRecDepth 20000 in
theorem ggX5_position_X5_findBest : GoodIn wsX5_position wsX5_findBest := goodIn_ca (goodIn_r _ [20, 1, 10, 21, 12, 13, 14, 6, 15, 8, 9, 16, 22, 23, 24, 25, 26, 27, 28, 29, 30, 31, 32, 33, 34, 35, 36, 37, 38, 39, 40, 41, 42, 43, 44, 45, 46, 47, 48, 49, 50, 51, 52, 53, 54, 55, 56, 57, 58, 59, 60, 61, 62, 63, 64, 65, 66, 67, 68, 69, 70, 71, 72, 73, 74, 75, 76, 77, 78, 79, 80, 81, 82, 83, 84, 85, 86, 92, 93, 87, 88, 89, 90, 91, 94, 95, 96] (by decide +kernel) (by decide +kernel)) (goodIn_sub (fun _ h => List.mem_cons_of_mem _ (List.mem_append_right _ h)) (by decide +kernel))
set_option maxRecDepth 20000 in
theorem gX5_position_X5_findBest : GoodIn wsX5_position (wsV RX5 113 RX5 yX5_findBest wsX5_findBest) := goodIn_app (goodIn_of _ (by decide +kernel)) ggX5_position_X5_findBest
theorem dX5_position_0 : decode cX5_position 0 = .ok (.aload_n 0, 1) := by decide +kernel
theorem dX5_position_1 : decode cX5_position 1 = .ok (.iload_n 1, 1) := by decide +kernel
theorem dX5_position_2 : decode cX5_position 2 = .ok (.iload_n 2, 1) := by decide +kernel
theorem dX5_position_3 : decode cX5_position 3 = .ok (.invokevirtual 97, 3) := by decide +kernel
theorem dX5_position_6 : decode cX5_position 6 = .ok (.aload_n 0, 1) := by decide +kernel
theorem dX5_position_7 : decode cX5_position 7 = .ok (.iload_n 1, 1) := by decide +kernel
theorem dX5_position_8 : decode cX5_position 8 = .ok (.iload_n 3, 1) := by decide +kernel
theorem dX5_position_9 : decode cX5_position 9 = .ok (.invokevirtual 113, 3) := by decide +kernel
theorem dX5_position_12 : decode cX5_position 12 = .ok (.ifCond .eq 15, 3) := by decide +kernel
theorem dX5_position_15 : decode cX5_position 15 = .ok (.aload_n 0, 1) := by decide +kernel
theorem dX5_position_16 : decode cX5_position 16 = .ok (.getfield 44, 3) := by decide +kernel
theorem dX5_position_19 : decode cX5_position 19 = .ok (.getfield 129, 3) := by decide +kernel
theorem dX5_position_22 : decode cX5_position 22 = .ok (.iload_n 2, 1) := by decide +kernel
theorem dX5_position_23 : decode cX5_position 23 = .ok (.iaload, 1) := by decide +kernel
theorem dX5_position_24 : decode cX5_position 24 = .ok (.goto 4, 3) := by decide +kernel
theorem dX5_position_27 : decode cX5_position 27 = .ok (.iconst (-1), 1) := by decide +kernel
theorem dX5_position_28 : decode cX5_position 28 = .ok (.ireturn, 1) := by decide +kernel
set_option maxRecDepth 20000 in
theorem ggX5_string_X5_needNote : GoodIn wsX5_string wsX5_needNote := goodIn_ca (goodIn_r _ [10, 11, 12, 2, 13, 14, 15, 16, 9, 17, 18, 79, 80, 81, 82, 83, 84, 85, 86, 87, 88, 89, 90] (by decide +kernel) (by decide +kernel)) (goodIn_sub (fun _ h => List.mem_cons_of_mem _ (List.mem_append_right _ h)) (by decide +kernel))
set_option maxRecDepth 20000 in
theorem gX5_string_X5_needNote : GoodIn wsX5_string (wsV RX5 97 RX5 yX5_needNote wsX5_needNote) := goodIn_app (goodIn_of _ (by decide +kernel)) ggX5_string_X5_needNote
set_option maxRecDepth 20000 in
theorem ggX5_string_X5_findBest : GoodIn wsX5_string wsX5_findBest := goodIn_ca (goodIn_r _ [22, 4, 2, 1, 14, 15, 16, 9, 17, 11, 12, 18, 23, 24, 25, 26, 27, 28, 29, 30, 31, 32, 33, 34, 35, 36, 37, 38, 39, 40, 41, 42, 43, 44, 45, 46, 47, 48, 49, 50, 51, 52, 53, 54, 55, 56, 57, 58, 59, 60, 61, 62, 63, 64, 65, 66, 67, 68, 69, 70, 71, 72, 73, 74, 75, 76, 77, 79, 80, 81, 82, 83, 84, 85, 86, 87, 88, 89, 90, 91, 92, 93, 94, 95, 96, 97, 98] (by decide +kernel) (by decide +kernel)) (goodIn_sub (fun _ h => List.mem_cons_of_mem _ (List.mem_append_right _ h)) (by decide +kernel))
set_option maxRecDepth 20000 in
theorem gX5_string_X5_findBest : GoodIn wsX5_string (wsV RX5 113 RX5 yX5_findBest wsX5_findBest) := goodIn_app (goodIn_of _ (by decide +kernel)) ggX5_string_X5_findBest
set_option maxRecDepth 20000 in
theorem ggX5_string_X1_lowestString : GoodIn wsX5_string wsX1_lowestString := goodIn_r _ [49, 50, 96, 97, 98] (by decide +kernel) (by decide +kernel)
set_option maxRecDepth 20000 in
theorem gX5_string_X1_lowestString : GoodIn wsX5_string (wsV RX5 132 RX1 yX1_lowestString wsX1_lowestString) := goodIn_app (goodIn_of _ (by decide +kernel)) ggX5_string_X1_lowestString
theorem dX5_string_0 : decode cX5_string 0 = .ok (.aload_n 0, 1) := by decide +kernel
theorem dX5_string_1 : decode cX5_string 1 = .ok (.iload_n 1, 1) := by decide +kernel
theorem dX5_string_2 : decode cX5_string 2 = .ok (.iload_n 2, 1) := by decide +kernel
theorem dX5_string_3 : decode cX5_string 3 = .ok (.invokevirtual 97, 3) := by decide +kernel
theorem dX5_string_6 : decode cX5_string 6 = .ok (.aload_n 0, 1) := by decide +kernel
theorem dX5_string_7 : decode cX5_string 7 = .ok (.iload_n 1, 1) := by decide +kernel
theorem dX5_string_8 : decode cX5_string 8 = .ok (.iload_n 3, 1) := by decide +kernel
theorem dX5_string_9 : decode cX5_string 9 = .ok (.invokevirtual 113, 3) := by decide +kernel
theorem dX5_string_12 : decode cX5_string 12 = .ok (.ifCond .ne 5, 3) := by decide +kernel
theorem dX5_string_15 : decode cX5_string 15 = .ok (.iconst (-1), 1) := by decide +kernel
theorem dX5_string_16 : decode cX5_string 16 = .ok (.ireturn, 1) := by decide +kernel
theorem dX5_string_17 : decode cX5_string 17 = .ok (.aload_n 0, 1) := by decide +kernel
theorem dX5_string_18 : decode cX5_string 18 = .ok (.getfield 18, 3) := by decide +kernel
theorem dX5_string_21 : decode cX5_string 21 = .ok (.iload_n 3, 1) := by decide +kernel
theorem dX5_string_22 : decode cX5_string 22 = .ok (.aaload, 1) := by decide +kernel
theorem dX5_string_23 : decode cX5_string 23 = .ok (.aload_n 0, 1) := by decide +kernel
theorem dX5_string_24 : decode cX5_string 24 = .ok (.getfield 11, 3) := by decide +kernel
theorem dX5_string_27 : decode cX5_string 27 = .ok (.iload_n 1, 1) := by decide +kernel
theorem dX5_string_28 : decode cX5_string 28 = .ok (.aaload, 1) := by decide +kernel
theorem dX5_string_29 : decode cX5_string 29 = .ok (.getfield 101, 3) := by decide +kernel
theorem dX5_string_32 : decode cX5_string 32 = .ok (.iload_n 2, 1) := by decide +kernel
theorem dX5_string_33 : decode cX5_string 33 = .ok (.iaload, 1) := by decide +kernel
theorem dX5_string_34 : decode cX5_string 34 = .ok (.aload_n 0, 1) := by decide +kernel
theorem dX5_string_35 : decode cX5_string 35 = .ok (.getfield 44, 3) := by decide +kernel
theorem dX5_string_38 : decode cX5_string 38 = .ok (.getfield 129, 3) := by decide +kernel
theorem dX5_string_41 : decode cX5_string 41 = .ok (.iload_n 2, 1) := by decide +kernel
theorem dX5_string_42 : decode cX5_string 42 = .ok (.iaload, 1) := by decide +kernel
theorem dX5_string_43 : decode cX5_string 43 = .ok (.invokevirtual 132, 3) := by decide +kernel
theorem dX5_string_46 : decode cX5_string 46 = .ok (.ireturn, 1) := by decide +kernel
set_option maxRecDepth 20000 in
theorem ggX5_learn_X5_needPiece : GoodIn wsX5_learn wsX5_needPiece := goodIn_ca (goodIn_r _ [9, 10, 11, 12, 100, 101, 102, 103, 104, 105, 106, 107, 108, 109] (by decide +kernel) (by decide +kernel)) (goodIn_sub (fun _ h => List.mem_cons_of_mem _ (List.mem_append_left _ (List.mem_append_right _ h))) (by decide +kernel))
set_option maxRecDepth 20000 in
theorem gX5_learn_X5_needPiece : GoodIn wsX5_learn (wsV RX5 68 RX5 yX5_needPiece wsX5_needPiece) := goodIn_app (goodIn_of _ (by decide +kernel)) ggX5_learn_X5_needPiece
set_option maxRecDepth 20000 in
theorem ggX5_learn_X5_needInstrument : GoodIn wsX5_learn wsX5_needInstrument := goodIn_ca (goodIn_r _ [16, 10, 11, 17, 100, 101, 102, 103, 104, 105, 106, 107, 108, 109] (by decide +kernel) (by decide +kernel)) (goodIn_sub (fun _ h => List.mem_cons_of_mem _ (List.mem_append_left _ (List.mem_append_right _ h))) (by decide +kernel))
set_option maxRecDepth 20000 in
theorem gX5_learn_X5_needInstrument : GoodIn wsX5_learn (wsV RX5 104 RX5 yX5_needInstrument wsX5_needInstrument) := goodIn_app (goodIn_of _ (by decide +kernel)) ggX5_learn_X5_needInstrument
set_option maxRecDepth 20000 in
theorem ggX5_learn_X5_needPupil : GoodIn wsX5_learn wsX5_needPupil := goodIn_ca (goodIn_r _ [20, 21, 22, 8, 23, 24, 25] (by decide +kernel) (by decide +kernel)) (goodIn_sub (fun _ h => List.mem_cons_of_mem _ (List.mem_append_right _ h)) (by decide +kernel))
set_option maxRecDepth 20000 in
theorem gX5_learn_X5_needPupil : GoodIn wsX5_learn (va_wsS RX5 136 yX5_needPupil wsX5_needPupil) := goodIn_app (goodIn_of _ (by decide +kernel)) ggX5_learn_X5_needPupil
set_option maxRecDepth 20000 in
theorem ggX5_learn_X4_knows : GoodIn wsX5_learn wsX4_knows := goodIn_r _ [30, 31, 110, 111] (by decide +kernel) (by decide +kernel)
set_option maxRecDepth 20000 in
theorem gX5_learn_X4_knows : GoodIn wsX5_learn (wsV RX5 139 RX4 yX4_knows wsX4_knows) := goodIn_app (goodIn_of _ (by decide +kernel)) ggX5_learn_X4_knows
set_option maxRecDepth 20000 in
theorem ggX5_learn_X5_learnableShift : GoodIn wsX5_learn wsX5_learnableShift := goodIn_ca (goodIn_r _ [35, 36, 37, 38, 39, 3, 4, 40, 41, 42, 8, 43, 44, 5, 6, 7, 9, 10, 11, 12, 13, 14, 15, 16, 17, 45, 46, 47, 48, 49, 50, 51, 52, 53, 54, 55, 56, 57, 58, 59, 60, 61, 62, 63, 64, 65, 66, 67, 68, 69, 70, 71, 72, 73, 74, 75, 76, 77, 78, 79, 80, 81, 82, 83, 84, 85, 86, 87, 88, 89, 90, 91, 92, 93, 94, 100, 101, 102, 103, 104, 105, 106, 107, 108, 109, 112, 113, 114, 115, 116, 117, 118, 119, 110, 111, 120, 121] (by decide +kernel) (by decide +kernel)) (goodIn_sub (fun _ h => List.mem_cons_of_mem _ (List.mem_append_left _ (List.mem_append_right _ h))) (by decide +kernel))
set_option maxRecDepth 20000 in
theorem gX5_learn_X5_learnableShift : GoodIn wsX5_learn (wsV RX5 144 RX5 yX5_learnableShift wsX5_learnableShift) := goodIn_app (goodIn_of _ (by decide +kernel)) ggX5_learn_X5_learnableShift
set_option maxRecDepth 20000 in
theorem ggX5_learn_X4_takeIn : GoodIn wsX5_learn wsX4_takeIn := goodIn_r _ [98, 31, 99, 110, 111] (by decide +kernel) (by decide +kernel)
set_option maxRecDepth 20000 in
theorem gX5_learn_X4_takeIn : GoodIn wsX5_learn (wsV RX5 150 RX4 yX4_takeIn wsX4_takeIn) := goodIn_app (goodIn_of _ (by decide +kernel)) ggX5_learn_X4_takeIn
theorem dX5_learn_0 : decode cX5_learn 0 = .ok (.aload_n 0, 1) := by decide +kernel
theorem dX5_learn_1 : decode cX5_learn 1 = .ok (.iload_n 2, 1) := by decide +kernel
theorem dX5_learn_2 : decode cX5_learn 2 = .ok (.invokevirtual 68, 3) := by decide +kernel
theorem dX5_learn_5 : decode cX5_learn 5 = .ok (.aload_n 0, 1) := by decide +kernel
theorem dX5_learn_6 : decode cX5_learn 6 = .ok (.iload_n 3, 1) := by decide +kernel
theorem dX5_learn_7 : decode cX5_learn 7 = .ok (.invokevirtual 104, 3) := by decide +kernel
theorem dX5_learn_10 : decode cX5_learn 10 = .ok (.iload_n 1, 1) := by decide +kernel
theorem dX5_learn_11 : decode cX5_learn 11 = .ok (.invokestatic 136, 3) := by decide +kernel
theorem dX5_learn_14 : decode cX5_learn 14 = .ok (.aload_n 0, 1) := by decide +kernel
theorem dX5_learn_15 : decode cX5_learn 15 = .ok (.getfield 25, 3) := by decide +kernel
theorem dX5_learn_18 : decode cX5_learn 18 = .ok (.iload_n 1, 1) := by decide +kernel
theorem dX5_learn_19 : decode cX5_learn 19 = .ok (.aaload, 1) := by decide +kernel
theorem dX5_learn_20 : decode cX5_learn 20 = .ok (.astore 4, 2) := by decide +kernel
theorem dX5_learn_22 : decode cX5_learn 22 = .ok (.aload 4, 2) := by decide +kernel
theorem dX5_learn_24 : decode cX5_learn 24 = .ok (.iload_n 2, 1) := by decide +kernel
theorem dX5_learn_25 : decode cX5_learn 25 = .ok (.invokevirtual 139, 3) := by decide +kernel
theorem dX5_learn_28 : decode cX5_learn 28 = .ok (.ifCond .eq 13, 3) := by decide +kernel
theorem dX5_learn_31 : decode cX5_learn 31 = .ok (.new 61, 3) := by decide +kernel
theorem dX5_learn_34 : decode cX5_learn 34 = .ok (.dup, 1) := by decide +kernel
theorem dX5_learn_35 : decode cX5_learn 35 = .ok (.ldc 142, 2) := by decide +kernel
theorem dX5_learn_37 : decode cX5_learn 37 = .ok (.invokespecial 65, 3) := by decide +kernel
theorem dX5_learn_40 : decode cX5_learn 40 = .ok (.athrow, 1) := by decide +kernel
theorem dX5_learn_41 : decode cX5_learn 41 = .ok (.aload_n 0, 1) := by decide +kernel
theorem dX5_learn_42 : decode cX5_learn 42 = .ok (.iload_n 1, 1) := by decide +kernel
theorem dX5_learn_43 : decode cX5_learn 43 = .ok (.iload_n 2, 1) := by decide +kernel
theorem dX5_learn_44 : decode cX5_learn 44 = .ok (.iload_n 3, 1) := by decide +kernel
theorem dX5_learn_45 : decode cX5_learn 45 = .ok (.invokevirtual 144, 3) := by decide +kernel
theorem dX5_learn_48 : decode cX5_learn 48 = .ok (.istore 5, 2) := by decide +kernel
theorem dX5_learn_50 : decode cX5_learn 50 = .ok (.iload 5, 2) := by decide +kernel
theorem dX5_learn_52 : decode cX5_learn 52 = .ok (.iconst (-1), 1) := by decide +kernel
theorem dX5_learn_53 : decode cX5_learn 53 = .ok (.if_icmp .ne 13, 3) := by decide +kernel
theorem dX5_learn_56 : decode cX5_learn 56 = .ok (.new 61, 3) := by decide +kernel
theorem dX5_learn_59 : decode cX5_learn 59 = .ok (.dup, 1) := by decide +kernel
theorem dX5_learn_60 : decode cX5_learn 60 = .ok (.ldc 148, 2) := by decide +kernel
theorem dX5_learn_62 : decode cX5_learn 62 = .ok (.invokespecial 65, 3) := by decide +kernel
theorem dX5_learn_65 : decode cX5_learn 65 = .ok (.athrow, 1) := by decide +kernel
theorem dX5_learn_66 : decode cX5_learn 66 = .ok (.aload 4, 2) := by decide +kernel
theorem dX5_learn_68 : decode cX5_learn 68 = .ok (.iload_n 2, 1) := by decide +kernel
theorem dX5_learn_69 : decode cX5_learn 69 = .ok (.iload 5, 2) := by decide +kernel
theorem dX5_learn_71 : decode cX5_learn 71 = .ok (.invokevirtual 150, 3) := by decide +kernel
theorem dX5_learn_74 : decode cX5_learn 74 = .ok (.aload 4, 2) := by decide +kernel
theorem dX5_learn_76 : decode cX5_learn 76 = .ok (.getfield 153, 3) := by decide +kernel
theorem dX5_learn_79 : decode cX5_learn 79 = .ok (.ireturn, 1) := by decide +kernel
set_option maxRecDepth 20000 in
theorem ggX5_level_X5_needPupil : GoodIn wsX5_level wsX5_needPupil := goodIn_ca (goodIn_r _ [6, 7, 8, 5, 9, 10, 11] (by decide +kernel) (by decide +kernel)) (goodIn_sub (fun _ h => List.mem_cons_of_mem _ (List.mem_append_right _ h)) (by decide +kernel))
set_option maxRecDepth 20000 in
theorem gX5_level_X5_needPupil : GoodIn wsX5_level (va_wsS RX5 136 yX5_needPupil wsX5_needPupil) := goodIn_app (goodIn_of _ (by decide +kernel)) ggX5_level_X5_needPupil
theorem dX5_level_0 : decode cX5_level 0 = .ok (.iload_n 1, 1) := by decide +kernel
theorem dX5_level_1 : decode cX5_level 1 = .ok (.invokestatic 136, 3) := by decide +kernel
theorem dX5_level_4 : decode cX5_level 4 = .ok (.aload_n 0, 1) := by decide +kernel
theorem dX5_level_5 : decode cX5_level 5 = .ok (.getfield 25, 3) := by decide +kernel
theorem dX5_level_8 : decode cX5_level 8 = .ok (.iload_n 1, 1) := by decide +kernel
theorem dX5_level_9 : decode cX5_level 9 = .ok (.aaload, 1) := by decide +kernel
theorem dX5_level_10 : decode cX5_level 10 = .ok (.getfield 153, 3) := by decide +kernel
theorem dX5_level_13 : decode cX5_level 13 = .ok (.ireturn, 1) := by decide +kernel
set_option maxRecDepth 20000 in
theorem ggX5_known_X5_needPupil : GoodIn wsX5_known wsX5_needPupil := goodIn_ca (goodIn_r _ [6, 7, 8, 5, 9, 10, 11] (by decide +kernel) (by decide +kernel)) (goodIn_sub (fun _ h => List.mem_cons_of_mem _ (List.mem_append_right _ h)) (by decide +kernel))
set_option maxRecDepth 20000 in
theorem gX5_known_X5_needPupil : GoodIn wsX5_known (va_wsS RX5 136 yX5_needPupil wsX5_needPupil) := goodIn_app (goodIn_of _ (by decide +kernel)) ggX5_known_X5_needPupil
theorem dX5_known_0 : decode cX5_known 0 = .ok (.iload_n 1, 1) := by decide +kernel
theorem dX5_known_1 : decode cX5_known 1 = .ok (.invokestatic 136, 3) := by decide +kernel
theorem dX5_known_4 : decode cX5_known 4 = .ok (.aload_n 0, 1) := by decide +kernel
theorem dX5_known_5 : decode cX5_known 5 = .ok (.getfield 25, 3) := by decide +kernel
theorem dX5_known_8 : decode cX5_known 8 = .ok (.iload_n 1, 1) := by decide +kernel
theorem dX5_known_9 : decode cX5_known 9 = .ok (.aaload, 1) := by decide +kernel
theorem dX5_known_10 : decode cX5_known 10 = .ok (.getfield 156, 3) := by decide +kernel
theorem dX5_known_13 : decode cX5_known 13 = .ok (.ireturn, 1) := by decide +kernel
set_option maxRecDepth 20000 in
theorem ggX5_next_X5_needPupil : GoodIn wsX5_next wsX5_needPupil := goodIn_ca (goodIn_r _ [6, 7, 8, 5, 9, 10, 11] (by decide +kernel) (by decide +kernel)) (goodIn_sub (fun _ h => List.mem_cons_of_mem _ (List.mem_append_left _ (List.mem_append_right _ h))) (by decide +kernel))
set_option maxRecDepth 20000 in
theorem gX5_next_X5_needPupil : GoodIn wsX5_next (va_wsS RX5 136 yX5_needPupil wsX5_needPupil) := goodIn_app (goodIn_of _ (by decide +kernel)) ggX5_next_X5_needPupil
set_option maxRecDepth 20000 in
theorem ggX5_next_X4_knows : GoodIn wsX5_next wsX4_knows := goodIn_r _ [16, 17, 107, 108] (by decide +kernel) (by decide +kernel)
set_option maxRecDepth 20000 in
theorem gX5_next_X4_knows : GoodIn wsX5_next (wsV RX5 139 RX4 yX4_knows wsX4_knows) := goodIn_app (goodIn_of _ (by decide +kernel)) ggX5_next_X4_knows
set_option maxRecDepth 20000 in
theorem ggX5_next_X5_easiestShift : GoodIn wsX5_next wsX5_easiestShift := goodIn_ca (goodIn_r _ [21, 22, 23, 24, 25, 5, 26, 27, 28, 29, 30, 2, 31, 32, 33, 34, 35, 36, 37, 38, 39, 40, 41, 42, 1, 43, 44, 45, 46, 47, 48, 49, 50, 51, 52, 53, 54, 55, 56, 57, 58, 59, 60, 61, 62, 63, 64, 65, 66, 67, 68, 69, 70, 71, 72, 73, 74, 75, 76, 77, 78, 79, 80, 81, 82, 83, 84, 85, 86, 87, 88, 89, 90, 91, 92, 93, 94, 95, 96, 97, 98, 99, 100, 101, 102, 103, 104, 105, 106, 109, 110, 111, 112, 113, 114, 115, 116, 107, 108, 117, 118] (by decide +kernel) (by decide +kernel)) (goodIn_sub (fun _ h => List.mem_cons_of_mem _ (List.mem_append_right _ h)) (by decide +kernel))
set_option maxRecDepth 20000 in
theorem gX5_next_X5_easiestShift : GoodIn wsX5_next (wsV RX5 159 RX5 yX5_easiestShift wsX5_easiestShift) := goodIn_app (goodIn_of _ (by decide +kernel)) ggX5_next_X5_easiestShift
theorem dX5_next_0 : decode cX5_next 0 = .ok (.iload_n 1, 1) := by decide +kernel
theorem dX5_next_1 : decode cX5_next 1 = .ok (.invokestatic 136, 3) := by decide +kernel
theorem dX5_next_4 : decode cX5_next 4 = .ok (.iconst (-1), 1) := by decide +kernel
theorem dX5_next_5 : decode cX5_next 5 = .ok (.istore_n 2, 1) := by decide +kernel
theorem dX5_next_6 : decode cX5_next 6 = .ok (.iconst 0, 1) := by decide +kernel
theorem dX5_next_7 : decode cX5_next 7 = .ok (.istore_n 3, 1) := by decide +kernel
theorem dX5_next_8 : decode cX5_next 8 = .ok (.iconst 0, 1) := by decide +kernel
theorem dX5_next_9 : decode cX5_next 9 = .ok (.istore 4, 2) := by decide +kernel
theorem dX5_next_11 : decode cX5_next 11 = .ok (.iload 4, 2) := by decide +kernel
theorem dX5_next_13 : decode cX5_next 13 = .ok (.aload_n 0, 1) := by decide +kernel
theorem dX5_next_14 : decode cX5_next 14 = .ok (.getfield 48, 3) := by decide +kernel
theorem dX5_next_17 : decode cX5_next 17 = .ok (.if_icmp .ge 59, 3) := by decide +kernel
theorem dX5_next_20 : decode cX5_next 20 = .ok (.aload_n 0, 1) := by decide +kernel
theorem dX5_next_21 : decode cX5_next 21 = .ok (.getfield 25, 3) := by decide +kernel
theorem dX5_next_24 : decode cX5_next 24 = .ok (.iload_n 1, 1) := by decide +kernel
theorem dX5_next_25 : decode cX5_next 25 = .ok (.aaload, 1) := by decide +kernel
theorem dX5_next_26 : decode cX5_next 26 = .ok (.iload 4, 2) := by decide +kernel
theorem dX5_next_28 : decode cX5_next 28 = .ok (.invokevirtual 139, 3) := by decide +kernel
theorem dX5_next_31 : decode cX5_next 31 = .ok (.ifCond .eq 7, 3) := by decide +kernel
theorem dX5_next_34 : decode cX5_next 34 = .ok (.iconst (-1), 1) := by decide +kernel
theorem dX5_next_35 : decode cX5_next 35 = .ok (.goto 10, 3) := by decide +kernel
theorem dX5_next_38 : decode cX5_next 38 = .ok (.aload_n 0, 1) := by decide +kernel
theorem dX5_next_39 : decode cX5_next 39 = .ok (.iload_n 1, 1) := by decide +kernel
theorem dX5_next_40 : decode cX5_next 40 = .ok (.iload 4, 2) := by decide +kernel
theorem dX5_next_42 : decode cX5_next 42 = .ok (.invokevirtual 159, 3) := by decide +kernel
theorem dX5_next_45 : decode cX5_next 45 = .ok (.istore 5, 2) := by decide +kernel
theorem dX5_next_47 : decode cX5_next 47 = .ok (.iload 5, 2) := by decide +kernel
theorem dX5_next_49 : decode cX5_next 49 = .ok (.iconst (-1), 1) := by decide +kernel
theorem dX5_next_50 : decode cX5_next 50 = .ok (.if_icmp .eq 20, 3) := by decide +kernel
theorem dX5_next_53 : decode cX5_next 53 = .ok (.iload_n 2, 1) := by decide +kernel
theorem dX5_next_54 : decode cX5_next 54 = .ok (.iconst (-1), 1) := by decide +kernel
theorem dX5_next_55 : decode cX5_next 55 = .ok (.if_icmp .eq 9, 3) := by decide +kernel
theorem dX5_next_58 : decode cX5_next 58 = .ok (.iload 5, 2) := by decide +kernel
theorem dX5_next_60 : decode cX5_next 60 = .ok (.iload_n 3, 1) := by decide +kernel
theorem dX5_next_61 : decode cX5_next 61 = .ok (.if_icmp .ge 9, 3) := by decide +kernel
theorem dX5_next_64 : decode cX5_next 64 = .ok (.iload 4, 2) := by decide +kernel
theorem dX5_next_66 : decode cX5_next 66 = .ok (.istore_n 2, 1) := by decide +kernel
theorem dX5_next_67 : decode cX5_next 67 = .ok (.iload 5, 2) := by decide +kernel
theorem dX5_next_69 : decode cX5_next 69 = .ok (.istore_n 3, 1) := by decide +kernel
theorem dX5_next_70 : decode cX5_next 70 = .ok (.iinc 4 1, 3) := by decide +kernel
theorem dX5_next_73 : decode cX5_next 73 = .ok (.goto (-62), 3) := by decide +kernel
theorem dX5_next_76 : decode cX5_next 76 = .ok (.iload_n 2, 1) := by decide +kernel
theorem dX5_next_77 : decode cX5_next 77 = .ok (.ireturn, 1) := by decide +kernel
set_option maxRecDepth 20000 in
theorem ggX5_addWood_X5_needRange : GoodIn wsX5_addWood wsX5_needRange := goodIn_ca (goodIn_r _ [5, 6, 7] (by decide +kernel) (by decide +kernel)) (goodIn_sub (fun _ h => List.mem_cons_of_mem _ (List.mem_append_right _ h)) (by decide +kernel))
set_option maxRecDepth 20000 in
theorem gX5_addWood_X5_needRange : GoodIn wsX5_addWood (va_wsS RX5 72 yX5_needRange wsX5_needRange) := goodIn_app (goodIn_of _ (by decide +kernel)) ggX5_addWood_X5_needRange
theorem dX5_addWood_0 : decode cX5_addWood 0 = .ok (.iload_n 1, 1) := by decide +kernel
theorem dX5_addWood_1 : decode cX5_addWood 1 = .ok (.iconst 0, 1) := by decide +kernel
theorem dX5_addWood_2 : decode cX5_addWood 2 = .ok (.iconst 3, 1) := by decide +kernel
theorem dX5_addWood_3 : decode cX5_addWood 3 = .ok (.invokestatic 72, 3) := by decide +kernel
theorem dX5_addWood_6 : decode cX5_addWood 6 = .ok (.iload_n 2, 1) := by decide +kernel
theorem dX5_addWood_7 : decode cX5_addWood 7 = .ok (.iconst 1, 1) := by decide +kernel
theorem dX5_addWood_8 : decode cX5_addWood 8 = .ok (.bipush 20, 2) := by decide +kernel
theorem dX5_addWood_10 : decode cX5_addWood 10 = .ok (.invokestatic 72, 3) := by decide +kernel
theorem dX5_addWood_13 : decode cX5_addWood 13 = .ok (.aload_n 0, 1) := by decide +kernel
theorem dX5_addWood_14 : decode cX5_addWood 14 = .ok (.getfield 37, 3) := by decide +kernel
theorem dX5_addWood_17 : decode cX5_addWood 17 = .ok (.iload_n 1, 1) := by decide +kernel
theorem dX5_addWood_18 : decode cX5_addWood 18 = .ok (.dup2, 1) := by decide +kernel
theorem dX5_addWood_19 : decode cX5_addWood 19 = .ok (.iaload, 1) := by decide +kernel
theorem dX5_addWood_20 : decode cX5_addWood 20 = .ok (.iload_n 2, 1) := by decide +kernel
theorem dX5_addWood_21 : decode cX5_addWood 21 = .ok (.iadd, 1) := by decide +kernel
theorem dX5_addWood_22 : decode cX5_addWood 22 = .ok (.iastore, 1) := by decide +kernel
theorem dX5_addWood_23 : decode cX5_addWood 23 = .ok (.aload_n 0, 1) := by decide +kernel
theorem dX5_addWood_24 : decode cX5_addWood 24 = .ok (.getfield 37, 3) := by decide +kernel
theorem dX5_addWood_27 : decode cX5_addWood 27 = .ok (.iload_n 1, 1) := by decide +kernel
theorem dX5_addWood_28 : decode cX5_addWood 28 = .ok (.iaload, 1) := by decide +kernel
theorem dX5_addWood_29 : decode cX5_addWood 29 = .ok (.ireturn, 1) := by decide +kernel
set_option maxRecDepth 20000 in
theorem ggX5_order_X5_needPupil : GoodIn wsX5_order wsX5_needPupil := goodIn_ca (goodIn_r _ [10, 11, 12, 9, 13, 14, 15] (by decide +kernel) (by decide +kernel)) (goodIn_sub (fun _ h => List.mem_cons_of_mem _ (List.mem_append_right _ h)) (by decide +kernel))
set_option maxRecDepth 20000 in
theorem gX5_order_X5_needPupil : GoodIn wsX5_order (va_wsS RX5 136 yX5_needPupil wsX5_needPupil) := goodIn_app (goodIn_of _ (by decide +kernel)) ggX5_order_X5_needPupil
set_option maxRecDepth 20000 in
theorem ggX5_order_X5_needRange : GoodIn wsX5_order wsX5_needRange := goodIn_ca (goodIn_r _ [13, 14, 15] (by decide +kernel) (by decide +kernel)) (goodIn_sub (fun _ h => List.mem_cons_of_mem _ (List.mem_append_right _ h)) (by decide +kernel))
set_option maxRecDepth 20000 in
theorem gX5_order_X5_needRange : GoodIn wsX5_order (va_wsS RX5 72 yX5_needRange wsX5_needRange) := goodIn_app (goodIn_of _ (by decide +kernel)) ggX5_order_X5_needRange
set_option maxRecDepth 20000 in
theorem ggX5_order_X5_ordersAtWork : GoodIn wsX5_order wsX5_ordersAtWork := goodIn_r _ [19, 4, 5, 20, 6, 21, 22, 23, 24, 25, 26, 33, 34, 35, 36, 37, 38, 39, 40, 41, 42, 43, 44, 45, 46] (by decide +kernel) (by decide +kernel)
set_option maxRecDepth 20000 in
theorem gX5_order_X5_ordersAtWork : GoodIn wsX5_order (wsV RX5 164 RX5 yX5_ordersAtWork wsX5_ordersAtWork) := goodIn_app (goodIn_of _ (by decide +kernel)) ggX5_order_X5_ordersAtWork
set_option maxRecDepth 20000 in
theorem ggX5_order_X2_place : GoodIn wsX5_order wsX2_place := goodIn_r _ [30, 31, 32, 26, 43, 44, 45, 46] (by decide +kernel) (by decide +kernel)
set_option maxRecDepth 20000 in
theorem gX5_order_X2_place : GoodIn wsX5_order (wsV RX5 172 RX2 yX2_place wsX2_place) := goodIn_app (goodIn_of _ (by decide +kernel)) ggX5_order_X2_place
theorem dX5_order_0 : decode cX5_order 0 = .ok (.iload_n 1, 1) := by decide +kernel
theorem dX5_order_1 : decode cX5_order 1 = .ok (.invokestatic 136, 3) := by decide +kernel
theorem dX5_order_4 : decode cX5_order 4 = .ok (.iload_n 2, 1) := by decide +kernel
theorem dX5_order_5 : decode cX5_order 5 = .ok (.iconst 0, 1) := by decide +kernel
theorem dX5_order_6 : decode cX5_order 6 = .ok (.iconst 3, 1) := by decide +kernel
theorem dX5_order_7 : decode cX5_order 7 = .ok (.invokestatic 72, 3) := by decide +kernel
theorem dX5_order_10 : decode cX5_order 10 = .ok (.iload_n 3, 1) := by decide +kernel
theorem dX5_order_11 : decode cX5_order 11 = .ok (.iconst 4, 1) := by decide +kernel
theorem dX5_order_12 : decode cX5_order 12 = .ok (.bipush 16, 2) := by decide +kernel
theorem dX5_order_14 : decode cX5_order 14 = .ok (.invokestatic 72, 3) := by decide +kernel
theorem dX5_order_17 : decode cX5_order 17 = .ok (.aload_n 0, 1) := by decide +kernel
theorem dX5_order_18 : decode cX5_order 18 = .ok (.getfield 37, 3) := by decide +kernel
theorem dX5_order_21 : decode cX5_order 21 = .ok (.iload_n 2, 1) := by decide +kernel
theorem dX5_order_22 : decode cX5_order 22 = .ok (.iaload, 1) := by decide +kernel
theorem dX5_order_23 : decode cX5_order 23 = .ok (.iconst 3, 1) := by decide +kernel
theorem dX5_order_24 : decode cX5_order 24 = .ok (.if_icmp .ge 13, 3) := by decide +kernel
theorem dX5_order_27 : decode cX5_order 27 = .ok (.new 61, 3) := by decide +kernel
theorem dX5_order_30 : decode cX5_order 30 = .ok (.dup, 1) := by decide +kernel
theorem dX5_order_31 : decode cX5_order 31 = .ok (.ldc 162, 2) := by decide +kernel
theorem dX5_order_33 : decode cX5_order 33 = .ok (.invokespecial 65, 3) := by decide +kernel
theorem dX5_order_36 : decode cX5_order 36 = .ok (.athrow, 1) := by decide +kernel
theorem dX5_order_37 : decode cX5_order 37 = .ok (.aload_n 0, 1) := by decide +kernel
theorem dX5_order_38 : decode cX5_order 38 = .ok (.invokevirtual 164, 3) := by decide +kernel
theorem dX5_order_41 : decode cX5_order 41 = .ok (.iconst 2, 1) := by decide +kernel
theorem dX5_order_42 : decode cX5_order 42 = .ok (.if_icmp .lt 13, 3) := by decide +kernel
theorem dX5_order_45 : decode cX5_order 45 = .ok (.new 61, 3) := by decide +kernel
theorem dX5_order_48 : decode cX5_order 48 = .ok (.dup, 1) := by decide +kernel
theorem dX5_order_49 : decode cX5_order 49 = .ok (.ldc 168, 2) := by decide +kernel
theorem dX5_order_51 : decode cX5_order 51 = .ok (.invokespecial 65, 3) := by decide +kernel
theorem dX5_order_54 : decode cX5_order 54 = .ok (.athrow, 1) := by decide +kernel
theorem dX5_order_55 : decode cX5_order 55 = .ok (.aload_n 0, 1) := by decide +kernel
theorem dX5_order_56 : decode cX5_order 56 = .ok (.getfield 55, 3) := by decide +kernel
theorem dX5_order_59 : decode cX5_order 59 = .ok (.bipush 20, 2) := by decide +kernel
theorem dX5_order_61 : decode cX5_order 61 = .ok (.if_icmp .lt 13, 3) := by decide +kernel
theorem dX5_order_64 : decode cX5_order 64 = .ok (.new 61, 3) := by decide +kernel
theorem dX5_order_67 : decode cX5_order 67 = .ok (.dup, 1) := by decide +kernel
theorem dX5_order_68 : decode cX5_order 68 = .ok (.ldc 170, 2) := by decide +kernel
theorem dX5_order_70 : decode cX5_order 70 = .ok (.invokespecial 65, 3) := by decide +kernel
theorem dX5_order_73 : decode cX5_order 73 = .ok (.athrow, 1) := by decide +kernel
theorem dX5_order_74 : decode cX5_order 74 = .ok (.aload_n 0, 1) := by decide +kernel
theorem dX5_order_75 : decode cX5_order 75 = .ok (.getfield 37, 3) := by decide +kernel
theorem dX5_order_78 : decode cX5_order 78 = .ok (.iload_n 2, 1) := by decide +kernel
theorem dX5_order_79 : decode cX5_order 79 = .ok (.dup2, 1) := by decide +kernel
theorem dX5_order_80 : decode cX5_order 80 = .ok (.iaload, 1) := by decide +kernel
theorem dX5_order_81 : decode cX5_order 81 = .ok (.iconst 3, 1) := by decide +kernel
theorem dX5_order_82 : decode cX5_order 82 = .ok (.isub, 1) := by decide +kernel
theorem dX5_order_83 : decode cX5_order 83 = .ok (.iastore, 1) := by decide +kernel
theorem dX5_order_84 : decode cX5_order 84 = .ok (.aload_n 0, 1) := by decide +kernel
theorem dX5_order_85 : decode cX5_order 85 = .ok (.getfield 55, 3) := by decide +kernel
theorem dX5_order_88 : decode cX5_order 88 = .ok (.istore 4, 2) := by decide +kernel
theorem dX5_order_90 : decode cX5_order 90 = .ok (.aload_n 0, 1) := by decide +kernel
theorem dX5_order_91 : decode cX5_order 91 = .ok (.getfield 32, 3) := by decide +kernel
theorem dX5_order_94 : decode cX5_order 94 = .ok (.iload 4, 2) := by decide +kernel
theorem dX5_order_96 : decode cX5_order 96 = .ok (.aaload, 1) := by decide +kernel
theorem dX5_order_97 : decode cX5_order 97 = .ok (.iload_n 1, 1) := by decide +kernel
theorem dX5_order_98 : decode cX5_order 98 = .ok (.iload_n 3, 1) := by decide +kernel
theorem dX5_order_99 : decode cX5_order 99 = .ok (.aload_n 0, 1) := by decide +kernel
theorem dX5_order_100 : decode cX5_order 100 = .ok (.getfield 58, 3) := by decide +kernel
theorem dX5_order_103 : decode cX5_order 103 = .ok (.iconst 2, 1) := by decide +kernel
theorem dX5_order_104 : decode cX5_order 104 = .ok (.iload_n 3, 1) := by decide +kernel
theorem dX5_order_105 : decode cX5_order 105 = .ok (.imul, 1) := by decide +kernel
theorem dX5_order_106 : decode cX5_order 106 = .ok (.iadd, 1) := by decide +kernel
theorem dX5_order_107 : decode cX5_order 107 = .ok (.invokevirtual 172, 3) := by decide +kernel
theorem dX5_order_110 : decode cX5_order 110 = .ok (.aload_n 0, 1) := by decide +kernel
theorem dX5_order_111 : decode cX5_order 111 = .ok (.dup, 1) := by decide +kernel
theorem dX5_order_112 : decode cX5_order 112 = .ok (.getfield 55, 3) := by decide +kernel
theorem dX5_order_115 : decode cX5_order 115 = .ok (.iconst 1, 1) := by decide +kernel
theorem dX5_order_116 : decode cX5_order 116 = .ok (.iadd, 1) := by decide +kernel
theorem dX5_order_117 : decode cX5_order 117 = .ok (.putfield 55, 3) := by decide +kernel
theorem dX5_order_120 : decode cX5_order 120 = .ok (.iload 4, 2) := by decide +kernel
theorem dX5_order_122 : decode cX5_order 122 = .ok (.ireturn, 1) := by decide +kernel
set_option maxRecDepth 20000 in
theorem ggX5_ready_X5_needOrder : GoodIn wsX5_ready wsX5_needOrder := goodIn_ca (goodIn_r _ [7, 8, 9, 10, 11, 12, 13, 14, 15, 16, 17, 18, 19, 20] (by decide +kernel) (by decide +kernel)) (goodIn_sub (fun _ h => List.mem_cons_of_mem _ (List.mem_append_right _ h)) (by decide +kernel))
set_option maxRecDepth 20000 in
theorem gX5_ready_X5_needOrder : GoodIn wsX5_ready (wsV RX5 175 RX5 yX5_needOrder wsX5_needOrder) := goodIn_app (goodIn_of _ (by decide +kernel)) ggX5_ready_X5_needOrder
theorem dX5_ready_0 : decode cX5_ready 0 = .ok (.aload_n 0, 1) := by decide +kernel
theorem dX5_ready_1 : decode cX5_ready 1 = .ok (.iload_n 1, 1) := by decide +kernel
theorem dX5_ready_2 : decode cX5_ready 2 = .ok (.invokevirtual 175, 3) := by decide +kernel
theorem dX5_ready_5 : decode cX5_ready 5 = .ok (.aload_n 0, 1) := by decide +kernel
theorem dX5_ready_6 : decode cX5_ready 6 = .ok (.getfield 32, 3) := by decide +kernel
theorem dX5_ready_9 : decode cX5_ready 9 = .ok (.iload_n 1, 1) := by decide +kernel
theorem dX5_ready_10 : decode cX5_ready 10 = .ok (.aaload, 1) := by decide +kernel
theorem dX5_ready_11 : decode cX5_ready 11 = .ok (.getfield 178, 3) := by decide +kernel
theorem dX5_ready_14 : decode cX5_ready 14 = .ok (.ireturn, 1) := by decide +kernel
set_option maxRecDepth 20000 in
theorem ggX5_fetch_X5_needOrder : GoodIn wsX5_fetch wsX5_needOrder := goodIn_ca (goodIn_r _ [14, 15, 16, 17, 41, 42, 43, 44, 45, 46, 47, 48, 49, 50] (by decide +kernel) (by decide +kernel)) (goodIn_sub (fun _ h => List.mem_cons_of_mem _ (List.mem_append_left _ (List.mem_append_right _ h))) (by decide +kernel))
set_option maxRecDepth 20000 in
theorem gX5_fetch_X5_needOrder : GoodIn wsX5_fetch (wsV RX5 175 RX5 yX5_needOrder wsX5_needOrder) := goodIn_app (goodIn_of _ (by decide +kernel)) ggX5_fetch_X5_needOrder
set_option maxRecDepth 20000 in
theorem ggX5_fetch_X5_needRange : GoodIn wsX5_fetch wsX5_needRange := goodIn_ca (goodIn_r _ [20, 21, 22] (by decide +kernel) (by decide +kernel)) (goodIn_sub (fun _ h => List.mem_cons_of_mem _ (List.mem_append_right _ h)) (by decide +kernel))
set_option maxRecDepth 20000 in
theorem gX5_fetch_X5_needRange : GoodIn wsX5_fetch (va_wsS RX5 72 yX5_needRange wsX5_needRange) := goodIn_app (goodIn_of _ (by decide +kernel)) ggX5_fetch_X5_needRange
set_option maxRecDepth 20000 in
theorem ggX5_fetch_X2_isReady : GoodIn wsX5_fetch wsX2_isReady := goodIn_r _ [27, 28, 51, 52, 53, 54] (by decide +kernel) (by decide +kernel)
set_option maxRecDepth 20000 in
theorem gX5_fetch_X2_isReady : GoodIn wsX5_fetch (wsV RX5 181 RX2 yX2_isReady wsX2_isReady) := goodIn_app (goodIn_of _ (by decide +kernel)) ggX5_fetch_X2_isReady
set_option maxRecDepth 20000 in
theorem ggX5_fetch_X1_build : GoodIn wsX5_fetch wsX1_build := goodIn_r _ [33, 34, 35, 55, 56, 57] (by decide +kernel) (by decide +kernel)
set_option maxRecDepth 20000 in
theorem gX5_fetch_X1_build : GoodIn wsX5_fetch (wsV RX5 200 RX1 yX1_build wsX1_build) := goodIn_app (goodIn_of _ (by decide +kernel)) ggX5_fetch_X1_build
set_option maxRecDepth 20000 in
theorem ggX5_fetch_X1_tuneAll : GoodIn wsX5_fetch wsX1_tuneAll := goodIn_r _ [39, 40, 55, 56, 57] (by decide +kernel) (by decide +kernel)
set_option maxRecDepth 20000 in
theorem gX5_fetch_X1_tuneAll : GoodIn wsX5_fetch (wsV RX5 203 RX1 yX1_tuneAll wsX1_tuneAll) := goodIn_app (goodIn_of _ (by decide +kernel)) ggX5_fetch_X1_tuneAll
theorem dX5_fetch_0 : decode cX5_fetch 0 = .ok (.aload_n 0, 1) := by decide +kernel
theorem dX5_fetch_1 : decode cX5_fetch 1 = .ok (.iload_n 1, 1) := by decide +kernel
theorem dX5_fetch_2 : decode cX5_fetch 2 = .ok (.invokevirtual 175, 3) := by decide +kernel
theorem dX5_fetch_5 : decode cX5_fetch 5 = .ok (.iload_n 2, 1) := by decide +kernel
theorem dX5_fetch_6 : decode cX5_fetch 6 = .ok (.iconst 0, 1) := by decide +kernel
theorem dX5_fetch_7 : decode cX5_fetch 7 = .ok (.bipush 60, 2) := by decide +kernel
theorem dX5_fetch_9 : decode cX5_fetch 9 = .ok (.invokestatic 72, 3) := by decide +kernel
theorem dX5_fetch_12 : decode cX5_fetch 12 = .ok (.iload_n 3, 1) := by decide +kernel
theorem dX5_fetch_13 : decode cX5_fetch 13 = .ok (.iconst 0, 1) := by decide +kernel
theorem dX5_fetch_14 : decode cX5_fetch 14 = .ok (.bipush 60, 2) := by decide +kernel
theorem dX5_fetch_16 : decode cX5_fetch 16 = .ok (.invokestatic 72, 3) := by decide +kernel
theorem dX5_fetch_19 : decode cX5_fetch 19 = .ok (.iload 4, 2) := by decide +kernel
theorem dX5_fetch_21 : decode cX5_fetch 21 = .ok (.iconst 0, 1) := by decide +kernel
theorem dX5_fetch_22 : decode cX5_fetch 22 = .ok (.bipush 60, 2) := by decide +kernel
theorem dX5_fetch_24 : decode cX5_fetch 24 = .ok (.invokestatic 72, 3) := by decide +kernel
theorem dX5_fetch_27 : decode cX5_fetch 27 = .ok (.iload 5, 2) := by decide +kernel
theorem dX5_fetch_29 : decode cX5_fetch 29 = .ok (.iconst 0, 1) := by decide +kernel
theorem dX5_fetch_30 : decode cX5_fetch 30 = .ok (.bipush 60, 2) := by decide +kernel
theorem dX5_fetch_32 : decode cX5_fetch 32 = .ok (.invokestatic 72, 3) := by decide +kernel
theorem dX5_fetch_35 : decode cX5_fetch 35 = .ok (.aload_n 0, 1) := by decide +kernel
theorem dX5_fetch_36 : decode cX5_fetch 36 = .ok (.getfield 32, 3) := by decide +kernel
theorem dX5_fetch_39 : decode cX5_fetch 39 = .ok (.iload_n 1, 1) := by decide +kernel
theorem dX5_fetch_40 : decode cX5_fetch 40 = .ok (.aaload, 1) := by decide +kernel
theorem dX5_fetch_41 : decode cX5_fetch 41 = .ok (.astore 6, 2) := by decide +kernel
theorem dX5_fetch_43 : decode cX5_fetch 43 = .ok (.aload 6, 2) := by decide +kernel
theorem dX5_fetch_45 : decode cX5_fetch 45 = .ok (.aload_n 0, 1) := by decide +kernel
theorem dX5_fetch_46 : decode cX5_fetch 46 = .ok (.getfield 58, 3) := by decide +kernel
theorem dX5_fetch_49 : decode cX5_fetch 49 = .ok (.invokevirtual 181, 3) := by decide +kernel
theorem dX5_fetch_52 : decode cX5_fetch 52 = .ok (.ifCond .ne 13, 3) := by decide +kernel
theorem dX5_fetch_55 : decode cX5_fetch 55 = .ok (.new 61, 3) := by decide +kernel
theorem dX5_fetch_58 : decode cX5_fetch 58 = .ok (.dup, 1) := by decide +kernel
theorem dX5_fetch_59 : decode cX5_fetch 59 = .ok (.ldc 184, 2) := by decide +kernel
theorem dX5_fetch_61 : decode cX5_fetch 61 = .ok (.invokespecial 65, 3) := by decide +kernel
theorem dX5_fetch_64 : decode cX5_fetch 64 = .ok (.athrow, 1) := by decide +kernel
theorem dX5_fetch_65 : decode cX5_fetch 65 = .ok (.aload 6, 2) := by decide +kernel
theorem dX5_fetch_67 : decode cX5_fetch 67 = .ok (.getfield 186, 3) := by decide +kernel
theorem dX5_fetch_70 : decode cX5_fetch 70 = .ok (.ifCond .eq 13, 3) := by decide +kernel
theorem dX5_fetch_73 : decode cX5_fetch 73 = .ok (.new 61, 3) := by decide +kernel
theorem dX5_fetch_76 : decode cX5_fetch 76 = .ok (.dup, 1) := by decide +kernel
theorem dX5_fetch_77 : decode cX5_fetch 77 = .ok (.ldc 190, 2) := by decide +kernel
theorem dX5_fetch_79 : decode cX5_fetch 79 = .ok (.invokespecial 65, 3) := by decide +kernel
theorem dX5_fetch_82 : decode cX5_fetch 82 = .ok (.athrow, 1) := by decide +kernel
theorem dX5_fetch_83 : decode cX5_fetch 83 = .ok (.aload_n 0, 1) := by decide +kernel
theorem dX5_fetch_84 : decode cX5_fetch 84 = .ok (.getfield 52, 3) := by decide +kernel
theorem dX5_fetch_87 : decode cX5_fetch 87 = .ok (.bipush 8, 2) := by decide +kernel
theorem dX5_fetch_89 : decode cX5_fetch 89 = .ok (.if_icmp .lt 13, 3) := by decide +kernel
theorem dX5_fetch_92 : decode cX5_fetch 92 = .ok (.new 61, 3) := by decide +kernel
theorem dX5_fetch_95 : decode cX5_fetch 95 = .ok (.dup, 1) := by decide +kernel
theorem dX5_fetch_96 : decode cX5_fetch 96 = .ok (.ldc 192, 2) := by decide +kernel
theorem dX5_fetch_98 : decode cX5_fetch 98 = .ok (.invokespecial 65, 3) := by decide +kernel
theorem dX5_fetch_101 : decode cX5_fetch 101 = .ok (.athrow, 1) := by decide +kernel
theorem dX5_fetch_102 : decode cX5_fetch 102 = .ok (.aload 6, 2) := by decide +kernel
theorem dX5_fetch_104 : decode cX5_fetch 104 = .ok (.iconst 1, 1) := by decide +kernel
theorem dX5_fetch_105 : decode cX5_fetch 105 = .ok (.putfield 186, 3) := by decide +kernel
theorem dX5_fetch_108 : decode cX5_fetch 108 = .ok (.aload_n 0, 1) := by decide +kernel
theorem dX5_fetch_109 : decode cX5_fetch 109 = .ok (.getfield 52, 3) := by decide +kernel
theorem dX5_fetch_112 : decode cX5_fetch 112 = .ok (.istore 7, 2) := by decide +kernel
theorem dX5_fetch_114 : decode cX5_fetch 114 = .ok (.aload_n 0, 1) := by decide +kernel
theorem dX5_fetch_115 : decode cX5_fetch 115 = .ok (.getfield 18, 3) := by decide +kernel
theorem dX5_fetch_118 : decode cX5_fetch 118 = .ok (.iload 7, 2) := by decide +kernel
theorem dX5_fetch_120 : decode cX5_fetch 120 = .ok (.aaload, 1) := by decide +kernel
theorem dX5_fetch_121 : decode cX5_fetch 121 = .ok (.aload 6, 2) := by decide +kernel
theorem dX5_fetch_123 : decode cX5_fetch 123 = .ok (.getfield 194, 3) := by decide +kernel
theorem dX5_fetch_126 : decode cX5_fetch 126 = .ok (.aload 6, 2) := by decide +kernel
theorem dX5_fetch_128 : decode cX5_fetch 128 = .ok (.getfield 197, 3) := by decide +kernel
theorem dX5_fetch_131 : decode cX5_fetch 131 = .ok (.invokevirtual 200, 3) := by decide +kernel
theorem dX5_fetch_134 : decode cX5_fetch 134 = .ok (.aload_n 0, 1) := by decide +kernel
theorem dX5_fetch_135 : decode cX5_fetch 135 = .ok (.getfield 18, 3) := by decide +kernel
theorem dX5_fetch_138 : decode cX5_fetch 138 = .ok (.iload 7, 2) := by decide +kernel
theorem dX5_fetch_140 : decode cX5_fetch 140 = .ok (.aaload, 1) := by decide +kernel
theorem dX5_fetch_141 : decode cX5_fetch 141 = .ok (.iload_n 2, 1) := by decide +kernel
theorem dX5_fetch_142 : decode cX5_fetch 142 = .ok (.iload_n 3, 1) := by decide +kernel
theorem dX5_fetch_143 : decode cX5_fetch 143 = .ok (.iload 4, 2) := by decide +kernel
theorem dX5_fetch_145 : decode cX5_fetch 145 = .ok (.iload 5, 2) := by decide +kernel
theorem dX5_fetch_147 : decode cX5_fetch 147 = .ok (.invokevirtual 203, 3) := by decide +kernel
theorem dX5_fetch_150 : decode cX5_fetch 150 = .ok (.aload_n 0, 1) := by decide +kernel
theorem dX5_fetch_151 : decode cX5_fetch 151 = .ok (.dup, 1) := by decide +kernel
theorem dX5_fetch_152 : decode cX5_fetch 152 = .ok (.getfield 52, 3) := by decide +kernel
theorem dX5_fetch_155 : decode cX5_fetch 155 = .ok (.iconst 1, 1) := by decide +kernel
theorem dX5_fetch_156 : decode cX5_fetch 156 = .ok (.iadd, 1) := by decide +kernel
theorem dX5_fetch_157 : decode cX5_fetch 157 = .ok (.putfield 52, 3) := by decide +kernel
theorem dX5_fetch_160 : decode cX5_fetch 160 = .ok (.iload 7, 2) := by decide +kernel
theorem dX5_fetch_162 : decode cX5_fetch 162 = .ok (.ireturn, 1) := by decide +kernel
set_option maxRecDepth 20000 in
theorem ggX5_pass_X5_needRange : GoodIn wsX5_pass wsX5_needRange := goodIn_ca (goodIn_r _ [7, 8, 9] (by decide +kernel) (by decide +kernel)) (goodIn_sub (fun _ h => List.mem_cons_of_mem _ (List.mem_append_right _ h)) (by decide +kernel))
set_option maxRecDepth 20000 in
theorem gX5_pass_X5_needRange : GoodIn wsX5_pass (va_wsS RX5 72 yX5_needRange wsX5_needRange) := goodIn_app (goodIn_of _ (by decide +kernel)) ggX5_pass_X5_needRange
theorem dX5_pass_0 : decode cX5_pass 0 = .ok (.iload_n 1, 1) := by decide +kernel
theorem dX5_pass_1 : decode cX5_pass 1 = .ok (.iconst 1, 1) := by decide +kernel
theorem dX5_pass_2 : decode cX5_pass 2 = .ok (.bipush 100, 2) := by decide +kernel
theorem dX5_pass_4 : decode cX5_pass 4 = .ok (.invokestatic 72, 3) := by decide +kernel
theorem dX5_pass_7 : decode cX5_pass 7 = .ok (.aload_n 0, 1) := by decide +kernel
theorem dX5_pass_8 : decode cX5_pass 8 = .ok (.getfield 58, 3) := by decide +kernel
theorem dX5_pass_11 : decode cX5_pass 11 = .ok (.iload_n 1, 1) := by decide +kernel
theorem dX5_pass_12 : decode cX5_pass 12 = .ok (.iadd, 1) := by decide +kernel
theorem dX5_pass_13 : decode cX5_pass 13 = .ok (.sipush 5000, 3) := by decide +kernel
theorem dX5_pass_16 : decode cX5_pass 16 = .ok (.if_icmp .le 13, 3) := by decide +kernel
theorem dX5_pass_19 : decode cX5_pass 19 = .ok (.new 61, 3) := by decide +kernel
theorem dX5_pass_22 : decode cX5_pass 22 = .ok (.dup, 1) := by decide +kernel
theorem dX5_pass_23 : decode cX5_pass 23 = .ok (.ldc 207, 2) := by decide +kernel
theorem dX5_pass_25 : decode cX5_pass 25 = .ok (.invokespecial 65, 3) := by decide +kernel
theorem dX5_pass_28 : decode cX5_pass 28 = .ok (.athrow, 1) := by decide +kernel
theorem dX5_pass_29 : decode cX5_pass 29 = .ok (.aload_n 0, 1) := by decide +kernel
theorem dX5_pass_30 : decode cX5_pass 30 = .ok (.dup, 1) := by decide +kernel
theorem dX5_pass_31 : decode cX5_pass 31 = .ok (.getfield 58, 3) := by decide +kernel
theorem dX5_pass_34 : decode cX5_pass 34 = .ok (.iload_n 1, 1) := by decide +kernel
theorem dX5_pass_35 : decode cX5_pass 35 = .ok (.iadd, 1) := by decide +kernel
theorem dX5_pass_36 : decode cX5_pass 36 = .ok (.putfield 58, 3) := by decide +kernel
theorem dX5_pass_39 : decode cX5_pass 39 = .ok (.aload_n 0, 1) := by decide +kernel
theorem dX5_pass_40 : decode cX5_pass 40 = .ok (.getfield 58, 3) := by decide +kernel
theorem dX5_pass_43 : decode cX5_pass 43 = .ok (.ireturn, 1) := by decide +kernel
theorem dX5_today_0 : decode cX5_today 0 = .ok (.aload_n 0, 1) := by decide +kernel
theorem dX5_today_1 : decode cX5_today 1 = .ok (.getfield 58, 3) := by decide +kernel
theorem dX5_today_4 : decode cX5_today 4 = .ok (.ireturn, 1) := by decide +kernel
theorem dX5_needPiece_0 : decode cX5_needPiece 0 = .ok (.iload_n 1, 1) := by decide +kernel
theorem dX5_needPiece_1 : decode cX5_needPiece 1 = .ok (.ifCond .lt 11, 3) := by decide +kernel
theorem dX5_needPiece_4 : decode cX5_needPiece 4 = .ok (.iload_n 1, 1) := by decide +kernel
theorem dX5_needPiece_5 : decode cX5_needPiece 5 = .ok (.aload_n 0, 1) := by decide +kernel
theorem dX5_needPiece_6 : decode cX5_needPiece 6 = .ok (.getfield 48, 3) := by decide +kernel
theorem dX5_needPiece_9 : decode cX5_needPiece 9 = .ok (.if_icmp .lt 13, 3) := by decide +kernel
theorem dX5_needPiece_12 : decode cX5_needPiece 12 = .ok (.new 209, 3) := by decide +kernel
theorem dX5_needPiece_15 : decode cX5_needPiece 15 = .ok (.dup, 1) := by decide +kernel
theorem dX5_needPiece_16 : decode cX5_needPiece 16 = .ok (.ldc 211, 2) := by decide +kernel
theorem dX5_needPiece_18 : decode cX5_needPiece 18 = .ok (.invokespecial 213, 3) := by decide +kernel
theorem dX5_needPiece_21 : decode cX5_needPiece 21 = .ok (.athrow, 1) := by decide +kernel
theorem dX5_needPiece_22 : decode cX5_needPiece 22 = .ok (.return_, 1) := by decide +kernel
set_option maxRecDepth 20000 in
theorem ggX5_needNote_X5_needPiece : GoodIn wsX5_needNote wsX5_needPiece := goodIn_ca (goodIn_r _ [9, 1, 2, 10, 11, 12, 13, 14, 15, 16, 17, 18, 19, 20] (by decide +kernel) (by decide +kernel)) (goodIn_sub (fun _ h => List.mem_cons_of_mem _ (List.mem_append_right _ h)) (by decide +kernel))
set_option maxRecDepth 20000 in
theorem gX5_needNote_X5_needPiece : GoodIn wsX5_needNote (wsV RX5 68 RX5 yX5_needPiece wsX5_needPiece) := goodIn_app (goodIn_of _ (by decide +kernel)) ggX5_needNote_X5_needPiece
theorem dX5_needNote_0 : decode cX5_needNote 0 = .ok (.aload_n 0, 1) := by decide +kernel
theorem dX5_needNote_1 : decode cX5_needNote 1 = .ok (.iload_n 1, 1) := by decide +kernel
theorem dX5_needNote_2 : decode cX5_needNote 2 = .ok (.invokevirtual 68, 3) := by decide +kernel
theorem dX5_needNote_5 : decode cX5_needNote 5 = .ok (.iload_n 2, 1) := by decide +kernel
theorem dX5_needNote_6 : decode cX5_needNote 6 = .ok (.ifCond .lt 16, 3) := by decide +kernel
theorem dX5_needNote_9 : decode cX5_needNote 9 = .ok (.iload_n 2, 1) := by decide +kernel
theorem dX5_needNote_10 : decode cX5_needNote 10 = .ok (.aload_n 0, 1) := by decide +kernel
theorem dX5_needNote_11 : decode cX5_needNote 11 = .ok (.getfield 11, 3) := by decide +kernel
theorem dX5_needNote_14 : decode cX5_needNote 14 = .ok (.iload_n 1, 1) := by decide +kernel
theorem dX5_needNote_15 : decode cX5_needNote 15 = .ok (.aaload, 1) := by decide +kernel
theorem dX5_needNote_16 : decode cX5_needNote 16 = .ok (.getfield 85, 3) := by decide +kernel
theorem dX5_needNote_19 : decode cX5_needNote 19 = .ok (.if_icmp .lt 13, 3) := by decide +kernel
theorem dX5_needNote_22 : decode cX5_needNote 22 = .ok (.new 209, 3) := by decide +kernel
theorem dX5_needNote_25 : decode cX5_needNote 25 = .ok (.dup, 1) := by decide +kernel
theorem dX5_needNote_26 : decode cX5_needNote 26 = .ok (.ldc 214, 2) := by decide +kernel
theorem dX5_needNote_28 : decode cX5_needNote 28 = .ok (.invokespecial 213, 3) := by decide +kernel
theorem dX5_needNote_31 : decode cX5_needNote 31 = .ok (.athrow, 1) := by decide +kernel
theorem dX5_needNote_32 : decode cX5_needNote 32 = .ok (.return_, 1) := by decide +kernel
theorem dX5_needInstrument_0 : decode cX5_needInstrument 0 = .ok (.iload_n 1, 1) := by decide +kernel
theorem dX5_needInstrument_1 : decode cX5_needInstrument 1 = .ok (.ifCond .lt 11, 3) := by decide +kernel
theorem dX5_needInstrument_4 : decode cX5_needInstrument 4 = .ok (.iload_n 1, 1) := by decide +kernel
theorem dX5_needInstrument_5 : decode cX5_needInstrument 5 = .ok (.aload_n 0, 1) := by decide +kernel
theorem dX5_needInstrument_6 : decode cX5_needInstrument 6 = .ok (.getfield 52, 3) := by decide +kernel
theorem dX5_needInstrument_9 : decode cX5_needInstrument 9 = .ok (.if_icmp .lt 13, 3) := by decide +kernel
theorem dX5_needInstrument_12 : decode cX5_needInstrument 12 = .ok (.new 209, 3) := by decide +kernel
theorem dX5_needInstrument_15 : decode cX5_needInstrument 15 = .ok (.dup, 1) := by decide +kernel
theorem dX5_needInstrument_16 : decode cX5_needInstrument 16 = .ok (.ldc 216, 2) := by decide +kernel
theorem dX5_needInstrument_18 : decode cX5_needInstrument 18 = .ok (.invokespecial 213, 3) := by decide +kernel
theorem dX5_needInstrument_21 : decode cX5_needInstrument 21 = .ok (.athrow, 1) := by decide +kernel
theorem dX5_needInstrument_22 : decode cX5_needInstrument 22 = .ok (.return_, 1) := by decide +kernel
theorem dX5_needOrder_0 : decode cX5_needOrder 0 = .ok (.iload_n 1, 1) := by decide +kernel
theorem dX5_needOrder_1 : decode cX5_needOrder 1 = .ok (.ifCond .lt 11, 3) := by decide +kernel
theorem dX5_needOrder_4 : decode cX5_needOrder 4 = .ok (.iload_n 1, 1) := by decide +kernel
theorem dX5_needOrder_5 : decode cX5_needOrder 5 = .ok (.aload_n 0, 1) := by decide +kernel
theorem dX5_needOrder_6 : decode cX5_needOrder 6 = .ok (.getfield 55, 3) := by decide +kernel
theorem dX5_needOrder_9 : decode cX5_needOrder 9 = .ok (.if_icmp .lt 13, 3) := by decide +kernel
theorem dX5_needOrder_12 : decode cX5_needOrder 12 = .ok (.new 209, 3) := by decide +kernel
theorem dX5_needOrder_15 : decode cX5_needOrder 15 = .ok (.dup, 1) := by decide +kernel
theorem dX5_needOrder_16 : decode cX5_needOrder 16 = .ok (.ldc 218, 2) := by decide +kernel
theorem dX5_needOrder_18 : decode cX5_needOrder 18 = .ok (.invokespecial 213, 3) := by decide +kernel
theorem dX5_needOrder_21 : decode cX5_needOrder 21 = .ok (.athrow, 1) := by decide +kernel
theorem dX5_needOrder_22 : decode cX5_needOrder 22 = .ok (.return_, 1) := by decide +kernel
set_option maxRecDepth 20000 in
theorem ggX5_needPupil_X5_needRange : GoodIn wsX5_needPupil wsX5_needRange := goodIn_ca (goodIn_r _ [4, 5, 6] (by decide +kernel) (by decide +kernel)) (goodIn_sub (fun _ h => List.mem_cons_of_mem _ (List.mem_append_right _ h)) (by decide +kernel))
set_option maxRecDepth 20000 in
theorem gX5_needPupil_X5_needRange : GoodIn wsX5_needPupil (va_wsS RX5 72 yX5_needRange wsX5_needRange) := goodIn_app (goodIn_of _ (by decide +kernel)) ggX5_needPupil_X5_needRange
theorem dX5_needPupil_0 : decode cX5_needPupil 0 = .ok (.iload_n 0, 1) := by decide +kernel
theorem dX5_needPupil_1 : decode cX5_needPupil 1 = .ok (.iconst 0, 1) := by decide +kernel
theorem dX5_needPupil_2 : decode cX5_needPupil 2 = .ok (.iconst 4, 1) := by decide +kernel
theorem dX5_needPupil_3 : decode cX5_needPupil 3 = .ok (.invokestatic 72, 3) := by decide +kernel
theorem dX5_needPupil_6 : decode cX5_needPupil 6 = .ok (.return_, 1) := by decide +kernel
theorem dX5_needRange_0 : decode cX5_needRange 0 = .ok (.iload_n 0, 1) := by decide +kernel
theorem dX5_needRange_1 : decode cX5_needRange 1 = .ok (.iload_n 1, 1) := by decide +kernel
theorem dX5_needRange_2 : decode cX5_needRange 2 = .ok (.if_icmp .lt 8, 3) := by decide +kernel
theorem dX5_needRange_5 : decode cX5_needRange 5 = .ok (.iload_n 0, 1) := by decide +kernel
theorem dX5_needRange_6 : decode cX5_needRange 6 = .ok (.iload_n 2, 1) := by decide +kernel
theorem dX5_needRange_7 : decode cX5_needRange 7 = .ok (.if_icmp .le 13, 3) := by decide +kernel
theorem dX5_needRange_10 : decode cX5_needRange 10 = .ok (.new 220, 3) := by decide +kernel
theorem dX5_needRange_13 : decode cX5_needRange 13 = .ok (.dup, 1) := by decide +kernel
theorem dX5_needRange_14 : decode cX5_needRange 14 = .ok (.ldc 222, 2) := by decide +kernel
theorem dX5_needRange_16 : decode cX5_needRange 16 = .ok (.invokespecial 224, 3) := by decide +kernel
theorem dX5_needRange_19 : decode cX5_needRange 19 = .ok (.athrow, 1) := by decide +kernel
theorem dX5_needRange_20 : decode cX5_needRange 20 = .ok (.return_, 1) := by decide +kernel
set_option maxRecDepth 20000 in
theorem ggX5_findBest_X5_needPiece : GoodIn wsX5_findBest wsX5_needPiece := goodIn_ca (goodIn_r _ [8, 9, 10, 11, 67, 68, 69, 70, 71, 72, 73, 74, 75, 76] (by decide +kernel) (by decide +kernel)) (goodIn_sub (fun _ h => List.mem_cons_of_mem _ (List.mem_append_right _ h)) (by decide +kernel))
set_option maxRecDepth 20000 in
theorem gX5_findBest_X5_needPiece : GoodIn wsX5_findBest (wsV RX5 68 RX5 yX5_needPiece wsX5_needPiece) := goodIn_app (goodIn_of _ (by decide +kernel)) ggX5_findBest_X5_needPiece
set_option maxRecDepth 20000 in
theorem ggX5_findBest_X5_needInstrument : GoodIn wsX5_findBest wsX5_needInstrument := goodIn_ca (goodIn_r _ [15, 9, 10, 16, 67, 68, 69, 70, 71, 72, 73, 74, 75, 76] (by decide +kernel) (by decide +kernel)) (goodIn_sub (fun _ h => List.mem_cons_of_mem _ (List.mem_append_right _ h)) (by decide +kernel))
set_option maxRecDepth 20000 in
theorem gX5_findBest_X5_needInstrument : GoodIn wsX5_findBest (wsV RX5 104 RX5 yX5_needInstrument wsX5_needInstrument) := goodIn_app (goodIn_of _ (by decide +kernel)) ggX5_findBest_X5_needInstrument
set_option maxRecDepth 20000 in
theorem ggX5_findBest_X0_placeBest : GoodIn wsX5_findBest wsX0_placeBest := goodIn_r _ [21, 22, 23, 24, 25, 20, 26, 27, 28, 29, 30, 31, 32, 33, 34, 35, 36, 37, 38, 39, 40, 41, 42, 43, 44, 45, 46, 47, 48, 49, 50, 51, 52, 53, 54, 55, 56, 57, 58, 59, 60, 61, 62, 63, 64, 65, 66, 77, 78, 79, 80, 81, 82, 83, 84, 85, 86] (by decide +kernel) (by decide +kernel)
set_option maxRecDepth 20000 in
theorem gX5_findBest_X0_placeBest : GoodIn wsX5_findBest (wsV RX5 225 RX0 yX0_placeBest wsX0_placeBest) := goodIn_app (goodIn_of _ (by decide +kernel)) ggX5_findBest_X0_placeBest
theorem dX5_findBest_0 : decode cX5_findBest 0 = .ok (.aload_n 0, 1) := by decide +kernel
theorem dX5_findBest_1 : decode cX5_findBest 1 = .ok (.iload_n 1, 1) := by decide +kernel
theorem dX5_findBest_2 : decode cX5_findBest 2 = .ok (.invokevirtual 68, 3) := by decide +kernel
theorem dX5_findBest_5 : decode cX5_findBest 5 = .ok (.aload_n 0, 1) := by decide +kernel
theorem dX5_findBest_6 : decode cX5_findBest 6 = .ok (.iload_n 2, 1) := by decide +kernel
theorem dX5_findBest_7 : decode cX5_findBest 7 = .ok (.invokevirtual 104, 3) := by decide +kernel
theorem dX5_findBest_10 : decode cX5_findBest 10 = .ok (.aload_n 0, 1) := by decide +kernel
theorem dX5_findBest_11 : decode cX5_findBest 11 = .ok (.getfield 44, 3) := by decide +kernel
theorem dX5_findBest_14 : decode cX5_findBest 14 = .ok (.aload_n 0, 1) := by decide +kernel
theorem dX5_findBest_15 : decode cX5_findBest 15 = .ok (.getfield 11, 3) := by decide +kernel
theorem dX5_findBest_18 : decode cX5_findBest 18 = .ok (.iload_n 1, 1) := by decide +kernel
theorem dX5_findBest_19 : decode cX5_findBest 19 = .ok (.aaload, 1) := by decide +kernel
theorem dX5_findBest_20 : decode cX5_findBest 20 = .ok (.aload_n 0, 1) := by decide +kernel
theorem dX5_findBest_21 : decode cX5_findBest 21 = .ok (.getfield 18, 3) := by decide +kernel
theorem dX5_findBest_24 : decode cX5_findBest 24 = .ok (.iload_n 2, 1) := by decide +kernel
theorem dX5_findBest_25 : decode cX5_findBest 25 = .ok (.aaload, 1) := by decide +kernel
theorem dX5_findBest_26 : decode cX5_findBest 26 = .ok (.invokevirtual 225, 3) := by decide +kernel
theorem dX5_findBest_29 : decode cX5_findBest 29 = .ok (.ireturn, 1) := by decide +kernel
set_option maxRecDepth 20000 in
theorem ggX5_learnableShift_X5_findBest : GoodIn wsX5_learnableShift wsX5_findBest := goodIn_ca (goodIn_r _ [11, 3, 12, 1, 13, 14, 15, 10, 16, 17, 18, 19, 20, 21, 22, 23, 24, 25, 26, 27, 28, 29, 30, 31, 32, 33, 34, 35, 36, 37, 38, 39, 40, 41, 42, 43, 44, 45, 46, 47, 48, 49, 50, 51, 52, 53, 54, 55, 56, 57, 58, 59, 60, 61, 62, 63, 64, 65, 66, 67, 68, 69, 70, 71, 72, 73, 74, 75, 76, 77, 78, 79, 80, 81, 82, 83, 84, 95, 96, 88, 89, 90, 91, 92, 85, 86, 87] (by decide +kernel) (by decide +kernel)) (goodIn_sub (fun _ h => List.mem_cons_of_mem _ (List.mem_append_right _ h)) (by decide +kernel))
set_option maxRecDepth 20000 in
theorem gX5_learnableShift_X5_findBest : GoodIn wsX5_learnableShift (wsV RX5 113 RX5 yX5_findBest wsX5_findBest) := goodIn_app (goodIn_of _ (by decide +kernel)) ggX5_learnableShift_X5_findBest
theorem dX5_learnableShift_0 : decode cX5_learnableShift 0 = .ok (.aload_n 0, 1) := by decide +kernel
theorem dX5_learnableShift_1 : decode cX5_learnableShift 1 = .ok (.getfield 18, 3) := by decide +kernel
theorem dX5_learnableShift_4 : decode cX5_learnableShift 4 = .ok (.iload_n 3, 1) := by decide +kernel
theorem dX5_learnableShift_5 : decode cX5_learnableShift 5 = .ok (.aaload, 1) := by decide +kernel
theorem dX5_learnableShift_6 : decode cX5_learnableShift 6 = .ok (.getfield 110, 3) := by decide +kernel
theorem dX5_learnableShift_9 : decode cX5_learnableShift 9 = .ok (.iload_n 1, 1) := by decide +kernel
theorem dX5_learnableShift_10 : decode cX5_learnableShift 10 = .ok (.if_icmp .ne 12, 3) := by decide +kernel
theorem dX5_learnableShift_13 : decode cX5_learnableShift 13 = .ok (.aload_n 0, 1) := by decide +kernel
theorem dX5_learnableShift_14 : decode cX5_learnableShift 14 = .ok (.iload_n 2, 1) := by decide +kernel
theorem dX5_learnableShift_15 : decode cX5_learnableShift 15 = .ok (.iload_n 3, 1) := by decide +kernel
theorem dX5_learnableShift_16 : decode cX5_learnableShift 16 = .ok (.invokevirtual 113, 3) := by decide +kernel
theorem dX5_learnableShift_19 : decode cX5_learnableShift 19 = .ok (.ifCond .ne 5, 3) := by decide +kernel
theorem dX5_learnableShift_22 : decode cX5_learnableShift 22 = .ok (.iconst (-1), 1) := by decide +kernel
theorem dX5_learnableShift_23 : decode cX5_learnableShift 23 = .ok (.ireturn, 1) := by decide +kernel
theorem dX5_learnableShift_24 : decode cX5_learnableShift 24 = .ok (.aload_n 0, 1) := by decide +kernel
theorem dX5_learnableShift_25 : decode cX5_learnableShift 25 = .ok (.getfield 44, 3) := by decide +kernel
theorem dX5_learnableShift_28 : decode cX5_learnableShift 28 = .ok (.getfield 126, 3) := by decide +kernel
theorem dX5_learnableShift_31 : decode cX5_learnableShift 31 = .ok (.aload_n 0, 1) := by decide +kernel
theorem dX5_learnableShift_32 : decode cX5_learnableShift 32 = .ok (.getfield 25, 3) := by decide +kernel
theorem dX5_learnableShift_35 : decode cX5_learnableShift 35 = .ok (.iload_n 1, 1) := by decide +kernel
theorem dX5_learnableShift_36 : decode cX5_learnableShift 36 = .ok (.aaload, 1) := by decide +kernel
theorem dX5_learnableShift_37 : decode cX5_learnableShift 37 = .ok (.getfield 153, 3) := by decide +kernel
theorem dX5_learnableShift_40 : decode cX5_learnableShift 40 = .ok (.if_icmp .gt 13, 3) := by decide +kernel
theorem dX5_learnableShift_43 : decode cX5_learnableShift 43 = .ok (.aload_n 0, 1) := by decide +kernel
theorem dX5_learnableShift_44 : decode cX5_learnableShift 44 = .ok (.getfield 44, 3) := by decide +kernel
theorem dX5_learnableShift_47 : decode cX5_learnableShift 47 = .ok (.getfield 126, 3) := by decide +kernel
theorem dX5_learnableShift_50 : decode cX5_learnableShift 50 = .ok (.goto 4, 3) := by decide +kernel
theorem dX5_learnableShift_53 : decode cX5_learnableShift 53 = .ok (.iconst (-1), 1) := by decide +kernel
theorem dX5_learnableShift_54 : decode cX5_learnableShift 54 = .ok (.ireturn, 1) := by decide +kernel
set_option maxRecDepth 20000 in
theorem ggX5_easiestShift_X5_learnableShift : GoodIn wsX5_easiestShift wsX5_learnableShift := goodIn_ca (goodIn_r _ [6, 7, 8, 9, 10, 11, 12, 13, 14, 15, 5, 16, 17, 18, 19, 20, 21, 22, 23, 24, 25, 26, 27, 28, 1, 29, 30, 31, 32, 33, 34, 35, 36, 37, 38, 39, 40, 41, 42, 43, 44, 45, 46, 47, 48, 49, 50, 51, 52, 53, 54, 55, 56, 57, 58, 59, 60, 61, 62, 63, 64, 65, 66, 67, 68, 69, 70, 71, 72, 73, 74, 75, 76, 77, 78, 79, 80, 81, 82, 83, 84, 85, 86, 87, 88, 89, 90, 91, 92, 93, 94, 95, 96, 97, 98, 99, 100] (by decide +kernel) (by decide +kernel)) (goodIn_sub (fun _ h => List.mem_cons_of_mem _ (List.mem_append_right _ h)) (by decide +kernel))
set_option maxRecDepth 20000 in
theorem gX5_easiestShift_X5_learnableShift : GoodIn wsX5_easiestShift (wsV RX5 144 RX5 yX5_learnableShift wsX5_learnableShift) := goodIn_app (goodIn_of _ (by decide +kernel)) ggX5_easiestShift_X5_learnableShift
theorem dX5_easiestShift_0 : decode cX5_easiestShift 0 = .ok (.iconst (-1), 1) := by decide +kernel
theorem dX5_easiestShift_1 : decode cX5_easiestShift 1 = .ok (.istore_n 3, 1) := by decide +kernel
theorem dX5_easiestShift_2 : decode cX5_easiestShift 2 = .ok (.iconst 0, 1) := by decide +kernel
theorem dX5_easiestShift_3 : decode cX5_easiestShift 3 = .ok (.istore 4, 2) := by decide +kernel
theorem dX5_easiestShift_5 : decode cX5_easiestShift 5 = .ok (.iload 4, 2) := by decide +kernel
theorem dX5_easiestShift_7 : decode cX5_easiestShift 7 = .ok (.aload_n 0, 1) := by decide +kernel
theorem dX5_easiestShift_8 : decode cX5_easiestShift 8 = .ok (.getfield 52, 3) := by decide +kernel
theorem dX5_easiestShift_11 : decode cX5_easiestShift 11 = .ok (.if_icmp .ge 39, 3) := by decide +kernel
theorem dX5_easiestShift_14 : decode cX5_easiestShift 14 = .ok (.aload_n 0, 1) := by decide +kernel
theorem dX5_easiestShift_15 : decode cX5_easiestShift 15 = .ok (.iload_n 1, 1) := by decide +kernel
theorem dX5_easiestShift_16 : decode cX5_easiestShift 16 = .ok (.iload_n 2, 1) := by decide +kernel
theorem dX5_easiestShift_17 : decode cX5_easiestShift 17 = .ok (.iload 4, 2) := by decide +kernel
theorem dX5_easiestShift_19 : decode cX5_easiestShift 19 = .ok (.invokevirtual 144, 3) := by decide +kernel
theorem dX5_easiestShift_22 : decode cX5_easiestShift 22 = .ok (.istore 5, 2) := by decide +kernel
theorem dX5_easiestShift_24 : decode cX5_easiestShift 24 = .ok (.iload 5, 2) := by decide +kernel
theorem dX5_easiestShift_26 : decode cX5_easiestShift 26 = .ok (.iconst (-1), 1) := by decide +kernel
theorem dX5_easiestShift_27 : decode cX5_easiestShift 27 = .ok (.if_icmp .eq 17, 3) := by decide +kernel
theorem dX5_easiestShift_30 : decode cX5_easiestShift 30 = .ok (.iload_n 3, 1) := by decide +kernel
theorem dX5_easiestShift_31 : decode cX5_easiestShift 31 = .ok (.iconst (-1), 1) := by decide +kernel
theorem dX5_easiestShift_32 : decode cX5_easiestShift 32 = .ok (.if_icmp .eq 9, 3) := by decide +kernel
theorem dX5_easiestShift_35 : decode cX5_easiestShift 35 = .ok (.iload 5, 2) := by decide +kernel
theorem dX5_easiestShift_37 : decode cX5_easiestShift 37 = .ok (.iload_n 3, 1) := by decide +kernel
theorem dX5_easiestShift_38 : decode cX5_easiestShift 38 = .ok (.if_icmp .ge 6, 3) := by decide +kernel
theorem dX5_easiestShift_41 : decode cX5_easiestShift 41 = .ok (.iload 5, 2) := by decide +kernel
theorem dX5_easiestShift_43 : decode cX5_easiestShift 43 = .ok (.istore_n 3, 1) := by decide +kernel
theorem dX5_easiestShift_44 : decode cX5_easiestShift 44 = .ok (.iinc 4 1, 3) := by decide +kernel
theorem dX5_easiestShift_47 : decode cX5_easiestShift 47 = .ok (.goto (-42), 3) := by decide +kernel
theorem dX5_easiestShift_50 : decode cX5_easiestShift 50 = .ok (.iload_n 3, 1) := by decide +kernel
theorem dX5_easiestShift_51 : decode cX5_easiestShift 51 = .ok (.ireturn, 1) := by decide +kernel
set_option maxRecDepth 20000 in
theorem ggX5_ordersAtWork_X2_isReady : GoodIn wsX5_ordersAtWork wsX2_isReady := goodIn_r _ [9, 10, 21, 22, 23, 24] (by decide +kernel) (by decide +kernel)
set_option maxRecDepth 20000 in
theorem gX5_ordersAtWork_X2_isReady : GoodIn wsX5_ordersAtWork (wsV RX5 181 RX2 yX2_isReady wsX2_isReady) := goodIn_app (goodIn_of _ (by decide +kernel)) ggX5_ordersAtWork_X2_isReady
theorem dX5_ordersAtWork_0 : decode cX5_ordersAtWork 0 = .ok (.iconst 0, 1) := by decide +kernel
theorem dX5_ordersAtWork_1 : decode cX5_ordersAtWork 1 = .ok (.istore_n 1, 1) := by decide +kernel
theorem dX5_ordersAtWork_2 : decode cX5_ordersAtWork 2 = .ok (.iconst 0, 1) := by decide +kernel
theorem dX5_ordersAtWork_3 : decode cX5_ordersAtWork 3 = .ok (.istore_n 2, 1) := by decide +kernel
theorem dX5_ordersAtWork_4 : decode cX5_ordersAtWork 4 = .ok (.iload_n 2, 1) := by decide +kernel
theorem dX5_ordersAtWork_5 : decode cX5_ordersAtWork 5 = .ok (.aload_n 0, 1) := by decide +kernel
theorem dX5_ordersAtWork_6 : decode cX5_ordersAtWork 6 = .ok (.getfield 55, 3) := by decide +kernel
theorem dX5_ordersAtWork_9 : decode cX5_ordersAtWork 9 = .ok (.if_icmp .ge 40, 3) := by decide +kernel
theorem dX5_ordersAtWork_12 : decode cX5_ordersAtWork 12 = .ok (.aload_n 0, 1) := by decide +kernel
theorem dX5_ordersAtWork_13 : decode cX5_ordersAtWork 13 = .ok (.getfield 32, 3) := by decide +kernel
theorem dX5_ordersAtWork_16 : decode cX5_ordersAtWork 16 = .ok (.iload_n 2, 1) := by decide +kernel
theorem dX5_ordersAtWork_17 : decode cX5_ordersAtWork 17 = .ok (.aaload, 1) := by decide +kernel
theorem dX5_ordersAtWork_18 : decode cX5_ordersAtWork 18 = .ok (.getfield 186, 3) := by decide +kernel
theorem dX5_ordersAtWork_21 : decode cX5_ordersAtWork 21 = .ok (.ifCond .ne 22, 3) := by decide +kernel
theorem dX5_ordersAtWork_24 : decode cX5_ordersAtWork 24 = .ok (.aload_n 0, 1) := by decide +kernel
theorem dX5_ordersAtWork_25 : decode cX5_ordersAtWork 25 = .ok (.getfield 32, 3) := by decide +kernel
theorem dX5_ordersAtWork_28 : decode cX5_ordersAtWork 28 = .ok (.iload_n 2, 1) := by decide +kernel
theorem dX5_ordersAtWork_29 : decode cX5_ordersAtWork 29 = .ok (.aaload, 1) := by decide +kernel
theorem dX5_ordersAtWork_30 : decode cX5_ordersAtWork 30 = .ok (.aload_n 0, 1) := by decide +kernel
theorem dX5_ordersAtWork_31 : decode cX5_ordersAtWork 31 = .ok (.getfield 58, 3) := by decide +kernel
theorem dX5_ordersAtWork_34 : decode cX5_ordersAtWork 34 = .ok (.invokevirtual 181, 3) := by decide +kernel
theorem dX5_ordersAtWork_37 : decode cX5_ordersAtWork 37 = .ok (.ifCond .ne 6, 3) := by decide +kernel
theorem dX5_ordersAtWork_40 : decode cX5_ordersAtWork 40 = .ok (.iinc 1 1, 3) := by decide +kernel
theorem dX5_ordersAtWork_43 : decode cX5_ordersAtWork 43 = .ok (.iinc 2 1, 3) := by decide +kernel
theorem dX5_ordersAtWork_46 : decode cX5_ordersAtWork 46 = .ok (.goto (-42), 3) := by decide +kernel
theorem dX5_ordersAtWork_49 : decode cX5_ordersAtWork 49 = .ok (.iload_n 1, 1) := by decide +kernel
theorem dX5_ordersAtWork_50 : decode cX5_ordersAtWork 50 = .ok (.ireturn, 1) := by decide +kernel
theorem dX6_init_0 : decode cX6_init 0 = .ok (.aload_n 0, 1) := by decide +kernel
theorem dX6_init_1 : decode cX6_init 1 = .ok (.invokespecial 1, 3) := by decide +kernel
theorem dX6_init_4 : decode cX6_init 4 = .ok (.aload_n 0, 1) := by decide +kernel
theorem dX6_init_5 : decode cX6_init 5 = .ok (.bipush 8, 2) := by decide +kernel
theorem dX6_init_7 : decode cX6_init 7 = .ok (.newarray .int, 2) := by decide +kernel
theorem dX6_init_9 : decode cX6_init 9 = .ok (.putfield 7, 3) := by decide +kernel
theorem dX6_init_12 : decode cX6_init 12 = .ok (.aload_n 0, 1) := by decide +kernel
theorem dX6_init_13 : decode cX6_init 13 = .ok (.sipush 128, 3) := by decide +kernel
theorem dX6_init_16 : decode cX6_init 16 = .ok (.newarray .int, 2) := by decide +kernel
theorem dX6_init_18 : decode cX6_init 18 = .ok (.putfield 13, 3) := by decide +kernel
theorem dX6_init_21 : decode cX6_init 21 = .ok (.aload_n 0, 1) := by decide +kernel
theorem dX6_init_22 : decode cX6_init 22 = .ok (.bipush 8, 2) := by decide +kernel
theorem dX6_init_24 : decode cX6_init 24 = .ok (.newarray .int, 2) := by decide +kernel
theorem dX6_init_26 : decode cX6_init 26 = .ok (.putfield 16, 3) := by decide +kernel
theorem dX6_init_29 : decode cX6_init 29 = .ok (.aload_n 0, 1) := by decide +kernel
theorem dX6_init_30 : decode cX6_init 30 = .ok (.bipush 8, 2) := by decide +kernel
theorem dX6_init_32 : decode cX6_init 32 = .ok (.newarray .int, 2) := by decide +kernel
theorem dX6_init_34 : decode cX6_init 34 = .ok (.putfield 19, 3) := by decide +kernel
theorem dX6_init_37 : decode cX6_init 37 = .ok (.aload_n 0, 1) := by decide +kernel
theorem dX6_init_38 : decode cX6_init 38 = .ok (.bipush 32, 2) := by decide +kernel
theorem dX6_init_40 : decode cX6_init 40 = .ok (.newarray .int, 2) := by decide +kernel
theorem dX6_init_42 : decode cX6_init 42 = .ok (.putfield 22, 3) := by decide +kernel
theorem dX6_init_45 : decode cX6_init 45 = .ok (.aload_n 0, 1) := by decide +kernel
theorem dX6_init_46 : decode cX6_init 46 = .ok (.iconst 5, 1) := by decide +kernel
theorem dX6_init_47 : decode cX6_init 47 = .ok (.newarray .int, 2) := by decide +kernel
theorem dX6_init_49 : decode cX6_init 49 = .ok (.putfield 25, 3) := by decide +kernel
theorem dX6_init_52 : decode cX6_init 52 = .ok (.aload_n 0, 1) := by decide +kernel
theorem dX6_init_53 : decode cX6_init 53 = .ok (.iconst 5, 1) := by decide +kernel
theorem dX6_init_54 : decode cX6_init 54 = .ok (.newarray .int, 2) := by decide +kernel
theorem dX6_init_56 : decode cX6_init 56 = .ok (.putfield 28, 3) := by decide +kernel
theorem dX6_init_59 : decode cX6_init 59 = .ok (.aload_n 0, 1) := by decide +kernel
theorem dX6_init_60 : decode cX6_init 60 = .ok (.iconst 4, 1) := by decide +kernel
theorem dX6_init_61 : decode cX6_init 61 = .ok (.newarray .int, 2) := by decide +kernel
theorem dX6_init_63 : decode cX6_init 63 = .ok (.putfield 31, 3) := by decide +kernel
theorem dX6_init_66 : decode cX6_init 66 = .ok (.aload_n 0, 1) := by decide +kernel
theorem dX6_init_67 : decode cX6_init 67 = .ok (.bipush 20, 2) := by decide +kernel
theorem dX6_init_69 : decode cX6_init 69 = .ok (.newarray .int, 2) := by decide +kernel
theorem dX6_init_71 : decode cX6_init 71 = .ok (.putfield 34, 3) := by decide +kernel
theorem dX6_init_74 : decode cX6_init 74 = .ok (.aload_n 0, 1) := by decide +kernel
theorem dX6_init_75 : decode cX6_init 75 = .ok (.bipush 20, 2) := by decide +kernel
theorem dX6_init_77 : decode cX6_init 77 = .ok (.newarray .int, 2) := by decide +kernel
theorem dX6_init_79 : decode cX6_init 79 = .ok (.putfield 37, 3) := by decide +kernel
theorem dX6_init_82 : decode cX6_init 82 = .ok (.aload_n 0, 1) := by decide +kernel
theorem dX6_init_83 : decode cX6_init 83 = .ok (.bipush 20, 2) := by decide +kernel
theorem dX6_init_85 : decode cX6_init 85 = .ok (.newarray .int, 2) := by decide +kernel
theorem dX6_init_87 : decode cX6_init 87 = .ok (.putfield 40, 3) := by decide +kernel
theorem dX6_init_90 : decode cX6_init 90 = .ok (.aload_n 0, 1) := by decide +kernel
theorem dX6_init_91 : decode cX6_init 91 = .ok (.bipush 20, 2) := by decide +kernel
theorem dX6_init_93 : decode cX6_init 93 = .ok (.newarray .boolean, 2) := by decide +kernel
theorem dX6_init_95 : decode cX6_init 95 = .ok (.putfield 43, 3) := by decide +kernel
theorem dX6_init_98 : decode cX6_init 98 = .ok (.aload_n 0, 1) := by decide +kernel
theorem dX6_init_99 : decode cX6_init 99 = .ok (.sipush 238, 3) := by decide +kernel
theorem dX6_init_102 : decode cX6_init 102 = .ok (.newarray .int, 2) := by decide +kernel
theorem dX6_init_104 : decode cX6_init 104 = .ok (.putfield 47, 3) := by decide +kernel
theorem dX6_init_107 : decode cX6_init 107 = .ok (.aload_n 0, 1) := by decide +kernel
theorem dX6_init_108 : decode cX6_init 108 = .ok (.bipush 16, 2) := by decide +kernel
theorem dX6_init_110 : decode cX6_init 110 = .ok (.newarray .int, 2) := by decide +kernel
theorem dX6_init_112 : decode cX6_init 112 = .ok (.putfield 50, 3) := by decide +kernel
theorem dX6_init_115 : decode cX6_init 115 = .ok (.iconst 0, 1) := by decide +kernel
theorem dX6_init_116 : decode cX6_init 116 = .ok (.istore_n 1, 1) := by decide +kernel
theorem dX6_init_117 : decode cX6_init 117 = .ok (.iload_n 1, 1) := by decide +kernel
theorem dX6_init_118 : decode cX6_init 118 = .ok (.iconst 5, 1) := by decide +kernel
theorem dX6_init_119 : decode cX6_init 119 = .ok (.if_icmp .ge 16, 3) := by decide +kernel
theorem dX6_init_122 : decode cX6_init 122 = .ok (.aload_n 0, 1) := by decide +kernel
theorem dX6_init_123 : decode cX6_init 123 = .ok (.getfield 25, 3) := by decide +kernel
theorem dX6_init_126 : decode cX6_init 126 = .ok (.iload_n 1, 1) := by decide +kernel
theorem dX6_init_127 : decode cX6_init 127 = .ok (.iconst 2, 1) := by decide +kernel
theorem dX6_init_128 : decode cX6_init 128 = .ok (.iastore, 1) := by decide +kernel
theorem dX6_init_129 : decode cX6_init 129 = .ok (.iinc 1 1, 3) := by decide +kernel
theorem dX6_init_132 : decode cX6_init 132 = .ok (.goto (-15), 3) := by decide +kernel
theorem dX6_init_135 : decode cX6_init 135 = .ok (.return_, 1) := by decide +kernel
theorem dX6_thrown_0 : decode cX6_thrown 0 = .ok (.aload_n 0, 1) := by decide +kernel
theorem dX6_thrown_1 : decode cX6_thrown 1 = .ok (.getfield 53, 3) := by decide +kernel
theorem dX6_thrown_4 : decode cX6_thrown 4 = .ok (.ireturn, 1) := by decide +kernel
theorem dX6_in_0 : decode cX6_in 0 = .ok (.iload_n 0, 1) := by decide +kernel
theorem dX6_in_1 : decode cX6_in 1 = .ok (.iload_n 1, 1) := by decide +kernel
theorem dX6_in_2 : decode cX6_in 2 = .ok (.if_icmp .lt 12, 3) := by decide +kernel
theorem dX6_in_5 : decode cX6_in 5 = .ok (.iload_n 0, 1) := by decide +kernel
theorem dX6_in_6 : decode cX6_in 6 = .ok (.iload_n 2, 1) := by decide +kernel
theorem dX6_in_7 : decode cX6_in 7 = .ok (.if_icmp .gt 7, 3) := by decide +kernel
theorem dX6_in_10 : decode cX6_in 10 = .ok (.iconst 1, 1) := by decide +kernel
theorem dX6_in_11 : decode cX6_in 11 = .ok (.goto 4, 3) := by decide +kernel
theorem dX6_in_14 : decode cX6_in 14 = .ok (.iconst 0, 1) := by decide +kernel
theorem dX6_in_15 : decode cX6_in 15 = .ok (.ireturn, 1) := by decide +kernel
theorem dX6_goes_0 : decode cX6_goes 0 = .ok (.aload_n 0, 1) := by decide +kernel
theorem dX6_goes_1 : decode cX6_goes 1 = .ok (.iload_n 1, 1) := by decide +kernel
theorem dX6_goes_2 : decode cX6_goes 2 = .ok (.ifCond .ne 7, 3) := by decide +kernel
theorem dX6_goes_5 : decode cX6_goes 5 = .ok (.iconst 1, 1) := by decide +kernel
theorem dX6_goes_6 : decode cX6_goes 6 = .ok (.goto 20, 3) := by decide +kernel
theorem dX6_goes_9 : decode cX6_goes 9 = .ok (.iload_n 2, 1) := by decide +kernel
theorem dX6_goes_10 : decode cX6_goes 10 = .ok (.ifCond .ne 7, 3) := by decide +kernel
theorem dX6_goes_13 : decode cX6_goes 13 = .ok (.iconst 2, 1) := by decide +kernel
theorem dX6_goes_14 : decode cX6_goes 14 = .ok (.goto 12, 3) := by decide +kernel
theorem dX6_goes_17 : decode cX6_goes 17 = .ok (.iload_n 3, 1) := by decide +kernel
theorem dX6_goes_18 : decode cX6_goes 18 = .ok (.ifCond .ne 7, 3) := by decide +kernel
theorem dX6_goes_21 : decode cX6_goes 21 = .ok (.iconst 3, 1) := by decide +kernel
theorem dX6_goes_22 : decode cX6_goes 22 = .ok (.goto 4, 3) := by decide +kernel
theorem dX6_goes_25 : decode cX6_goes 25 = .ok (.iconst 0, 1) := by decide +kernel
theorem dX6_goes_26 : decode cX6_goes 26 = .ok (.putfield 53, 3) := by decide +kernel
theorem dX6_goes_29 : decode cX6_goes 29 = .ok (.aload_n 0, 1) := by decide +kernel
theorem dX6_goes_30 : decode cX6_goes 30 = .ok (.getfield 53, 3) := by decide +kernel
theorem dX6_goes_33 : decode cX6_goes 33 = .ok (.ifCond .ne 7, 3) := by decide +kernel
theorem dX6_goes_36 : decode cX6_goes 36 = .ok (.iconst 1, 1) := by decide +kernel
theorem dX6_goes_37 : decode cX6_goes 37 = .ok (.goto 4, 3) := by decide +kernel
theorem dX6_goes_40 : decode cX6_goes 40 = .ok (.iconst 0, 1) := by decide +kernel
theorem dX6_goes_41 : decode cX6_goes 41 = .ok (.ireturn, 1) := by decide +kernel
theorem dX6_told_0 : decode cX6_told 0 = .ok (.aload_n 0, 1) := by decide +kernel
theorem dX6_told_1 : decode cX6_told 1 = .ok (.iconst 0, 1) := by decide +kernel
theorem dX6_told_2 : decode cX6_told 2 = .ok (.putfield 53, 3) := by decide +kernel
theorem dX6_told_5 : decode cX6_told 5 = .ok (.iload_n 1, 1) := by decide +kernel
theorem dX6_told_6 : decode cX6_told 6 = .ok (.ireturn, 1) := by decide +kernel
set_option maxRecDepth 20000 in
theorem ggX6_isPiece_X6_in : GoodIn wsX6_isPiece wsX6_in := goodIn_r _ [5] (by decide +kernel) (by decide +kernel)
set_option maxRecDepth 20000 in
theorem gX6_isPiece_X6_in : GoodIn wsX6_isPiece (va_wsS RX6 60 yX6_in wsX6_in) := goodIn_app (goodIn_of _ (by decide +kernel)) ggX6_isPiece_X6_in
theorem dX6_isPiece_0 : decode cX6_isPiece 0 = .ok (.iload_n 1, 1) := by decide +kernel
theorem dX6_isPiece_1 : decode cX6_isPiece 1 = .ok (.iconst 0, 1) := by decide +kernel
theorem dX6_isPiece_2 : decode cX6_isPiece 2 = .ok (.aload_n 0, 1) := by decide +kernel
theorem dX6_isPiece_3 : decode cX6_isPiece 3 = .ok (.getfield 57, 3) := by decide +kernel
theorem dX6_isPiece_6 : decode cX6_isPiece 6 = .ok (.iconst 1, 1) := by decide +kernel
theorem dX6_isPiece_7 : decode cX6_isPiece 7 = .ok (.isub, 1) := by decide +kernel
theorem dX6_isPiece_8 : decode cX6_isPiece 8 = .ok (.invokestatic 60, 3) := by decide +kernel
theorem dX6_isPiece_11 : decode cX6_isPiece 11 = .ok (.ireturn, 1) := by decide +kernel
set_option maxRecDepth 20000 in
theorem ggX6_isNote_X6_isPiece : GoodIn wsX6_isNote wsX6_isPiece := goodIn_r _ [6, 7, 8, 9, 5, 10, 11, 12, 13, 14, 15, 16, 17, 18, 19, 20, 21, 22, 23, 24, 25, 26, 27, 28, 29] (by decide +kernel) (by decide +kernel)
set_option maxRecDepth 20000 in
theorem gX6_isNote_X6_isPiece : GoodIn wsX6_isNote (wsV RX6 64 RX6 yX6_isPiece wsX6_isPiece) := goodIn_app (goodIn_of _ (by decide +kernel)) ggX6_isNote_X6_isPiece
set_option maxRecDepth 20000 in
theorem ggX6_isNote_X6_in : GoodIn wsX6_isNote wsX6_in := goodIn_r _ [10] (by decide +kernel) (by decide +kernel)
set_option maxRecDepth 20000 in
theorem gX6_isNote_X6_in : GoodIn wsX6_isNote (va_wsS RX6 60 yX6_in wsX6_in) := goodIn_app (goodIn_of _ (by decide +kernel)) ggX6_isNote_X6_in
theorem dX6_isNote_0 : decode cX6_isNote 0 = .ok (.aload_n 0, 1) := by decide +kernel
theorem dX6_isNote_1 : decode cX6_isNote 1 = .ok (.iload_n 1, 1) := by decide +kernel
theorem dX6_isNote_2 : decode cX6_isNote 2 = .ok (.invokevirtual 64, 3) := by decide +kernel
theorem dX6_isNote_5 : decode cX6_isNote 5 = .ok (.ifCond .eq 23, 3) := by decide +kernel
theorem dX6_isNote_8 : decode cX6_isNote 8 = .ok (.iload_n 2, 1) := by decide +kernel
theorem dX6_isNote_9 : decode cX6_isNote 9 = .ok (.iconst 0, 1) := by decide +kernel
theorem dX6_isNote_10 : decode cX6_isNote 10 = .ok (.aload_n 0, 1) := by decide +kernel
theorem dX6_isNote_11 : decode cX6_isNote 11 = .ok (.getfield 7, 3) := by decide +kernel
theorem dX6_isNote_14 : decode cX6_isNote 14 = .ok (.iload_n 1, 1) := by decide +kernel
theorem dX6_isNote_15 : decode cX6_isNote 15 = .ok (.iaload, 1) := by decide +kernel
theorem dX6_isNote_16 : decode cX6_isNote 16 = .ok (.iconst 1, 1) := by decide +kernel
theorem dX6_isNote_17 : decode cX6_isNote 17 = .ok (.isub, 1) := by decide +kernel
theorem dX6_isNote_18 : decode cX6_isNote 18 = .ok (.invokestatic 60, 3) := by decide +kernel
theorem dX6_isNote_21 : decode cX6_isNote 21 = .ok (.ifCond .eq 7, 3) := by decide +kernel
theorem dX6_isNote_24 : decode cX6_isNote 24 = .ok (.iconst 1, 1) := by decide +kernel
theorem dX6_isNote_25 : decode cX6_isNote 25 = .ok (.goto 4, 3) := by decide +kernel
theorem dX6_isNote_28 : decode cX6_isNote 28 = .ok (.iconst 0, 1) := by decide +kernel
theorem dX6_isNote_29 : decode cX6_isNote 29 = .ok (.ireturn, 1) := by decide +kernel
set_option maxRecDepth 20000 in
theorem ggX6_isInstrument_X6_in : GoodIn wsX6_isInstrument wsX6_in := goodIn_r _ [5] (by decide +kernel) (by decide +kernel)
set_option maxRecDepth 20000 in
theorem gX6_isInstrument_X6_in : GoodIn wsX6_isInstrument (va_wsS RX6 60 yX6_in wsX6_in) := goodIn_app (goodIn_of _ (by decide +kernel)) ggX6_isInstrument_X6_in
theorem dX6_isInstrument_0 : decode cX6_isInstrument 0 = .ok (.iload_n 1, 1) := by decide +kernel
theorem dX6_isInstrument_1 : decode cX6_isInstrument 1 = .ok (.iconst 0, 1) := by decide +kernel
theorem dX6_isInstrument_2 : decode cX6_isInstrument 2 = .ok (.aload_n 0, 1) := by decide +kernel
theorem dX6_isInstrument_3 : decode cX6_isInstrument 3 = .ok (.getfield 68, 3) := by decide +kernel
theorem dX6_isInstrument_6 : decode cX6_isInstrument 6 = .ok (.iconst 1, 1) := by decide +kernel
theorem dX6_isInstrument_7 : decode cX6_isInstrument 7 = .ok (.isub, 1) := by decide +kernel
theorem dX6_isInstrument_8 : decode cX6_isInstrument 8 = .ok (.invokestatic 60, 3) := by decide +kernel
theorem dX6_isInstrument_11 : decode cX6_isInstrument 11 = .ok (.ireturn, 1) := by decide +kernel
set_option maxRecDepth 20000 in
theorem ggX6_isOrder_X6_in : GoodIn wsX6_isOrder wsX6_in := goodIn_r _ [5] (by decide +kernel) (by decide +kernel)
set_option maxRecDepth 20000 in
theorem gX6_isOrder_X6_in : GoodIn wsX6_isOrder (va_wsS RX6 60 yX6_in wsX6_in) := goodIn_app (goodIn_of _ (by decide +kernel)) ggX6_isOrder_X6_in
theorem dX6_isOrder_0 : decode cX6_isOrder 0 = .ok (.iload_n 1, 1) := by decide +kernel
theorem dX6_isOrder_1 : decode cX6_isOrder 1 = .ok (.iconst 0, 1) := by decide +kernel
theorem dX6_isOrder_2 : decode cX6_isOrder 2 = .ok (.aload_n 0, 1) := by decide +kernel
theorem dX6_isOrder_3 : decode cX6_isOrder 3 = .ok (.getfield 71, 3) := by decide +kernel
theorem dX6_isOrder_6 : decode cX6_isOrder 6 = .ok (.iconst 1, 1) := by decide +kernel
theorem dX6_isOrder_7 : decode cX6_isOrder 7 = .ok (.isub, 1) := by decide +kernel
theorem dX6_isOrder_8 : decode cX6_isOrder 8 = .ok (.invokestatic 60, 3) := by decide +kernel
theorem dX6_isOrder_11 : decode cX6_isOrder 11 = .ok (.ireturn, 1) := by decide +kernel
set_option maxRecDepth 20000 in
theorem ggX6_isPupil_X6_in : GoodIn wsX6_isPupil wsX6_in := goodIn_r _ [4] (by decide +kernel) (by decide +kernel)
set_option maxRecDepth 20000 in
theorem gX6_isPupil_X6_in : GoodIn wsX6_isPupil (va_wsS RX6 60 yX6_in wsX6_in) := goodIn_app (goodIn_of _ (by decide +kernel)) ggX6_isPupil_X6_in
theorem dX6_isPupil_0 : decode cX6_isPupil 0 = .ok (.iload_n 0, 1) := by decide +kernel
theorem dX6_isPupil_1 : decode cX6_isPupil 1 = .ok (.iconst 0, 1) := by decide +kernel
theorem dX6_isPupil_2 : decode cX6_isPupil 2 = .ok (.iconst 4, 1) := by decide +kernel
theorem dX6_isPupil_3 : decode cX6_isPupil 3 = .ok (.invokestatic 60, 3) := by decide +kernel
theorem dX6_isPupil_6 : decode cX6_isPupil 6 = .ok (.ireturn, 1) := by decide +kernel
set_option maxRecDepth 20000 in
theorem ggX6_begin_X6_goes : GoodIn wsX6_begin wsX6_goes := goodIn_r _ [6, 7, 8, 9, 10, 11, 12, 13, 14, 15, 16, 17, 18, 19, 20, 21, 22, 23, 24, 25, 26] (by decide +kernel) (by decide +kernel)
set_option maxRecDepth 20000 in
theorem gX6_begin_X6_goes : GoodIn wsX6_begin (wsV RX6 74 RX6 yX6_goes wsX6_goes) := goodIn_app (goodIn_of _ (by decide +kernel)) ggX6_begin_X6_goes
theorem dX6_begin_0 : decode cX6_begin 0 = .ok (.aload_n 0, 1) := by decide +kernel
theorem dX6_begin_1 : decode cX6_begin 1 = .ok (.aload_n 0, 1) := by decide +kernel
theorem dX6_begin_2 : decode cX6_begin 2 = .ok (.getfield 57, 3) := by decide +kernel
theorem dX6_begin_5 : decode cX6_begin 5 = .ok (.bipush 8, 2) := by decide +kernel
theorem dX6_begin_7 : decode cX6_begin 7 = .ok (.if_icmp .ge 7, 3) := by decide +kernel
theorem dX6_begin_10 : decode cX6_begin 10 = .ok (.iconst 1, 1) := by decide +kernel
theorem dX6_begin_11 : decode cX6_begin 11 = .ok (.goto 4, 3) := by decide +kernel
theorem dX6_begin_14 : decode cX6_begin 14 = .ok (.iconst 0, 1) := by decide +kernel
theorem dX6_begin_15 : decode cX6_begin 15 = .ok (.iconst 1, 1) := by decide +kernel
theorem dX6_begin_16 : decode cX6_begin 16 = .ok (.iconst 1, 1) := by decide +kernel
theorem dX6_begin_17 : decode cX6_begin 17 = .ok (.invokevirtual 74, 3) := by decide +kernel
theorem dX6_begin_20 : decode cX6_begin 20 = .ok (.ifCond .ne 5, 3) := by decide +kernel
theorem dX6_begin_23 : decode cX6_begin 23 = .ok (.iconst 0, 1) := by decide +kernel
theorem dX6_begin_24 : decode cX6_begin 24 = .ok (.ireturn, 1) := by decide +kernel
theorem dX6_begin_25 : decode cX6_begin 25 = .ok (.aload_n 0, 1) := by decide +kernel
theorem dX6_begin_26 : decode cX6_begin 26 = .ok (.dup, 1) := by decide +kernel
theorem dX6_begin_27 : decode cX6_begin 27 = .ok (.getfield 57, 3) := by decide +kernel
theorem dX6_begin_30 : decode cX6_begin 30 = .ok (.iconst 1, 1) := by decide +kernel
theorem dX6_begin_31 : decode cX6_begin 31 = .ok (.iadd, 1) := by decide +kernel
theorem dX6_begin_32 : decode cX6_begin 32 = .ok (.putfield 57, 3) := by decide +kernel
theorem dX6_begin_35 : decode cX6_begin 35 = .ok (.aload_n 0, 1) := by decide +kernel
theorem dX6_begin_36 : decode cX6_begin 36 = .ok (.getfield 57, 3) := by decide +kernel
theorem dX6_begin_39 : decode cX6_begin 39 = .ok (.iconst 1, 1) := by decide +kernel
theorem dX6_begin_40 : decode cX6_begin 40 = .ok (.isub, 1) := by decide +kernel
theorem dX6_begin_41 : decode cX6_begin 41 = .ok (.ireturn, 1) := by decide +kernel
set_option maxRecDepth 20000 in
theorem ggX6_addNote_X6_isPiece : GoodIn wsX6_addNote wsX6_isPiece := goodIn_r _ [7, 8, 9, 10, 6, 11, 17, 18, 19, 20, 21, 22, 23, 24, 25, 26, 27, 28, 29, 30, 31, 32, 33, 34, 35] (by decide +kernel) (by decide +kernel)
set_option maxRecDepth 20000 in
theorem gX6_addNote_X6_isPiece : GoodIn wsX6_addNote (wsV RX6 64 RX6 yX6_isPiece wsX6_isPiece) := goodIn_app (goodIn_of _ (by decide +kernel)) ggX6_addNote_X6_isPiece
set_option maxRecDepth 20000 in
theorem ggX6_addNote_X6_in : GoodIn wsX6_addNote wsX6_in := goodIn_r _ [11] (by decide +kernel) (by decide +kernel)
set_option maxRecDepth 20000 in
theorem gX6_addNote_X6_in : GoodIn wsX6_addNote (va_wsS RX6 60 yX6_in wsX6_in) := goodIn_app (goodIn_of _ (by decide +kernel)) ggX6_addNote_X6_in
set_option maxRecDepth 20000 in
theorem ggX6_addNote_X6_goes : GoodIn wsX6_addNote wsX6_goes := goodIn_r _ [15, 16, 17, 18, 19, 20, 21, 22, 23, 24, 25, 26, 27, 28, 29, 30, 31, 32, 33, 34, 35] (by decide +kernel) (by decide +kernel)
set_option maxRecDepth 20000 in
theorem gX6_addNote_X6_goes : GoodIn wsX6_addNote (wsV RX6 74 RX6 yX6_goes wsX6_goes) := goodIn_app (goodIn_of _ (by decide +kernel)) ggX6_addNote_X6_goes
theorem dX6_addNote_0 : decode cX6_addNote 0 = .ok (.aload_n 0, 1) := by decide +kernel
theorem dX6_addNote_1 : decode cX6_addNote 1 = .ok (.iload_n 1, 1) := by decide +kernel
theorem dX6_addNote_2 : decode cX6_addNote 2 = .ok (.invokevirtual 64, 3) := by decide +kernel
theorem dX6_addNote_5 : decode cX6_addNote 5 = .ok (.istore_n 3, 1) := by decide +kernel
theorem dX6_addNote_6 : decode cX6_addNote 6 = .ok (.aload_n 0, 1) := by decide +kernel
theorem dX6_addNote_7 : decode cX6_addNote 7 = .ok (.iload_n 3, 1) := by decide +kernel
theorem dX6_addNote_8 : decode cX6_addNote 8 = .ok (.iload_n 2, 1) := by decide +kernel
theorem dX6_addNote_9 : decode cX6_addNote 9 = .ok (.iconst 0, 1) := by decide +kernel
theorem dX6_addNote_10 : decode cX6_addNote 10 = .ok (.bipush 80, 2) := by decide +kernel
theorem dX6_addNote_12 : decode cX6_addNote 12 = .ok (.invokestatic 60, 3) := by decide +kernel
theorem dX6_addNote_15 : decode cX6_addNote 15 = .ok (.iload_n 3, 1) := by decide +kernel
theorem dX6_addNote_16 : decode cX6_addNote 16 = .ok (.ifCond .eq 18, 3) := by decide +kernel
theorem dX6_addNote_19 : decode cX6_addNote 19 = .ok (.aload_n 0, 1) := by decide +kernel
theorem dX6_addNote_20 : decode cX6_addNote 20 = .ok (.getfield 7, 3) := by decide +kernel
theorem dX6_addNote_23 : decode cX6_addNote 23 = .ok (.iload_n 1, 1) := by decide +kernel
theorem dX6_addNote_24 : decode cX6_addNote 24 = .ok (.iaload, 1) := by decide +kernel
theorem dX6_addNote_25 : decode cX6_addNote 25 = .ok (.bipush 16, 2) := by decide +kernel
theorem dX6_addNote_27 : decode cX6_addNote 27 = .ok (.if_icmp .ge 7, 3) := by decide +kernel
theorem dX6_addNote_30 : decode cX6_addNote 30 = .ok (.iconst 1, 1) := by decide +kernel
theorem dX6_addNote_31 : decode cX6_addNote 31 = .ok (.goto 4, 3) := by decide +kernel
theorem dX6_addNote_34 : decode cX6_addNote 34 = .ok (.iconst 0, 1) := by decide +kernel
theorem dX6_addNote_35 : decode cX6_addNote 35 = .ok (.invokevirtual 74, 3) := by decide +kernel
theorem dX6_addNote_38 : decode cX6_addNote 38 = .ok (.ifCond .ne 5, 3) := by decide +kernel
theorem dX6_addNote_41 : decode cX6_addNote 41 = .ok (.iconst 0, 1) := by decide +kernel
theorem dX6_addNote_42 : decode cX6_addNote 42 = .ok (.ireturn, 1) := by decide +kernel
theorem dX6_addNote_43 : decode cX6_addNote 43 = .ok (.aload_n 0, 1) := by decide +kernel
theorem dX6_addNote_44 : decode cX6_addNote 44 = .ok (.getfield 13, 3) := by decide +kernel
theorem dX6_addNote_47 : decode cX6_addNote 47 = .ok (.bipush 16, 2) := by decide +kernel
theorem dX6_addNote_49 : decode cX6_addNote 49 = .ok (.iload_n 1, 1) := by decide +kernel
theorem dX6_addNote_50 : decode cX6_addNote 50 = .ok (.imul, 1) := by decide +kernel
theorem dX6_addNote_51 : decode cX6_addNote 51 = .ok (.aload_n 0, 1) := by decide +kernel
theorem dX6_addNote_52 : decode cX6_addNote 52 = .ok (.getfield 7, 3) := by decide +kernel
theorem dX6_addNote_55 : decode cX6_addNote 55 = .ok (.iload_n 1, 1) := by decide +kernel
theorem dX6_addNote_56 : decode cX6_addNote 56 = .ok (.iaload, 1) := by decide +kernel
theorem dX6_addNote_57 : decode cX6_addNote 57 = .ok (.iadd, 1) := by decide +kernel
theorem dX6_addNote_58 : decode cX6_addNote 58 = .ok (.iload_n 2, 1) := by decide +kernel
theorem dX6_addNote_59 : decode cX6_addNote 59 = .ok (.iastore, 1) := by decide +kernel
theorem dX6_addNote_60 : decode cX6_addNote 60 = .ok (.aload_n 0, 1) := by decide +kernel
theorem dX6_addNote_61 : decode cX6_addNote 61 = .ok (.getfield 7, 3) := by decide +kernel
theorem dX6_addNote_64 : decode cX6_addNote 64 = .ok (.iload_n 1, 1) := by decide +kernel
theorem dX6_addNote_65 : decode cX6_addNote 65 = .ok (.dup2, 1) := by decide +kernel
theorem dX6_addNote_66 : decode cX6_addNote 66 = .ok (.iaload, 1) := by decide +kernel
theorem dX6_addNote_67 : decode cX6_addNote 67 = .ok (.iconst 1, 1) := by decide +kernel
theorem dX6_addNote_68 : decode cX6_addNote 68 = .ok (.iadd, 1) := by decide +kernel
theorem dX6_addNote_69 : decode cX6_addNote 69 = .ok (.iastore, 1) := by decide +kernel
theorem dX6_addNote_70 : decode cX6_addNote 70 = .ok (.aload_n 0, 1) := by decide +kernel
theorem dX6_addNote_71 : decode cX6_addNote 71 = .ok (.getfield 7, 3) := by decide +kernel
theorem dX6_addNote_74 : decode cX6_addNote 74 = .ok (.iload_n 1, 1) := by decide +kernel
theorem dX6_addNote_75 : decode cX6_addNote 75 = .ok (.iaload, 1) := by decide +kernel
theorem dX6_addNote_76 : decode cX6_addNote 76 = .ok (.ireturn, 1) := by decide +kernel
set_option maxRecDepth 20000 in
theorem ggX6_transpose_X6_isPiece : GoodIn wsX6_transpose wsX6_isPiece := goodIn_r _ [7, 8, 9, 10, 6, 11, 17, 18, 19, 20, 21, 22, 23, 24, 25, 26, 27, 28, 29, 30, 31, 32, 33, 34, 35] (by decide +kernel) (by decide +kernel)
set_option maxRecDepth 20000 in
theorem gX6_transpose_X6_isPiece : GoodIn wsX6_transpose (wsV RX6 64 RX6 yX6_isPiece wsX6_isPiece) := goodIn_app (goodIn_of _ (by decide +kernel)) ggX6_transpose_X6_isPiece
set_option maxRecDepth 20000 in
theorem ggX6_transpose_X6_in : GoodIn wsX6_transpose wsX6_in := goodIn_r _ [11] (by decide +kernel) (by decide +kernel)
set_option maxRecDepth 20000 in
theorem gX6_transpose_X6_in : GoodIn wsX6_transpose (va_wsS RX6 60 yX6_in wsX6_in) := goodIn_app (goodIn_of _ (by decide +kernel)) ggX6_transpose_X6_in
set_option maxRecDepth 20000 in
theorem ggX6_transpose_X6_goes : GoodIn wsX6_transpose wsX6_goes := goodIn_r _ [15, 16, 17, 18, 19, 20, 21, 22, 23, 24, 25, 26, 27, 28, 29, 30, 31, 32, 33, 34, 35] (by decide +kernel) (by decide +kernel)
set_option maxRecDepth 20000 in
theorem gX6_transpose_X6_goes : GoodIn wsX6_transpose (wsV RX6 74 RX6 yX6_goes wsX6_goes) := goodIn_app (goodIn_of _ (by decide +kernel)) ggX6_transpose_X6_goes
theorem dX6_transpose_0 : decode cX6_transpose 0 = .ok (.aload_n 0, 1) := by decide +kernel
theorem dX6_transpose_1 : decode cX6_transpose 1 = .ok (.iload_n 1, 1) := by decide +kernel
theorem dX6_transpose_2 : decode cX6_transpose 2 = .ok (.invokevirtual 64, 3) := by decide +kernel
theorem dX6_transpose_5 : decode cX6_transpose 5 = .ok (.istore_n 3, 1) := by decide +kernel
theorem dX6_transpose_6 : decode cX6_transpose 6 = .ok (.iload_n 2, 1) := by decide +kernel
theorem dX6_transpose_7 : decode cX6_transpose 7 = .ok (.bipush (-40), 2) := by decide +kernel
theorem dX6_transpose_9 : decode cX6_transpose 9 = .ok (.bipush 40, 2) := by decide +kernel
theorem dX6_transpose_11 : decode cX6_transpose 11 = .ok (.invokestatic 60, 3) := by decide +kernel
theorem dX6_transpose_14 : decode cX6_transpose 14 = .ok (.istore 4, 2) := by decide +kernel
theorem dX6_transpose_16 : decode cX6_transpose 16 = .ok (.iconst 1, 1) := by decide +kernel
theorem dX6_transpose_17 : decode cX6_transpose 17 = .ok (.istore 5, 2) := by decide +kernel
theorem dX6_transpose_19 : decode cX6_transpose 19 = .ok (.iconst 0, 1) := by decide +kernel
theorem dX6_transpose_20 : decode cX6_transpose 20 = .ok (.istore 6, 2) := by decide +kernel
theorem dX6_transpose_22 : decode cX6_transpose 22 = .ok (.iload_n 3, 1) := by decide +kernel
theorem dX6_transpose_23 : decode cX6_transpose 23 = .ok (.ifCond .eq 60, 3) := by decide +kernel
theorem dX6_transpose_26 : decode cX6_transpose 26 = .ok (.iload 4, 2) := by decide +kernel
theorem dX6_transpose_28 : decode cX6_transpose 28 = .ok (.ifCond .eq 55, 3) := by decide +kernel
theorem dX6_transpose_31 : decode cX6_transpose 31 = .ok (.iload 6, 2) := by decide +kernel
theorem dX6_transpose_33 : decode cX6_transpose 33 = .ok (.aload_n 0, 1) := by decide +kernel
theorem dX6_transpose_34 : decode cX6_transpose 34 = .ok (.getfield 7, 3) := by decide +kernel
theorem dX6_transpose_37 : decode cX6_transpose 37 = .ok (.iload_n 1, 1) := by decide +kernel
theorem dX6_transpose_38 : decode cX6_transpose 38 = .ok (.iaload, 1) := by decide +kernel
theorem dX6_transpose_39 : decode cX6_transpose 39 = .ok (.if_icmp .ge 44, 3) := by decide +kernel
theorem dX6_transpose_42 : decode cX6_transpose 42 = .ok (.iload 5, 2) := by decide +kernel
theorem dX6_transpose_44 : decode cX6_transpose 44 = .ok (.ifCond .eq 30, 3) := by decide +kernel
theorem dX6_transpose_47 : decode cX6_transpose 47 = .ok (.aload_n 0, 1) := by decide +kernel
theorem dX6_transpose_48 : decode cX6_transpose 48 = .ok (.getfield 13, 3) := by decide +kernel
theorem dX6_transpose_51 : decode cX6_transpose 51 = .ok (.bipush 16, 2) := by decide +kernel
theorem dX6_transpose_53 : decode cX6_transpose 53 = .ok (.iload_n 1, 1) := by decide +kernel
theorem dX6_transpose_54 : decode cX6_transpose 54 = .ok (.imul, 1) := by decide +kernel
theorem dX6_transpose_55 : decode cX6_transpose 55 = .ok (.iload 6, 2) := by decide +kernel
theorem dX6_transpose_57 : decode cX6_transpose 57 = .ok (.iadd, 1) := by decide +kernel
theorem dX6_transpose_58 : decode cX6_transpose 58 = .ok (.iaload, 1) := by decide +kernel
theorem dX6_transpose_59 : decode cX6_transpose 59 = .ok (.iload_n 2, 1) := by decide +kernel
theorem dX6_transpose_60 : decode cX6_transpose 60 = .ok (.iadd, 1) := by decide +kernel
theorem dX6_transpose_61 : decode cX6_transpose 61 = .ok (.iconst 0, 1) := by decide +kernel
theorem dX6_transpose_62 : decode cX6_transpose 62 = .ok (.bipush 80, 2) := by decide +kernel
theorem dX6_transpose_64 : decode cX6_transpose 64 = .ok (.invokestatic 60, 3) := by decide +kernel
theorem dX6_transpose_67 : decode cX6_transpose 67 = .ok (.ifCond .eq 7, 3) := by decide +kernel
theorem dX6_transpose_70 : decode cX6_transpose 70 = .ok (.iconst 1, 1) := by decide +kernel
theorem dX6_transpose_71 : decode cX6_transpose 71 = .ok (.goto 4, 3) := by decide +kernel
theorem dX6_transpose_74 : decode cX6_transpose 74 = .ok (.iconst 0, 1) := by decide +kernel
theorem dX6_transpose_75 : decode cX6_transpose 75 = .ok (.istore 5, 2) := by decide +kernel
theorem dX6_transpose_77 : decode cX6_transpose 77 = .ok (.iinc 6 1, 3) := by decide +kernel
theorem dX6_transpose_80 : decode cX6_transpose 80 = .ok (.goto (-58), 3) := by decide +kernel
theorem dX6_transpose_83 : decode cX6_transpose 83 = .ok (.aload_n 0, 1) := by decide +kernel
theorem dX6_transpose_84 : decode cX6_transpose 84 = .ok (.iload_n 3, 1) := by decide +kernel
theorem dX6_transpose_85 : decode cX6_transpose 85 = .ok (.iload 4, 2) := by decide +kernel
theorem dX6_transpose_87 : decode cX6_transpose 87 = .ok (.iload 5, 2) := by decide +kernel
theorem dX6_transpose_89 : decode cX6_transpose 89 = .ok (.invokevirtual 74, 3) := by decide +kernel
theorem dX6_transpose_92 : decode cX6_transpose 92 = .ok (.ifCond .eq 39, 3) := by decide +kernel
theorem dX6_transpose_95 : decode cX6_transpose 95 = .ok (.iconst 0, 1) := by decide +kernel
theorem dX6_transpose_96 : decode cX6_transpose 96 = .ok (.istore 6, 2) := by decide +kernel
theorem dX6_transpose_98 : decode cX6_transpose 98 = .ok (.iload 6, 2) := by decide +kernel
theorem dX6_transpose_100 : decode cX6_transpose 100 = .ok (.aload_n 0, 1) := by decide +kernel
theorem dX6_transpose_101 : decode cX6_transpose 101 = .ok (.getfield 7, 3) := by decide +kernel
theorem dX6_transpose_104 : decode cX6_transpose 104 = .ok (.iload_n 1, 1) := by decide +kernel
theorem dX6_transpose_105 : decode cX6_transpose 105 = .ok (.iaload, 1) := by decide +kernel
theorem dX6_transpose_106 : decode cX6_transpose 106 = .ok (.if_icmp .ge 25, 3) := by decide +kernel
theorem dX6_transpose_109 : decode cX6_transpose 109 = .ok (.aload_n 0, 1) := by decide +kernel
theorem dX6_transpose_110 : decode cX6_transpose 110 = .ok (.getfield 13, 3) := by decide +kernel
theorem dX6_transpose_113 : decode cX6_transpose 113 = .ok (.bipush 16, 2) := by decide +kernel
theorem dX6_transpose_115 : decode cX6_transpose 115 = .ok (.iload_n 1, 1) := by decide +kernel
theorem dX6_transpose_116 : decode cX6_transpose 116 = .ok (.imul, 1) := by decide +kernel
theorem dX6_transpose_117 : decode cX6_transpose 117 = .ok (.iload 6, 2) := by decide +kernel
theorem dX6_transpose_119 : decode cX6_transpose 119 = .ok (.iadd, 1) := by decide +kernel
theorem dX6_transpose_120 : decode cX6_transpose 120 = .ok (.dup2, 1) := by decide +kernel
theorem dX6_transpose_121 : decode cX6_transpose 121 = .ok (.iaload, 1) := by decide +kernel
theorem dX6_transpose_122 : decode cX6_transpose 122 = .ok (.iload_n 2, 1) := by decide +kernel
theorem dX6_transpose_123 : decode cX6_transpose 123 = .ok (.iadd, 1) := by decide +kernel
theorem dX6_transpose_124 : decode cX6_transpose 124 = .ok (.iastore, 1) := by decide +kernel
theorem dX6_transpose_125 : decode cX6_transpose 125 = .ok (.iinc 6 1, 3) := by decide +kernel
theorem dX6_transpose_128 : decode cX6_transpose 128 = .ok (.goto (-30), 3) := by decide +kernel
theorem dX6_transpose_131 : decode cX6_transpose 131 = .ok (.return_, 1) := by decide +kernel
set_option maxRecDepth 20000 in
theorem ggX6_pitch_X6_isNote : GoodIn wsX6_pitch wsX6_isNote := goodIn_r _ [6, 7, 8, 9, 10, 5, 11, 12, 13, 14, 15, 21, 22, 23, 24, 25, 26, 27, 28, 29, 30, 31, 32, 33, 34, 35, 36, 37, 38, 39] (by decide +kernel) (by decide +kernel)
set_option maxRecDepth 20000 in
theorem gX6_pitch_X6_isNote : GoodIn wsX6_pitch (wsV RX6 78 RX6 yX6_isNote wsX6_isNote) := goodIn_app (goodIn_of _ (by decide +kernel)) ggX6_pitch_X6_isNote
set_option maxRecDepth 20000 in
theorem ggX6_pitch_X6_goes : GoodIn wsX6_pitch wsX6_goes := goodIn_r _ [19, 20, 21, 22, 23, 24, 25, 26, 27, 28, 29, 30, 31, 32, 33, 34, 35, 36, 37, 38, 39] (by decide +kernel) (by decide +kernel)
set_option maxRecDepth 20000 in
theorem gX6_pitch_X6_goes : GoodIn wsX6_pitch (wsV RX6 74 RX6 yX6_goes wsX6_goes) := goodIn_app (goodIn_of _ (by decide +kernel)) ggX6_pitch_X6_goes
theorem dX6_pitch_0 : decode cX6_pitch 0 = .ok (.aload_n 0, 1) := by decide +kernel
theorem dX6_pitch_1 : decode cX6_pitch 1 = .ok (.aload_n 0, 1) := by decide +kernel
theorem dX6_pitch_2 : decode cX6_pitch 2 = .ok (.iload_n 1, 1) := by decide +kernel
theorem dX6_pitch_3 : decode cX6_pitch 3 = .ok (.iload_n 2, 1) := by decide +kernel
theorem dX6_pitch_4 : decode cX6_pitch 4 = .ok (.invokevirtual 78, 3) := by decide +kernel
theorem dX6_pitch_7 : decode cX6_pitch 7 = .ok (.iconst 1, 1) := by decide +kernel
theorem dX6_pitch_8 : decode cX6_pitch 8 = .ok (.iconst 1, 1) := by decide +kernel
theorem dX6_pitch_9 : decode cX6_pitch 9 = .ok (.invokevirtual 74, 3) := by decide +kernel
theorem dX6_pitch_12 : decode cX6_pitch 12 = .ok (.ifCond .eq 17, 3) := by decide +kernel
theorem dX6_pitch_15 : decode cX6_pitch 15 = .ok (.aload_n 0, 1) := by decide +kernel
theorem dX6_pitch_16 : decode cX6_pitch 16 = .ok (.getfield 13, 3) := by decide +kernel
theorem dX6_pitch_19 : decode cX6_pitch 19 = .ok (.bipush 16, 2) := by decide +kernel
theorem dX6_pitch_21 : decode cX6_pitch 21 = .ok (.iload_n 1, 1) := by decide +kernel
theorem dX6_pitch_22 : decode cX6_pitch 22 = .ok (.imul, 1) := by decide +kernel
theorem dX6_pitch_23 : decode cX6_pitch 23 = .ok (.iload_n 2, 1) := by decide +kernel
theorem dX6_pitch_24 : decode cX6_pitch 24 = .ok (.iadd, 1) := by decide +kernel
theorem dX6_pitch_25 : decode cX6_pitch 25 = .ok (.iaload, 1) := by decide +kernel
theorem dX6_pitch_26 : decode cX6_pitch 26 = .ok (.goto 4, 3) := by decide +kernel
theorem dX6_pitch_29 : decode cX6_pitch 29 = .ok (.iconst 0, 1) := by decide +kernel
theorem dX6_pitch_30 : decode cX6_pitch 30 = .ok (.ireturn, 1) := by decide +kernel
set_option maxRecDepth 20000 in
theorem ggX6_tune_X6_isInstrument : GoodIn wsX6_tune wsX6_isInstrument := goodIn_r _ [6, 7, 8, 9, 5, 10, 16, 17, 18, 19, 20, 21, 22, 23, 24, 25, 26, 27, 28, 29, 30, 31, 32, 33, 34] (by decide +kernel) (by decide +kernel)
set_option maxRecDepth 20000 in
theorem gX6_tune_X6_isInstrument : GoodIn wsX6_tune (wsV RX6 82 RX6 yX6_isInstrument wsX6_isInstrument) := goodIn_app (goodIn_of _ (by decide +kernel)) ggX6_tune_X6_isInstrument
set_option maxRecDepth 20000 in
theorem ggX6_tune_X6_in : GoodIn wsX6_tune wsX6_in := goodIn_r _ [10] (by decide +kernel) (by decide +kernel)
set_option maxRecDepth 20000 in
theorem gX6_tune_X6_in : GoodIn wsX6_tune (va_wsS RX6 60 yX6_in wsX6_in) := goodIn_app (goodIn_of _ (by decide +kernel)) ggX6_tune_X6_in
set_option maxRecDepth 20000 in
theorem ggX6_tune_X6_goes : GoodIn wsX6_tune wsX6_goes := goodIn_r _ [14, 15, 16, 17, 18, 19, 20, 21, 22, 23, 24, 25, 26, 27, 28, 29, 30, 31, 32, 33, 34] (by decide +kernel) (by decide +kernel)
set_option maxRecDepth 20000 in
theorem gX6_tune_X6_goes : GoodIn wsX6_tune (wsV RX6 74 RX6 yX6_goes wsX6_goes) := goodIn_app (goodIn_of _ (by decide +kernel)) ggX6_tune_X6_goes
theorem dX6_tune_0 : decode cX6_tune 0 = .ok (.aload_n 0, 1) := by decide +kernel
theorem dX6_tune_1 : decode cX6_tune 1 = .ok (.iload_n 1, 1) := by decide +kernel
theorem dX6_tune_2 : decode cX6_tune 2 = .ok (.invokevirtual 82, 3) := by decide +kernel
theorem dX6_tune_5 : decode cX6_tune 5 = .ok (.istore 4, 2) := by decide +kernel
theorem dX6_tune_7 : decode cX6_tune 7 = .ok (.aload_n 0, 1) := by decide +kernel
theorem dX6_tune_8 : decode cX6_tune 8 = .ok (.iload 4, 2) := by decide +kernel
theorem dX6_tune_10 : decode cX6_tune 10 = .ok (.iload_n 2, 1) := by decide +kernel
theorem dX6_tune_11 : decode cX6_tune 11 = .ok (.iconst 0, 1) := by decide +kernel
theorem dX6_tune_12 : decode cX6_tune 12 = .ok (.iconst 3, 1) := by decide +kernel
theorem dX6_tune_13 : decode cX6_tune 13 = .ok (.invokestatic 60, 3) := by decide +kernel
theorem dX6_tune_16 : decode cX6_tune 16 = .ok (.ifCond .eq 17, 3) := by decide +kernel
theorem dX6_tune_19 : decode cX6_tune 19 = .ok (.iload_n 3, 1) := by decide +kernel
theorem dX6_tune_20 : decode cX6_tune 20 = .ok (.iconst 0, 1) := by decide +kernel
theorem dX6_tune_21 : decode cX6_tune 21 = .ok (.bipush 60, 2) := by decide +kernel
theorem dX6_tune_23 : decode cX6_tune 23 = .ok (.invokestatic 60, 3) := by decide +kernel
theorem dX6_tune_26 : decode cX6_tune 26 = .ok (.ifCond .eq 7, 3) := by decide +kernel
theorem dX6_tune_29 : decode cX6_tune 29 = .ok (.iconst 1, 1) := by decide +kernel
theorem dX6_tune_30 : decode cX6_tune 30 = .ok (.goto 4, 3) := by decide +kernel
theorem dX6_tune_33 : decode cX6_tune 33 = .ok (.iconst 0, 1) := by decide +kernel
theorem dX6_tune_34 : decode cX6_tune 34 = .ok (.iconst 1, 1) := by decide +kernel
theorem dX6_tune_35 : decode cX6_tune 35 = .ok (.invokevirtual 74, 3) := by decide +kernel
theorem dX6_tune_38 : decode cX6_tune 38 = .ok (.ifCond .ne 5, 3) := by decide +kernel
theorem dX6_tune_41 : decode cX6_tune 41 = .ok (.iconst 0, 1) := by decide +kernel
theorem dX6_tune_42 : decode cX6_tune 42 = .ok (.ireturn, 1) := by decide +kernel
theorem dX6_tune_43 : decode cX6_tune 43 = .ok (.aload_n 0, 1) := by decide +kernel
theorem dX6_tune_44 : decode cX6_tune 44 = .ok (.getfield 22, 3) := by decide +kernel
theorem dX6_tune_47 : decode cX6_tune 47 = .ok (.iconst 4, 1) := by decide +kernel
theorem dX6_tune_48 : decode cX6_tune 48 = .ok (.iload_n 1, 1) := by decide +kernel
theorem dX6_tune_49 : decode cX6_tune 49 = .ok (.imul, 1) := by decide +kernel
theorem dX6_tune_50 : decode cX6_tune 50 = .ok (.iload_n 2, 1) := by decide +kernel
theorem dX6_tune_51 : decode cX6_tune 51 = .ok (.iadd, 1) := by decide +kernel
theorem dX6_tune_52 : decode cX6_tune 52 = .ok (.iaload, 1) := by decide +kernel
theorem dX6_tune_53 : decode cX6_tune 53 = .ok (.istore 5, 2) := by decide +kernel
theorem dX6_tune_55 : decode cX6_tune 55 = .ok (.aload_n 0, 1) := by decide +kernel
theorem dX6_tune_56 : decode cX6_tune 56 = .ok (.getfield 22, 3) := by decide +kernel
theorem dX6_tune_59 : decode cX6_tune 59 = .ok (.iconst 4, 1) := by decide +kernel
theorem dX6_tune_60 : decode cX6_tune 60 = .ok (.iload_n 1, 1) := by decide +kernel
theorem dX6_tune_61 : decode cX6_tune 61 = .ok (.imul, 1) := by decide +kernel
theorem dX6_tune_62 : decode cX6_tune 62 = .ok (.iload_n 2, 1) := by decide +kernel
theorem dX6_tune_63 : decode cX6_tune 63 = .ok (.iadd, 1) := by decide +kernel
theorem dX6_tune_64 : decode cX6_tune 64 = .ok (.iload_n 3, 1) := by decide +kernel
theorem dX6_tune_65 : decode cX6_tune 65 = .ok (.iastore, 1) := by decide +kernel
theorem dX6_tune_66 : decode cX6_tune 66 = .ok (.iload 5, 2) := by decide +kernel
theorem dX6_tune_68 : decode cX6_tune 68 = .ok (.ireturn, 1) := by decide +kernel
set_option maxRecDepth 20000 in
theorem ggX6_owner_X6_isInstrument : GoodIn wsX6_owner wsX6_isInstrument := goodIn_r _ [6, 7, 8, 9, 5, 10, 16, 17, 18, 19, 20, 21, 22, 23, 24, 25, 26, 27, 28, 29, 30, 31, 32, 33, 34] (by decide +kernel) (by decide +kernel)
set_option maxRecDepth 20000 in
theorem gX6_owner_X6_isInstrument : GoodIn wsX6_owner (wsV RX6 82 RX6 yX6_isInstrument wsX6_isInstrument) := goodIn_app (goodIn_of _ (by decide +kernel)) ggX6_owner_X6_isInstrument
set_option maxRecDepth 20000 in
theorem ggX6_owner_X6_goes : GoodIn wsX6_owner wsX6_goes := goodIn_r _ [14, 15, 16, 17, 18, 19, 20, 21, 22, 23, 24, 25, 26, 27, 28, 29, 30, 31, 32, 33, 34] (by decide +kernel) (by decide +kernel)
set_option maxRecDepth 20000 in
theorem gX6_owner_X6_goes : GoodIn wsX6_owner (wsV RX6 74 RX6 yX6_goes wsX6_goes) := goodIn_app (goodIn_of _ (by decide +kernel)) ggX6_owner_X6_goes
theorem dX6_owner_0 : decode cX6_owner 0 = .ok (.aload_n 0, 1) := by decide +kernel
theorem dX6_owner_1 : decode cX6_owner 1 = .ok (.aload_n 0, 1) := by decide +kernel
theorem dX6_owner_2 : decode cX6_owner 2 = .ok (.iload_n 1, 1) := by decide +kernel
theorem dX6_owner_3 : decode cX6_owner 3 = .ok (.invokevirtual 82, 3) := by decide +kernel
theorem dX6_owner_6 : decode cX6_owner 6 = .ok (.iconst 1, 1) := by decide +kernel
theorem dX6_owner_7 : decode cX6_owner 7 = .ok (.iconst 1, 1) := by decide +kernel
theorem dX6_owner_8 : decode cX6_owner 8 = .ok (.invokevirtual 74, 3) := by decide +kernel
theorem dX6_owner_11 : decode cX6_owner 11 = .ok (.ifCond .eq 12, 3) := by decide +kernel
theorem dX6_owner_14 : decode cX6_owner 14 = .ok (.aload_n 0, 1) := by decide +kernel
theorem dX6_owner_15 : decode cX6_owner 15 = .ok (.getfield 16, 3) := by decide +kernel
theorem dX6_owner_18 : decode cX6_owner 18 = .ok (.iload_n 1, 1) := by decide +kernel
theorem dX6_owner_19 : decode cX6_owner 19 = .ok (.iaload, 1) := by decide +kernel
theorem dX6_owner_20 : decode cX6_owner 20 = .ok (.goto 4, 3) := by decide +kernel
theorem dX6_owner_23 : decode cX6_owner 23 = .ok (.iconst 0, 1) := by decide +kernel
theorem dX6_owner_24 : decode cX6_owner 24 = .ok (.ireturn, 1) := by decide +kernel
set_option maxRecDepth 20000 in
theorem ggX6_instruments_X6_told : GoodIn wsX6_instruments wsX6_told := goodIn_r _ [6, 7, 8, 9, 10, 11, 12, 13, 14, 15, 16, 17, 18, 19, 20, 21, 22, 23, 24, 25, 26] (by decide +kernel) (by decide +kernel)
set_option maxRecDepth 20000 in
theorem gX6_instruments_X6_told : GoodIn wsX6_instruments (wsV RX6 85 RX6 yX6_told wsX6_told) := goodIn_app (goodIn_of _ (by decide +kernel)) ggX6_instruments_X6_told
theorem dX6_instruments_0 : decode cX6_instruments 0 = .ok (.aload_n 0, 1) := by decide +kernel
theorem dX6_instruments_1 : decode cX6_instruments 1 = .ok (.aload_n 0, 1) := by decide +kernel
theorem dX6_instruments_2 : decode cX6_instruments 2 = .ok (.getfield 68, 3) := by decide +kernel
theorem dX6_instruments_5 : decode cX6_instruments 5 = .ok (.invokevirtual 85, 3) := by decide +kernel
theorem dX6_instruments_8 : decode cX6_instruments 8 = .ok (.ireturn, 1) := by decide +kernel
set_option maxRecDepth 20000 in
theorem ggX6_lies_X6_in : GoodIn wsX6_lies wsX6_in := goodIn_r _ [7] (by decide +kernel) (by decide +kernel)
set_option maxRecDepth 20000 in
theorem gX6_lies_X6_in : GoodIn wsX6_lies (va_wsS RX6 60 yX6_in wsX6_in) := goodIn_app (goodIn_of _ (by decide +kernel)) ggX6_lies_X6_in
theorem dX6_lies_0 : decode cX6_lies 0 = .ok (.aload_n 0, 1) := by decide +kernel
theorem dX6_lies_1 : decode cX6_lies 1 = .ok (.getfield 13, 3) := by decide +kernel
theorem dX6_lies_4 : decode cX6_lies 4 = .ok (.bipush 16, 2) := by decide +kernel
theorem dX6_lies_6 : decode cX6_lies 6 = .ok (.iload_n 1, 1) := by decide +kernel
theorem dX6_lies_7 : decode cX6_lies 7 = .ok (.imul, 1) := by decide +kernel
theorem dX6_lies_8 : decode cX6_lies 8 = .ok (.iload_n 2, 1) := by decide +kernel
theorem dX6_lies_9 : decode cX6_lies 9 = .ok (.iadd, 1) := by decide +kernel
theorem dX6_lies_10 : decode cX6_lies 10 = .ok (.iaload, 1) := by decide +kernel
theorem dX6_lies_11 : decode cX6_lies 11 = .ok (.aload_n 0, 1) := by decide +kernel
theorem dX6_lies_12 : decode cX6_lies 12 = .ok (.getfield 22, 3) := by decide +kernel
theorem dX6_lies_15 : decode cX6_lies 15 = .ok (.iconst 4, 1) := by decide +kernel
theorem dX6_lies_16 : decode cX6_lies 16 = .ok (.iload_n 3, 1) := by decide +kernel
theorem dX6_lies_17 : decode cX6_lies 17 = .ok (.imul, 1) := by decide +kernel
theorem dX6_lies_18 : decode cX6_lies 18 = .ok (.iload 4, 2) := by decide +kernel
theorem dX6_lies_20 : decode cX6_lies 20 = .ok (.iadd, 1) := by decide +kernel
theorem dX6_lies_21 : decode cX6_lies 21 = .ok (.iaload, 1) := by decide +kernel
theorem dX6_lies_22 : decode cX6_lies 22 = .ok (.isub, 1) := by decide +kernel
theorem dX6_lies_23 : decode cX6_lies 23 = .ok (.istore 6, 2) := by decide +kernel
theorem dX6_lies_25 : decode cX6_lies 25 = .ok (.iload 6, 2) := by decide +kernel
theorem dX6_lies_27 : decode cX6_lies 27 = .ok (.ifCond .eq 28, 3) := by decide +kernel
theorem dX6_lies_30 : decode cX6_lies 30 = .ok (.iload 6, 2) := by decide +kernel
theorem dX6_lies_32 : decode cX6_lies 32 = .ok (.iload 5, 2) := by decide +kernel
theorem dX6_lies_34 : decode cX6_lies 34 = .ok (.iload 5, 2) := by decide +kernel
theorem dX6_lies_36 : decode cX6_lies 36 = .ok (.iconst 3, 1) := by decide +kernel
theorem dX6_lies_37 : decode cX6_lies 37 = .ok (.iadd, 1) := by decide +kernel
theorem dX6_lies_38 : decode cX6_lies 38 = .ok (.invokestatic 60, 3) := by decide +kernel
theorem dX6_lies_41 : decode cX6_lies 41 = .ok (.ifCond .eq 18, 3) := by decide +kernel
theorem dX6_lies_44 : decode cX6_lies 44 = .ok (.iload 6, 2) := by decide +kernel
theorem dX6_lies_46 : decode cX6_lies 46 = .ok (.aload_n 0, 1) := by decide +kernel
theorem dX6_lies_47 : decode cX6_lies 47 = .ok (.getfield 19, 3) := by decide +kernel
theorem dX6_lies_50 : decode cX6_lies 50 = .ok (.iload_n 3, 1) := by decide +kernel
theorem dX6_lies_51 : decode cX6_lies 51 = .ok (.iaload, 1) := by decide +kernel
theorem dX6_lies_52 : decode cX6_lies 52 = .ok (.if_icmp .gt 7, 3) := by decide +kernel
theorem dX6_lies_55 : decode cX6_lies 55 = .ok (.iconst 1, 1) := by decide +kernel
theorem dX6_lies_56 : decode cX6_lies 56 = .ok (.goto 4, 3) := by decide +kernel
theorem dX6_lies_59 : decode cX6_lies 59 = .ok (.iconst 0, 1) := by decide +kernel
theorem dX6_lies_60 : decode cX6_lies 60 = .ok (.ireturn, 1) := by decide +kernel
set_option maxRecDepth 20000 in
theorem ggX6_plays_X6_lies : GoodIn wsX6_plays wsX6_lies := goodIn_r _ [5, 6, 7, 8, 9, 10, 4, 11, 12, 13, 14, 15, 16, 17, 18, 19, 20, 21, 22, 23, 24, 25, 26, 27, 28, 29, 30] (by decide +kernel) (by decide +kernel)
set_option maxRecDepth 20000 in
theorem gX6_plays_X6_lies : GoodIn wsX6_plays (wsV RX6 89 RX6 yX6_lies wsX6_lies) := goodIn_app (goodIn_of _ (by decide +kernel)) ggX6_plays_X6_lies
theorem dX6_plays_0 : decode cX6_plays 0 = .ok (.iconst 0, 1) := by decide +kernel
theorem dX6_plays_1 : decode cX6_plays 1 = .ok (.istore 5, 2) := by decide +kernel
theorem dX6_plays_3 : decode cX6_plays 3 = .ok (.iconst 0, 1) := by decide +kernel
theorem dX6_plays_4 : decode cX6_plays 4 = .ok (.istore 6, 2) := by decide +kernel
theorem dX6_plays_6 : decode cX6_plays 6 = .ok (.iload 6, 2) := by decide +kernel
theorem dX6_plays_8 : decode cX6_plays 8 = .ok (.iconst 4, 1) := by decide +kernel
theorem dX6_plays_9 : decode cX6_plays 9 = .ok (.if_icmp .ge 35, 3) := by decide +kernel
theorem dX6_plays_12 : decode cX6_plays 12 = .ok (.iload 5, 2) := by decide +kernel
theorem dX6_plays_14 : decode cX6_plays 14 = .ok (.ifCond .ne 17, 3) := by decide +kernel
theorem dX6_plays_17 : decode cX6_plays 17 = .ok (.aload_n 0, 1) := by decide +kernel
theorem dX6_plays_18 : decode cX6_plays 18 = .ok (.iload_n 1, 1) := by decide +kernel
theorem dX6_plays_19 : decode cX6_plays 19 = .ok (.iload_n 2, 1) := by decide +kernel
theorem dX6_plays_20 : decode cX6_plays 20 = .ok (.iload_n 3, 1) := by decide +kernel
theorem dX6_plays_21 : decode cX6_plays 21 = .ok (.iload 6, 2) := by decide +kernel
theorem dX6_plays_23 : decode cX6_plays 23 = .ok (.iload 4, 2) := by decide +kernel
theorem dX6_plays_25 : decode cX6_plays 25 = .ok (.invokevirtual 89, 3) := by decide +kernel
theorem dX6_plays_28 : decode cX6_plays 28 = .ok (.ifCond .eq 7, 3) := by decide +kernel
theorem dX6_plays_31 : decode cX6_plays 31 = .ok (.iconst 1, 1) := by decide +kernel
theorem dX6_plays_32 : decode cX6_plays 32 = .ok (.goto 4, 3) := by decide +kernel
theorem dX6_plays_35 : decode cX6_plays 35 = .ok (.iconst 0, 1) := by decide +kernel
theorem dX6_plays_36 : decode cX6_plays 36 = .ok (.istore 5, 2) := by decide +kernel
theorem dX6_plays_38 : decode cX6_plays 38 = .ok (.iinc 6 1, 3) := by decide +kernel
theorem dX6_plays_41 : decode cX6_plays 41 = .ok (.goto (-35), 3) := by decide +kernel
theorem dX6_plays_44 : decode cX6_plays 44 = .ok (.iload 5, 2) := by decide +kernel
theorem dX6_plays_46 : decode cX6_plays 46 = .ok (.ireturn, 1) := by decide +kernel
theorem dX6_apart_0 : decode cX6_apart 0 = .ok (.iload_n 0, 1) := by decide +kernel
theorem dX6_apart_1 : decode cX6_apart 1 = .ok (.iload_n 1, 1) := by decide +kernel
theorem dX6_apart_2 : decode cX6_apart 2 = .ok (.if_icmp .ge 9, 3) := by decide +kernel
theorem dX6_apart_5 : decode cX6_apart 5 = .ok (.iload_n 1, 1) := by decide +kernel
theorem dX6_apart_6 : decode cX6_apart 6 = .ok (.iload_n 0, 1) := by decide +kernel
theorem dX6_apart_7 : decode cX6_apart 7 = .ok (.isub, 1) := by decide +kernel
theorem dX6_apart_8 : decode cX6_apart 8 = .ok (.goto 6, 3) := by decide +kernel
theorem dX6_apart_11 : decode cX6_apart 11 = .ok (.iload_n 0, 1) := by decide +kernel
theorem dX6_apart_12 : decode cX6_apart 12 = .ok (.iload_n 1, 1) := by decide +kernel
theorem dX6_apart_13 : decode cX6_apart 13 = .ok (.isub, 1) := by decide +kernel
theorem dX6_apart_14 : decode cX6_apart 14 = .ok (.ireturn, 1) := by decide +kernel
set_option maxRecDepth 20000 in
theorem ggX6_from_X6_plays : GoodIn wsX6_from wsX6_plays := goodIn_r _ [9, 10, 11, 12, 8, 13, 14, 15, 3, 16, 17, 18, 22, 23, 24, 25, 26, 27, 28, 29, 30, 31, 32, 33, 34, 35, 36, 37, 38, 39, 40] (by decide +kernel) (by decide +kernel)
set_option maxRecDepth 20000 in
theorem gX6_from_X6_plays : GoodIn wsX6_from (wsV RX6 93 RX6 yX6_plays wsX6_plays) := goodIn_app (goodIn_of _ (by decide +kernel)) ggX6_from_X6_plays
set_option maxRecDepth 20000 in
theorem ggX6_from_X6_apart : GoodIn wsX6_from wsX6_apart := goodIn_r _ [21] (by decide +kernel) (by decide +kernel)
set_option maxRecDepth 20000 in
theorem gX6_from_X6_apart : GoodIn wsX6_from (va_wsS RX6 98 yX6_apart wsX6_apart) := goodIn_app (goodIn_of _ (by decide +kernel)) ggX6_from_X6_apart
theorem dX6_from_0 : decode cX6_from 0 = .ok (.aload_n 0, 1) := by decide +kernel
theorem dX6_from_1 : decode cX6_from 1 = .ok (.iload_n 1, 1) := by decide +kernel
theorem dX6_from_2 : decode cX6_from 2 = .ok (.iload_n 2, 1) := by decide +kernel
theorem dX6_from_3 : decode cX6_from 3 = .ok (.iload_n 3, 1) := by decide +kernel
theorem dX6_from_4 : decode cX6_from 4 = .ok (.iload 4, 2) := by decide +kernel
theorem dX6_from_6 : decode cX6_from 6 = .ok (.invokevirtual 93, 3) := by decide +kernel
theorem dX6_from_9 : decode cX6_from 9 = .ok (.ifCond .ne 6, 3) := by decide +kernel
theorem dX6_from_12 : decode cX6_from 12 = .ok (.ldc 97, 2) := by decide +kernel
theorem dX6_from_14 : decode cX6_from 14 = .ok (.ireturn, 1) := by decide +kernel
theorem dX6_from_15 : decode cX6_from 15 = .ok (.iload_n 2, 1) := by decide +kernel
theorem dX6_from_16 : decode cX6_from 16 = .ok (.iconst 1, 1) := by decide +kernel
theorem dX6_from_17 : decode cX6_from 17 = .ok (.iadd, 1) := by decide +kernel
theorem dX6_from_18 : decode cX6_from 18 = .ok (.aload_n 0, 1) := by decide +kernel
theorem dX6_from_19 : decode cX6_from 19 = .ok (.getfield 7, 3) := by decide +kernel
theorem dX6_from_22 : decode cX6_from 22 = .ok (.iload_n 1, 1) := by decide +kernel
theorem dX6_from_23 : decode cX6_from 23 = .ok (.iaload, 1) := by decide +kernel
theorem dX6_from_24 : decode cX6_from 24 = .ok (.if_icmp .ge 8, 3) := by decide +kernel
theorem dX6_from_27 : decode cX6_from 27 = .ok (.ldc 97, 2) := by decide +kernel
theorem dX6_from_29 : decode cX6_from 29 = .ok (.goto 4, 3) := by decide +kernel
theorem dX6_from_32 : decode cX6_from 32 = .ok (.iconst 0, 1) := by decide +kernel
theorem dX6_from_33 : decode cX6_from 33 = .ok (.istore 5, 2) := by decide +kernel
theorem dX6_from_35 : decode cX6_from 35 = .ok (.iconst 1, 1) := by decide +kernel
theorem dX6_from_36 : decode cX6_from 36 = .ok (.istore 6, 2) := by decide +kernel
theorem dX6_from_38 : decode cX6_from 38 = .ok (.iload_n 2, 1) := by decide +kernel
theorem dX6_from_39 : decode cX6_from 39 = .ok (.iconst 1, 1) := by decide +kernel
theorem dX6_from_40 : decode cX6_from 40 = .ok (.iadd, 1) := by decide +kernel
theorem dX6_from_41 : decode cX6_from 41 = .ok (.aload_n 0, 1) := by decide +kernel
theorem dX6_from_42 : decode cX6_from 42 = .ok (.getfield 7, 3) := by decide +kernel
theorem dX6_from_45 : decode cX6_from 45 = .ok (.iload_n 1, 1) := by decide +kernel
theorem dX6_from_46 : decode cX6_from 46 = .ok (.iaload, 1) := by decide +kernel
theorem dX6_from_47 : decode cX6_from 47 = .ok (.if_icmp .ge 62, 3) := by decide +kernel
theorem dX6_from_50 : decode cX6_from 50 = .ok (.iload 6, 2) := by decide +kernel
theorem dX6_from_52 : decode cX6_from 52 = .ok (.aload_n 0, 1) := by decide +kernel
theorem dX6_from_53 : decode cX6_from 53 = .ok (.getfield 19, 3) := by decide +kernel
theorem dX6_from_56 : decode cX6_from 56 = .ok (.iload_n 3, 1) := by decide +kernel
theorem dX6_from_57 : decode cX6_from 57 = .ok (.iaload, 1) := by decide +kernel
theorem dX6_from_58 : decode cX6_from 58 = .ok (.iconst 3, 1) := by decide +kernel
theorem dX6_from_59 : decode cX6_from 59 = .ok (.isub, 1) := by decide +kernel
theorem dX6_from_60 : decode cX6_from 60 = .ok (.if_icmp .gt 49, 3) := by decide +kernel
theorem dX6_from_63 : decode cX6_from 63 = .ok (.iload 4, 2) := by decide +kernel
theorem dX6_from_65 : decode cX6_from 65 = .ok (.iload 6, 2) := by decide +kernel
theorem dX6_from_67 : decode cX6_from 67 = .ok (.invokestatic 98, 3) := by decide +kernel
theorem dX6_from_70 : decode cX6_from 70 = .ok (.aload_n 0, 1) := by decide +kernel
theorem dX6_from_71 : decode cX6_from 71 = .ok (.getfield 47, 3) := by decide +kernel
theorem dX6_from_74 : decode cX6_from 74 = .ok (.bipush 14, 2) := by decide +kernel
theorem dX6_from_76 : decode cX6_from 76 = .ok (.iload_n 2, 1) := by decide +kernel
theorem dX6_from_77 : decode cX6_from 77 = .ok (.iconst 1, 1) := by decide +kernel
theorem dX6_from_78 : decode cX6_from 78 = .ok (.iadd, 1) := by decide +kernel
theorem dX6_from_79 : decode cX6_from 79 = .ok (.imul, 1) := by decide +kernel
theorem dX6_from_80 : decode cX6_from 80 = .ok (.iload 6, 2) := by decide +kernel
theorem dX6_from_82 : decode cX6_from 82 = .ok (.iadd, 1) := by decide +kernel
theorem dX6_from_83 : decode cX6_from 83 = .ok (.iaload, 1) := by decide +kernel
theorem dX6_from_84 : decode cX6_from 84 = .ok (.iadd, 1) := by decide +kernel
theorem dX6_from_85 : decode cX6_from 85 = .ok (.istore 7, 2) := by decide +kernel
theorem dX6_from_87 : decode cX6_from 87 = .ok (.iload 7, 2) := by decide +kernel
theorem dX6_from_89 : decode cX6_from 89 = .ok (.iload 5, 2) := by decide +kernel
theorem dX6_from_91 : decode cX6_from 91 = .ok (.if_icmp .ge 8, 3) := by decide +kernel
theorem dX6_from_94 : decode cX6_from 94 = .ok (.iload 7, 2) := by decide +kernel
theorem dX6_from_96 : decode cX6_from 96 = .ok (.goto 5, 3) := by decide +kernel
theorem dX6_from_99 : decode cX6_from 99 = .ok (.iload 5, 2) := by decide +kernel
theorem dX6_from_101 : decode cX6_from 101 = .ok (.istore 5, 2) := by decide +kernel
theorem dX6_from_103 : decode cX6_from 103 = .ok (.iinc 6 1, 3) := by decide +kernel
theorem dX6_from_106 : decode cX6_from 106 = .ok (.goto (-68), 3) := by decide +kernel
theorem dX6_from_109 : decode cX6_from 109 = .ok (.iload 5, 2) := by decide +kernel
theorem dX6_from_111 : decode cX6_from 111 = .ok (.ldc 97, 2) := by decide +kernel
theorem dX6_from_113 : decode cX6_from 113 = .ok (.if_icmp .le 8, 3) := by decide +kernel
theorem dX6_from_116 : decode cX6_from 116 = .ok (.ldc 97, 2) := by decide +kernel
theorem dX6_from_118 : decode cX6_from 118 = .ok (.goto 5, 3) := by decide +kernel
theorem dX6_from_121 : decode cX6_from 121 = .ok (.iload 5, 2) := by decide +kernel
theorem dX6_from_123 : decode cX6_from 123 = .ok (.ireturn, 1) := by decide +kernel
set_option maxRecDepth 20000 in
theorem ggX6_finds_X6_from : GoodIn wsX6_finds wsX6_from := goodIn_r _ [10, 4, 1, 2, 3, 11, 12, 13, 9, 14, 15, 16, 17, 18, 19, 20, 21, 22, 23, 24, 25, 26, 27, 28, 29, 30, 31, 32, 33, 34, 35, 36, 37, 38, 39, 40, 41, 42, 43, 44, 45] (by decide +kernel) (by decide +kernel)
set_option maxRecDepth 20000 in
theorem gX6_finds_X6_from : GoodIn wsX6_finds (wsV RX6 102 RX6 yX6_from wsX6_from) := goodIn_app (goodIn_of _ (by decide +kernel)) ggX6_finds_X6_from
set_option maxRecDepth 20000 in
theorem ggX6_finds_X6_apart : GoodIn wsX6_finds wsX6_apart := goodIn_r _ [26] (by decide +kernel) (by decide +kernel)
set_option maxRecDepth 20000 in
theorem gX6_finds_X6_apart : GoodIn wsX6_finds (va_wsS RX6 98 yX6_apart wsX6_apart) := goodIn_app (goodIn_of _ (by decide +kernel)) ggX6_finds_X6_apart
theorem dX6_finds_0 : decode cX6_finds 0 = .ok (.aload_n 0, 1) := by decide +kernel
theorem dX6_finds_1 : decode cX6_finds 1 = .ok (.getfield 7, 3) := by decide +kernel
theorem dX6_finds_4 : decode cX6_finds 4 = .ok (.iload_n 1, 1) := by decide +kernel
theorem dX6_finds_5 : decode cX6_finds 5 = .ok (.iaload, 1) := by decide +kernel
theorem dX6_finds_6 : decode cX6_finds 6 = .ok (.iconst 1, 1) := by decide +kernel
theorem dX6_finds_7 : decode cX6_finds 7 = .ok (.isub, 1) := by decide +kernel
theorem dX6_finds_8 : decode cX6_finds 8 = .ok (.istore_n 3, 1) := by decide +kernel
theorem dX6_finds_9 : decode cX6_finds 9 = .ok (.iload_n 3, 1) := by decide +kernel
theorem dX6_finds_10 : decode cX6_finds 10 = .ok (.ifCond .lt 52, 3) := by decide +kernel
theorem dX6_finds_13 : decode cX6_finds 13 = .ok (.iconst 1, 1) := by decide +kernel
theorem dX6_finds_14 : decode cX6_finds 14 = .ok (.istore 4, 2) := by decide +kernel
theorem dX6_finds_16 : decode cX6_finds 16 = .ok (.iload 4, 2) := by decide +kernel
theorem dX6_finds_18 : decode cX6_finds 18 = .ok (.aload_n 0, 1) := by decide +kernel
theorem dX6_finds_19 : decode cX6_finds 19 = .ok (.getfield 19, 3) := by decide +kernel
theorem dX6_finds_22 : decode cX6_finds 22 = .ok (.iload_n 2, 1) := by decide +kernel
theorem dX6_finds_23 : decode cX6_finds 23 = .ok (.iaload, 1) := by decide +kernel
theorem dX6_finds_24 : decode cX6_finds 24 = .ok (.iconst 3, 1) := by decide +kernel
theorem dX6_finds_25 : decode cX6_finds 25 = .ok (.isub, 1) := by decide +kernel
theorem dX6_finds_26 : decode cX6_finds 26 = .ok (.if_icmp .gt 30, 3) := by decide +kernel
theorem dX6_finds_29 : decode cX6_finds 29 = .ok (.aload_n 0, 1) := by decide +kernel
theorem dX6_finds_30 : decode cX6_finds 30 = .ok (.getfield 47, 3) := by decide +kernel
theorem dX6_finds_33 : decode cX6_finds 33 = .ok (.bipush 14, 2) := by decide +kernel
theorem dX6_finds_35 : decode cX6_finds 35 = .ok (.iload_n 3, 1) := by decide +kernel
theorem dX6_finds_36 : decode cX6_finds 36 = .ok (.imul, 1) := by decide +kernel
theorem dX6_finds_37 : decode cX6_finds 37 = .ok (.iload 4, 2) := by decide +kernel
theorem dX6_finds_39 : decode cX6_finds 39 = .ok (.iadd, 1) := by decide +kernel
theorem dX6_finds_40 : decode cX6_finds 40 = .ok (.aload_n 0, 1) := by decide +kernel
theorem dX6_finds_41 : decode cX6_finds 41 = .ok (.iload_n 1, 1) := by decide +kernel
theorem dX6_finds_42 : decode cX6_finds 42 = .ok (.iload_n 3, 1) := by decide +kernel
theorem dX6_finds_43 : decode cX6_finds 43 = .ok (.iload_n 2, 1) := by decide +kernel
theorem dX6_finds_44 : decode cX6_finds 44 = .ok (.iload 4, 2) := by decide +kernel
theorem dX6_finds_46 : decode cX6_finds 46 = .ok (.invokevirtual 102, 3) := by decide +kernel
theorem dX6_finds_49 : decode cX6_finds 49 = .ok (.iastore, 1) := by decide +kernel
theorem dX6_finds_50 : decode cX6_finds 50 = .ok (.iinc 4 1, 3) := by decide +kernel
theorem dX6_finds_53 : decode cX6_finds 53 = .ok (.goto (-37), 3) := by decide +kernel
theorem dX6_finds_56 : decode cX6_finds 56 = .ok (.iinc 3 (-1), 3) := by decide +kernel
theorem dX6_finds_59 : decode cX6_finds 59 = .ok (.goto (-50), 3) := by decide +kernel
theorem dX6_finds_62 : decode cX6_finds 62 = .ok (.ldc 97, 2) := by decide +kernel
theorem dX6_finds_64 : decode cX6_finds 64 = .ok (.istore_n 3, 1) := by decide +kernel
theorem dX6_finds_65 : decode cX6_finds 65 = .ok (.aload_n 0, 1) := by decide +kernel
theorem dX6_finds_66 : decode cX6_finds 66 = .ok (.getfield 19, 3) := by decide +kernel
theorem dX6_finds_69 : decode cX6_finds 69 = .ok (.iload_n 2, 1) := by decide +kernel
theorem dX6_finds_70 : decode cX6_finds 70 = .ok (.iaload, 1) := by decide +kernel
theorem dX6_finds_71 : decode cX6_finds 71 = .ok (.iconst 3, 1) := by decide +kernel
theorem dX6_finds_72 : decode cX6_finds 72 = .ok (.isub, 1) := by decide +kernel
theorem dX6_finds_73 : decode cX6_finds 73 = .ok (.istore 4, 2) := by decide +kernel
theorem dX6_finds_75 : decode cX6_finds 75 = .ok (.iload 4, 2) := by decide +kernel
theorem dX6_finds_77 : decode cX6_finds 77 = .ok (.iconst 1, 1) := by decide +kernel
theorem dX6_finds_78 : decode cX6_finds 78 = .ok (.if_icmp .lt 45, 3) := by decide +kernel
theorem dX6_finds_81 : decode cX6_finds 81 = .ok (.aload_n 0, 1) := by decide +kernel
theorem dX6_finds_82 : decode cX6_finds 82 = .ok (.getfield 7, 3) := by decide +kernel
theorem dX6_finds_85 : decode cX6_finds 85 = .ok (.iload_n 1, 1) := by decide +kernel
theorem dX6_finds_86 : decode cX6_finds 86 = .ok (.iaload, 1) := by decide +kernel
theorem dX6_finds_87 : decode cX6_finds 87 = .ok (.ifCond .le 36, 3) := by decide +kernel
theorem dX6_finds_90 : decode cX6_finds 90 = .ok (.aload_n 0, 1) := by decide +kernel
theorem dX6_finds_91 : decode cX6_finds 91 = .ok (.getfield 47, 3) := by decide +kernel
theorem dX6_finds_94 : decode cX6_finds 94 = .ok (.iload 4, 2) := by decide +kernel
theorem dX6_finds_96 : decode cX6_finds 96 = .ok (.iaload, 1) := by decide +kernel
theorem dX6_finds_97 : decode cX6_finds 97 = .ok (.iload_n 3, 1) := by decide +kernel
theorem dX6_finds_98 : decode cX6_finds 98 = .ok (.if_icmp .gt 19, 3) := by decide +kernel
theorem dX6_finds_101 : decode cX6_finds 101 = .ok (.aload_n 0, 1) := by decide +kernel
theorem dX6_finds_102 : decode cX6_finds 102 = .ok (.getfield 47, 3) := by decide +kernel
theorem dX6_finds_105 : decode cX6_finds 105 = .ok (.iload 4, 2) := by decide +kernel
theorem dX6_finds_107 : decode cX6_finds 107 = .ok (.iaload, 1) := by decide +kernel
theorem dX6_finds_108 : decode cX6_finds 108 = .ok (.istore_n 3, 1) := by decide +kernel
theorem dX6_finds_109 : decode cX6_finds 109 = .ok (.aload_n 0, 1) := by decide +kernel
theorem dX6_finds_110 : decode cX6_finds 110 = .ok (.getfield 50, 3) := by decide +kernel
theorem dX6_finds_113 : decode cX6_finds 113 = .ok (.iconst 0, 1) := by decide +kernel
theorem dX6_finds_114 : decode cX6_finds 114 = .ok (.iload 4, 2) := by decide +kernel
theorem dX6_finds_116 : decode cX6_finds 116 = .ok (.iastore, 1) := by decide +kernel
theorem dX6_finds_117 : decode cX6_finds 117 = .ok (.iinc 4 (-1), 3) := by decide +kernel
theorem dX6_finds_120 : decode cX6_finds 120 = .ok (.goto (-45), 3) := by decide +kernel
theorem dX6_finds_123 : decode cX6_finds 123 = .ok (.iconst 1, 1) := by decide +kernel
theorem dX6_finds_124 : decode cX6_finds 124 = .ok (.istore 4, 2) := by decide +kernel
theorem dX6_finds_126 : decode cX6_finds 126 = .ok (.iload 4, 2) := by decide +kernel
theorem dX6_finds_128 : decode cX6_finds 128 = .ok (.aload_n 0, 1) := by decide +kernel
theorem dX6_finds_129 : decode cX6_finds 129 = .ok (.getfield 7, 3) := by decide +kernel
theorem dX6_finds_132 : decode cX6_finds 132 = .ok (.iload_n 1, 1) := by decide +kernel
theorem dX6_finds_133 : decode cX6_finds 133 = .ok (.iaload, 1) := by decide +kernel
theorem dX6_finds_134 : decode cX6_finds 134 = .ok (.if_icmp .ge 103, 3) := by decide +kernel
theorem dX6_finds_137 : decode cX6_finds 137 = .ok (.iload_n 3, 1) := by decide +kernel
theorem dX6_finds_138 : decode cX6_finds 138 = .ok (.ldc 97, 2) := by decide +kernel
theorem dX6_finds_140 : decode cX6_finds 140 = .ok (.if_icmp .ge 97, 3) := by decide +kernel
theorem dX6_finds_143 : decode cX6_finds 143 = .ok (.aload_n 0, 1) := by decide +kernel
theorem dX6_finds_144 : decode cX6_finds 144 = .ok (.getfield 47, 3) := by decide +kernel
theorem dX6_finds_147 : decode cX6_finds 147 = .ok (.bipush 14, 2) := by decide +kernel
theorem dX6_finds_149 : decode cX6_finds 149 = .ok (.iload 4, 2) := by decide +kernel
theorem dX6_finds_151 : decode cX6_finds 151 = .ok (.iconst 1, 1) := by decide +kernel
theorem dX6_finds_152 : decode cX6_finds 152 = .ok (.isub, 1) := by decide +kernel
theorem dX6_finds_153 : decode cX6_finds 153 = .ok (.imul, 1) := by decide +kernel
theorem dX6_finds_154 : decode cX6_finds 154 = .ok (.aload_n 0, 1) := by decide +kernel
theorem dX6_finds_155 : decode cX6_finds 155 = .ok (.getfield 50, 3) := by decide +kernel
theorem dX6_finds_158 : decode cX6_finds 158 = .ok (.iload 4, 2) := by decide +kernel
theorem dX6_finds_160 : decode cX6_finds 160 = .ok (.iconst 1, 1) := by decide +kernel
theorem dX6_finds_161 : decode cX6_finds 161 = .ok (.isub, 1) := by decide +kernel
theorem dX6_finds_162 : decode cX6_finds 162 = .ok (.iaload, 1) := by decide +kernel
theorem dX6_finds_163 : decode cX6_finds 163 = .ok (.iadd, 1) := by decide +kernel
theorem dX6_finds_164 : decode cX6_finds 164 = .ok (.iaload, 1) := by decide +kernel
theorem dX6_finds_165 : decode cX6_finds 165 = .ok (.istore 5, 2) := by decide +kernel
theorem dX6_finds_167 : decode cX6_finds 167 = .ok (.aload_n 0, 1) := by decide +kernel
theorem dX6_finds_168 : decode cX6_finds 168 = .ok (.getfield 19, 3) := by decide +kernel
theorem dX6_finds_171 : decode cX6_finds 171 = .ok (.iload_n 2, 1) := by decide +kernel
theorem dX6_finds_172 : decode cX6_finds 172 = .ok (.iaload, 1) := by decide +kernel
theorem dX6_finds_173 : decode cX6_finds 173 = .ok (.iconst 3, 1) := by decide +kernel
theorem dX6_finds_174 : decode cX6_finds 174 = .ok (.isub, 1) := by decide +kernel
theorem dX6_finds_175 : decode cX6_finds 175 = .ok (.istore 6, 2) := by decide +kernel
theorem dX6_finds_177 : decode cX6_finds 177 = .ok (.iload 6, 2) := by decide +kernel
theorem dX6_finds_179 : decode cX6_finds 179 = .ok (.iconst 1, 1) := by decide +kernel
theorem dX6_finds_180 : decode cX6_finds 180 = .ok (.if_icmp .lt 51, 3) := by decide +kernel
theorem dX6_finds_183 : decode cX6_finds 183 = .ok (.aload_n 0, 1) := by decide +kernel
theorem dX6_finds_184 : decode cX6_finds 184 = .ok (.getfield 50, 3) := by decide +kernel
theorem dX6_finds_187 : decode cX6_finds 187 = .ok (.iload 4, 2) := by decide +kernel
theorem dX6_finds_189 : decode cX6_finds 189 = .ok (.iconst 1, 1) := by decide +kernel
theorem dX6_finds_190 : decode cX6_finds 190 = .ok (.isub, 1) := by decide +kernel
theorem dX6_finds_191 : decode cX6_finds 191 = .ok (.iaload, 1) := by decide +kernel
theorem dX6_finds_192 : decode cX6_finds 192 = .ok (.iload 6, 2) := by decide +kernel
theorem dX6_finds_194 : decode cX6_finds 194 = .ok (.invokestatic 98, 3) := by decide +kernel
theorem dX6_finds_197 : decode cX6_finds 197 = .ok (.aload_n 0, 1) := by decide +kernel
theorem dX6_finds_198 : decode cX6_finds 198 = .ok (.getfield 47, 3) := by decide +kernel
theorem dX6_finds_201 : decode cX6_finds 201 = .ok (.bipush 14, 2) := by decide +kernel
theorem dX6_finds_203 : decode cX6_finds 203 = .ok (.iload 4, 2) := by decide +kernel
theorem dX6_finds_205 : decode cX6_finds 205 = .ok (.imul, 1) := by decide +kernel
theorem dX6_finds_206 : decode cX6_finds 206 = .ok (.iload 6, 2) := by decide +kernel
theorem dX6_finds_208 : decode cX6_finds 208 = .ok (.iadd, 1) := by decide +kernel
theorem dX6_finds_209 : decode cX6_finds 209 = .ok (.iaload, 1) := by decide +kernel
theorem dX6_finds_210 : decode cX6_finds 210 = .ok (.iadd, 1) := by decide +kernel
theorem dX6_finds_211 : decode cX6_finds 211 = .ok (.iload 5, 2) := by decide +kernel
theorem dX6_finds_213 : decode cX6_finds 213 = .ok (.if_icmp .ne 12, 3) := by decide +kernel
theorem dX6_finds_216 : decode cX6_finds 216 = .ok (.aload_n 0, 1) := by decide +kernel
theorem dX6_finds_217 : decode cX6_finds 217 = .ok (.getfield 50, 3) := by decide +kernel
theorem dX6_finds_220 : decode cX6_finds 220 = .ok (.iload 4, 2) := by decide +kernel
theorem dX6_finds_222 : decode cX6_finds 222 = .ok (.iload 6, 2) := by decide +kernel
theorem dX6_finds_224 : decode cX6_finds 224 = .ok (.iastore, 1) := by decide +kernel
theorem dX6_finds_225 : decode cX6_finds 225 = .ok (.iinc 6 (-1), 3) := by decide +kernel
theorem dX6_finds_228 : decode cX6_finds 228 = .ok (.goto (-51), 3) := by decide +kernel
theorem dX6_finds_231 : decode cX6_finds 231 = .ok (.iinc 4 1, 3) := by decide +kernel
theorem dX6_finds_234 : decode cX6_finds 234 = .ok (.goto (-108), 3) := by decide +kernel
theorem dX6_finds_237 : decode cX6_finds 237 = .ok (.iload_n 3, 1) := by decide +kernel
theorem dX6_finds_238 : decode cX6_finds 238 = .ok (.ldc 97, 2) := by decide +kernel
theorem dX6_finds_240 : decode cX6_finds 240 = .ok (.if_icmp .ge 7, 3) := by decide +kernel
theorem dX6_finds_243 : decode cX6_finds 243 = .ok (.iload_n 3, 1) := by decide +kernel
theorem dX6_finds_244 : decode cX6_finds 244 = .ok (.goto 4, 3) := by decide +kernel
theorem dX6_finds_247 : decode cX6_finds 247 = .ok (.iconst (-1), 1) := by decide +kernel
theorem dX6_finds_248 : decode cX6_finds 248 = .ok (.ireturn, 1) := by decide +kernel
set_option maxRecDepth 20000 in
theorem ggX6_asks_X6_isPiece : GoodIn wsX6_asks wsX6_isPiece := goodIn_r _ [5, 6, 7, 8, 4, 9, 20, 21, 22, 23, 24, 25, 26, 27, 28, 29, 30, 31, 32, 33, 34, 35, 36, 37, 38] (by decide +kernel) (by decide +kernel)
set_option maxRecDepth 20000 in
theorem gX6_asks_X6_isPiece : GoodIn wsX6_asks (wsV RX6 64 RX6 yX6_isPiece wsX6_isPiece) := goodIn_app (goodIn_of _ (by decide +kernel)) ggX6_asks_X6_isPiece
set_option maxRecDepth 20000 in
theorem ggX6_asks_X6_isInstrument : GoodIn wsX6_asks wsX6_isInstrument := goodIn_r _ [13, 14, 7, 8, 4, 9, 20, 21, 22, 23, 24, 25, 26, 27, 28, 29, 30, 31, 32, 33, 34, 35, 36, 37, 38] (by decide +kernel) (by decide +kernel)
set_option maxRecDepth 20000 in
theorem gX6_asks_X6_isInstrument : GoodIn wsX6_asks (wsV RX6 82 RX6 yX6_isInstrument wsX6_isInstrument) := goodIn_app (goodIn_of _ (by decide +kernel)) ggX6_asks_X6_isInstrument
set_option maxRecDepth 20000 in
theorem ggX6_asks_X6_goes : GoodIn wsX6_asks wsX6_goes := goodIn_r _ [18, 19, 20, 21, 22, 23, 24, 25, 26, 27, 28, 29, 30, 31, 32, 33, 34, 35, 36, 37, 38] (by decide +kernel) (by decide +kernel)
set_option maxRecDepth 20000 in
theorem gX6_asks_X6_goes : GoodIn wsX6_asks (wsV RX6 74 RX6 yX6_goes wsX6_goes) := goodIn_app (goodIn_of _ (by decide +kernel)) ggX6_asks_X6_goes
theorem dX6_asks_0 : decode cX6_asks 0 = .ok (.aload_n 0, 1) := by decide +kernel
theorem dX6_asks_1 : decode cX6_asks 1 = .ok (.aload_n 0, 1) := by decide +kernel
theorem dX6_asks_2 : decode cX6_asks 2 = .ok (.iload_n 1, 1) := by decide +kernel
theorem dX6_asks_3 : decode cX6_asks 3 = .ok (.invokevirtual 64, 3) := by decide +kernel
theorem dX6_asks_6 : decode cX6_asks 6 = .ok (.ifCond .eq 15, 3) := by decide +kernel
theorem dX6_asks_9 : decode cX6_asks 9 = .ok (.aload_n 0, 1) := by decide +kernel
theorem dX6_asks_10 : decode cX6_asks 10 = .ok (.iload_n 2, 1) := by decide +kernel
theorem dX6_asks_11 : decode cX6_asks 11 = .ok (.invokevirtual 82, 3) := by decide +kernel
theorem dX6_asks_14 : decode cX6_asks 14 = .ok (.ifCond .eq 7, 3) := by decide +kernel
theorem dX6_asks_17 : decode cX6_asks 17 = .ok (.iconst 1, 1) := by decide +kernel
theorem dX6_asks_18 : decode cX6_asks 18 = .ok (.goto 4, 3) := by decide +kernel
theorem dX6_asks_21 : decode cX6_asks 21 = .ok (.iconst 0, 1) := by decide +kernel
theorem dX6_asks_22 : decode cX6_asks 22 = .ok (.iconst 1, 1) := by decide +kernel
theorem dX6_asks_23 : decode cX6_asks 23 = .ok (.iconst 1, 1) := by decide +kernel
theorem dX6_asks_24 : decode cX6_asks 24 = .ok (.invokevirtual 74, 3) := by decide +kernel
theorem dX6_asks_27 : decode cX6_asks 27 = .ok (.ireturn, 1) := by decide +kernel
set_option maxRecDepth 20000 in
theorem ggX6_shifts_X6_asks : GoodIn wsX6_shifts wsX6_asks := goodIn_r _ [5, 6, 7, 8, 4, 9, 10, 11, 12, 13, 14, 15, 16, 17, 18, 19, 20, 21, 22, 23, 50, 51, 52, 53, 54, 55, 56, 57, 58, 59, 60, 61, 62, 63, 64, 65, 66, 67, 68] (by decide +kernel) (by decide +kernel)
set_option maxRecDepth 20000 in
theorem gX6_shifts_X6_asks : GoodIn wsX6_shifts (wsV RX6 106 RX6 yX6_asks wsX6_asks) := goodIn_app (goodIn_of _ (by decide +kernel)) ggX6_shifts_X6_asks
set_option maxRecDepth 20000 in
theorem ggX6_shifts_X6_finds : GoodIn wsX6_shifts wsX6_finds := goodIn_r _ [27, 28, 29, 30, 31, 32, 33, 34, 35, 4, 36, 37, 38, 39, 40, 41, 42, 43, 44, 45, 46, 11, 12, 13, 47, 48, 49, 50, 51, 52, 53, 54, 55, 56, 57, 58, 59, 60, 61, 62, 63, 64, 65, 66, 67, 68] (by decide +kernel) (by decide +kernel)
set_option maxRecDepth 20000 in
theorem gX6_shifts_X6_finds : GoodIn wsX6_shifts (wsV RX6 109 RX6 yX6_finds wsX6_finds) := goodIn_app (goodIn_of _ (by decide +kernel)) ggX6_shifts_X6_finds
theorem dX6_shifts_0 : decode cX6_shifts 0 = .ok (.aload_n 0, 1) := by decide +kernel
theorem dX6_shifts_1 : decode cX6_shifts 1 = .ok (.iload_n 1, 1) := by decide +kernel
theorem dX6_shifts_2 : decode cX6_shifts 2 = .ok (.iload_n 2, 1) := by decide +kernel
theorem dX6_shifts_3 : decode cX6_shifts 3 = .ok (.invokevirtual 106, 3) := by decide +kernel
theorem dX6_shifts_6 : decode cX6_shifts 6 = .ok (.ifCond .eq 12, 3) := by decide +kernel
theorem dX6_shifts_9 : decode cX6_shifts 9 = .ok (.aload_n 0, 1) := by decide +kernel
theorem dX6_shifts_10 : decode cX6_shifts 10 = .ok (.iload_n 1, 1) := by decide +kernel
theorem dX6_shifts_11 : decode cX6_shifts 11 = .ok (.iload_n 2, 1) := by decide +kernel
theorem dX6_shifts_12 : decode cX6_shifts 12 = .ok (.invokevirtual 109, 3) := by decide +kernel
theorem dX6_shifts_15 : decode cX6_shifts 15 = .ok (.goto 4, 3) := by decide +kernel
theorem dX6_shifts_18 : decode cX6_shifts 18 = .ok (.iconst 0, 1) := by decide +kernel
theorem dX6_shifts_19 : decode cX6_shifts 19 = .ok (.ireturn, 1) := by decide +kernel
set_option maxRecDepth 20000 in
theorem ggX6_shiftsByAll_X6_isPiece : GoodIn wsX6_shiftsByAll wsX6_isPiece := goodIn_r _ [6, 7, 8, 9, 5, 10, 46, 47, 48, 49, 50, 51, 52, 53, 54, 55, 56, 57, 58, 59, 60, 61, 62, 63, 64] (by decide +kernel) (by decide +kernel)
set_option maxRecDepth 20000 in
theorem gX6_shiftsByAll_X6_isPiece : GoodIn wsX6_shiftsByAll (wsV RX6 64 RX6 yX6_isPiece wsX6_isPiece) := goodIn_app (goodIn_of _ (by decide +kernel)) ggX6_shiftsByAll_X6_isPiece
set_option maxRecDepth 20000 in
theorem ggX6_shiftsByAll_X6_isInstrument : GoodIn wsX6_shiftsByAll wsX6_isInstrument := goodIn_r _ [14, 15, 8, 9, 5, 10, 46, 47, 48, 49, 50, 51, 52, 53, 54, 55, 56, 57, 58, 59, 60, 61, 62, 63, 64] (by decide +kernel) (by decide +kernel)
set_option maxRecDepth 20000 in
theorem gX6_shiftsByAll_X6_isInstrument : GoodIn wsX6_shiftsByAll (wsV RX6 82 RX6 yX6_isInstrument wsX6_isInstrument) := goodIn_app (goodIn_of _ (by decide +kernel)) ggX6_shiftsByAll_X6_isInstrument
set_option maxRecDepth 20000 in
theorem ggX6_shiftsByAll_X6_goes : GoodIn wsX6_shiftsByAll wsX6_goes := goodIn_r _ [19, 20, 46, 47, 48, 49, 50, 51, 52, 53, 54, 55, 56, 57, 58, 59, 60, 61, 62, 63, 64] (by decide +kernel) (by decide +kernel)
set_option maxRecDepth 20000 in
theorem gX6_shiftsByAll_X6_goes : GoodIn wsX6_shiftsByAll (wsV RX6 74 RX6 yX6_goes wsX6_goes) := goodIn_app (goodIn_of _ (by decide +kernel)) ggX6_shiftsByAll_X6_goes
set_option maxRecDepth 20000 in
theorem ggX6_shiftsByAll_X6_finds : GoodIn wsX6_shiftsByAll wsX6_finds := goodIn_r _ [24, 1, 25, 26, 27, 28, 29, 30, 31, 5, 32, 33, 34, 35, 36, 37, 38, 39, 40, 41, 42, 8, 9, 10, 43, 44, 45, 46, 47, 48, 49, 50, 51, 52, 53, 54, 55, 56, 57, 58, 59, 60, 61, 62, 63, 64] (by decide +kernel) (by decide +kernel)
set_option maxRecDepth 20000 in
theorem gX6_shiftsByAll_X6_finds : GoodIn wsX6_shiftsByAll (wsV RX6 109 RX6 yX6_finds wsX6_finds) := goodIn_app (goodIn_of _ (by decide +kernel)) ggX6_shiftsByAll_X6_finds
theorem dX6_shiftsByAll_0 : decode cX6_shiftsByAll 0 = .ok (.aload_n 0, 1) := by decide +kernel
theorem dX6_shiftsByAll_1 : decode cX6_shiftsByAll 1 = .ok (.iload_n 1, 1) := by decide +kernel
theorem dX6_shiftsByAll_2 : decode cX6_shiftsByAll 2 = .ok (.invokevirtual 64, 3) := by decide +kernel
theorem dX6_shiftsByAll_5 : decode cX6_shiftsByAll 5 = .ok (.ifCond .eq 15, 3) := by decide +kernel
theorem dX6_shiftsByAll_8 : decode cX6_shiftsByAll 8 = .ok (.aload_n 0, 1) := by decide +kernel
theorem dX6_shiftsByAll_9 : decode cX6_shiftsByAll 9 = .ok (.iload_n 2, 1) := by decide +kernel
theorem dX6_shiftsByAll_10 : decode cX6_shiftsByAll 10 = .ok (.invokevirtual 82, 3) := by decide +kernel
theorem dX6_shiftsByAll_13 : decode cX6_shiftsByAll 13 = .ok (.ifCond .eq 7, 3) := by decide +kernel
theorem dX6_shiftsByAll_16 : decode cX6_shiftsByAll 16 = .ok (.iconst 1, 1) := by decide +kernel
theorem dX6_shiftsByAll_17 : decode cX6_shiftsByAll 17 = .ok (.goto 4, 3) := by decide +kernel
theorem dX6_shiftsByAll_20 : decode cX6_shiftsByAll 20 = .ok (.iconst 0, 1) := by decide +kernel
theorem dX6_shiftsByAll_21 : decode cX6_shiftsByAll 21 = .ok (.istore_n 3, 1) := by decide +kernel
theorem dX6_shiftsByAll_22 : decode cX6_shiftsByAll 22 = .ok (.aload_n 0, 1) := by decide +kernel
theorem dX6_shiftsByAll_23 : decode cX6_shiftsByAll 23 = .ok (.iload_n 3, 1) := by decide +kernel
theorem dX6_shiftsByAll_24 : decode cX6_shiftsByAll 24 = .ok (.iload_n 3, 1) := by decide +kernel
theorem dX6_shiftsByAll_25 : decode cX6_shiftsByAll 25 = .ok (.ifCond .eq 17, 3) := by decide +kernel
theorem dX6_shiftsByAll_28 : decode cX6_shiftsByAll 28 = .ok (.aload_n 0, 1) := by decide +kernel
theorem dX6_shiftsByAll_29 : decode cX6_shiftsByAll 29 = .ok (.getfield 7, 3) := by decide +kernel
theorem dX6_shiftsByAll_32 : decode cX6_shiftsByAll 32 = .ok (.iload_n 1, 1) := by decide +kernel
theorem dX6_shiftsByAll_33 : decode cX6_shiftsByAll 33 = .ok (.iaload, 1) := by decide +kernel
theorem dX6_shiftsByAll_34 : decode cX6_shiftsByAll 34 = .ok (.iconst 4, 1) := by decide +kernel
theorem dX6_shiftsByAll_35 : decode cX6_shiftsByAll 35 = .ok (.if_icmp .gt 7, 3) := by decide +kernel
theorem dX6_shiftsByAll_38 : decode cX6_shiftsByAll 38 = .ok (.iconst 1, 1) := by decide +kernel
theorem dX6_shiftsByAll_39 : decode cX6_shiftsByAll 39 = .ok (.goto 4, 3) := by decide +kernel
theorem dX6_shiftsByAll_42 : decode cX6_shiftsByAll 42 = .ok (.iconst 0, 1) := by decide +kernel
theorem dX6_shiftsByAll_43 : decode cX6_shiftsByAll 43 = .ok (.iconst 1, 1) := by decide +kernel
theorem dX6_shiftsByAll_44 : decode cX6_shiftsByAll 44 = .ok (.invokevirtual 74, 3) := by decide +kernel
theorem dX6_shiftsByAll_47 : decode cX6_shiftsByAll 47 = .ok (.ifCond .eq 12, 3) := by decide +kernel
theorem dX6_shiftsByAll_50 : decode cX6_shiftsByAll 50 = .ok (.aload_n 0, 1) := by decide +kernel
theorem dX6_shiftsByAll_51 : decode cX6_shiftsByAll 51 = .ok (.iload_n 1, 1) := by decide +kernel
theorem dX6_shiftsByAll_52 : decode cX6_shiftsByAll 52 = .ok (.iload_n 2, 1) := by decide +kernel
theorem dX6_shiftsByAll_53 : decode cX6_shiftsByAll 53 = .ok (.invokevirtual 109, 3) := by decide +kernel
theorem dX6_shiftsByAll_56 : decode cX6_shiftsByAll 56 = .ok (.goto 4, 3) := by decide +kernel
theorem dX6_shiftsByAll_59 : decode cX6_shiftsByAll 59 = .ok (.iconst 0, 1) := by decide +kernel
theorem dX6_shiftsByAll_60 : decode cX6_shiftsByAll 60 = .ok (.ireturn, 1) := by decide +kernel
set_option maxRecDepth 20000 in
theorem ggX6_hardestOf_X6_finds : GoodIn wsX6_hardestOf wsX6_finds := goodIn_r _ [7, 1, 8, 9, 10, 2, 11, 12, 13, 6, 14, 15, 16, 17, 18, 19, 20, 21, 22, 23, 24, 25, 26, 27, 28, 29, 30, 31, 32, 33, 34, 35, 36, 37, 38, 39, 40, 41, 42, 43, 44, 45, 46, 47, 48, 49] (by decide +kernel) (by decide +kernel)
set_option maxRecDepth 20000 in
theorem gX6_hardestOf_X6_finds : GoodIn wsX6_hardestOf (wsV RX6 109 RX6 yX6_finds wsX6_finds) := goodIn_app (goodIn_of _ (by decide +kernel)) ggX6_hardestOf_X6_finds
set_option maxRecDepth 20000 in
theorem ggX6_hardestOf_X6_apart : GoodIn wsX6_hardestOf wsX6_apart := goodIn_r _ [30] (by decide +kernel) (by decide +kernel)
set_option maxRecDepth 20000 in
theorem gX6_hardestOf_X6_apart : GoodIn wsX6_hardestOf (va_wsS RX6 98 yX6_apart wsX6_apart) := goodIn_app (goodIn_of _ (by decide +kernel)) ggX6_hardestOf_X6_apart
theorem dX6_hardestOf_0 : decode cX6_hardestOf 0 = .ok (.aload_n 0, 1) := by decide +kernel
theorem dX6_hardestOf_1 : decode cX6_hardestOf 1 = .ok (.iload_n 1, 1) := by decide +kernel
theorem dX6_hardestOf_2 : decode cX6_hardestOf 2 = .ok (.iload_n 2, 1) := by decide +kernel
theorem dX6_hardestOf_3 : decode cX6_hardestOf 3 = .ok (.invokevirtual 109, 3) := by decide +kernel
theorem dX6_hardestOf_6 : decode cX6_hardestOf 6 = .ok (.iconst (-1), 1) := by decide +kernel
theorem dX6_hardestOf_7 : decode cX6_hardestOf 7 = .ok (.if_icmp .ne 5, 3) := by decide +kernel
theorem dX6_hardestOf_10 : decode cX6_hardestOf 10 = .ok (.iconst (-1), 1) := by decide +kernel
theorem dX6_hardestOf_11 : decode cX6_hardestOf 11 = .ok (.ireturn, 1) := by decide +kernel
theorem dX6_hardestOf_12 : decode cX6_hardestOf 12 = .ok (.iconst 0, 1) := by decide +kernel
theorem dX6_hardestOf_13 : decode cX6_hardestOf 13 = .ok (.istore_n 3, 1) := by decide +kernel
theorem dX6_hardestOf_14 : decode cX6_hardestOf 14 = .ok (.iconst 1, 1) := by decide +kernel
theorem dX6_hardestOf_15 : decode cX6_hardestOf 15 = .ok (.istore 4, 2) := by decide +kernel
theorem dX6_hardestOf_17 : decode cX6_hardestOf 17 = .ok (.iload 4, 2) := by decide +kernel
theorem dX6_hardestOf_19 : decode cX6_hardestOf 19 = .ok (.aload_n 0, 1) := by decide +kernel
theorem dX6_hardestOf_20 : decode cX6_hardestOf 20 = .ok (.getfield 7, 3) := by decide +kernel
theorem dX6_hardestOf_23 : decode cX6_hardestOf 23 = .ok (.iload_n 1, 1) := by decide +kernel
theorem dX6_hardestOf_24 : decode cX6_hardestOf 24 = .ok (.iaload, 1) := by decide +kernel
theorem dX6_hardestOf_25 : decode cX6_hardestOf 25 = .ok (.if_icmp .ge 43, 3) := by decide +kernel
theorem dX6_hardestOf_28 : decode cX6_hardestOf 28 = .ok (.aload_n 0, 1) := by decide +kernel
theorem dX6_hardestOf_29 : decode cX6_hardestOf 29 = .ok (.getfield 50, 3) := by decide +kernel
theorem dX6_hardestOf_32 : decode cX6_hardestOf 32 = .ok (.iload 4, 2) := by decide +kernel
theorem dX6_hardestOf_34 : decode cX6_hardestOf 34 = .ok (.iconst 1, 1) := by decide +kernel
theorem dX6_hardestOf_35 : decode cX6_hardestOf 35 = .ok (.isub, 1) := by decide +kernel
theorem dX6_hardestOf_36 : decode cX6_hardestOf 36 = .ok (.iaload, 1) := by decide +kernel
theorem dX6_hardestOf_37 : decode cX6_hardestOf 37 = .ok (.aload_n 0, 1) := by decide +kernel
theorem dX6_hardestOf_38 : decode cX6_hardestOf 38 = .ok (.getfield 50, 3) := by decide +kernel
theorem dX6_hardestOf_41 : decode cX6_hardestOf 41 = .ok (.iload 4, 2) := by decide +kernel
theorem dX6_hardestOf_43 : decode cX6_hardestOf 43 = .ok (.iaload, 1) := by decide +kernel
theorem dX6_hardestOf_44 : decode cX6_hardestOf 44 = .ok (.invokestatic 98, 3) := by decide +kernel
theorem dX6_hardestOf_47 : decode cX6_hardestOf 47 = .ok (.istore 5, 2) := by decide +kernel
theorem dX6_hardestOf_49 : decode cX6_hardestOf 49 = .ok (.iload 5, 2) := by decide +kernel
theorem dX6_hardestOf_51 : decode cX6_hardestOf 51 = .ok (.iload_n 3, 1) := by decide +kernel
theorem dX6_hardestOf_52 : decode cX6_hardestOf 52 = .ok (.if_icmp .le 8, 3) := by decide +kernel
theorem dX6_hardestOf_55 : decode cX6_hardestOf 55 = .ok (.iload 5, 2) := by decide +kernel
theorem dX6_hardestOf_57 : decode cX6_hardestOf 57 = .ok (.goto 4, 3) := by decide +kernel
theorem dX6_hardestOf_60 : decode cX6_hardestOf 60 = .ok (.iload_n 3, 1) := by decide +kernel
theorem dX6_hardestOf_61 : decode cX6_hardestOf 61 = .ok (.istore_n 3, 1) := by decide +kernel
theorem dX6_hardestOf_62 : decode cX6_hardestOf 62 = .ok (.iinc 4 1, 3) := by decide +kernel
theorem dX6_hardestOf_65 : decode cX6_hardestOf 65 = .ok (.goto (-48), 3) := by decide +kernel
theorem dX6_hardestOf_68 : decode cX6_hardestOf 68 = .ok (.iload_n 3, 1) := by decide +kernel
theorem dX6_hardestOf_69 : decode cX6_hardestOf 69 = .ok (.ireturn, 1) := by decide +kernel
set_option maxRecDepth 20000 in
theorem ggX6_hardest_X6_asks : GoodIn wsX6_hardest wsX6_asks := goodIn_r _ [5, 6, 7, 8, 4, 9, 10, 11, 12, 13, 14, 15, 16, 17, 18, 19, 20, 21, 22, 23, 54, 55, 56, 57, 58, 59, 60, 61, 62, 63, 64, 65, 66, 67, 68, 69, 70, 71, 72] (by decide +kernel) (by decide +kernel)
set_option maxRecDepth 20000 in
theorem gX6_hardest_X6_asks : GoodIn wsX6_hardest (wsV RX6 106 RX6 yX6_asks wsX6_asks) := goodIn_app (goodIn_of _ (by decide +kernel)) ggX6_hardest_X6_asks
set_option maxRecDepth 20000 in
theorem ggX6_hardest_X6_hardestOf : GoodIn wsX6_hardest wsX6_hardestOf := goodIn_r _ [27, 28, 29, 30, 31, 32, 4, 33, 34, 35, 36, 37, 38, 39, 40, 41, 42, 43, 44, 45, 46, 47, 48, 49, 50, 11, 12, 13, 51, 52, 53, 54, 55, 56, 57, 58, 59, 60, 61, 62, 63, 64, 65, 66, 67, 68, 69, 70, 71, 72] (by decide +kernel) (by decide +kernel)
set_option maxRecDepth 20000 in
theorem gX6_hardest_X6_hardestOf : GoodIn wsX6_hardest (wsV RX6 112 RX6 yX6_hardestOf wsX6_hardestOf) := goodIn_app (goodIn_of _ (by decide +kernel)) ggX6_hardest_X6_hardestOf
theorem dX6_hardest_0 : decode cX6_hardest 0 = .ok (.aload_n 0, 1) := by decide +kernel
theorem dX6_hardest_1 : decode cX6_hardest 1 = .ok (.iload_n 1, 1) := by decide +kernel
theorem dX6_hardest_2 : decode cX6_hardest 2 = .ok (.iload_n 2, 1) := by decide +kernel
theorem dX6_hardest_3 : decode cX6_hardest 3 = .ok (.invokevirtual 106, 3) := by decide +kernel
theorem dX6_hardest_6 : decode cX6_hardest 6 = .ok (.ifCond .eq 12, 3) := by decide +kernel
theorem dX6_hardest_9 : decode cX6_hardest 9 = .ok (.aload_n 0, 1) := by decide +kernel
theorem dX6_hardest_10 : decode cX6_hardest 10 = .ok (.iload_n 1, 1) := by decide +kernel
theorem dX6_hardest_11 : decode cX6_hardest 11 = .ok (.iload_n 2, 1) := by decide +kernel
theorem dX6_hardest_12 : decode cX6_hardest 12 = .ok (.invokevirtual 112, 3) := by decide +kernel
theorem dX6_hardest_15 : decode cX6_hardest 15 = .ok (.goto 4, 3) := by decide +kernel
theorem dX6_hardest_18 : decode cX6_hardest 18 = .ok (.iconst 0, 1) := by decide +kernel
theorem dX6_hardest_19 : decode cX6_hardest 19 = .ok (.ireturn, 1) := by decide +kernel
set_option maxRecDepth 20000 in
theorem ggX6_asksNote_X6_isNote : GoodIn wsX6_asksNote wsX6_isNote := goodIn_r _ [5, 6, 7, 8, 9, 4, 10, 11, 12, 13, 14, 25, 26, 27, 28, 29, 30, 31, 32, 33, 34, 35, 36, 37, 38, 39, 40, 41, 42, 43] (by decide +kernel) (by decide +kernel)
set_option maxRecDepth 20000 in
theorem gX6_asksNote_X6_isNote : GoodIn wsX6_asksNote (wsV RX6 78 RX6 yX6_isNote wsX6_isNote) := goodIn_app (goodIn_of _ (by decide +kernel)) ggX6_asksNote_X6_isNote
set_option maxRecDepth 20000 in
theorem ggX6_asksNote_X6_isInstrument : GoodIn wsX6_asksNote wsX6_isInstrument := goodIn_r _ [18, 19, 12, 13, 4, 14, 25, 26, 27, 28, 29, 30, 31, 32, 33, 34, 35, 36, 37, 38, 39, 40, 41, 42, 43] (by decide +kernel) (by decide +kernel)
set_option maxRecDepth 20000 in
theorem gX6_asksNote_X6_isInstrument : GoodIn wsX6_asksNote (wsV RX6 82 RX6 yX6_isInstrument wsX6_isInstrument) := goodIn_app (goodIn_of _ (by decide +kernel)) ggX6_asksNote_X6_isInstrument
set_option maxRecDepth 20000 in
theorem ggX6_asksNote_X6_goes : GoodIn wsX6_asksNote wsX6_goes := goodIn_r _ [23, 24, 25, 26, 27, 28, 29, 30, 31, 32, 33, 34, 35, 36, 37, 38, 39, 40, 41, 42, 43] (by decide +kernel) (by decide +kernel)
set_option maxRecDepth 20000 in
theorem gX6_asksNote_X6_goes : GoodIn wsX6_asksNote (wsV RX6 74 RX6 yX6_goes wsX6_goes) := goodIn_app (goodIn_of _ (by decide +kernel)) ggX6_asksNote_X6_goes
theorem dX6_asksNote_0 : decode cX6_asksNote 0 = .ok (.aload_n 0, 1) := by decide +kernel
theorem dX6_asksNote_1 : decode cX6_asksNote 1 = .ok (.aload_n 0, 1) := by decide +kernel
theorem dX6_asksNote_2 : decode cX6_asksNote 2 = .ok (.iload_n 1, 1) := by decide +kernel
theorem dX6_asksNote_3 : decode cX6_asksNote 3 = .ok (.iload_n 2, 1) := by decide +kernel
theorem dX6_asksNote_4 : decode cX6_asksNote 4 = .ok (.invokevirtual 78, 3) := by decide +kernel
theorem dX6_asksNote_7 : decode cX6_asksNote 7 = .ok (.ifCond .eq 15, 3) := by decide +kernel
theorem dX6_asksNote_10 : decode cX6_asksNote 10 = .ok (.aload_n 0, 1) := by decide +kernel
theorem dX6_asksNote_11 : decode cX6_asksNote 11 = .ok (.iload_n 3, 1) := by decide +kernel
theorem dX6_asksNote_12 : decode cX6_asksNote 12 = .ok (.invokevirtual 82, 3) := by decide +kernel
theorem dX6_asksNote_15 : decode cX6_asksNote 15 = .ok (.ifCond .eq 7, 3) := by decide +kernel
theorem dX6_asksNote_18 : decode cX6_asksNote 18 = .ok (.iconst 1, 1) := by decide +kernel
theorem dX6_asksNote_19 : decode cX6_asksNote 19 = .ok (.goto 4, 3) := by decide +kernel
theorem dX6_asksNote_22 : decode cX6_asksNote 22 = .ok (.iconst 0, 1) := by decide +kernel
theorem dX6_asksNote_23 : decode cX6_asksNote 23 = .ok (.iconst 1, 1) := by decide +kernel
theorem dX6_asksNote_24 : decode cX6_asksNote 24 = .ok (.iconst 1, 1) := by decide +kernel
theorem dX6_asksNote_25 : decode cX6_asksNote 25 = .ok (.invokevirtual 74, 3) := by decide +kernel
theorem dX6_asksNote_28 : decode cX6_asksNote 28 = .ok (.ireturn, 1) := by decide +kernel
set_option maxRecDepth 20000 in
theorem ggX6_position_X6_asksNote : GoodIn wsX6_position wsX6_asksNote := goodIn_r _ [6, 7, 8, 9, 5, 10, 11, 12, 13, 14, 15, 16, 17, 18, 19, 20, 21, 22, 23, 24, 25, 26, 27, 28, 29, 54, 55, 56, 57, 58, 59, 60, 61, 62, 63, 64, 65, 66, 67, 68, 69, 70, 71, 72] (by decide +kernel) (by decide +kernel)
set_option maxRecDepth 20000 in
theorem gX6_position_X6_asksNote : GoodIn wsX6_position (wsV RX6 115 RX6 yX6_asksNote wsX6_asksNote) := goodIn_app (goodIn_of _ (by decide +kernel)) ggX6_position_X6_asksNote
set_option maxRecDepth 20000 in
theorem ggX6_position_X6_finds : GoodIn wsX6_position wsX6_finds := goodIn_r _ [33, 11, 34, 35, 36, 1, 37, 38, 39, 5, 40, 41, 42, 43, 44, 45, 46, 47, 48, 49, 50, 17, 18, 19, 51, 52, 53, 54, 55, 56, 57, 58, 59, 60, 61, 62, 63, 64, 65, 66, 67, 68, 69, 70, 71, 72] (by decide +kernel) (by decide +kernel)
set_option maxRecDepth 20000 in
theorem gX6_position_X6_finds : GoodIn wsX6_position (wsV RX6 109 RX6 yX6_finds wsX6_finds) := goodIn_app (goodIn_of _ (by decide +kernel)) ggX6_position_X6_finds
theorem dX6_position_0 : decode cX6_position 0 = .ok (.aload_n 0, 1) := by decide +kernel
theorem dX6_position_1 : decode cX6_position 1 = .ok (.iload_n 1, 1) := by decide +kernel
theorem dX6_position_2 : decode cX6_position 2 = .ok (.iload_n 2, 1) := by decide +kernel
theorem dX6_position_3 : decode cX6_position 3 = .ok (.iload_n 3, 1) := by decide +kernel
theorem dX6_position_4 : decode cX6_position 4 = .ok (.invokevirtual 115, 3) := by decide +kernel
theorem dX6_position_7 : decode cX6_position 7 = .ok (.ifCond .ne 7, 3) := by decide +kernel
theorem dX6_position_10 : decode cX6_position 10 = .ok (.iconst 0, 1) := by decide +kernel
theorem dX6_position_11 : decode cX6_position 11 = .ok (.goto 23, 3) := by decide +kernel
theorem dX6_position_14 : decode cX6_position 14 = .ok (.aload_n 0, 1) := by decide +kernel
theorem dX6_position_15 : decode cX6_position 15 = .ok (.iload_n 1, 1) := by decide +kernel
theorem dX6_position_16 : decode cX6_position 16 = .ok (.iload_n 3, 1) := by decide +kernel
theorem dX6_position_17 : decode cX6_position 17 = .ok (.invokevirtual 109, 3) := by decide +kernel
theorem dX6_position_20 : decode cX6_position 20 = .ok (.iconst (-1), 1) := by decide +kernel
theorem dX6_position_21 : decode cX6_position 21 = .ok (.if_icmp .ne 7, 3) := by decide +kernel
theorem dX6_position_24 : decode cX6_position 24 = .ok (.iconst (-1), 1) := by decide +kernel
theorem dX6_position_25 : decode cX6_position 25 = .ok (.goto 9, 3) := by decide +kernel
theorem dX6_position_28 : decode cX6_position 28 = .ok (.aload_n 0, 1) := by decide +kernel
theorem dX6_position_29 : decode cX6_position 29 = .ok (.getfield 50, 3) := by decide +kernel
theorem dX6_position_32 : decode cX6_position 32 = .ok (.iload_n 2, 1) := by decide +kernel
theorem dX6_position_33 : decode cX6_position 33 = .ok (.iaload, 1) := by decide +kernel
theorem dX6_position_34 : decode cX6_position 34 = .ok (.ireturn, 1) := by decide +kernel
set_option maxRecDepth 20000 in
theorem ggX6_string_X6_asksNote : GoodIn wsX6_string wsX6_asksNote := goodIn_r _ [6, 7, 8, 9, 5, 10, 11, 12, 13, 14, 15, 16, 17, 18, 19, 20, 21, 22, 23, 24, 25, 26, 27, 28, 29, 54, 55, 56, 57, 58, 59, 60, 61, 62, 63, 64, 65, 66, 67, 68, 69, 70, 71, 72] (by decide +kernel) (by decide +kernel)
set_option maxRecDepth 20000 in
theorem gX6_string_X6_asksNote : GoodIn wsX6_string (wsV RX6 115 RX6 yX6_asksNote wsX6_asksNote) := goodIn_app (goodIn_of _ (by decide +kernel)) ggX6_string_X6_asksNote
set_option maxRecDepth 20000 in
theorem ggX6_string_X6_finds : GoodIn wsX6_string wsX6_finds := goodIn_r _ [33, 11, 34, 35, 36, 1, 37, 38, 39, 5, 40, 41, 42, 43, 44, 45, 46, 47, 48, 49, 50, 17, 18, 19, 51, 52, 53, 54, 55, 56, 57, 58, 59, 60, 61, 62, 63, 64, 65, 66, 67, 68, 69, 70, 71, 72] (by decide +kernel) (by decide +kernel)
set_option maxRecDepth 20000 in
theorem gX6_string_X6_finds : GoodIn wsX6_string (wsV RX6 109 RX6 yX6_finds wsX6_finds) := goodIn_app (goodIn_of _ (by decide +kernel)) ggX6_string_X6_finds
set_option maxRecDepth 20000 in
theorem ggX6_string_X6_lies : GoodIn wsX6_string wsX6_lies := goodIn_r _ [48, 49, 50, 34, 17, 18, 5, 19, 54, 55, 56, 57, 58, 59, 60, 61, 62, 63, 64, 65, 66, 67, 68, 69, 70, 71, 72] (by decide +kernel) (by decide +kernel)
set_option maxRecDepth 20000 in
theorem gX6_string_X6_lies : GoodIn wsX6_string (wsV RX6 89 RX6 yX6_lies wsX6_lies) := goodIn_app (goodIn_of _ (by decide +kernel)) ggX6_string_X6_lies
theorem dX6_string_0 : decode cX6_string 0 = .ok (.aload_n 0, 1) := by decide +kernel
theorem dX6_string_1 : decode cX6_string 1 = .ok (.iload_n 1, 1) := by decide +kernel
theorem dX6_string_2 : decode cX6_string 2 = .ok (.iload_n 2, 1) := by decide +kernel
theorem dX6_string_3 : decode cX6_string 3 = .ok (.iload_n 3, 1) := by decide +kernel
theorem dX6_string_4 : decode cX6_string 4 = .ok (.invokevirtual 115, 3) := by decide +kernel
theorem dX6_string_7 : decode cX6_string 7 = .ok (.ifCond .ne 5, 3) := by decide +kernel
theorem dX6_string_10 : decode cX6_string 10 = .ok (.iconst 0, 1) := by decide +kernel
theorem dX6_string_11 : decode cX6_string 11 = .ok (.ireturn, 1) := by decide +kernel
theorem dX6_string_12 : decode cX6_string 12 = .ok (.aload_n 0, 1) := by decide +kernel
theorem dX6_string_13 : decode cX6_string 13 = .ok (.iload_n 1, 1) := by decide +kernel
theorem dX6_string_14 : decode cX6_string 14 = .ok (.iload_n 3, 1) := by decide +kernel
theorem dX6_string_15 : decode cX6_string 15 = .ok (.invokevirtual 109, 3) := by decide +kernel
theorem dX6_string_18 : decode cX6_string 18 = .ok (.iconst (-1), 1) := by decide +kernel
theorem dX6_string_19 : decode cX6_string 19 = .ok (.if_icmp .ne 5, 3) := by decide +kernel
theorem dX6_string_22 : decode cX6_string 22 = .ok (.iconst (-1), 1) := by decide +kernel
theorem dX6_string_23 : decode cX6_string 23 = .ok (.ireturn, 1) := by decide +kernel
theorem dX6_string_24 : decode cX6_string 24 = .ok (.iconst (-1), 1) := by decide +kernel
theorem dX6_string_25 : decode cX6_string 25 = .ok (.istore 4, 2) := by decide +kernel
theorem dX6_string_27 : decode cX6_string 27 = .ok (.iconst 3, 1) := by decide +kernel
theorem dX6_string_28 : decode cX6_string 28 = .ok (.istore 5, 2) := by decide +kernel
theorem dX6_string_30 : decode cX6_string 30 = .ok (.iload 5, 2) := by decide +kernel
theorem dX6_string_32 : decode cX6_string 32 = .ok (.ifCond .lt 36, 3) := by decide +kernel
theorem dX6_string_35 : decode cX6_string 35 = .ok (.aload_n 0, 1) := by decide +kernel
theorem dX6_string_36 : decode cX6_string 36 = .ok (.iload_n 1, 1) := by decide +kernel
theorem dX6_string_37 : decode cX6_string 37 = .ok (.iload_n 2, 1) := by decide +kernel
theorem dX6_string_38 : decode cX6_string 38 = .ok (.iload_n 3, 1) := by decide +kernel
theorem dX6_string_39 : decode cX6_string 39 = .ok (.iload 5, 2) := by decide +kernel
theorem dX6_string_41 : decode cX6_string 41 = .ok (.aload_n 0, 1) := by decide +kernel
theorem dX6_string_42 : decode cX6_string 42 = .ok (.getfield 50, 3) := by decide +kernel
theorem dX6_string_45 : decode cX6_string 45 = .ok (.iload_n 2, 1) := by decide +kernel
theorem dX6_string_46 : decode cX6_string 46 = .ok (.iaload, 1) := by decide +kernel
theorem dX6_string_47 : decode cX6_string 47 = .ok (.invokevirtual 89, 3) := by decide +kernel
theorem dX6_string_50 : decode cX6_string 50 = .ok (.ifCond .eq 8, 3) := by decide +kernel
theorem dX6_string_53 : decode cX6_string 53 = .ok (.iload 5, 2) := by decide +kernel
theorem dX6_string_55 : decode cX6_string 55 = .ok (.goto 5, 3) := by decide +kernel
theorem dX6_string_58 : decode cX6_string 58 = .ok (.iload 4, 2) := by decide +kernel
theorem dX6_string_60 : decode cX6_string 60 = .ok (.istore 4, 2) := by decide +kernel
theorem dX6_string_62 : decode cX6_string 62 = .ok (.iinc 5 (-1), 3) := by decide +kernel
theorem dX6_string_65 : decode cX6_string 65 = .ok (.goto (-35), 3) := by decide +kernel
theorem dX6_string_68 : decode cX6_string 68 = .ok (.iload 4, 2) := by decide +kernel
theorem dX6_string_70 : decode cX6_string 70 = .ok (.ireturn, 1) := by decide +kernel
theorem dX6_isKnown_0 : decode cX6_isKnown 0 = .ok (.aload_n 0, 1) := by decide +kernel
theorem dX6_isKnown_1 : decode cX6_isKnown 1 = .ok (.getfield 28, 3) := by decide +kernel
theorem dX6_isKnown_4 : decode cX6_isKnown 4 = .ok (.iload_n 1, 1) := by decide +kernel
theorem dX6_isKnown_5 : decode cX6_isKnown 5 = .ok (.iaload, 1) := by decide +kernel
theorem dX6_isKnown_6 : decode cX6_isKnown 6 = .ok (.iload_n 2, 1) := by decide +kernel
theorem dX6_isKnown_7 : decode cX6_isKnown 7 = .ok (.ishr, 1) := by decide +kernel
theorem dX6_isKnown_8 : decode cX6_isKnown 8 = .ok (.iconst 1, 1) := by decide +kernel
theorem dX6_isKnown_9 : decode cX6_isKnown 9 = .ok (.iand, 1) := by decide +kernel
theorem dX6_isKnown_10 : decode cX6_isKnown 10 = .ok (.iconst 1, 1) := by decide +kernel
theorem dX6_isKnown_11 : decode cX6_isKnown 11 = .ok (.if_icmp .ne 7, 3) := by decide +kernel
theorem dX6_isKnown_14 : decode cX6_isKnown 14 = .ok (.iconst 1, 1) := by decide +kernel
theorem dX6_isKnown_15 : decode cX6_isKnown 15 = .ok (.goto 4, 3) := by decide +kernel
theorem dX6_isKnown_18 : decode cX6_isKnown 18 = .ok (.iconst 0, 1) := by decide +kernel
theorem dX6_isKnown_19 : decode cX6_isKnown 19 = .ok (.ireturn, 1) := by decide +kernel
set_option maxRecDepth 20000 in
theorem ggX6_canLearn_X6_hardestOf : GoodIn wsX6_canLearn wsX6_hardestOf := goodIn_r _ [7, 8, 9, 10, 11, 12, 6, 13, 14, 15, 16, 17, 18, 19, 20, 21, 22, 23, 24, 25, 26, 27, 28, 29, 30, 31, 32, 33, 34, 35, 36, 42, 43, 44, 45, 46, 47, 48, 49, 50, 51, 52, 53, 54, 55, 56, 57, 58, 59, 60] (by decide +kernel) (by decide +kernel)
set_option maxRecDepth 20000 in
theorem gX6_canLearn_X6_hardestOf : GoodIn wsX6_canLearn (wsV RX6 112 RX6 yX6_hardestOf wsX6_hardestOf) := goodIn_app (goodIn_of _ (by decide +kernel)) ggX6_canLearn_X6_hardestOf
set_option maxRecDepth 20000 in
theorem ggX6_canLearn_X6_isKnown : GoodIn wsX6_canLearn wsX6_isKnown := goodIn_r _ [40, 41, 42, 43, 44, 45, 46, 47, 48, 49, 50, 51, 52, 53, 54, 55, 56, 57, 58, 59, 60] (by decide +kernel) (by decide +kernel)
set_option maxRecDepth 20000 in
theorem gX6_canLearn_X6_isKnown : GoodIn wsX6_canLearn (wsV RX6 118 RX6 yX6_isKnown wsX6_isKnown) := goodIn_app (goodIn_of _ (by decide +kernel)) ggX6_canLearn_X6_isKnown
theorem dX6_canLearn_0 : decode cX6_canLearn 0 = .ok (.aload_n 0, 1) := by decide +kernel
theorem dX6_canLearn_1 : decode cX6_canLearn 1 = .ok (.iload_n 2, 1) := by decide +kernel
theorem dX6_canLearn_2 : decode cX6_canLearn 2 = .ok (.iload_n 3, 1) := by decide +kernel
theorem dX6_canLearn_3 : decode cX6_canLearn 3 = .ok (.invokevirtual 112, 3) := by decide +kernel
theorem dX6_canLearn_6 : decode cX6_canLearn 6 = .ok (.istore 4, 2) := by decide +kernel
theorem dX6_canLearn_8 : decode cX6_canLearn 8 = .ok (.aload_n 0, 1) := by decide +kernel
theorem dX6_canLearn_9 : decode cX6_canLearn 9 = .ok (.getfield 16, 3) := by decide +kernel
theorem dX6_canLearn_12 : decode cX6_canLearn 12 = .ok (.iload_n 3, 1) := by decide +kernel
theorem dX6_canLearn_13 : decode cX6_canLearn 13 = .ok (.iaload, 1) := by decide +kernel
theorem dX6_canLearn_14 : decode cX6_canLearn 14 = .ok (.iload_n 1, 1) := by decide +kernel
theorem dX6_canLearn_15 : decode cX6_canLearn 15 = .ok (.if_icmp .ne 33, 3) := by decide +kernel
theorem dX6_canLearn_18 : decode cX6_canLearn 18 = .ok (.aload_n 0, 1) := by decide +kernel
theorem dX6_canLearn_19 : decode cX6_canLearn 19 = .ok (.iload_n 1, 1) := by decide +kernel
theorem dX6_canLearn_20 : decode cX6_canLearn 20 = .ok (.iload_n 2, 1) := by decide +kernel
theorem dX6_canLearn_21 : decode cX6_canLearn 21 = .ok (.invokevirtual 118, 3) := by decide +kernel
theorem dX6_canLearn_24 : decode cX6_canLearn 24 = .ok (.ifCond .ne 24, 3) := by decide +kernel
theorem dX6_canLearn_27 : decode cX6_canLearn 27 = .ok (.iload 4, 2) := by decide +kernel
theorem dX6_canLearn_29 : decode cX6_canLearn 29 = .ok (.iconst (-1), 1) := by decide +kernel
theorem dX6_canLearn_30 : decode cX6_canLearn 30 = .ok (.if_icmp .eq 18, 3) := by decide +kernel
theorem dX6_canLearn_33 : decode cX6_canLearn 33 = .ok (.iload 4, 2) := by decide +kernel
theorem dX6_canLearn_35 : decode cX6_canLearn 35 = .ok (.aload_n 0, 1) := by decide +kernel
theorem dX6_canLearn_36 : decode cX6_canLearn 36 = .ok (.getfield 25, 3) := by decide +kernel
theorem dX6_canLearn_39 : decode cX6_canLearn 39 = .ok (.iload_n 1, 1) := by decide +kernel
theorem dX6_canLearn_40 : decode cX6_canLearn 40 = .ok (.iaload, 1) := by decide +kernel
theorem dX6_canLearn_41 : decode cX6_canLearn 41 = .ok (.if_icmp .gt 7, 3) := by decide +kernel
theorem dX6_canLearn_44 : decode cX6_canLearn 44 = .ok (.iconst 1, 1) := by decide +kernel
theorem dX6_canLearn_45 : decode cX6_canLearn 45 = .ok (.goto 4, 3) := by decide +kernel
theorem dX6_canLearn_48 : decode cX6_canLearn 48 = .ok (.iconst 0, 1) := by decide +kernel
theorem dX6_canLearn_49 : decode cX6_canLearn 49 = .ok (.ireturn, 1) := by decide +kernel
set_option maxRecDepth 20000 in
theorem ggX6_learn_X6_isPiece : GoodIn wsX6_learn wsX6_isPiece := goodIn_r _ [7, 8, 9, 10, 6, 11, 64, 65, 66, 67, 68, 69, 70, 71, 72, 73, 74, 75, 76, 77, 78, 79, 80, 81, 82] (by decide +kernel) (by decide +kernel)
set_option maxRecDepth 20000 in
theorem gX6_learn_X6_isPiece : GoodIn wsX6_learn (wsV RX6 64 RX6 yX6_isPiece wsX6_isPiece) := goodIn_app (goodIn_of _ (by decide +kernel)) ggX6_learn_X6_isPiece
set_option maxRecDepth 20000 in
theorem ggX6_learn_X6_isInstrument : GoodIn wsX6_learn wsX6_isInstrument := goodIn_r _ [15, 16, 9, 10, 6, 11, 64, 65, 66, 67, 68, 69, 70, 71, 72, 73, 74, 75, 76, 77, 78, 79, 80, 81, 82] (by decide +kernel) (by decide +kernel)
set_option maxRecDepth 20000 in
theorem gX6_learn_X6_isInstrument : GoodIn wsX6_learn (wsV RX6 82 RX6 yX6_isInstrument wsX6_isInstrument) := goodIn_app (goodIn_of _ (by decide +kernel)) ggX6_learn_X6_isInstrument
set_option maxRecDepth 20000 in
theorem ggX6_learn_X6_isPupil : GoodIn wsX6_learn wsX6_isPupil := goodIn_r _ [19, 9, 10, 6, 11] (by decide +kernel) (by decide +kernel)
set_option maxRecDepth 20000 in
theorem gX6_learn_X6_isPupil : GoodIn wsX6_learn (va_wsS RX6 121 yX6_isPupil wsX6_isPupil) := goodIn_app (goodIn_of _ (by decide +kernel)) ggX6_learn_X6_isPupil
set_option maxRecDepth 20000 in
theorem ggX6_learn_X6_canLearn : GoodIn wsX6_learn wsX6_canLearn := goodIn_r _ [23, 24, 1, 25, 26, 27, 6, 28, 29, 30, 31, 32, 33, 34, 35, 36, 37, 38, 39, 40, 41, 42, 43, 44, 45, 46, 47, 48, 49, 50, 51, 9, 10, 11, 52, 53, 54, 55, 56, 57, 58, 2, 64, 65, 66, 67, 68, 69, 70, 71, 72, 73, 74, 75, 76, 77, 78, 79, 80, 81, 82] (by decide +kernel) (by decide +kernel)
set_option maxRecDepth 20000 in
theorem gX6_learn_X6_canLearn : GoodIn wsX6_learn (wsV RX6 124 RX6 yX6_canLearn wsX6_canLearn) := goodIn_app (goodIn_of _ (by decide +kernel)) ggX6_learn_X6_canLearn
set_option maxRecDepth 20000 in
theorem ggX6_learn_X6_goes : GoodIn wsX6_learn wsX6_goes := goodIn_r _ [62, 63, 64, 65, 66, 67, 68, 69, 70, 71, 72, 73, 74, 75, 76, 77, 78, 79, 80, 81, 82] (by decide +kernel) (by decide +kernel)
set_option maxRecDepth 20000 in
theorem gX6_learn_X6_goes : GoodIn wsX6_learn (wsV RX6 74 RX6 yX6_goes wsX6_goes) := goodIn_app (goodIn_of _ (by decide +kernel)) ggX6_learn_X6_goes
set_option maxRecDepth 20000 in
theorem ggX6_learn_X6_hardestOf : GoodIn wsX6_learn wsX6_hardestOf := goodIn_r _ [28, 29, 30, 31, 32, 33, 6, 34, 35, 36, 37, 38, 39, 40, 41, 42, 43, 44, 45, 46, 47, 48, 49, 50, 51, 9, 10, 11, 52, 53, 54, 64, 65, 66, 67, 68, 69, 70, 71, 72, 73, 74, 75, 76, 77, 78, 79, 80, 81, 82] (by decide +kernel) (by decide +kernel)
set_option maxRecDepth 20000 in
theorem gX6_learn_X6_hardestOf : GoodIn wsX6_learn (wsV RX6 112 RX6 yX6_hardestOf wsX6_hardestOf) := goodIn_app (goodIn_of _ (by decide +kernel)) ggX6_learn_X6_hardestOf
theorem dX6_learn_0 : decode cX6_learn 0 = .ok (.aload_n 0, 1) := by decide +kernel
theorem dX6_learn_1 : decode cX6_learn 1 = .ok (.iload_n 2, 1) := by decide +kernel
theorem dX6_learn_2 : decode cX6_learn 2 = .ok (.invokevirtual 64, 3) := by decide +kernel
theorem dX6_learn_5 : decode cX6_learn 5 = .ok (.ifCond .eq 15, 3) := by decide +kernel
theorem dX6_learn_8 : decode cX6_learn 8 = .ok (.aload_n 0, 1) := by decide +kernel
theorem dX6_learn_9 : decode cX6_learn 9 = .ok (.iload_n 3, 1) := by decide +kernel
theorem dX6_learn_10 : decode cX6_learn 10 = .ok (.invokevirtual 82, 3) := by decide +kernel
theorem dX6_learn_13 : decode cX6_learn 13 = .ok (.ifCond .eq 7, 3) := by decide +kernel
theorem dX6_learn_16 : decode cX6_learn 16 = .ok (.iconst 1, 1) := by decide +kernel
theorem dX6_learn_17 : decode cX6_learn 17 = .ok (.goto 4, 3) := by decide +kernel
theorem dX6_learn_20 : decode cX6_learn 20 = .ok (.iconst 0, 1) := by decide +kernel
theorem dX6_learn_21 : decode cX6_learn 21 = .ok (.istore 4, 2) := by decide +kernel
theorem dX6_learn_23 : decode cX6_learn 23 = .ok (.iload_n 1, 1) := by decide +kernel
theorem dX6_learn_24 : decode cX6_learn 24 = .ok (.invokestatic 121, 3) := by decide +kernel
theorem dX6_learn_27 : decode cX6_learn 27 = .ok (.istore 5, 2) := by decide +kernel
theorem dX6_learn_29 : decode cX6_learn 29 = .ok (.aload_n 0, 1) := by decide +kernel
theorem dX6_learn_30 : decode cX6_learn 30 = .ok (.iload 4, 2) := by decide +kernel
theorem dX6_learn_32 : decode cX6_learn 32 = .ok (.iload 5, 2) := by decide +kernel
theorem dX6_learn_34 : decode cX6_learn 34 = .ok (.iload 4, 2) := by decide +kernel
theorem dX6_learn_36 : decode cX6_learn 36 = .ok (.ifCond .eq 22, 3) := by decide +kernel
theorem dX6_learn_39 : decode cX6_learn 39 = .ok (.iload 5, 2) := by decide +kernel
theorem dX6_learn_41 : decode cX6_learn 41 = .ok (.ifCond .eq 17, 3) := by decide +kernel
theorem dX6_learn_44 : decode cX6_learn 44 = .ok (.aload_n 0, 1) := by decide +kernel
theorem dX6_learn_45 : decode cX6_learn 45 = .ok (.iload_n 1, 1) := by decide +kernel
theorem dX6_learn_46 : decode cX6_learn 46 = .ok (.iload_n 2, 1) := by decide +kernel
theorem dX6_learn_47 : decode cX6_learn 47 = .ok (.iload_n 3, 1) := by decide +kernel
theorem dX6_learn_48 : decode cX6_learn 48 = .ok (.invokevirtual 124, 3) := by decide +kernel
theorem dX6_learn_51 : decode cX6_learn 51 = .ok (.ifCond .eq 7, 3) := by decide +kernel
theorem dX6_learn_54 : decode cX6_learn 54 = .ok (.iconst 1, 1) := by decide +kernel
theorem dX6_learn_55 : decode cX6_learn 55 = .ok (.goto 4, 3) := by decide +kernel
theorem dX6_learn_58 : decode cX6_learn 58 = .ok (.iconst 0, 1) := by decide +kernel
theorem dX6_learn_59 : decode cX6_learn 59 = .ok (.invokevirtual 74, 3) := by decide +kernel
theorem dX6_learn_62 : decode cX6_learn 62 = .ok (.ifCond .ne 5, 3) := by decide +kernel
theorem dX6_learn_65 : decode cX6_learn 65 = .ok (.iconst 0, 1) := by decide +kernel
theorem dX6_learn_66 : decode cX6_learn 66 = .ok (.ireturn, 1) := by decide +kernel
theorem dX6_learn_67 : decode cX6_learn 67 = .ok (.aload_n 0, 1) := by decide +kernel
theorem dX6_learn_68 : decode cX6_learn 68 = .ok (.getfield 25, 3) := by decide +kernel
theorem dX6_learn_71 : decode cX6_learn 71 = .ok (.iload_n 1, 1) := by decide +kernel
theorem dX6_learn_72 : decode cX6_learn 72 = .ok (.dup2, 1) := by decide +kernel
theorem dX6_learn_73 : decode cX6_learn 73 = .ok (.iaload, 1) := by decide +kernel
theorem dX6_learn_74 : decode cX6_learn 74 = .ok (.aload_n 0, 1) := by decide +kernel
theorem dX6_learn_75 : decode cX6_learn 75 = .ok (.iload_n 2, 1) := by decide +kernel
theorem dX6_learn_76 : decode cX6_learn 76 = .ok (.iload_n 3, 1) := by decide +kernel
theorem dX6_learn_77 : decode cX6_learn 77 = .ok (.invokevirtual 112, 3) := by decide +kernel
theorem dX6_learn_80 : decode cX6_learn 80 = .ok (.aload_n 0, 1) := by decide +kernel
theorem dX6_learn_81 : decode cX6_learn 81 = .ok (.getfield 25, 3) := by decide +kernel
theorem dX6_learn_84 : decode cX6_learn 84 = .ok (.iload_n 1, 1) := by decide +kernel
theorem dX6_learn_85 : decode cX6_learn 85 = .ok (.iaload, 1) := by decide +kernel
theorem dX6_learn_86 : decode cX6_learn 86 = .ok (.if_icmp .ne 7, 3) := by decide +kernel
theorem dX6_learn_89 : decode cX6_learn 89 = .ok (.iconst 1, 1) := by decide +kernel
theorem dX6_learn_90 : decode cX6_learn 90 = .ok (.goto 4, 3) := by decide +kernel
theorem dX6_learn_93 : decode cX6_learn 93 = .ok (.iconst 0, 1) := by decide +kernel
theorem dX6_learn_94 : decode cX6_learn 94 = .ok (.iadd, 1) := by decide +kernel
theorem dX6_learn_95 : decode cX6_learn 95 = .ok (.iastore, 1) := by decide +kernel
theorem dX6_learn_96 : decode cX6_learn 96 = .ok (.aload_n 0, 1) := by decide +kernel
theorem dX6_learn_97 : decode cX6_learn 97 = .ok (.getfield 28, 3) := by decide +kernel
theorem dX6_learn_100 : decode cX6_learn 100 = .ok (.iload_n 1, 1) := by decide +kernel
theorem dX6_learn_101 : decode cX6_learn 101 = .ok (.dup2, 1) := by decide +kernel
theorem dX6_learn_102 : decode cX6_learn 102 = .ok (.iaload, 1) := by decide +kernel
theorem dX6_learn_103 : decode cX6_learn 103 = .ok (.iconst 1, 1) := by decide +kernel
theorem dX6_learn_104 : decode cX6_learn 104 = .ok (.iload_n 2, 1) := by decide +kernel
theorem dX6_learn_105 : decode cX6_learn 105 = .ok (.ishl, 1) := by decide +kernel
theorem dX6_learn_106 : decode cX6_learn 106 = .ok (.ior, 1) := by decide +kernel
theorem dX6_learn_107 : decode cX6_learn 107 = .ok (.iastore, 1) := by decide +kernel
theorem dX6_learn_108 : decode cX6_learn 108 = .ok (.aload_n 0, 1) := by decide +kernel
theorem dX6_learn_109 : decode cX6_learn 109 = .ok (.getfield 25, 3) := by decide +kernel
theorem dX6_learn_112 : decode cX6_learn 112 = .ok (.iload_n 1, 1) := by decide +kernel
theorem dX6_learn_113 : decode cX6_learn 113 = .ok (.iaload, 1) := by decide +kernel
theorem dX6_learn_114 : decode cX6_learn 114 = .ok (.ireturn, 1) := by decide +kernel
set_option maxRecDepth 20000 in
theorem ggX6_level_X6_isPupil : GoodIn wsX6_level wsX6_isPupil := goodIn_r _ [5, 6, 7, 4, 8] (by decide +kernel) (by decide +kernel)
set_option maxRecDepth 20000 in
theorem gX6_level_X6_isPupil : GoodIn wsX6_level (va_wsS RX6 121 yX6_isPupil wsX6_isPupil) := goodIn_app (goodIn_of _ (by decide +kernel)) ggX6_level_X6_isPupil
set_option maxRecDepth 20000 in
theorem ggX6_level_X6_goes : GoodIn wsX6_level wsX6_goes := goodIn_r _ [12, 13, 14, 15, 16, 17, 18, 19, 20, 21, 22, 23, 24, 25, 26, 27, 28, 29, 30, 31, 32] (by decide +kernel) (by decide +kernel)
set_option maxRecDepth 20000 in
theorem gX6_level_X6_goes : GoodIn wsX6_level (wsV RX6 74 RX6 yX6_goes wsX6_goes) := goodIn_app (goodIn_of _ (by decide +kernel)) ggX6_level_X6_goes
theorem dX6_level_0 : decode cX6_level 0 = .ok (.aload_n 0, 1) := by decide +kernel
theorem dX6_level_1 : decode cX6_level 1 = .ok (.iload_n 1, 1) := by decide +kernel
theorem dX6_level_2 : decode cX6_level 2 = .ok (.invokestatic 121, 3) := by decide +kernel
theorem dX6_level_5 : decode cX6_level 5 = .ok (.iconst 1, 1) := by decide +kernel
theorem dX6_level_6 : decode cX6_level 6 = .ok (.iconst 1, 1) := by decide +kernel
theorem dX6_level_7 : decode cX6_level 7 = .ok (.invokevirtual 74, 3) := by decide +kernel
theorem dX6_level_10 : decode cX6_level 10 = .ok (.ifCond .eq 12, 3) := by decide +kernel
theorem dX6_level_13 : decode cX6_level 13 = .ok (.aload_n 0, 1) := by decide +kernel
theorem dX6_level_14 : decode cX6_level 14 = .ok (.getfield 25, 3) := by decide +kernel
theorem dX6_level_17 : decode cX6_level 17 = .ok (.iload_n 1, 1) := by decide +kernel
theorem dX6_level_18 : decode cX6_level 18 = .ok (.iaload, 1) := by decide +kernel
theorem dX6_level_19 : decode cX6_level 19 = .ok (.goto 4, 3) := by decide +kernel
theorem dX6_level_22 : decode cX6_level 22 = .ok (.iconst 0, 1) := by decide +kernel
theorem dX6_level_23 : decode cX6_level 23 = .ok (.ireturn, 1) := by decide +kernel
set_option maxRecDepth 20000 in
theorem ggX6_known_X6_isPupil : GoodIn wsX6_known wsX6_isPupil := goodIn_r _ [5, 6, 7, 4, 8] (by decide +kernel) (by decide +kernel)
set_option maxRecDepth 20000 in
theorem gX6_known_X6_isPupil : GoodIn wsX6_known (va_wsS RX6 121 yX6_isPupil wsX6_isPupil) := goodIn_app (goodIn_of _ (by decide +kernel)) ggX6_known_X6_isPupil
set_option maxRecDepth 20000 in
theorem ggX6_known_X6_goes : GoodIn wsX6_known wsX6_goes := goodIn_r _ [12, 13, 14, 15, 16, 17, 18, 19, 20, 21, 22, 23, 24, 25, 26, 27, 28, 29, 30, 31, 32] (by decide +kernel) (by decide +kernel)
set_option maxRecDepth 20000 in
theorem gX6_known_X6_goes : GoodIn wsX6_known (wsV RX6 74 RX6 yX6_goes wsX6_goes) := goodIn_app (goodIn_of _ (by decide +kernel)) ggX6_known_X6_goes
theorem dX6_known_0 : decode cX6_known 0 = .ok (.aload_n 0, 1) := by decide +kernel
theorem dX6_known_1 : decode cX6_known 1 = .ok (.iload_n 1, 1) := by decide +kernel
theorem dX6_known_2 : decode cX6_known 2 = .ok (.invokestatic 121, 3) := by decide +kernel
theorem dX6_known_5 : decode cX6_known 5 = .ok (.iconst 1, 1) := by decide +kernel
theorem dX6_known_6 : decode cX6_known 6 = .ok (.iconst 1, 1) := by decide +kernel
theorem dX6_known_7 : decode cX6_known 7 = .ok (.invokevirtual 74, 3) := by decide +kernel
theorem dX6_known_10 : decode cX6_known 10 = .ok (.ifCond .eq 12, 3) := by decide +kernel
theorem dX6_known_13 : decode cX6_known 13 = .ok (.aload_n 0, 1) := by decide +kernel
theorem dX6_known_14 : decode cX6_known 14 = .ok (.getfield 28, 3) := by decide +kernel
theorem dX6_known_17 : decode cX6_known 17 = .ok (.iload_n 1, 1) := by decide +kernel
theorem dX6_known_18 : decode cX6_known 18 = .ok (.iaload, 1) := by decide +kernel
theorem dX6_known_19 : decode cX6_known 19 = .ok (.goto 4, 3) := by decide +kernel
theorem dX6_known_22 : decode cX6_known 22 = .ok (.iconst 0, 1) := by decide +kernel
theorem dX6_known_23 : decode cX6_known 23 = .ok (.ireturn, 1) := by decide +kernel
set_option maxRecDepth 20000 in
theorem ggX6_next_X6_isPupil : GoodIn wsX6_next wsX6_isPupil := goodIn_r _ [7, 8, 9, 6, 10] (by decide +kernel) (by decide +kernel)
set_option maxRecDepth 20000 in
theorem gX6_next_X6_isPupil : GoodIn wsX6_next (va_wsS RX6 121 yX6_isPupil wsX6_isPupil) := goodIn_app (goodIn_of _ (by decide +kernel)) ggX6_next_X6_isPupil
set_option maxRecDepth 20000 in
theorem ggX6_next_X6_goes : GoodIn wsX6_next wsX6_goes := goodIn_r _ [14, 15, 56, 57, 58, 59, 60, 61, 62, 63, 64, 65, 66, 67, 68, 69, 70, 71, 72, 73, 74] (by decide +kernel) (by decide +kernel)
set_option maxRecDepth 20000 in
theorem gX6_next_X6_goes : GoodIn wsX6_next (wsV RX6 74 RX6 yX6_goes wsX6_goes) := goodIn_app (goodIn_of _ (by decide +kernel)) ggX6_next_X6_goes
set_option maxRecDepth 20000 in
theorem ggX6_next_X6_canLearn : GoodIn wsX6_next wsX6_canLearn := goodIn_r _ [19, 20, 21, 22, 23, 24, 6, 25, 26, 27, 28, 29, 30, 31, 32, 33, 1, 34, 35, 36, 37, 38, 39, 40, 41, 42, 43, 44, 45, 46, 47, 8, 9, 10, 48, 49, 50, 51, 52, 53, 54, 55, 56, 57, 58, 59, 60, 61, 62, 63, 64, 65, 66, 67, 68, 69, 70, 71, 72, 73, 74] (by decide +kernel) (by decide +kernel)
set_option maxRecDepth 20000 in
theorem gX6_next_X6_canLearn : GoodIn wsX6_next (wsV RX6 124 RX6 yX6_canLearn wsX6_canLearn) := goodIn_app (goodIn_of _ (by decide +kernel)) ggX6_next_X6_canLearn
set_option maxRecDepth 20000 in
theorem ggX6_next_X6_hardestOf : GoodIn wsX6_next wsX6_hardestOf := goodIn_r _ [25, 26, 27, 28, 29, 30, 6, 31, 32, 33, 1, 34, 35, 36, 37, 38, 39, 40, 41, 42, 43, 44, 45, 46, 47, 8, 9, 10, 48, 49, 50, 56, 57, 58, 59, 60, 61, 62, 63, 64, 65, 66, 67, 68, 69, 70, 71, 72, 73, 74] (by decide +kernel) (by decide +kernel)
set_option maxRecDepth 20000 in
theorem gX6_next_X6_hardestOf : GoodIn wsX6_next (wsV RX6 112 RX6 yX6_hardestOf wsX6_hardestOf) := goodIn_app (goodIn_of _ (by decide +kernel)) ggX6_next_X6_hardestOf
theorem dX6_next_0 : decode cX6_next 0 = .ok (.aload_n 0, 1) := by decide +kernel
theorem dX6_next_1 : decode cX6_next 1 = .ok (.iload_n 1, 1) := by decide +kernel
theorem dX6_next_2 : decode cX6_next 2 = .ok (.invokestatic 121, 3) := by decide +kernel
theorem dX6_next_5 : decode cX6_next 5 = .ok (.iconst 1, 1) := by decide +kernel
theorem dX6_next_6 : decode cX6_next 6 = .ok (.iconst 1, 1) := by decide +kernel
theorem dX6_next_7 : decode cX6_next 7 = .ok (.invokevirtual 74, 3) := by decide +kernel
theorem dX6_next_10 : decode cX6_next 10 = .ok (.ifCond .ne 5, 3) := by decide +kernel
theorem dX6_next_13 : decode cX6_next 13 = .ok (.iconst 0, 1) := by decide +kernel
theorem dX6_next_14 : decode cX6_next 14 = .ok (.ireturn, 1) := by decide +kernel
theorem dX6_next_15 : decode cX6_next 15 = .ok (.iconst (-1), 1) := by decide +kernel
theorem dX6_next_16 : decode cX6_next 16 = .ok (.istore_n 2, 1) := by decide +kernel
theorem dX6_next_17 : decode cX6_next 17 = .ok (.ldc 97, 2) := by decide +kernel
theorem dX6_next_19 : decode cX6_next 19 = .ok (.istore_n 3, 1) := by decide +kernel
theorem dX6_next_20 : decode cX6_next 20 = .ok (.iconst 0, 1) := by decide +kernel
theorem dX6_next_21 : decode cX6_next 21 = .ok (.istore 4, 2) := by decide +kernel
theorem dX6_next_23 : decode cX6_next 23 = .ok (.iload 4, 2) := by decide +kernel
theorem dX6_next_25 : decode cX6_next 25 = .ok (.aload_n 0, 1) := by decide +kernel
theorem dX6_next_26 : decode cX6_next 26 = .ok (.getfield 57, 3) := by decide +kernel
theorem dX6_next_29 : decode cX6_next 29 = .ok (.if_icmp .ge 63, 3) := by decide +kernel
theorem dX6_next_32 : decode cX6_next 32 = .ok (.iconst 0, 1) := by decide +kernel
theorem dX6_next_33 : decode cX6_next 33 = .ok (.istore 5, 2) := by decide +kernel
theorem dX6_next_35 : decode cX6_next 35 = .ok (.iload 5, 2) := by decide +kernel
theorem dX6_next_37 : decode cX6_next 37 = .ok (.aload_n 0, 1) := by decide +kernel
theorem dX6_next_38 : decode cX6_next 38 = .ok (.getfield 68, 3) := by decide +kernel
theorem dX6_next_41 : decode cX6_next 41 = .ok (.if_icmp .ge 45, 3) := by decide +kernel
theorem dX6_next_44 : decode cX6_next 44 = .ok (.aload_n 0, 1) := by decide +kernel
theorem dX6_next_45 : decode cX6_next 45 = .ok (.iload_n 1, 1) := by decide +kernel
theorem dX6_next_46 : decode cX6_next 46 = .ok (.iload 4, 2) := by decide +kernel
theorem dX6_next_48 : decode cX6_next 48 = .ok (.iload 5, 2) := by decide +kernel
theorem dX6_next_50 : decode cX6_next 50 = .ok (.invokevirtual 124, 3) := by decide +kernel
theorem dX6_next_53 : decode cX6_next 53 = .ok (.ifCond .eq 27, 3) := by decide +kernel
theorem dX6_next_56 : decode cX6_next 56 = .ok (.aload_n 0, 1) := by decide +kernel
theorem dX6_next_57 : decode cX6_next 57 = .ok (.iload 4, 2) := by decide +kernel
theorem dX6_next_59 : decode cX6_next 59 = .ok (.iload 5, 2) := by decide +kernel
theorem dX6_next_61 : decode cX6_next 61 = .ok (.invokevirtual 112, 3) := by decide +kernel
theorem dX6_next_64 : decode cX6_next 64 = .ok (.iload_n 3, 1) := by decide +kernel
theorem dX6_next_65 : decode cX6_next 65 = .ok (.if_icmp .ge 15, 3) := by decide +kernel
theorem dX6_next_68 : decode cX6_next 68 = .ok (.aload_n 0, 1) := by decide +kernel
theorem dX6_next_69 : decode cX6_next 69 = .ok (.iload 4, 2) := by decide +kernel
theorem dX6_next_71 : decode cX6_next 71 = .ok (.iload 5, 2) := by decide +kernel
theorem dX6_next_73 : decode cX6_next 73 = .ok (.invokevirtual 112, 3) := by decide +kernel
theorem dX6_next_76 : decode cX6_next 76 = .ok (.istore_n 3, 1) := by decide +kernel
theorem dX6_next_77 : decode cX6_next 77 = .ok (.iload 4, 2) := by decide +kernel
theorem dX6_next_79 : decode cX6_next 79 = .ok (.istore_n 2, 1) := by decide +kernel
theorem dX6_next_80 : decode cX6_next 80 = .ok (.iinc 5 1, 3) := by decide +kernel
theorem dX6_next_83 : decode cX6_next 83 = .ok (.goto (-48), 3) := by decide +kernel
theorem dX6_next_86 : decode cX6_next 86 = .ok (.iinc 4 1, 3) := by decide +kernel
theorem dX6_next_89 : decode cX6_next 89 = .ok (.goto (-66), 3) := by decide +kernel
theorem dX6_next_92 : decode cX6_next 92 = .ok (.iload_n 2, 1) := by decide +kernel
theorem dX6_next_93 : decode cX6_next 93 = .ok (.ireturn, 1) := by decide +kernel
set_option maxRecDepth 20000 in
theorem ggX6_addWood_X6_in : GoodIn wsX6_addWood wsX6_in := goodIn_r _ [5] (by decide +kernel) (by decide +kernel)
set_option maxRecDepth 20000 in
theorem gX6_addWood_X6_in : GoodIn wsX6_addWood (va_wsS RX6 60 yX6_in wsX6_in) := goodIn_app (goodIn_of _ (by decide +kernel)) ggX6_addWood_X6_in
set_option maxRecDepth 20000 in
theorem ggX6_addWood_X6_goes : GoodIn wsX6_addWood wsX6_goes := goodIn_r _ [9, 10, 11, 12, 13, 14, 15, 16, 17, 18, 19, 20, 21, 22, 23, 24, 25, 26, 27, 28, 29] (by decide +kernel) (by decide +kernel)
set_option maxRecDepth 20000 in
theorem gX6_addWood_X6_goes : GoodIn wsX6_addWood (wsV RX6 74 RX6 yX6_goes wsX6_goes) := goodIn_app (goodIn_of _ (by decide +kernel)) ggX6_addWood_X6_goes
theorem dX6_addWood_0 : decode cX6_addWood 0 = .ok (.aload_n 0, 1) := by decide +kernel
theorem dX6_addWood_1 : decode cX6_addWood 1 = .ok (.iload_n 1, 1) := by decide +kernel
theorem dX6_addWood_2 : decode cX6_addWood 2 = .ok (.iconst 0, 1) := by decide +kernel
theorem dX6_addWood_3 : decode cX6_addWood 3 = .ok (.iconst 3, 1) := by decide +kernel
theorem dX6_addWood_4 : decode cX6_addWood 4 = .ok (.invokestatic 60, 3) := by decide +kernel
theorem dX6_addWood_7 : decode cX6_addWood 7 = .ok (.ifCond .eq 17, 3) := by decide +kernel
theorem dX6_addWood_10 : decode cX6_addWood 10 = .ok (.iload_n 2, 1) := by decide +kernel
theorem dX6_addWood_11 : decode cX6_addWood 11 = .ok (.iconst 1, 1) := by decide +kernel
theorem dX6_addWood_12 : decode cX6_addWood 12 = .ok (.bipush 20, 2) := by decide +kernel
theorem dX6_addWood_14 : decode cX6_addWood 14 = .ok (.invokestatic 60, 3) := by decide +kernel
theorem dX6_addWood_17 : decode cX6_addWood 17 = .ok (.ifCond .eq 7, 3) := by decide +kernel
theorem dX6_addWood_20 : decode cX6_addWood 20 = .ok (.iconst 1, 1) := by decide +kernel
theorem dX6_addWood_21 : decode cX6_addWood 21 = .ok (.goto 4, 3) := by decide +kernel
theorem dX6_addWood_24 : decode cX6_addWood 24 = .ok (.iconst 0, 1) := by decide +kernel
theorem dX6_addWood_25 : decode cX6_addWood 25 = .ok (.iconst 1, 1) := by decide +kernel
theorem dX6_addWood_26 : decode cX6_addWood 26 = .ok (.iconst 1, 1) := by decide +kernel
theorem dX6_addWood_27 : decode cX6_addWood 27 = .ok (.invokevirtual 74, 3) := by decide +kernel
theorem dX6_addWood_30 : decode cX6_addWood 30 = .ok (.ifCond .ne 5, 3) := by decide +kernel
theorem dX6_addWood_33 : decode cX6_addWood 33 = .ok (.iconst 0, 1) := by decide +kernel
theorem dX6_addWood_34 : decode cX6_addWood 34 = .ok (.ireturn, 1) := by decide +kernel
theorem dX6_addWood_35 : decode cX6_addWood 35 = .ok (.aload_n 0, 1) := by decide +kernel
theorem dX6_addWood_36 : decode cX6_addWood 36 = .ok (.getfield 31, 3) := by decide +kernel
theorem dX6_addWood_39 : decode cX6_addWood 39 = .ok (.iload_n 1, 1) := by decide +kernel
theorem dX6_addWood_40 : decode cX6_addWood 40 = .ok (.dup2, 1) := by decide +kernel
theorem dX6_addWood_41 : decode cX6_addWood 41 = .ok (.iaload, 1) := by decide +kernel
theorem dX6_addWood_42 : decode cX6_addWood 42 = .ok (.iload_n 2, 1) := by decide +kernel
theorem dX6_addWood_43 : decode cX6_addWood 43 = .ok (.iadd, 1) := by decide +kernel
theorem dX6_addWood_44 : decode cX6_addWood 44 = .ok (.iastore, 1) := by decide +kernel
theorem dX6_addWood_45 : decode cX6_addWood 45 = .ok (.aload_n 0, 1) := by decide +kernel
theorem dX6_addWood_46 : decode cX6_addWood 46 = .ok (.getfield 31, 3) := by decide +kernel
theorem dX6_addWood_49 : decode cX6_addWood 49 = .ok (.iload_n 1, 1) := by decide +kernel
theorem dX6_addWood_50 : decode cX6_addWood 50 = .ok (.iaload, 1) := by decide +kernel
theorem dX6_addWood_51 : decode cX6_addWood 51 = .ok (.ireturn, 1) := by decide +kernel
theorem dX6_atWork_0 : decode cX6_atWork 0 = .ok (.iconst 0, 1) := by decide +kernel
theorem dX6_atWork_1 : decode cX6_atWork 1 = .ok (.istore_n 1, 1) := by decide +kernel
theorem dX6_atWork_2 : decode cX6_atWork 2 = .ok (.iconst 0, 1) := by decide +kernel
theorem dX6_atWork_3 : decode cX6_atWork 3 = .ok (.istore_n 2, 1) := by decide +kernel
theorem dX6_atWork_4 : decode cX6_atWork 4 = .ok (.iload_n 2, 1) := by decide +kernel
theorem dX6_atWork_5 : decode cX6_atWork 5 = .ok (.aload_n 0, 1) := by decide +kernel
theorem dX6_atWork_6 : decode cX6_atWork 6 = .ok (.getfield 71, 3) := by decide +kernel
theorem dX6_atWork_9 : decode cX6_atWork 9 = .ok (.if_icmp .ge 39, 3) := by decide +kernel
theorem dX6_atWork_12 : decode cX6_atWork 12 = .ok (.iload_n 1, 1) := by decide +kernel
theorem dX6_atWork_13 : decode cX6_atWork 13 = .ok (.aload_n 0, 1) := by decide +kernel
theorem dX6_atWork_14 : decode cX6_atWork 14 = .ok (.getfield 43, 3) := by decide +kernel
theorem dX6_atWork_17 : decode cX6_atWork 17 = .ok (.iload_n 2, 1) := by decide +kernel
theorem dX6_atWork_18 : decode cX6_atWork 18 = .ok (.baload, 1) := by decide +kernel
theorem dX6_atWork_19 : decode cX6_atWork 19 = .ok (.ifCond .ne 20, 3) := by decide +kernel
theorem dX6_atWork_22 : decode cX6_atWork 22 = .ok (.aload_n 0, 1) := by decide +kernel
theorem dX6_atWork_23 : decode cX6_atWork 23 = .ok (.getfield 127, 3) := by decide +kernel
theorem dX6_atWork_26 : decode cX6_atWork 26 = .ok (.aload_n 0, 1) := by decide +kernel
theorem dX6_atWork_27 : decode cX6_atWork 27 = .ok (.getfield 40, 3) := by decide +kernel
theorem dX6_atWork_30 : decode cX6_atWork 30 = .ok (.iload_n 2, 1) := by decide +kernel
theorem dX6_atWork_31 : decode cX6_atWork 31 = .ok (.iaload, 1) := by decide +kernel
theorem dX6_atWork_32 : decode cX6_atWork 32 = .ok (.if_icmp .ge 7, 3) := by decide +kernel
theorem dX6_atWork_35 : decode cX6_atWork 35 = .ok (.iconst 1, 1) := by decide +kernel
theorem dX6_atWork_36 : decode cX6_atWork 36 = .ok (.goto 4, 3) := by decide +kernel
theorem dX6_atWork_39 : decode cX6_atWork 39 = .ok (.iconst 0, 1) := by decide +kernel
theorem dX6_atWork_40 : decode cX6_atWork 40 = .ok (.iadd, 1) := by decide +kernel
theorem dX6_atWork_41 : decode cX6_atWork 41 = .ok (.istore_n 1, 1) := by decide +kernel
theorem dX6_atWork_42 : decode cX6_atWork 42 = .ok (.iinc 2 1, 3) := by decide +kernel
theorem dX6_atWork_45 : decode cX6_atWork 45 = .ok (.goto (-41), 3) := by decide +kernel
theorem dX6_atWork_48 : decode cX6_atWork 48 = .ok (.iload_n 1, 1) := by decide +kernel
theorem dX6_atWork_49 : decode cX6_atWork 49 = .ok (.ireturn, 1) := by decide +kernel
set_option maxRecDepth 20000 in
theorem ggX6_order_X6_isPupil : GoodIn wsX6_order wsX6_isPupil := goodIn_r _ [10, 11, 12, 9, 13] (by decide +kernel) (by decide +kernel)
set_option maxRecDepth 20000 in
theorem gX6_order_X6_isPupil : GoodIn wsX6_order (va_wsS RX6 121 yX6_isPupil wsX6_isPupil) := goodIn_app (goodIn_of _ (by decide +kernel)) ggX6_order_X6_isPupil
set_option maxRecDepth 20000 in
theorem ggX6_order_X6_in : GoodIn wsX6_order wsX6_in := goodIn_r _ [13] (by decide +kernel) (by decide +kernel)
set_option maxRecDepth 20000 in
theorem gX6_order_X6_in : GoodIn wsX6_order (va_wsS RX6 60 yX6_in wsX6_in) := goodIn_app (goodIn_of _ (by decide +kernel)) ggX6_order_X6_in
set_option maxRecDepth 20000 in
theorem ggX6_order_X6_atWork : GoodIn wsX6_order wsX6_atWork := goodIn_r _ [17, 2, 18, 6, 5, 24, 25, 26, 27, 28, 29, 30, 31, 32, 33, 34, 35, 36, 37, 38, 39, 40, 41, 42] (by decide +kernel) (by decide +kernel)
set_option maxRecDepth 20000 in
theorem gX6_order_X6_atWork : GoodIn wsX6_order (wsV RX6 130 RX6 yX6_atWork wsX6_atWork) := goodIn_app (goodIn_of _ (by decide +kernel)) ggX6_order_X6_atWork
set_option maxRecDepth 20000 in
theorem ggX6_order_X6_goes : GoodIn wsX6_order wsX6_goes := goodIn_r _ [22, 23, 24, 25, 26, 27, 28, 29, 30, 31, 32, 33, 34, 35, 36, 37, 38, 39, 40, 41, 42] (by decide +kernel) (by decide +kernel)
set_option maxRecDepth 20000 in
theorem gX6_order_X6_goes : GoodIn wsX6_order (wsV RX6 74 RX6 yX6_goes wsX6_goes) := goodIn_app (goodIn_of _ (by decide +kernel)) ggX6_order_X6_goes
theorem dX6_order_0 : decode cX6_order 0 = .ok (.iload_n 1, 1) := by decide +kernel
theorem dX6_order_1 : decode cX6_order 1 = .ok (.invokestatic 121, 3) := by decide +kernel
theorem dX6_order_4 : decode cX6_order 4 = .ok (.ifCond .eq 26, 3) := by decide +kernel
theorem dX6_order_7 : decode cX6_order 7 = .ok (.iload_n 2, 1) := by decide +kernel
theorem dX6_order_8 : decode cX6_order 8 = .ok (.iconst 0, 1) := by decide +kernel
theorem dX6_order_9 : decode cX6_order 9 = .ok (.iconst 3, 1) := by decide +kernel
theorem dX6_order_10 : decode cX6_order 10 = .ok (.invokestatic 60, 3) := by decide +kernel
theorem dX6_order_13 : decode cX6_order 13 = .ok (.ifCond .eq 17, 3) := by decide +kernel
theorem dX6_order_16 : decode cX6_order 16 = .ok (.iload_n 3, 1) := by decide +kernel
theorem dX6_order_17 : decode cX6_order 17 = .ok (.iconst 4, 1) := by decide +kernel
theorem dX6_order_18 : decode cX6_order 18 = .ok (.bipush 16, 2) := by decide +kernel
theorem dX6_order_20 : decode cX6_order 20 = .ok (.invokestatic 60, 3) := by decide +kernel
theorem dX6_order_23 : decode cX6_order 23 = .ok (.ifCond .eq 7, 3) := by decide +kernel
theorem dX6_order_26 : decode cX6_order 26 = .ok (.iconst 1, 1) := by decide +kernel
theorem dX6_order_27 : decode cX6_order 27 = .ok (.goto 4, 3) := by decide +kernel
theorem dX6_order_30 : decode cX6_order 30 = .ok (.iconst 0, 1) := by decide +kernel
theorem dX6_order_31 : decode cX6_order 31 = .ok (.istore 4, 2) := by decide +kernel
theorem dX6_order_33 : decode cX6_order 33 = .ok (.aload_n 0, 1) := by decide +kernel
theorem dX6_order_34 : decode cX6_order 34 = .ok (.iload 4, 2) := by decide +kernel
theorem dX6_order_36 : decode cX6_order 36 = .ok (.iload 4, 2) := by decide +kernel
theorem dX6_order_38 : decode cX6_order 38 = .ok (.ifCond .eq 34, 3) := by decide +kernel
theorem dX6_order_41 : decode cX6_order 41 = .ok (.aload_n 0, 1) := by decide +kernel
theorem dX6_order_42 : decode cX6_order 42 = .ok (.getfield 31, 3) := by decide +kernel
theorem dX6_order_45 : decode cX6_order 45 = .ok (.iload_n 2, 1) := by decide +kernel
theorem dX6_order_46 : decode cX6_order 46 = .ok (.iaload, 1) := by decide +kernel
theorem dX6_order_47 : decode cX6_order 47 = .ok (.iconst 3, 1) := by decide +kernel
theorem dX6_order_48 : decode cX6_order 48 = .ok (.if_icmp .lt 24, 3) := by decide +kernel
theorem dX6_order_51 : decode cX6_order 51 = .ok (.aload_n 0, 1) := by decide +kernel
theorem dX6_order_52 : decode cX6_order 52 = .ok (.invokevirtual 130, 3) := by decide +kernel
theorem dX6_order_55 : decode cX6_order 55 = .ok (.iconst 2, 1) := by decide +kernel
theorem dX6_order_56 : decode cX6_order 56 = .ok (.if_icmp .ge 16, 3) := by decide +kernel
theorem dX6_order_59 : decode cX6_order 59 = .ok (.aload_n 0, 1) := by decide +kernel
theorem dX6_order_60 : decode cX6_order 60 = .ok (.getfield 71, 3) := by decide +kernel
theorem dX6_order_63 : decode cX6_order 63 = .ok (.bipush 20, 2) := by decide +kernel
theorem dX6_order_65 : decode cX6_order 65 = .ok (.if_icmp .ge 7, 3) := by decide +kernel
theorem dX6_order_68 : decode cX6_order 68 = .ok (.iconst 1, 1) := by decide +kernel
theorem dX6_order_69 : decode cX6_order 69 = .ok (.goto 4, 3) := by decide +kernel
theorem dX6_order_72 : decode cX6_order 72 = .ok (.iconst 0, 1) := by decide +kernel
theorem dX6_order_73 : decode cX6_order 73 = .ok (.iconst 1, 1) := by decide +kernel
theorem dX6_order_74 : decode cX6_order 74 = .ok (.invokevirtual 74, 3) := by decide +kernel
theorem dX6_order_77 : decode cX6_order 77 = .ok (.ifCond .ne 5, 3) := by decide +kernel
theorem dX6_order_80 : decode cX6_order 80 = .ok (.iconst 0, 1) := by decide +kernel
theorem dX6_order_81 : decode cX6_order 81 = .ok (.ireturn, 1) := by decide +kernel
theorem dX6_order_82 : decode cX6_order 82 = .ok (.aload_n 0, 1) := by decide +kernel
theorem dX6_order_83 : decode cX6_order 83 = .ok (.getfield 31, 3) := by decide +kernel
theorem dX6_order_86 : decode cX6_order 86 = .ok (.iload_n 2, 1) := by decide +kernel
theorem dX6_order_87 : decode cX6_order 87 = .ok (.dup2, 1) := by decide +kernel
theorem dX6_order_88 : decode cX6_order 88 = .ok (.iaload, 1) := by decide +kernel
theorem dX6_order_89 : decode cX6_order 89 = .ok (.iconst 3, 1) := by decide +kernel
theorem dX6_order_90 : decode cX6_order 90 = .ok (.isub, 1) := by decide +kernel
theorem dX6_order_91 : decode cX6_order 91 = .ok (.iastore, 1) := by decide +kernel
theorem dX6_order_92 : decode cX6_order 92 = .ok (.aload_n 0, 1) := by decide +kernel
theorem dX6_order_93 : decode cX6_order 93 = .ok (.getfield 34, 3) := by decide +kernel
theorem dX6_order_96 : decode cX6_order 96 = .ok (.aload_n 0, 1) := by decide +kernel
theorem dX6_order_97 : decode cX6_order 97 = .ok (.getfield 71, 3) := by decide +kernel
theorem dX6_order_100 : decode cX6_order 100 = .ok (.iload_n 1, 1) := by decide +kernel
theorem dX6_order_101 : decode cX6_order 101 = .ok (.iastore, 1) := by decide +kernel
theorem dX6_order_102 : decode cX6_order 102 = .ok (.aload_n 0, 1) := by decide +kernel
theorem dX6_order_103 : decode cX6_order 103 = .ok (.getfield 37, 3) := by decide +kernel
theorem dX6_order_106 : decode cX6_order 106 = .ok (.aload_n 0, 1) := by decide +kernel
theorem dX6_order_107 : decode cX6_order 107 = .ok (.getfield 71, 3) := by decide +kernel
theorem dX6_order_110 : decode cX6_order 110 = .ok (.iload_n 3, 1) := by decide +kernel
theorem dX6_order_111 : decode cX6_order 111 = .ok (.iastore, 1) := by decide +kernel
theorem dX6_order_112 : decode cX6_order 112 = .ok (.aload_n 0, 1) := by decide +kernel
theorem dX6_order_113 : decode cX6_order 113 = .ok (.getfield 40, 3) := by decide +kernel
theorem dX6_order_116 : decode cX6_order 116 = .ok (.aload_n 0, 1) := by decide +kernel
theorem dX6_order_117 : decode cX6_order 117 = .ok (.getfield 71, 3) := by decide +kernel
theorem dX6_order_120 : decode cX6_order 120 = .ok (.aload_n 0, 1) := by decide +kernel
theorem dX6_order_121 : decode cX6_order 121 = .ok (.getfield 127, 3) := by decide +kernel
theorem dX6_order_124 : decode cX6_order 124 = .ok (.iconst 2, 1) := by decide +kernel
theorem dX6_order_125 : decode cX6_order 125 = .ok (.iload_n 3, 1) := by decide +kernel
theorem dX6_order_126 : decode cX6_order 126 = .ok (.imul, 1) := by decide +kernel
theorem dX6_order_127 : decode cX6_order 127 = .ok (.iadd, 1) := by decide +kernel
theorem dX6_order_128 : decode cX6_order 128 = .ok (.iastore, 1) := by decide +kernel
theorem dX6_order_129 : decode cX6_order 129 = .ok (.aload_n 0, 1) := by decide +kernel
theorem dX6_order_130 : decode cX6_order 130 = .ok (.dup, 1) := by decide +kernel
theorem dX6_order_131 : decode cX6_order 131 = .ok (.getfield 71, 3) := by decide +kernel
theorem dX6_order_134 : decode cX6_order 134 = .ok (.iconst 1, 1) := by decide +kernel
theorem dX6_order_135 : decode cX6_order 135 = .ok (.iadd, 1) := by decide +kernel
theorem dX6_order_136 : decode cX6_order 136 = .ok (.putfield 71, 3) := by decide +kernel
theorem dX6_order_139 : decode cX6_order 139 = .ok (.aload_n 0, 1) := by decide +kernel
theorem dX6_order_140 : decode cX6_order 140 = .ok (.getfield 71, 3) := by decide +kernel
theorem dX6_order_143 : decode cX6_order 143 = .ok (.iconst 1, 1) := by decide +kernel
theorem dX6_order_144 : decode cX6_order 144 = .ok (.isub, 1) := by decide +kernel
theorem dX6_order_145 : decode cX6_order 145 = .ok (.ireturn, 1) := by decide +kernel
set_option maxRecDepth 20000 in
theorem ggX6_ready_X6_isOrder : GoodIn wsX6_ready wsX6_isOrder := goodIn_r _ [6, 7, 8, 9, 5, 10, 16, 17, 18, 19, 20, 21, 22, 23, 24, 25, 26, 27, 28, 29, 30, 31, 32, 33, 34] (by decide +kernel) (by decide +kernel)
set_option maxRecDepth 20000 in
theorem gX6_ready_X6_isOrder : GoodIn wsX6_ready (wsV RX6 134 RX6 yX6_isOrder wsX6_isOrder) := goodIn_app (goodIn_of _ (by decide +kernel)) ggX6_ready_X6_isOrder
set_option maxRecDepth 20000 in
theorem ggX6_ready_X6_goes : GoodIn wsX6_ready wsX6_goes := goodIn_r _ [14, 15, 16, 17, 18, 19, 20, 21, 22, 23, 24, 25, 26, 27, 28, 29, 30, 31, 32, 33, 34] (by decide +kernel) (by decide +kernel)
set_option maxRecDepth 20000 in
theorem gX6_ready_X6_goes : GoodIn wsX6_ready (wsV RX6 74 RX6 yX6_goes wsX6_goes) := goodIn_app (goodIn_of _ (by decide +kernel)) ggX6_ready_X6_goes
theorem dX6_ready_0 : decode cX6_ready 0 = .ok (.aload_n 0, 1) := by decide +kernel
theorem dX6_ready_1 : decode cX6_ready 1 = .ok (.aload_n 0, 1) := by decide +kernel
theorem dX6_ready_2 : decode cX6_ready 2 = .ok (.iload_n 1, 1) := by decide +kernel
theorem dX6_ready_3 : decode cX6_ready 3 = .ok (.invokevirtual 134, 3) := by decide +kernel
theorem dX6_ready_6 : decode cX6_ready 6 = .ok (.iconst 1, 1) := by decide +kernel
theorem dX6_ready_7 : decode cX6_ready 7 = .ok (.iconst 1, 1) := by decide +kernel
theorem dX6_ready_8 : decode cX6_ready 8 = .ok (.invokevirtual 74, 3) := by decide +kernel
theorem dX6_ready_11 : decode cX6_ready 11 = .ok (.ifCond .eq 12, 3) := by decide +kernel
theorem dX6_ready_14 : decode cX6_ready 14 = .ok (.aload_n 0, 1) := by decide +kernel
theorem dX6_ready_15 : decode cX6_ready 15 = .ok (.getfield 40, 3) := by decide +kernel
theorem dX6_ready_18 : decode cX6_ready 18 = .ok (.iload_n 1, 1) := by decide +kernel
theorem dX6_ready_19 : decode cX6_ready 19 = .ok (.iaload, 1) := by decide +kernel
theorem dX6_ready_20 : decode cX6_ready 20 = .ok (.goto 4, 3) := by decide +kernel
theorem dX6_ready_23 : decode cX6_ready 23 = .ok (.iconst 0, 1) := by decide +kernel
theorem dX6_ready_24 : decode cX6_ready 24 = .ok (.ireturn, 1) := by decide +kernel
set_option maxRecDepth 20000 in
theorem ggX6_isOpen_X6_in : GoodIn wsX6_isOpen wsX6_in := goodIn_r _ [4] (by decide +kernel) (by decide +kernel)
set_option maxRecDepth 20000 in
theorem gX6_isOpen_X6_in : GoodIn wsX6_isOpen (va_wsS RX6 60 yX6_in wsX6_in) := goodIn_app (goodIn_of _ (by decide +kernel)) ggX6_isOpen_X6_in
theorem dX6_isOpen_0 : decode cX6_isOpen 0 = .ok (.iload_n 0, 1) := by decide +kernel
theorem dX6_isOpen_1 : decode cX6_isOpen 1 = .ok (.iconst 0, 1) := by decide +kernel
theorem dX6_isOpen_2 : decode cX6_isOpen 2 = .ok (.bipush 60, 2) := by decide +kernel
theorem dX6_isOpen_4 : decode cX6_isOpen 4 = .ok (.invokestatic 60, 3) := by decide +kernel
theorem dX6_isOpen_7 : decode cX6_isOpen 7 = .ok (.ireturn, 1) := by decide +kernel
set_option maxRecDepth 20000 in
theorem ggX6_fetch_X6_isOrder : GoodIn wsX6_fetch wsX6_isOrder := goodIn_r _ [14, 15, 16, 17, 13, 18, 27, 28, 29, 30, 31, 32, 33, 34, 35, 36, 37, 38, 39, 40, 41, 42, 43, 44, 45] (by decide +kernel) (by decide +kernel)
set_option maxRecDepth 20000 in
theorem gX6_fetch_X6_isOrder : GoodIn wsX6_fetch (wsV RX6 134 RX6 yX6_isOrder wsX6_isOrder) := goodIn_app (goodIn_of _ (by decide +kernel)) ggX6_fetch_X6_isOrder
set_option maxRecDepth 20000 in
theorem ggX6_fetch_X6_isOpen : GoodIn wsX6_fetch wsX6_isOpen := goodIn_r _ [21, 16, 17, 13, 18] (by decide +kernel) (by decide +kernel)
set_option maxRecDepth 20000 in
theorem gX6_fetch_X6_isOpen : GoodIn wsX6_fetch (va_wsS RX6 137 yX6_isOpen wsX6_isOpen) := goodIn_app (goodIn_of _ (by decide +kernel)) ggX6_fetch_X6_isOpen
set_option maxRecDepth 20000 in
theorem ggX6_fetch_X6_goes : GoodIn wsX6_fetch wsX6_goes := goodIn_r _ [25, 26, 27, 28, 29, 30, 31, 32, 33, 34, 35, 36, 37, 38, 39, 40, 41, 42, 43, 44, 45] (by decide +kernel) (by decide +kernel)
set_option maxRecDepth 20000 in
theorem gX6_fetch_X6_goes : GoodIn wsX6_fetch (wsV RX6 74 RX6 yX6_goes wsX6_goes) := goodIn_app (goodIn_of _ (by decide +kernel)) ggX6_fetch_X6_goes
theorem dX6_fetch_0 : decode cX6_fetch 0 = .ok (.aload_n 0, 1) := by decide +kernel
theorem dX6_fetch_1 : decode cX6_fetch 1 = .ok (.iload_n 1, 1) := by decide +kernel
theorem dX6_fetch_2 : decode cX6_fetch 2 = .ok (.invokevirtual 134, 3) := by decide +kernel
theorem dX6_fetch_5 : decode cX6_fetch 5 = .ok (.istore 6, 2) := by decide +kernel
theorem dX6_fetch_7 : decode cX6_fetch 7 = .ok (.iload_n 2, 1) := by decide +kernel
theorem dX6_fetch_8 : decode cX6_fetch 8 = .ok (.invokestatic 137, 3) := by decide +kernel
theorem dX6_fetch_11 : decode cX6_fetch 11 = .ok (.ifCond .eq 30, 3) := by decide +kernel
theorem dX6_fetch_14 : decode cX6_fetch 14 = .ok (.iload_n 3, 1) := by decide +kernel
theorem dX6_fetch_15 : decode cX6_fetch 15 = .ok (.invokestatic 137, 3) := by decide +kernel
theorem dX6_fetch_18 : decode cX6_fetch 18 = .ok (.ifCond .eq 23, 3) := by decide +kernel
theorem dX6_fetch_21 : decode cX6_fetch 21 = .ok (.iload 4, 2) := by decide +kernel
theorem dX6_fetch_23 : decode cX6_fetch 23 = .ok (.invokestatic 137, 3) := by decide +kernel
theorem dX6_fetch_26 : decode cX6_fetch 26 = .ok (.ifCond .eq 15, 3) := by decide +kernel
theorem dX6_fetch_29 : decode cX6_fetch 29 = .ok (.iload 5, 2) := by decide +kernel
theorem dX6_fetch_31 : decode cX6_fetch 31 = .ok (.invokestatic 137, 3) := by decide +kernel
theorem dX6_fetch_34 : decode cX6_fetch 34 = .ok (.ifCond .eq 7, 3) := by decide +kernel
theorem dX6_fetch_37 : decode cX6_fetch 37 = .ok (.iconst 1, 1) := by decide +kernel
theorem dX6_fetch_38 : decode cX6_fetch 38 = .ok (.goto 4, 3) := by decide +kernel
theorem dX6_fetch_41 : decode cX6_fetch 41 = .ok (.iconst 0, 1) := by decide +kernel
theorem dX6_fetch_42 : decode cX6_fetch 42 = .ok (.istore 7, 2) := by decide +kernel
theorem dX6_fetch_44 : decode cX6_fetch 44 = .ok (.aload_n 0, 1) := by decide +kernel
theorem dX6_fetch_45 : decode cX6_fetch 45 = .ok (.iload 6, 2) := by decide +kernel
theorem dX6_fetch_47 : decode cX6_fetch 47 = .ok (.iload 7, 2) := by decide +kernel
theorem dX6_fetch_49 : decode cX6_fetch 49 = .ok (.iload 6, 2) := by decide +kernel
theorem dX6_fetch_51 : decode cX6_fetch 51 = .ok (.ifCond .eq 38, 3) := by decide +kernel
theorem dX6_fetch_54 : decode cX6_fetch 54 = .ok (.aload_n 0, 1) := by decide +kernel
theorem dX6_fetch_55 : decode cX6_fetch 55 = .ok (.getfield 127, 3) := by decide +kernel
theorem dX6_fetch_58 : decode cX6_fetch 58 = .ok (.aload_n 0, 1) := by decide +kernel
theorem dX6_fetch_59 : decode cX6_fetch 59 = .ok (.getfield 40, 3) := by decide +kernel
theorem dX6_fetch_62 : decode cX6_fetch 62 = .ok (.iload_n 1, 1) := by decide +kernel
theorem dX6_fetch_63 : decode cX6_fetch 63 = .ok (.iaload, 1) := by decide +kernel
theorem dX6_fetch_64 : decode cX6_fetch 64 = .ok (.if_icmp .lt 25, 3) := by decide +kernel
theorem dX6_fetch_67 : decode cX6_fetch 67 = .ok (.aload_n 0, 1) := by decide +kernel
theorem dX6_fetch_68 : decode cX6_fetch 68 = .ok (.getfield 43, 3) := by decide +kernel
theorem dX6_fetch_71 : decode cX6_fetch 71 = .ok (.iload_n 1, 1) := by decide +kernel
theorem dX6_fetch_72 : decode cX6_fetch 72 = .ok (.baload, 1) := by decide +kernel
theorem dX6_fetch_73 : decode cX6_fetch 73 = .ok (.ifCond .ne 16, 3) := by decide +kernel
theorem dX6_fetch_76 : decode cX6_fetch 76 = .ok (.aload_n 0, 1) := by decide +kernel
theorem dX6_fetch_77 : decode cX6_fetch 77 = .ok (.getfield 68, 3) := by decide +kernel
theorem dX6_fetch_80 : decode cX6_fetch 80 = .ok (.bipush 8, 2) := by decide +kernel
theorem dX6_fetch_82 : decode cX6_fetch 82 = .ok (.if_icmp .ge 7, 3) := by decide +kernel
theorem dX6_fetch_85 : decode cX6_fetch 85 = .ok (.iconst 1, 1) := by decide +kernel
theorem dX6_fetch_86 : decode cX6_fetch 86 = .ok (.goto 4, 3) := by decide +kernel
theorem dX6_fetch_89 : decode cX6_fetch 89 = .ok (.iconst 0, 1) := by decide +kernel
theorem dX6_fetch_90 : decode cX6_fetch 90 = .ok (.invokevirtual 74, 3) := by decide +kernel
theorem dX6_fetch_93 : decode cX6_fetch 93 = .ok (.ifCond .ne 5, 3) := by decide +kernel
theorem dX6_fetch_96 : decode cX6_fetch 96 = .ok (.iconst 0, 1) := by decide +kernel
theorem dX6_fetch_97 : decode cX6_fetch 97 = .ok (.ireturn, 1) := by decide +kernel
theorem dX6_fetch_98 : decode cX6_fetch 98 = .ok (.aload_n 0, 1) := by decide +kernel
theorem dX6_fetch_99 : decode cX6_fetch 99 = .ok (.getfield 43, 3) := by decide +kernel
theorem dX6_fetch_102 : decode cX6_fetch 102 = .ok (.iload_n 1, 1) := by decide +kernel
theorem dX6_fetch_103 : decode cX6_fetch 103 = .ok (.iconst 1, 1) := by decide +kernel
theorem dX6_fetch_104 : decode cX6_fetch 104 = .ok (.bastore, 1) := by decide +kernel
theorem dX6_fetch_105 : decode cX6_fetch 105 = .ok (.aload_n 0, 1) := by decide +kernel
theorem dX6_fetch_106 : decode cX6_fetch 106 = .ok (.getfield 16, 3) := by decide +kernel
theorem dX6_fetch_109 : decode cX6_fetch 109 = .ok (.aload_n 0, 1) := by decide +kernel
theorem dX6_fetch_110 : decode cX6_fetch 110 = .ok (.getfield 68, 3) := by decide +kernel
theorem dX6_fetch_113 : decode cX6_fetch 113 = .ok (.aload_n 0, 1) := by decide +kernel
theorem dX6_fetch_114 : decode cX6_fetch 114 = .ok (.getfield 34, 3) := by decide +kernel
theorem dX6_fetch_117 : decode cX6_fetch 117 = .ok (.iload_n 1, 1) := by decide +kernel
theorem dX6_fetch_118 : decode cX6_fetch 118 = .ok (.iaload, 1) := by decide +kernel
theorem dX6_fetch_119 : decode cX6_fetch 119 = .ok (.iastore, 1) := by decide +kernel
theorem dX6_fetch_120 : decode cX6_fetch 120 = .ok (.aload_n 0, 1) := by decide +kernel
theorem dX6_fetch_121 : decode cX6_fetch 121 = .ok (.getfield 19, 3) := by decide +kernel
theorem dX6_fetch_124 : decode cX6_fetch 124 = .ok (.aload_n 0, 1) := by decide +kernel
theorem dX6_fetch_125 : decode cX6_fetch 125 = .ok (.getfield 68, 3) := by decide +kernel
theorem dX6_fetch_128 : decode cX6_fetch 128 = .ok (.aload_n 0, 1) := by decide +kernel
theorem dX6_fetch_129 : decode cX6_fetch 129 = .ok (.getfield 37, 3) := by decide +kernel
theorem dX6_fetch_132 : decode cX6_fetch 132 = .ok (.iload_n 1, 1) := by decide +kernel
theorem dX6_fetch_133 : decode cX6_fetch 133 = .ok (.iaload, 1) := by decide +kernel
theorem dX6_fetch_134 : decode cX6_fetch 134 = .ok (.iastore, 1) := by decide +kernel
theorem dX6_fetch_135 : decode cX6_fetch 135 = .ok (.aload_n 0, 1) := by decide +kernel
theorem dX6_fetch_136 : decode cX6_fetch 136 = .ok (.getfield 22, 3) := by decide +kernel
theorem dX6_fetch_139 : decode cX6_fetch 139 = .ok (.iconst 4, 1) := by decide +kernel
theorem dX6_fetch_140 : decode cX6_fetch 140 = .ok (.aload_n 0, 1) := by decide +kernel
theorem dX6_fetch_141 : decode cX6_fetch 141 = .ok (.getfield 68, 3) := by decide +kernel
theorem dX6_fetch_144 : decode cX6_fetch 144 = .ok (.imul, 1) := by decide +kernel
theorem dX6_fetch_145 : decode cX6_fetch 145 = .ok (.iload_n 2, 1) := by decide +kernel
theorem dX6_fetch_146 : decode cX6_fetch 146 = .ok (.iastore, 1) := by decide +kernel
theorem dX6_fetch_147 : decode cX6_fetch 147 = .ok (.aload_n 0, 1) := by decide +kernel
theorem dX6_fetch_148 : decode cX6_fetch 148 = .ok (.getfield 22, 3) := by decide +kernel
theorem dX6_fetch_151 : decode cX6_fetch 151 = .ok (.iconst 4, 1) := by decide +kernel
theorem dX6_fetch_152 : decode cX6_fetch 152 = .ok (.aload_n 0, 1) := by decide +kernel
theorem dX6_fetch_153 : decode cX6_fetch 153 = .ok (.getfield 68, 3) := by decide +kernel
theorem dX6_fetch_156 : decode cX6_fetch 156 = .ok (.imul, 1) := by decide +kernel
theorem dX6_fetch_157 : decode cX6_fetch 157 = .ok (.iconst 1, 1) := by decide +kernel
theorem dX6_fetch_158 : decode cX6_fetch 158 = .ok (.iadd, 1) := by decide +kernel
theorem dX6_fetch_159 : decode cX6_fetch 159 = .ok (.iload_n 3, 1) := by decide +kernel
theorem dX6_fetch_160 : decode cX6_fetch 160 = .ok (.iastore, 1) := by decide +kernel
theorem dX6_fetch_161 : decode cX6_fetch 161 = .ok (.aload_n 0, 1) := by decide +kernel
theorem dX6_fetch_162 : decode cX6_fetch 162 = .ok (.getfield 22, 3) := by decide +kernel
theorem dX6_fetch_165 : decode cX6_fetch 165 = .ok (.iconst 4, 1) := by decide +kernel
theorem dX6_fetch_166 : decode cX6_fetch 166 = .ok (.aload_n 0, 1) := by decide +kernel
theorem dX6_fetch_167 : decode cX6_fetch 167 = .ok (.getfield 68, 3) := by decide +kernel
theorem dX6_fetch_170 : decode cX6_fetch 170 = .ok (.imul, 1) := by decide +kernel
theorem dX6_fetch_171 : decode cX6_fetch 171 = .ok (.iconst 2, 1) := by decide +kernel
theorem dX6_fetch_172 : decode cX6_fetch 172 = .ok (.iadd, 1) := by decide +kernel
theorem dX6_fetch_173 : decode cX6_fetch 173 = .ok (.iload 4, 2) := by decide +kernel
theorem dX6_fetch_175 : decode cX6_fetch 175 = .ok (.iastore, 1) := by decide +kernel
theorem dX6_fetch_176 : decode cX6_fetch 176 = .ok (.aload_n 0, 1) := by decide +kernel
theorem dX6_fetch_177 : decode cX6_fetch 177 = .ok (.getfield 22, 3) := by decide +kernel
theorem dX6_fetch_180 : decode cX6_fetch 180 = .ok (.iconst 4, 1) := by decide +kernel
theorem dX6_fetch_181 : decode cX6_fetch 181 = .ok (.aload_n 0, 1) := by decide +kernel
theorem dX6_fetch_182 : decode cX6_fetch 182 = .ok (.getfield 68, 3) := by decide +kernel
theorem dX6_fetch_185 : decode cX6_fetch 185 = .ok (.imul, 1) := by decide +kernel
theorem dX6_fetch_186 : decode cX6_fetch 186 = .ok (.iconst 3, 1) := by decide +kernel
theorem dX6_fetch_187 : decode cX6_fetch 187 = .ok (.iadd, 1) := by decide +kernel
theorem dX6_fetch_188 : decode cX6_fetch 188 = .ok (.iload 5, 2) := by decide +kernel
theorem dX6_fetch_190 : decode cX6_fetch 190 = .ok (.iastore, 1) := by decide +kernel
theorem dX6_fetch_191 : decode cX6_fetch 191 = .ok (.aload_n 0, 1) := by decide +kernel
theorem dX6_fetch_192 : decode cX6_fetch 192 = .ok (.dup, 1) := by decide +kernel
theorem dX6_fetch_193 : decode cX6_fetch 193 = .ok (.getfield 68, 3) := by decide +kernel
theorem dX6_fetch_196 : decode cX6_fetch 196 = .ok (.iconst 1, 1) := by decide +kernel
theorem dX6_fetch_197 : decode cX6_fetch 197 = .ok (.iadd, 1) := by decide +kernel
theorem dX6_fetch_198 : decode cX6_fetch 198 = .ok (.putfield 68, 3) := by decide +kernel
theorem dX6_fetch_201 : decode cX6_fetch 201 = .ok (.aload_n 0, 1) := by decide +kernel
theorem dX6_fetch_202 : decode cX6_fetch 202 = .ok (.getfield 68, 3) := by decide +kernel
theorem dX6_fetch_205 : decode cX6_fetch 205 = .ok (.iconst 1, 1) := by decide +kernel
theorem dX6_fetch_206 : decode cX6_fetch 206 = .ok (.isub, 1) := by decide +kernel
theorem dX6_fetch_207 : decode cX6_fetch 207 = .ok (.ireturn, 1) := by decide +kernel
set_option maxRecDepth 20000 in
theorem ggX6_pass_X6_in : GoodIn wsX6_pass wsX6_in := goodIn_r _ [5] (by decide +kernel) (by decide +kernel)
set_option maxRecDepth 20000 in
theorem gX6_pass_X6_in : GoodIn wsX6_pass (va_wsS RX6 60 yX6_in wsX6_in) := goodIn_app (goodIn_of _ (by decide +kernel)) ggX6_pass_X6_in
set_option maxRecDepth 20000 in
theorem ggX6_pass_X6_goes : GoodIn wsX6_pass wsX6_goes := goodIn_r _ [9, 10, 11, 12, 13, 14, 15, 16, 17, 18, 19, 20, 21, 22, 23, 24, 25, 26, 27, 28, 29] (by decide +kernel) (by decide +kernel)
set_option maxRecDepth 20000 in
theorem gX6_pass_X6_goes : GoodIn wsX6_pass (wsV RX6 74 RX6 yX6_goes wsX6_goes) := goodIn_app (goodIn_of _ (by decide +kernel)) ggX6_pass_X6_goes
theorem dX6_pass_0 : decode cX6_pass 0 = .ok (.iload_n 1, 1) := by decide +kernel
theorem dX6_pass_1 : decode cX6_pass 1 = .ok (.iconst 1, 1) := by decide +kernel
theorem dX6_pass_2 : decode cX6_pass 2 = .ok (.bipush 100, 2) := by decide +kernel
theorem dX6_pass_4 : decode cX6_pass 4 = .ok (.invokestatic 60, 3) := by decide +kernel
theorem dX6_pass_7 : decode cX6_pass 7 = .ok (.istore_n 2, 1) := by decide +kernel
theorem dX6_pass_8 : decode cX6_pass 8 = .ok (.aload_n 0, 1) := by decide +kernel
theorem dX6_pass_9 : decode cX6_pass 9 = .ok (.iload_n 2, 1) := by decide +kernel
theorem dX6_pass_10 : decode cX6_pass 10 = .ok (.iload_n 2, 1) := by decide +kernel
theorem dX6_pass_11 : decode cX6_pass 11 = .ok (.ifCond .eq 19, 3) := by decide +kernel
theorem dX6_pass_14 : decode cX6_pass 14 = .ok (.aload_n 0, 1) := by decide +kernel
theorem dX6_pass_15 : decode cX6_pass 15 = .ok (.getfield 127, 3) := by decide +kernel
theorem dX6_pass_18 : decode cX6_pass 18 = .ok (.iload_n 1, 1) := by decide +kernel
theorem dX6_pass_19 : decode cX6_pass 19 = .ok (.iadd, 1) := by decide +kernel
theorem dX6_pass_20 : decode cX6_pass 20 = .ok (.sipush 5000, 3) := by decide +kernel
theorem dX6_pass_23 : decode cX6_pass 23 = .ok (.if_icmp .gt 7, 3) := by decide +kernel
theorem dX6_pass_26 : decode cX6_pass 26 = .ok (.iconst 1, 1) := by decide +kernel
theorem dX6_pass_27 : decode cX6_pass 27 = .ok (.goto 4, 3) := by decide +kernel
theorem dX6_pass_30 : decode cX6_pass 30 = .ok (.iconst 0, 1) := by decide +kernel
theorem dX6_pass_31 : decode cX6_pass 31 = .ok (.iconst 1, 1) := by decide +kernel
theorem dX6_pass_32 : decode cX6_pass 32 = .ok (.invokevirtual 74, 3) := by decide +kernel
theorem dX6_pass_35 : decode cX6_pass 35 = .ok (.ifCond .ne 5, 3) := by decide +kernel
theorem dX6_pass_38 : decode cX6_pass 38 = .ok (.iconst 0, 1) := by decide +kernel
theorem dX6_pass_39 : decode cX6_pass 39 = .ok (.ireturn, 1) := by decide +kernel
theorem dX6_pass_40 : decode cX6_pass 40 = .ok (.aload_n 0, 1) := by decide +kernel
theorem dX6_pass_41 : decode cX6_pass 41 = .ok (.dup, 1) := by decide +kernel
theorem dX6_pass_42 : decode cX6_pass 42 = .ok (.getfield 127, 3) := by decide +kernel
theorem dX6_pass_45 : decode cX6_pass 45 = .ok (.iload_n 1, 1) := by decide +kernel
theorem dX6_pass_46 : decode cX6_pass 46 = .ok (.iadd, 1) := by decide +kernel
theorem dX6_pass_47 : decode cX6_pass 47 = .ok (.putfield 127, 3) := by decide +kernel
theorem dX6_pass_50 : decode cX6_pass 50 = .ok (.aload_n 0, 1) := by decide +kernel
theorem dX6_pass_51 : decode cX6_pass 51 = .ok (.getfield 127, 3) := by decide +kernel
theorem dX6_pass_54 : decode cX6_pass 54 = .ok (.ireturn, 1) := by decide +kernel
set_option maxRecDepth 20000 in
theorem ggX6_today_X6_told : GoodIn wsX6_today wsX6_told := goodIn_r _ [6, 7, 8, 9, 10, 11, 12, 13, 14, 15, 16, 17, 18, 19, 20, 21, 22, 23, 24, 25, 26] (by decide +kernel) (by decide +kernel)
set_option maxRecDepth 20000 in
theorem gX6_today_X6_told : GoodIn wsX6_today (wsV RX6 85 RX6 yX6_told wsX6_told) := goodIn_app (goodIn_of _ (by decide +kernel)) ggX6_today_X6_told
theorem dX6_today_0 : decode cX6_today 0 = .ok (.aload_n 0, 1) := by decide +kernel
theorem dX6_today_1 : decode cX6_today 1 = .ok (.aload_n 0, 1) := by decide +kernel
theorem dX6_today_2 : decode cX6_today 2 = .ok (.getfield 127, 3) := by decide +kernel
theorem dX6_today_5 : decode cX6_today 5 = .ok (.invokevirtual 85, 3) := by decide +kernel
theorem dX6_today_8 : decode cX6_today 8 = .ok (.ireturn, 1) := by decide +kernel
theorem dJ9_abs_0f7a4_0 : decode cJ9_abs_0f7a4 0 = .ok (.iload_n 0, 1) := by decide +kernel
theorem dJ9_abs_0f7a4_1 : decode cJ9_abs_0f7a4 1 = .ok (.ifCond .ge 8, 3) := by decide +kernel
theorem dJ9_abs_0f7a4_4 : decode cJ9_abs_0f7a4 4 = .ok (.iload_n 0, 1) := by decide +kernel
theorem dJ9_abs_0f7a4_5 : decode cJ9_abs_0f7a4 5 = .ok (.ineg, 1) := by decide +kernel
theorem dJ9_abs_0f7a4_6 : decode cJ9_abs_0f7a4 6 = .ok (.goto 4, 3) := by decide +kernel
theorem dJ9_abs_0f7a4_9 : decode cJ9_abs_0f7a4 9 = .ok (.iload_n 0, 1) := by decide +kernel
theorem dJ9_abs_0f7a4_10 : decode cJ9_abs_0f7a4 10 = .ok (.ireturn, 1) := by decide +kernel
set_option maxRecDepth 20000 in
theorem ggL_begin_X5_begin : GoodIn wsL_begin wsX5_begin := goodIn_ca (goodIn_r _ [6, 7, 8, 9, 10, 11, 12, 13, 14, 15, 16, 17, 18, 19] (by decide +kernel) (by decide +kernel)) (goodIn_sub (fun _ h => List.mem_cons_of_mem _ (List.mem_append_right _ h)) (by decide +kernel))
set_option maxRecDepth 20000 in
theorem gL_begin_X5_begin : GoodIn wsL_begin (wsV RL 7 RX5 yX5_begin wsX5_begin) := goodIn_app (goodIn_of _ (by decide +kernel)) ggL_begin_X5_begin
theorem dL_begin_0 : decode cL_begin 0 = .ok (.aload_n 1, 1) := by decide +kernel
theorem dL_begin_1 : decode cL_begin 1 = .ok (.iconst 0, 1) := by decide +kernel
theorem dL_begin_2 : decode cL_begin 2 = .ok (.aload_n 0, 1) := by decide +kernel
theorem dL_begin_3 : decode cL_begin 3 = .ok (.invokevirtual 7, 3) := by decide +kernel
theorem dL_begin_6 : decode cL_begin 6 = .ok (.i2l, 1) := by decide +kernel
theorem dL_begin_7 : decode cL_begin 7 = .ok (.lastore, 1) := by decide +kernel
theorem dL_begin_8 : decode cL_begin 8 = .ok (.goto 6, 3) := by decide +kernel
theorem dL_begin_11 : decode cL_begin 11 = .ok (.astore_n 2, 1) := by decide +kernel
theorem dL_begin_12 : decode cL_begin 12 = .ok (.iconst 1, 1) := by decide +kernel
theorem dL_begin_13 : decode cL_begin 13 = .ok (.ireturn, 1) := by decide +kernel
theorem dL_begin_14 : decode cL_begin 14 = .ok (.iconst 0, 1) := by decide +kernel
theorem dL_begin_15 : decode cL_begin 15 = .ok (.ireturn, 1) := by decide +kernel
set_option maxRecDepth 20000 in
theorem ggL_addNote_X5_addNote : GoodIn wsL_addNote wsX5_addNote := goodIn_ca (goodIn_ca (goodIn_ca (goodIn_r _ [8, 9, 10, 11, 12, 13, 14, 15, 7, 16, 17, 18, 19, 20, 21, 22, 23, 24, 25, 26, 27, 28, 29, 30, 31, 32, 33, 34, 35, 36, 37, 38, 39, 40, 41, 42, 43, 44, 45, 46, 47, 48] (by decide +kernel) (by decide +kernel)) (goodIn_sub (fun _ h => List.mem_cons_of_mem _ (List.mem_append_left _ (List.mem_append_left _ (List.mem_append_right _ h)))) (by decide +kernel))) (goodIn_sub (fun _ h => List.mem_cons_of_mem _ (List.mem_append_left _ (List.mem_append_right _ h))) (by decide +kernel))) (goodIn_sub (fun _ h => List.mem_cons_of_mem _ (List.mem_append_right _ h)) (by decide +kernel))
set_option maxRecDepth 20000 in
theorem gL_addNote_X5_addNote : GoodIn wsL_addNote (wsV RL 15 RX5 yX5_addNote wsX5_addNote) := goodIn_app (goodIn_of _ (by decide +kernel)) ggL_addNote_X5_addNote
theorem dL_addNote_0 : decode cL_addNote 0 = .ok (.aload_n 3, 1) := by decide +kernel
theorem dL_addNote_1 : decode cL_addNote 1 = .ok (.iconst 0, 1) := by decide +kernel
theorem dL_addNote_2 : decode cL_addNote 2 = .ok (.aload_n 0, 1) := by decide +kernel
theorem dL_addNote_3 : decode cL_addNote 3 = .ok (.iload_n 1, 1) := by decide +kernel
theorem dL_addNote_4 : decode cL_addNote 4 = .ok (.iload_n 2, 1) := by decide +kernel
theorem dL_addNote_5 : decode cL_addNote 5 = .ok (.invokevirtual 15, 3) := by decide +kernel
theorem dL_addNote_8 : decode cL_addNote 8 = .ok (.i2l, 1) := by decide +kernel
theorem dL_addNote_9 : decode cL_addNote 9 = .ok (.lastore, 1) := by decide +kernel
theorem dL_addNote_10 : decode cL_addNote 10 = .ok (.goto 15, 3) := by decide +kernel
theorem dL_addNote_13 : decode cL_addNote 13 = .ok (.astore 4, 2) := by decide +kernel
theorem dL_addNote_15 : decode cL_addNote 15 = .ok (.iconst 1, 1) := by decide +kernel
theorem dL_addNote_16 : decode cL_addNote 16 = .ok (.ireturn, 1) := by decide +kernel
theorem dL_addNote_17 : decode cL_addNote 17 = .ok (.astore 4, 2) := by decide +kernel
theorem dL_addNote_19 : decode cL_addNote 19 = .ok (.iconst 2, 1) := by decide +kernel
theorem dL_addNote_20 : decode cL_addNote 20 = .ok (.ireturn, 1) := by decide +kernel
theorem dL_addNote_21 : decode cL_addNote 21 = .ok (.astore 4, 2) := by decide +kernel
theorem dL_addNote_23 : decode cL_addNote 23 = .ok (.iconst 3, 1) := by decide +kernel
theorem dL_addNote_24 : decode cL_addNote 24 = .ok (.ireturn, 1) := by decide +kernel
theorem dL_addNote_25 : decode cL_addNote 25 = .ok (.iconst 0, 1) := by decide +kernel
theorem dL_addNote_26 : decode cL_addNote 26 = .ok (.ireturn, 1) := by decide +kernel
set_option maxRecDepth 20000 in
theorem ggL_transpose_X5_transpose : GoodIn wsL_transpose wsX5_transpose := goodIn_ca (goodIn_ca (goodIn_ca (goodIn_r _ [8, 9, 10, 11, 12, 13, 14, 7, 15, 16, 17, 18, 19, 20, 21, 22, 23, 24, 25, 26, 27, 28, 29, 30, 31, 32, 33, 34, 35, 36, 37, 38, 39, 40, 41, 42, 43, 44, 45, 46] (by decide +kernel) (by decide +kernel)) (goodIn_sub (fun _ h => List.mem_cons_of_mem _ (List.mem_append_left _ (List.mem_append_left _ (List.mem_append_right _ h)))) (by decide +kernel))) (goodIn_sub (fun _ h => List.mem_cons_of_mem _ (List.mem_append_left _ (List.mem_append_right _ h))) (by decide +kernel))) (goodIn_sub (fun _ h => List.mem_cons_of_mem _ (List.mem_append_right _ h)) (by decide +kernel))
set_option maxRecDepth 20000 in
theorem gL_transpose_X5_transpose : GoodIn wsL_transpose (wsV RL 23 RX5 yX5_transpose wsX5_transpose) := goodIn_app (goodIn_of _ (by decide +kernel)) ggL_transpose_X5_transpose
theorem dL_transpose_0 : decode cL_transpose 0 = .ok (.aload_n 0, 1) := by decide +kernel
theorem dL_transpose_1 : decode cL_transpose 1 = .ok (.iload_n 1, 1) := by decide +kernel
theorem dL_transpose_2 : decode cL_transpose 2 = .ok (.iload_n 2, 1) := by decide +kernel
theorem dL_transpose_3 : decode cL_transpose 3 = .ok (.invokevirtual 23, 3) := by decide +kernel
theorem dL_transpose_6 : decode cL_transpose 6 = .ok (.goto 12, 3) := by decide +kernel
theorem dL_transpose_9 : decode cL_transpose 9 = .ok (.astore_n 3, 1) := by decide +kernel
theorem dL_transpose_10 : decode cL_transpose 10 = .ok (.iconst 1, 1) := by decide +kernel
theorem dL_transpose_11 : decode cL_transpose 11 = .ok (.ireturn, 1) := by decide +kernel
theorem dL_transpose_12 : decode cL_transpose 12 = .ok (.astore_n 3, 1) := by decide +kernel
theorem dL_transpose_13 : decode cL_transpose 13 = .ok (.iconst 2, 1) := by decide +kernel
theorem dL_transpose_14 : decode cL_transpose 14 = .ok (.ireturn, 1) := by decide +kernel
theorem dL_transpose_15 : decode cL_transpose 15 = .ok (.astore_n 3, 1) := by decide +kernel
theorem dL_transpose_16 : decode cL_transpose 16 = .ok (.iconst 3, 1) := by decide +kernel
theorem dL_transpose_17 : decode cL_transpose 17 = .ok (.ireturn, 1) := by decide +kernel
theorem dL_transpose_18 : decode cL_transpose 18 = .ok (.iconst 0, 1) := by decide +kernel
theorem dL_transpose_19 : decode cL_transpose 19 = .ok (.ireturn, 1) := by decide +kernel
set_option maxRecDepth 20000 in
theorem ggL_pitch_X5_pitch : GoodIn wsL_pitch wsX5_pitch := goodIn_ca (goodIn_r _ [6, 7, 8, 9, 10, 11, 5, 12, 13, 14, 15, 16, 17, 18, 19, 20, 21, 22, 23, 24, 25, 26, 27, 28, 29, 30, 31, 32] (by decide +kernel) (by decide +kernel)) (goodIn_sub (fun _ h => List.mem_cons_of_mem _ (List.mem_append_right _ h)) (by decide +kernel))
set_option maxRecDepth 20000 in
theorem gL_pitch_X5_pitch : GoodIn wsL_pitch (wsV RL 27 RX5 yX5_pitch wsX5_pitch) := goodIn_app (goodIn_of _ (by decide +kernel)) ggL_pitch_X5_pitch
theorem dL_pitch_0 : decode cL_pitch 0 = .ok (.aload_n 3, 1) := by decide +kernel
theorem dL_pitch_1 : decode cL_pitch 1 = .ok (.iconst 0, 1) := by decide +kernel
theorem dL_pitch_2 : decode cL_pitch 2 = .ok (.aload_n 0, 1) := by decide +kernel
theorem dL_pitch_3 : decode cL_pitch 3 = .ok (.iload_n 1, 1) := by decide +kernel
theorem dL_pitch_4 : decode cL_pitch 4 = .ok (.iload_n 2, 1) := by decide +kernel
theorem dL_pitch_5 : decode cL_pitch 5 = .ok (.invokevirtual 27, 3) := by decide +kernel
theorem dL_pitch_8 : decode cL_pitch 8 = .ok (.i2l, 1) := by decide +kernel
theorem dL_pitch_9 : decode cL_pitch 9 = .ok (.lastore, 1) := by decide +kernel
theorem dL_pitch_10 : decode cL_pitch 10 = .ok (.goto 7, 3) := by decide +kernel
theorem dL_pitch_13 : decode cL_pitch 13 = .ok (.astore 4, 2) := by decide +kernel
theorem dL_pitch_15 : decode cL_pitch 15 = .ok (.iconst 1, 1) := by decide +kernel
theorem dL_pitch_16 : decode cL_pitch 16 = .ok (.ireturn, 1) := by decide +kernel
theorem dL_pitch_17 : decode cL_pitch 17 = .ok (.iconst 0, 1) := by decide +kernel
theorem dL_pitch_18 : decode cL_pitch 18 = .ok (.ireturn, 1) := by decide +kernel
set_option maxRecDepth 20000 in
theorem ggL_tune_X5_tune : GoodIn wsL_tune wsX5_tune := goodIn_ca (goodIn_ca (goodIn_r _ [7, 8, 9, 10, 11, 12, 6, 13, 14, 15, 16, 17, 18, 19, 20, 21, 22, 23, 24, 25, 26, 27, 28, 29, 30, 31, 32, 33, 34] (by decide +kernel) (by decide +kernel)) (goodIn_sub (fun _ h => List.mem_cons_of_mem _ (List.mem_append_left _ (List.mem_append_right _ h))) (by decide +kernel))) (goodIn_sub (fun _ h => List.mem_cons_of_mem _ (List.mem_append_right _ h)) (by decide +kernel))
set_option maxRecDepth 20000 in
theorem gL_tune_X5_tune : GoodIn wsL_tune (wsV RL 30 RX5 yX5_tune wsX5_tune) := goodIn_app (goodIn_of _ (by decide +kernel)) ggL_tune_X5_tune
theorem dL_tune_0 : decode cL_tune 0 = .ok (.aload 4, 2) := by decide +kernel
theorem dL_tune_2 : decode cL_tune 2 = .ok (.iconst 0, 1) := by decide +kernel
theorem dL_tune_3 : decode cL_tune 3 = .ok (.aload_n 0, 1) := by decide +kernel
theorem dL_tune_4 : decode cL_tune 4 = .ok (.iload_n 1, 1) := by decide +kernel
theorem dL_tune_5 : decode cL_tune 5 = .ok (.iload_n 2, 1) := by decide +kernel
theorem dL_tune_6 : decode cL_tune 6 = .ok (.iload_n 3, 1) := by decide +kernel
theorem dL_tune_7 : decode cL_tune 7 = .ok (.invokevirtual 30, 3) := by decide +kernel
theorem dL_tune_10 : decode cL_tune 10 = .ok (.i2l, 1) := by decide +kernel
theorem dL_tune_11 : decode cL_tune 11 = .ok (.lastore, 1) := by decide +kernel
theorem dL_tune_12 : decode cL_tune 12 = .ok (.goto 11, 3) := by decide +kernel
theorem dL_tune_15 : decode cL_tune 15 = .ok (.astore 5, 2) := by decide +kernel
theorem dL_tune_17 : decode cL_tune 17 = .ok (.iconst 1, 1) := by decide +kernel
theorem dL_tune_18 : decode cL_tune 18 = .ok (.ireturn, 1) := by decide +kernel
theorem dL_tune_19 : decode cL_tune 19 = .ok (.astore 5, 2) := by decide +kernel
theorem dL_tune_21 : decode cL_tune 21 = .ok (.iconst 2, 1) := by decide +kernel
theorem dL_tune_22 : decode cL_tune 22 = .ok (.ireturn, 1) := by decide +kernel
theorem dL_tune_23 : decode cL_tune 23 = .ok (.iconst 0, 1) := by decide +kernel
theorem dL_tune_24 : decode cL_tune 24 = .ok (.ireturn, 1) := by decide +kernel
set_option maxRecDepth 20000 in
theorem ggL_owner_X5_owner : GoodIn wsL_owner wsX5_owner := goodIn_ca (goodIn_r _ [6, 7, 8, 9, 10, 11, 5, 12, 13, 14, 15, 16, 17, 18, 19, 20, 21, 22, 23, 24, 25, 26, 27, 28] (by decide +kernel) (by decide +kernel)) (goodIn_sub (fun _ h => List.mem_cons_of_mem _ (List.mem_append_right _ h)) (by decide +kernel))
set_option maxRecDepth 20000 in
theorem gL_owner_X5_owner : GoodIn wsL_owner (wsV RL 34 RX5 yX5_owner wsX5_owner) := goodIn_app (goodIn_of _ (by decide +kernel)) ggL_owner_X5_owner
theorem dL_owner_0 : decode cL_owner 0 = .ok (.aload_n 2, 1) := by decide +kernel
theorem dL_owner_1 : decode cL_owner 1 = .ok (.iconst 0, 1) := by decide +kernel
theorem dL_owner_2 : decode cL_owner 2 = .ok (.aload_n 0, 1) := by decide +kernel
theorem dL_owner_3 : decode cL_owner 3 = .ok (.iload_n 1, 1) := by decide +kernel
theorem dL_owner_4 : decode cL_owner 4 = .ok (.invokevirtual 34, 3) := by decide +kernel
theorem dL_owner_7 : decode cL_owner 7 = .ok (.i2l, 1) := by decide +kernel
theorem dL_owner_8 : decode cL_owner 8 = .ok (.lastore, 1) := by decide +kernel
theorem dL_owner_9 : decode cL_owner 9 = .ok (.goto 6, 3) := by decide +kernel
theorem dL_owner_12 : decode cL_owner 12 = .ok (.astore_n 3, 1) := by decide +kernel
theorem dL_owner_13 : decode cL_owner 13 = .ok (.iconst 1, 1) := by decide +kernel
theorem dL_owner_14 : decode cL_owner 14 = .ok (.ireturn, 1) := by decide +kernel
theorem dL_owner_15 : decode cL_owner 15 = .ok (.iconst 0, 1) := by decide +kernel
theorem dL_owner_16 : decode cL_owner 16 = .ok (.ireturn, 1) := by decide +kernel
set_option maxRecDepth 20000 in
theorem ggL_shifts_X5_shifts : GoodIn wsL_shifts wsX5_shifts := goodIn_ca (goodIn_r _ [6, 7, 8, 9, 10, 11, 5, 12, 13, 14, 15, 16, 17, 18, 19, 20, 21, 22, 23, 24, 25, 26, 27, 28, 29, 30, 31, 32, 33, 34, 35, 36, 37, 38, 39, 40, 41, 42, 43, 44, 45, 46, 47, 48, 49, 50, 51, 52, 53, 54, 55, 56, 57, 58, 59, 60, 61, 62, 63, 64, 65, 66, 67, 68, 69, 70, 71, 72, 73, 74, 75, 76, 77, 78, 79, 80, 81, 82, 83, 84, 85, 86, 87, 88, 89, 90, 91, 92, 93, 94, 95, 96] (by decide +kernel) (by decide +kernel)) (goodIn_sub (fun _ h => List.mem_cons_of_mem _ (List.mem_append_right _ h)) (by decide +kernel))
set_option maxRecDepth 20000 in
theorem gL_shifts_X5_shifts : GoodIn wsL_shifts (wsV RL 38 RX5 yX5_shifts wsX5_shifts) := goodIn_app (goodIn_of _ (by decide +kernel)) ggL_shifts_X5_shifts
theorem dL_shifts_0 : decode cL_shifts 0 = .ok (.aload_n 3, 1) := by decide +kernel
theorem dL_shifts_1 : decode cL_shifts 1 = .ok (.iconst 0, 1) := by decide +kernel
theorem dL_shifts_2 : decode cL_shifts 2 = .ok (.aload_n 0, 1) := by decide +kernel
theorem dL_shifts_3 : decode cL_shifts 3 = .ok (.iload_n 1, 1) := by decide +kernel
theorem dL_shifts_4 : decode cL_shifts 4 = .ok (.iload_n 2, 1) := by decide +kernel
theorem dL_shifts_5 : decode cL_shifts 5 = .ok (.invokevirtual 38, 3) := by decide +kernel
theorem dL_shifts_8 : decode cL_shifts 8 = .ok (.i2l, 1) := by decide +kernel
theorem dL_shifts_9 : decode cL_shifts 9 = .ok (.lastore, 1) := by decide +kernel
theorem dL_shifts_10 : decode cL_shifts 10 = .ok (.goto 7, 3) := by decide +kernel
theorem dL_shifts_13 : decode cL_shifts 13 = .ok (.astore 4, 2) := by decide +kernel
theorem dL_shifts_15 : decode cL_shifts 15 = .ok (.iconst 1, 1) := by decide +kernel
theorem dL_shifts_16 : decode cL_shifts 16 = .ok (.ireturn, 1) := by decide +kernel
theorem dL_shifts_17 : decode cL_shifts 17 = .ok (.iconst 0, 1) := by decide +kernel
theorem dL_shifts_18 : decode cL_shifts 18 = .ok (.ireturn, 1) := by decide +kernel
set_option maxRecDepth 20000 in
theorem ggL_shiftsByAll_X5_shiftsByAll : GoodIn wsL_shiftsByAll wsX5_shiftsByAll := goodIn_ca (goodIn_ca (goodIn_r _ [7, 8, 9, 10, 11, 12, 13, 14, 15, 16, 6, 17, 18, 19, 20, 21, 22, 23, 24, 25, 26, 27, 28, 29, 30, 31, 32, 33, 34, 35, 36, 37, 38, 39, 40, 41, 42, 43, 44, 45, 46, 47, 48, 49, 50, 51, 52, 53, 54, 55, 56, 57, 58, 59, 60, 61, 62, 63, 64, 65, 66, 67, 68, 69, 70, 71, 72, 73, 74, 75, 76, 77, 78, 79, 80, 81, 82] (by decide +kernel) (by decide +kernel)) (goodIn_sub (fun _ h => List.mem_cons_of_mem _ (List.mem_append_left _ (List.mem_append_right _ h))) (by decide +kernel))) (goodIn_sub (fun _ h => List.mem_cons_of_mem _ (List.mem_append_right _ h)) (by decide +kernel))
set_option maxRecDepth 20000 in
theorem gL_shiftsByAll_X5_shiftsByAll : GoodIn wsL_shiftsByAll (wsV RL 41 RX5 yX5_shiftsByAll wsX5_shiftsByAll) := goodIn_app (goodIn_of _ (by decide +kernel)) ggL_shiftsByAll_X5_shiftsByAll
theorem dL_shiftsByAll_0 : decode cL_shiftsByAll 0 = .ok (.aload_n 3, 1) := by decide +kernel
theorem dL_shiftsByAll_1 : decode cL_shiftsByAll 1 = .ok (.iconst 0, 1) := by decide +kernel
theorem dL_shiftsByAll_2 : decode cL_shiftsByAll 2 = .ok (.aload_n 0, 1) := by decide +kernel
theorem dL_shiftsByAll_3 : decode cL_shiftsByAll 3 = .ok (.iload_n 1, 1) := by decide +kernel
theorem dL_shiftsByAll_4 : decode cL_shiftsByAll 4 = .ok (.iload_n 2, 1) := by decide +kernel
theorem dL_shiftsByAll_5 : decode cL_shiftsByAll 5 = .ok (.invokevirtual 41, 3) := by decide +kernel
theorem dL_shiftsByAll_8 : decode cL_shiftsByAll 8 = .ok (.i2l, 1) := by decide +kernel
theorem dL_shiftsByAll_9 : decode cL_shiftsByAll 9 = .ok (.lastore, 1) := by decide +kernel
theorem dL_shiftsByAll_10 : decode cL_shiftsByAll 10 = .ok (.goto 11, 3) := by decide +kernel
theorem dL_shiftsByAll_13 : decode cL_shiftsByAll 13 = .ok (.astore 4, 2) := by decide +kernel
theorem dL_shiftsByAll_15 : decode cL_shiftsByAll 15 = .ok (.iconst 1, 1) := by decide +kernel
theorem dL_shiftsByAll_16 : decode cL_shiftsByAll 16 = .ok (.ireturn, 1) := by decide +kernel
theorem dL_shiftsByAll_17 : decode cL_shiftsByAll 17 = .ok (.astore 4, 2) := by decide +kernel
theorem dL_shiftsByAll_19 : decode cL_shiftsByAll 19 = .ok (.iconst 2, 1) := by decide +kernel
theorem dL_shiftsByAll_20 : decode cL_shiftsByAll 20 = .ok (.ireturn, 1) := by decide +kernel
theorem dL_shiftsByAll_21 : decode cL_shiftsByAll 21 = .ok (.iconst 0, 1) := by decide +kernel
theorem dL_shiftsByAll_22 : decode cL_shiftsByAll 22 = .ok (.ireturn, 1) := by decide +kernel
set_option maxRecDepth 20000 in
theorem ggL_hardest_X5_hardest : GoodIn wsL_hardest wsX5_hardest := goodIn_ca (goodIn_r _ [6, 7, 8, 9, 10, 11, 5, 12, 13, 14, 15, 16, 17, 18, 19, 20, 21, 22, 23, 24, 25, 26, 27, 28, 29, 30, 31, 32, 33, 34, 35, 36, 37, 38, 39, 40, 41, 42, 43, 44, 45, 46, 47, 48, 49, 50, 51, 52, 53, 54, 55, 56, 57, 58, 59, 60, 61, 62, 63, 64, 65, 66, 67, 68, 69, 70, 71, 72, 73, 74, 75, 76, 77, 78, 79, 80, 81, 82, 83, 84, 85, 86, 87, 88, 89, 90, 91, 92, 93, 94, 95, 96] (by decide +kernel) (by decide +kernel)) (goodIn_sub (fun _ h => List.mem_cons_of_mem _ (List.mem_append_right _ h)) (by decide +kernel))
set_option maxRecDepth 20000 in
theorem gL_hardest_X5_hardest : GoodIn wsL_hardest (wsV RL 44 RX5 yX5_hardest wsX5_hardest) := goodIn_app (goodIn_of _ (by decide +kernel)) ggL_hardest_X5_hardest
theorem dL_hardest_0 : decode cL_hardest 0 = .ok (.aload_n 3, 1) := by decide +kernel
theorem dL_hardest_1 : decode cL_hardest 1 = .ok (.iconst 0, 1) := by decide +kernel
theorem dL_hardest_2 : decode cL_hardest 2 = .ok (.aload_n 0, 1) := by decide +kernel
theorem dL_hardest_3 : decode cL_hardest 3 = .ok (.iload_n 1, 1) := by decide +kernel
theorem dL_hardest_4 : decode cL_hardest 4 = .ok (.iload_n 2, 1) := by decide +kernel
theorem dL_hardest_5 : decode cL_hardest 5 = .ok (.invokevirtual 44, 3) := by decide +kernel
theorem dL_hardest_8 : decode cL_hardest 8 = .ok (.i2l, 1) := by decide +kernel
theorem dL_hardest_9 : decode cL_hardest 9 = .ok (.lastore, 1) := by decide +kernel
theorem dL_hardest_10 : decode cL_hardest 10 = .ok (.goto 7, 3) := by decide +kernel
theorem dL_hardest_13 : decode cL_hardest 13 = .ok (.astore 4, 2) := by decide +kernel
theorem dL_hardest_15 : decode cL_hardest 15 = .ok (.iconst 1, 1) := by decide +kernel
theorem dL_hardest_16 : decode cL_hardest 16 = .ok (.ireturn, 1) := by decide +kernel
theorem dL_hardest_17 : decode cL_hardest 17 = .ok (.iconst 0, 1) := by decide +kernel
theorem dL_hardest_18 : decode cL_hardest 18 = .ok (.ireturn, 1) := by decide +kernel
set_option maxRecDepth 20000 in
theorem ggL_position_X5_position : GoodIn wsL_position wsX5_position := goodIn_ca (goodIn_r _ [6, 7, 8, 9, 10, 11, 5, 12, 13, 14, 15, 16, 17, 18, 19, 20, 21, 22, 23, 24, 25, 26, 27, 28, 29, 30, 31, 32, 33, 34, 35, 36, 37, 38, 39, 40, 41, 42, 43, 44, 45, 46, 47, 48, 49, 50, 51, 52, 53, 54, 55, 56, 57, 58, 59, 60, 61, 62, 63, 64, 65, 66, 67, 68, 69, 70, 71, 72, 73, 74, 75, 76, 77, 78, 79, 80, 81, 82, 83, 84, 85, 86, 87, 88, 89, 90, 91, 92, 93, 94, 95, 96, 97, 98, 99, 100, 101] (by decide +kernel) (by decide +kernel)) (goodIn_sub (fun _ h => List.mem_cons_of_mem _ (List.mem_append_right _ h)) (by decide +kernel))
set_option maxRecDepth 20000 in
theorem gL_position_X5_position : GoodIn wsL_position (wsV RL 47 RX5 yX5_position wsX5_position) := goodIn_app (goodIn_of _ (by decide +kernel)) ggL_position_X5_position
theorem dL_position_0 : decode cL_position 0 = .ok (.aload 4, 2) := by decide +kernel
theorem dL_position_2 : decode cL_position 2 = .ok (.iconst 0, 1) := by decide +kernel
theorem dL_position_3 : decode cL_position 3 = .ok (.aload_n 0, 1) := by decide +kernel
theorem dL_position_4 : decode cL_position 4 = .ok (.iload_n 1, 1) := by decide +kernel
theorem dL_position_5 : decode cL_position 5 = .ok (.iload_n 2, 1) := by decide +kernel
theorem dL_position_6 : decode cL_position 6 = .ok (.iload_n 3, 1) := by decide +kernel
theorem dL_position_7 : decode cL_position 7 = .ok (.invokevirtual 47, 3) := by decide +kernel
theorem dL_position_10 : decode cL_position 10 = .ok (.i2l, 1) := by decide +kernel
theorem dL_position_11 : decode cL_position 11 = .ok (.lastore, 1) := by decide +kernel
theorem dL_position_12 : decode cL_position 12 = .ok (.goto 7, 3) := by decide +kernel
theorem dL_position_15 : decode cL_position 15 = .ok (.astore 5, 2) := by decide +kernel
theorem dL_position_17 : decode cL_position 17 = .ok (.iconst 1, 1) := by decide +kernel
theorem dL_position_18 : decode cL_position 18 = .ok (.ireturn, 1) := by decide +kernel
theorem dL_position_19 : decode cL_position 19 = .ok (.iconst 0, 1) := by decide +kernel
theorem dL_position_20 : decode cL_position 20 = .ok (.ireturn, 1) := by decide +kernel
set_option maxRecDepth 20000 in
theorem ggL_string_X5_string : GoodIn wsL_string wsX5_string := goodIn_ca (goodIn_r _ [6, 7, 8, 9, 10, 11, 12, 13, 14, 5, 15, 16, 17, 18, 19, 20, 21, 22, 23, 24, 25, 26, 27, 28, 29, 30, 31, 32, 33, 34, 35, 36, 37, 38, 39, 40, 41, 42, 43, 44, 45, 46, 47, 48, 49, 50, 51, 52, 53, 54, 55, 56, 57, 58, 59, 60, 61, 62, 63, 64, 65, 66, 67, 68, 69, 70, 71, 72, 73, 74, 75, 76, 77, 78, 79, 80, 81, 82, 83, 84, 85, 86, 87, 88, 89, 90, 91, 92, 93, 94, 95, 96, 97, 98, 99, 100, 101, 102, 103] (by decide +kernel) (by decide +kernel)) (goodIn_sub (fun _ h => List.mem_cons_of_mem _ (List.mem_append_right _ h)) (by decide +kernel))
set_option maxRecDepth 20000 in
theorem gL_string_X5_string : GoodIn wsL_string (wsV RL 50 RX5 yX5_string wsX5_string) := goodIn_app (goodIn_of _ (by decide +kernel)) ggL_string_X5_string
theorem dL_string_0 : decode cL_string 0 = .ok (.aload 4, 2) := by decide +kernel
theorem dL_string_2 : decode cL_string 2 = .ok (.iconst 0, 1) := by decide +kernel
theorem dL_string_3 : decode cL_string 3 = .ok (.aload_n 0, 1) := by decide +kernel
theorem dL_string_4 : decode cL_string 4 = .ok (.iload_n 1, 1) := by decide +kernel
theorem dL_string_5 : decode cL_string 5 = .ok (.iload_n 2, 1) := by decide +kernel
theorem dL_string_6 : decode cL_string 6 = .ok (.iload_n 3, 1) := by decide +kernel
theorem dL_string_7 : decode cL_string 7 = .ok (.invokevirtual 50, 3) := by decide +kernel
theorem dL_string_10 : decode cL_string 10 = .ok (.i2l, 1) := by decide +kernel
theorem dL_string_11 : decode cL_string 11 = .ok (.lastore, 1) := by decide +kernel
theorem dL_string_12 : decode cL_string 12 = .ok (.goto 7, 3) := by decide +kernel
theorem dL_string_15 : decode cL_string 15 = .ok (.astore 5, 2) := by decide +kernel
theorem dL_string_17 : decode cL_string 17 = .ok (.iconst 1, 1) := by decide +kernel
theorem dL_string_18 : decode cL_string 18 = .ok (.ireturn, 1) := by decide +kernel
theorem dL_string_19 : decode cL_string 19 = .ok (.iconst 0, 1) := by decide +kernel
theorem dL_string_20 : decode cL_string 20 = .ok (.ireturn, 1) := by decide +kernel
set_option maxRecDepth 20000 in
theorem ggL_learn_X5_learn : GoodIn wsL_learn wsX5_learn := goodIn_ca (goodIn_ca (goodIn_ca (goodIn_r _ [8, 9, 10, 11, 12, 13, 14, 15, 7, 16, 17, 18, 19, 20, 21, 22, 23, 24, 25, 26, 27, 28, 29, 30, 31, 32, 33, 34, 35, 36, 37, 38, 39, 40, 41, 42, 43, 44, 45, 46, 47, 48, 49, 50, 51, 52, 53, 54, 55, 56, 57, 58, 59, 60, 61, 62, 63, 64, 65, 66, 67, 68, 69, 70, 71, 72, 73, 74, 75, 76, 77, 78, 79, 80, 81, 82, 83, 84, 85, 86, 87, 88, 89, 90, 91, 92, 93, 94, 95, 96, 97, 98, 99, 100, 101, 102, 103, 104, 105, 106, 107, 108, 109, 110, 111, 112, 113, 114, 115, 116, 117, 118, 119, 120, 121, 122, 123, 124, 125, 126, 127, 128] (by decide +kernel) (by decide +kernel)) (goodIn_sub (fun _ h => List.mem_cons_of_mem _ (List.mem_append_left _ (List.mem_append_left _ (List.mem_append_right _ h)))) (by decide +kernel))) (goodIn_sub (fun _ h => List.mem_cons_of_mem _ (List.mem_append_left _ (List.mem_append_right _ h))) (by decide +kernel))) (goodIn_sub (fun _ h => List.mem_cons_of_mem _ (List.mem_append_right _ h)) (by decide +kernel))
set_option maxRecDepth 20000 in
theorem gL_learn_X5_learn : GoodIn wsL_learn (wsV RL 53 RX5 yX5_learn wsX5_learn) := goodIn_app (goodIn_of _ (by decide +kernel)) ggL_learn_X5_learn
theorem dL_learn_0 : decode cL_learn 0 = .ok (.aload 4, 2) := by decide +kernel
theorem dL_learn_2 : decode cL_learn 2 = .ok (.iconst 0, 1) := by decide +kernel
theorem dL_learn_3 : decode cL_learn 3 = .ok (.aload_n 0, 1) := by decide +kernel
theorem dL_learn_4 : decode cL_learn 4 = .ok (.iload_n 1, 1) := by decide +kernel
theorem dL_learn_5 : decode cL_learn 5 = .ok (.iload_n 2, 1) := by decide +kernel
theorem dL_learn_6 : decode cL_learn 6 = .ok (.iload_n 3, 1) := by decide +kernel
theorem dL_learn_7 : decode cL_learn 7 = .ok (.invokevirtual 53, 3) := by decide +kernel
theorem dL_learn_10 : decode cL_learn 10 = .ok (.i2l, 1) := by decide +kernel
theorem dL_learn_11 : decode cL_learn 11 = .ok (.lastore, 1) := by decide +kernel
theorem dL_learn_12 : decode cL_learn 12 = .ok (.goto 15, 3) := by decide +kernel
theorem dL_learn_15 : decode cL_learn 15 = .ok (.astore 5, 2) := by decide +kernel
theorem dL_learn_17 : decode cL_learn 17 = .ok (.iconst 1, 1) := by decide +kernel
theorem dL_learn_18 : decode cL_learn 18 = .ok (.ireturn, 1) := by decide +kernel
theorem dL_learn_19 : decode cL_learn 19 = .ok (.astore 5, 2) := by decide +kernel
theorem dL_learn_21 : decode cL_learn 21 = .ok (.iconst 2, 1) := by decide +kernel
theorem dL_learn_22 : decode cL_learn 22 = .ok (.ireturn, 1) := by decide +kernel
theorem dL_learn_23 : decode cL_learn 23 = .ok (.astore 5, 2) := by decide +kernel
theorem dL_learn_25 : decode cL_learn 25 = .ok (.iconst 3, 1) := by decide +kernel
theorem dL_learn_26 : decode cL_learn 26 = .ok (.ireturn, 1) := by decide +kernel
theorem dL_learn_27 : decode cL_learn 27 = .ok (.iconst 0, 1) := by decide +kernel
theorem dL_learn_28 : decode cL_learn 28 = .ok (.ireturn, 1) := by decide +kernel
set_option maxRecDepth 20000 in
theorem ggL_level_X5_level : GoodIn wsL_level wsX5_level := goodIn_ca (goodIn_r _ [6, 7, 8, 9, 10, 5, 11, 12, 13, 14, 15, 16, 17, 18, 19, 20, 21, 22, 23, 24, 25, 26, 27, 28] (by decide +kernel) (by decide +kernel)) (goodIn_sub (fun _ h => List.mem_cons_of_mem _ (List.mem_append_right _ h)) (by decide +kernel))
set_option maxRecDepth 20000 in
theorem gL_level_X5_level : GoodIn wsL_level (wsV RL 56 RX5 yX5_level wsX5_level) := goodIn_app (goodIn_of _ (by decide +kernel)) ggL_level_X5_level
theorem dL_level_0 : decode cL_level 0 = .ok (.aload_n 2, 1) := by decide +kernel
theorem dL_level_1 : decode cL_level 1 = .ok (.iconst 0, 1) := by decide +kernel
theorem dL_level_2 : decode cL_level 2 = .ok (.aload_n 0, 1) := by decide +kernel
theorem dL_level_3 : decode cL_level 3 = .ok (.iload_n 1, 1) := by decide +kernel
theorem dL_level_4 : decode cL_level 4 = .ok (.invokevirtual 56, 3) := by decide +kernel
theorem dL_level_7 : decode cL_level 7 = .ok (.i2l, 1) := by decide +kernel
theorem dL_level_8 : decode cL_level 8 = .ok (.lastore, 1) := by decide +kernel
theorem dL_level_9 : decode cL_level 9 = .ok (.goto 6, 3) := by decide +kernel
theorem dL_level_12 : decode cL_level 12 = .ok (.astore_n 3, 1) := by decide +kernel
theorem dL_level_13 : decode cL_level 13 = .ok (.iconst 1, 1) := by decide +kernel
theorem dL_level_14 : decode cL_level 14 = .ok (.ireturn, 1) := by decide +kernel
theorem dL_level_15 : decode cL_level 15 = .ok (.iconst 0, 1) := by decide +kernel
theorem dL_level_16 : decode cL_level 16 = .ok (.ireturn, 1) := by decide +kernel
set_option maxRecDepth 20000 in
theorem ggL_known_X5_known : GoodIn wsL_known wsX5_known := goodIn_ca (goodIn_r _ [6, 7, 8, 9, 10, 5, 11, 12, 13, 14, 15, 16, 17, 18, 19, 20, 21, 22, 23, 24, 25, 26, 27, 28] (by decide +kernel) (by decide +kernel)) (goodIn_sub (fun _ h => List.mem_cons_of_mem _ (List.mem_append_right _ h)) (by decide +kernel))
set_option maxRecDepth 20000 in
theorem gL_known_X5_known : GoodIn wsL_known (wsV RL 59 RX5 yX5_known wsX5_known) := goodIn_app (goodIn_of _ (by decide +kernel)) ggL_known_X5_known
theorem dL_known_0 : decode cL_known 0 = .ok (.aload_n 2, 1) := by decide +kernel
theorem dL_known_1 : decode cL_known 1 = .ok (.iconst 0, 1) := by decide +kernel
theorem dL_known_2 : decode cL_known 2 = .ok (.aload_n 0, 1) := by decide +kernel
theorem dL_known_3 : decode cL_known 3 = .ok (.iload_n 1, 1) := by decide +kernel
theorem dL_known_4 : decode cL_known 4 = .ok (.invokevirtual 59, 3) := by decide +kernel
theorem dL_known_7 : decode cL_known 7 = .ok (.i2l, 1) := by decide +kernel
theorem dL_known_8 : decode cL_known 8 = .ok (.lastore, 1) := by decide +kernel
theorem dL_known_9 : decode cL_known 9 = .ok (.goto 6, 3) := by decide +kernel
theorem dL_known_12 : decode cL_known 12 = .ok (.astore_n 3, 1) := by decide +kernel
theorem dL_known_13 : decode cL_known 13 = .ok (.iconst 1, 1) := by decide +kernel
theorem dL_known_14 : decode cL_known 14 = .ok (.ireturn, 1) := by decide +kernel
theorem dL_known_15 : decode cL_known 15 = .ok (.iconst 0, 1) := by decide +kernel
theorem dL_known_16 : decode cL_known 16 = .ok (.ireturn, 1) := by decide +kernel
set_option maxRecDepth 20000 in
theorem ggL_next_X5_next : GoodIn wsL_next wsX5_next := goodIn_ca (goodIn_ca (goodIn_r _ [6, 7, 8, 9, 10, 5, 11, 12, 13, 14, 15, 16, 17, 18, 19, 20, 21, 22, 23, 24, 25, 26, 27, 28, 29, 30, 31, 32, 33, 34, 35, 36, 37, 38, 39, 40, 41, 42, 43, 44, 45, 46, 47, 48, 49, 50, 51, 52, 53, 54, 55, 56, 57, 58, 59, 60, 61, 62, 63, 64, 65, 66, 67, 68, 69, 70, 71, 72, 73, 74, 75, 76, 77, 78, 79, 80, 81, 82, 83, 84, 85, 86, 87, 88, 89, 90, 91, 92, 93, 94, 95, 96, 97, 98, 99, 100, 101, 102, 103, 104, 105, 106, 107, 108, 109, 110, 111, 112, 113, 114, 115, 116, 117, 118, 119, 120, 121, 122, 123] (by decide +kernel) (by decide +kernel)) (goodIn_sub (fun _ h => List.mem_cons_of_mem _ (List.mem_append_left _ (List.mem_append_right _ h))) (by decide +kernel))) (goodIn_sub (fun _ h => List.mem_cons_of_mem _ (List.mem_append_right _ h)) (by decide +kernel))
set_option maxRecDepth 20000 in
theorem gL_next_X5_next : GoodIn wsL_next (wsV RL 62 RX5 yX5_next wsX5_next) := goodIn_app (goodIn_of _ (by decide +kernel)) ggL_next_X5_next
theorem dL_next_0 : decode cL_next 0 = .ok (.aload_n 2, 1) := by decide +kernel
theorem dL_next_1 : decode cL_next 1 = .ok (.iconst 0, 1) := by decide +kernel
theorem dL_next_2 : decode cL_next 2 = .ok (.aload_n 0, 1) := by decide +kernel
theorem dL_next_3 : decode cL_next 3 = .ok (.iload_n 1, 1) := by decide +kernel
theorem dL_next_4 : decode cL_next 4 = .ok (.invokevirtual 62, 3) := by decide +kernel
theorem dL_next_7 : decode cL_next 7 = .ok (.i2l, 1) := by decide +kernel
theorem dL_next_8 : decode cL_next 8 = .ok (.lastore, 1) := by decide +kernel
theorem dL_next_9 : decode cL_next 9 = .ok (.goto 6, 3) := by decide +kernel
theorem dL_next_12 : decode cL_next 12 = .ok (.astore_n 3, 1) := by decide +kernel
theorem dL_next_13 : decode cL_next 13 = .ok (.iconst 1, 1) := by decide +kernel
theorem dL_next_14 : decode cL_next 14 = .ok (.ireturn, 1) := by decide +kernel
theorem dL_next_15 : decode cL_next 15 = .ok (.iconst 0, 1) := by decide +kernel
theorem dL_next_16 : decode cL_next 16 = .ok (.ireturn, 1) := by decide +kernel
set_option maxRecDepth 20000 in
theorem ggL_addWood_X5_addWood : GoodIn wsL_addWood wsX5_addWood := goodIn_ca (goodIn_r _ [6, 7, 8, 9, 5, 10, 11, 12, 13, 14, 15, 16, 17, 18, 19, 20, 21, 22] (by decide +kernel) (by decide +kernel)) (goodIn_sub (fun _ h => List.mem_cons_of_mem _ (List.mem_append_right _ h)) (by decide +kernel))
set_option maxRecDepth 20000 in
theorem gL_addWood_X5_addWood : GoodIn wsL_addWood (wsV RL 65 RX5 yX5_addWood wsX5_addWood) := goodIn_app (goodIn_of _ (by decide +kernel)) ggL_addWood_X5_addWood
theorem dL_addWood_0 : decode cL_addWood 0 = .ok (.aload_n 3, 1) := by decide +kernel
theorem dL_addWood_1 : decode cL_addWood 1 = .ok (.iconst 0, 1) := by decide +kernel
theorem dL_addWood_2 : decode cL_addWood 2 = .ok (.aload_n 0, 1) := by decide +kernel
theorem dL_addWood_3 : decode cL_addWood 3 = .ok (.iload_n 1, 1) := by decide +kernel
theorem dL_addWood_4 : decode cL_addWood 4 = .ok (.iload_n 2, 1) := by decide +kernel
theorem dL_addWood_5 : decode cL_addWood 5 = .ok (.invokevirtual 65, 3) := by decide +kernel
theorem dL_addWood_8 : decode cL_addWood 8 = .ok (.i2l, 1) := by decide +kernel
theorem dL_addWood_9 : decode cL_addWood 9 = .ok (.lastore, 1) := by decide +kernel
theorem dL_addWood_10 : decode cL_addWood 10 = .ok (.goto 7, 3) := by decide +kernel
theorem dL_addWood_13 : decode cL_addWood 13 = .ok (.astore 4, 2) := by decide +kernel
theorem dL_addWood_15 : decode cL_addWood 15 = .ok (.iconst 1, 1) := by decide +kernel
theorem dL_addWood_16 : decode cL_addWood 16 = .ok (.ireturn, 1) := by decide +kernel
theorem dL_addWood_17 : decode cL_addWood 17 = .ok (.iconst 0, 1) := by decide +kernel
theorem dL_addWood_18 : decode cL_addWood 18 = .ok (.ireturn, 1) := by decide +kernel
set_option maxRecDepth 20000 in
theorem ggL_order_X5_order : GoodIn wsL_order wsX5_order := goodIn_ca (goodIn_ca (goodIn_r _ [7, 8, 9, 10, 11, 12, 13, 14, 15, 6, 16, 17, 18, 19, 20, 21, 22, 23, 24, 25, 26, 27, 28, 29, 30, 31, 32, 33, 34, 35, 36, 37, 38, 39, 40, 41, 42, 43, 44, 45, 46, 47, 48, 49, 50, 51, 52] (by decide +kernel) (by decide +kernel)) (goodIn_sub (fun _ h => List.mem_cons_of_mem _ (List.mem_append_left _ (List.mem_append_right _ h))) (by decide +kernel))) (goodIn_sub (fun _ h => List.mem_cons_of_mem _ (List.mem_append_right _ h)) (by decide +kernel))
set_option maxRecDepth 20000 in
theorem gL_order_X5_order : GoodIn wsL_order (wsV RL 68 RX5 yX5_order wsX5_order) := goodIn_app (goodIn_of _ (by decide +kernel)) ggL_order_X5_order
theorem dL_order_0 : decode cL_order 0 = .ok (.aload 4, 2) := by decide +kernel
theorem dL_order_2 : decode cL_order 2 = .ok (.iconst 0, 1) := by decide +kernel
theorem dL_order_3 : decode cL_order 3 = .ok (.aload_n 0, 1) := by decide +kernel
theorem dL_order_4 : decode cL_order 4 = .ok (.iload_n 1, 1) := by decide +kernel
theorem dL_order_5 : decode cL_order 5 = .ok (.iload_n 2, 1) := by decide +kernel
theorem dL_order_6 : decode cL_order 6 = .ok (.iload_n 3, 1) := by decide +kernel
theorem dL_order_7 : decode cL_order 7 = .ok (.invokevirtual 68, 3) := by decide +kernel
theorem dL_order_10 : decode cL_order 10 = .ok (.i2l, 1) := by decide +kernel
theorem dL_order_11 : decode cL_order 11 = .ok (.lastore, 1) := by decide +kernel
theorem dL_order_12 : decode cL_order 12 = .ok (.goto 11, 3) := by decide +kernel
theorem dL_order_15 : decode cL_order 15 = .ok (.astore 5, 2) := by decide +kernel
theorem dL_order_17 : decode cL_order 17 = .ok (.iconst 1, 1) := by decide +kernel
theorem dL_order_18 : decode cL_order 18 = .ok (.ireturn, 1) := by decide +kernel
theorem dL_order_19 : decode cL_order 19 = .ok (.astore 5, 2) := by decide +kernel
theorem dL_order_21 : decode cL_order 21 = .ok (.iconst 2, 1) := by decide +kernel
theorem dL_order_22 : decode cL_order 22 = .ok (.ireturn, 1) := by decide +kernel
theorem dL_order_23 : decode cL_order 23 = .ok (.iconst 0, 1) := by decide +kernel
theorem dL_order_24 : decode cL_order 24 = .ok (.ireturn, 1) := by decide +kernel
set_option maxRecDepth 20000 in
theorem ggL_ready_X5_ready : GoodIn wsL_ready wsX5_ready := goodIn_ca (goodIn_r _ [6, 7, 8, 9, 10, 11, 5, 12, 13, 14, 15, 16, 17, 18, 19, 20, 21, 22, 23, 24, 25, 26, 27, 28, 29] (by decide +kernel) (by decide +kernel)) (goodIn_sub (fun _ h => List.mem_cons_of_mem _ (List.mem_append_right _ h)) (by decide +kernel))
set_option maxRecDepth 20000 in
theorem gL_ready_X5_ready : GoodIn wsL_ready (wsV RL 71 RX5 yX5_ready wsX5_ready) := goodIn_app (goodIn_of _ (by decide +kernel)) ggL_ready_X5_ready
theorem dL_ready_0 : decode cL_ready 0 = .ok (.aload_n 2, 1) := by decide +kernel
theorem dL_ready_1 : decode cL_ready 1 = .ok (.iconst 0, 1) := by decide +kernel
theorem dL_ready_2 : decode cL_ready 2 = .ok (.aload_n 0, 1) := by decide +kernel
theorem dL_ready_3 : decode cL_ready 3 = .ok (.iload_n 1, 1) := by decide +kernel
theorem dL_ready_4 : decode cL_ready 4 = .ok (.invokevirtual 71, 3) := by decide +kernel
theorem dL_ready_7 : decode cL_ready 7 = .ok (.i2l, 1) := by decide +kernel
theorem dL_ready_8 : decode cL_ready 8 = .ok (.lastore, 1) := by decide +kernel
theorem dL_ready_9 : decode cL_ready 9 = .ok (.goto 6, 3) := by decide +kernel
theorem dL_ready_12 : decode cL_ready 12 = .ok (.astore_n 3, 1) := by decide +kernel
theorem dL_ready_13 : decode cL_ready 13 = .ok (.iconst 1, 1) := by decide +kernel
theorem dL_ready_14 : decode cL_ready 14 = .ok (.ireturn, 1) := by decide +kernel
theorem dL_ready_15 : decode cL_ready 15 = .ok (.iconst 0, 1) := by decide +kernel
theorem dL_ready_16 : decode cL_ready 16 = .ok (.ireturn, 1) := by decide +kernel
set_option maxRecDepth 20000 in
theorem ggL_fetch_X5_fetch : GoodIn wsL_fetch wsX5_fetch := goodIn_ca (goodIn_ca (goodIn_ca (goodIn_r _ [8, 9, 10, 11, 12, 13, 14, 15, 16, 17, 18, 19, 20, 7, 21, 22, 23, 24, 25, 26, 27, 28, 29, 30, 31, 32, 33, 34, 35, 36, 37, 38, 39, 40, 41, 42, 43, 44, 45, 46, 47, 48, 49, 50, 51, 52, 53, 54, 55, 56, 57, 58, 59, 60, 61, 62, 63, 64] (by decide +kernel) (by decide +kernel)) (goodIn_sub (fun _ h => List.mem_cons_of_mem _ (List.mem_append_left _ (List.mem_append_left _ (List.mem_append_right _ h)))) (by decide +kernel))) (goodIn_sub (fun _ h => List.mem_cons_of_mem _ (List.mem_append_left _ (List.mem_append_right _ h))) (by decide +kernel))) (goodIn_sub (fun _ h => List.mem_cons_of_mem _ (List.mem_append_right _ h)) (by decide +kernel))
set_option maxRecDepth 20000 in
theorem gL_fetch_X5_fetch : GoodIn wsL_fetch (wsV RL 74 RX5 yX5_fetch wsX5_fetch) := goodIn_app (goodIn_of _ (by decide +kernel)) ggL_fetch_X5_fetch
theorem dL_fetch_0 : decode cL_fetch 0 = .ok (.aload 6, 2) := by decide +kernel
theorem dL_fetch_2 : decode cL_fetch 2 = .ok (.iconst 0, 1) := by decide +kernel
theorem dL_fetch_3 : decode cL_fetch 3 = .ok (.aload_n 0, 1) := by decide +kernel
theorem dL_fetch_4 : decode cL_fetch 4 = .ok (.iload_n 1, 1) := by decide +kernel
theorem dL_fetch_5 : decode cL_fetch 5 = .ok (.iload_n 2, 1) := by decide +kernel
theorem dL_fetch_6 : decode cL_fetch 6 = .ok (.iload_n 3, 1) := by decide +kernel
theorem dL_fetch_7 : decode cL_fetch 7 = .ok (.iload 4, 2) := by decide +kernel
theorem dL_fetch_9 : decode cL_fetch 9 = .ok (.iload 5, 2) := by decide +kernel
theorem dL_fetch_11 : decode cL_fetch 11 = .ok (.invokevirtual 74, 3) := by decide +kernel
theorem dL_fetch_14 : decode cL_fetch 14 = .ok (.i2l, 1) := by decide +kernel
theorem dL_fetch_15 : decode cL_fetch 15 = .ok (.lastore, 1) := by decide +kernel
theorem dL_fetch_16 : decode cL_fetch 16 = .ok (.goto 15, 3) := by decide +kernel
theorem dL_fetch_19 : decode cL_fetch 19 = .ok (.astore 7, 2) := by decide +kernel
theorem dL_fetch_21 : decode cL_fetch 21 = .ok (.iconst 1, 1) := by decide +kernel
theorem dL_fetch_22 : decode cL_fetch 22 = .ok (.ireturn, 1) := by decide +kernel
theorem dL_fetch_23 : decode cL_fetch 23 = .ok (.astore 7, 2) := by decide +kernel
theorem dL_fetch_25 : decode cL_fetch 25 = .ok (.iconst 2, 1) := by decide +kernel
theorem dL_fetch_26 : decode cL_fetch 26 = .ok (.ireturn, 1) := by decide +kernel
theorem dL_fetch_27 : decode cL_fetch 27 = .ok (.astore 7, 2) := by decide +kernel
theorem dL_fetch_29 : decode cL_fetch 29 = .ok (.iconst 3, 1) := by decide +kernel
theorem dL_fetch_30 : decode cL_fetch 30 = .ok (.ireturn, 1) := by decide +kernel
theorem dL_fetch_31 : decode cL_fetch 31 = .ok (.iconst 0, 1) := by decide +kernel
theorem dL_fetch_32 : decode cL_fetch 32 = .ok (.ireturn, 1) := by decide +kernel
set_option maxRecDepth 20000 in
theorem ggL_pass_X5_pass : GoodIn wsL_pass wsX5_pass := goodIn_ca (goodIn_ca (goodIn_r _ [7, 8, 9, 10, 11, 12, 6, 13, 14, 15, 16, 17, 18, 19, 20, 21, 22, 23, 24, 25] (by decide +kernel) (by decide +kernel)) (goodIn_sub (fun _ h => List.mem_cons_of_mem _ (List.mem_append_left _ (List.mem_append_right _ h))) (by decide +kernel))) (goodIn_sub (fun _ h => List.mem_cons_of_mem _ (List.mem_append_right _ h)) (by decide +kernel))
set_option maxRecDepth 20000 in
theorem gL_pass_X5_pass : GoodIn wsL_pass (wsV RL 78 RX5 yX5_pass wsX5_pass) := goodIn_app (goodIn_of _ (by decide +kernel)) ggL_pass_X5_pass
theorem dL_pass_0 : decode cL_pass 0 = .ok (.aload_n 2, 1) := by decide +kernel
theorem dL_pass_1 : decode cL_pass 1 = .ok (.iconst 0, 1) := by decide +kernel
theorem dL_pass_2 : decode cL_pass 2 = .ok (.aload_n 0, 1) := by decide +kernel
theorem dL_pass_3 : decode cL_pass 3 = .ok (.iload_n 1, 1) := by decide +kernel
theorem dL_pass_4 : decode cL_pass 4 = .ok (.invokevirtual 78, 3) := by decide +kernel
theorem dL_pass_7 : decode cL_pass 7 = .ok (.i2l, 1) := by decide +kernel
theorem dL_pass_8 : decode cL_pass 8 = .ok (.lastore, 1) := by decide +kernel
theorem dL_pass_9 : decode cL_pass 9 = .ok (.goto 9, 3) := by decide +kernel
theorem dL_pass_12 : decode cL_pass 12 = .ok (.astore_n 3, 1) := by decide +kernel
theorem dL_pass_13 : decode cL_pass 13 = .ok (.iconst 1, 1) := by decide +kernel
theorem dL_pass_14 : decode cL_pass 14 = .ok (.ireturn, 1) := by decide +kernel
theorem dL_pass_15 : decode cL_pass 15 = .ok (.astore_n 3, 1) := by decide +kernel
theorem dL_pass_16 : decode cL_pass 16 = .ok (.iconst 2, 1) := by decide +kernel
theorem dL_pass_17 : decode cL_pass 17 = .ok (.ireturn, 1) := by decide +kernel
theorem dL_pass_18 : decode cL_pass 18 = .ok (.iconst 0, 1) := by decide +kernel
theorem dL_pass_19 : decode cL_pass 19 = .ok (.ireturn, 1) := by decide +kernel
set_option maxRecDepth 20000 in
theorem ggL_law_X5_init : GoodIn wsL_law wsX5_init := goodIn_r _ [9, 10, 11, 12, 13, 14, 15, 16, 17, 18, 19, 20, 21, 22, 23, 24, 25, 26, 27, 28, 29, 30, 31, 32, 33, 34, 35, 36, 37, 38, 39, 40, 41, 42, 43, 44, 45, 46, 47, 48, 49, 50, 51, 52, 53, 54, 55, 56, 57, 58, 59, 60, 61, 62, 63, 64, 65, 66, 67, 68, 69, 70, 563, 564, 565, 566, 567, 568, 569, 570, 571, 572, 592, 593, 594, 595, 596, 597, 598, 599, 600, 601, 602, 603, 604, 605, 606, 607] (by decide +kernel) (by decide +kernel)
set_option maxRecDepth 20000 in
theorem gL_law_X5_init : GoodIn wsL_law (wsX5_init) := ggL_law_X5_init
set_option maxRecDepth 20000 in
theorem ggL_law_X6_init : GoodIn wsL_law wsX6_init := goodIn_r _ [73, 74, 11, 12, 29, 75, 76, 77, 78, 79, 80, 81, 82, 83, 84, 85, 86, 87, 88, 89, 573, 574, 575, 576, 577, 578, 579, 580, 581, 582, 583, 584, 585, 586, 587, 588, 589, 590, 591] (by decide +kernel) (by decide +kernel)
set_option maxRecDepth 20000 in
theorem gL_law_X6_init : GoodIn wsL_law (wsX6_init) := ggL_law_X6_init
set_option maxRecDepth 20000 in
theorem ggL_law_L_begin : GoodIn wsL_law wsL_begin := goodIn_ca (goodIn_r _ [93, 94, 95, 96, 97, 2, 98, 99, 100, 35, 563, 564, 565, 566, 567, 568, 569, 570, 571, 572] (by decide +kernel) (by decide +kernel)) (goodIn_sub (fun _ h => List.mem_append_left _ (List.mem_append_left _ (List.mem_append_right _ h))) (by decide +kernel))
set_option maxRecDepth 20000 in
theorem gL_law_L_begin : GoodIn wsL_law (va_wsS RL 85 yL_begin wsL_begin) := goodIn_app (goodIn_of _ (by decide +kernel)) ggL_law_L_begin
set_option maxRecDepth 20000 in
theorem ggL_law_X6_begin : GoodIn wsL_law wsX6_begin := goodIn_r _ [104, 105, 106, 107, 108, 5, 109, 110, 573, 574, 575, 576, 577, 578, 579, 580, 581, 582, 583, 584, 585, 586, 587, 588, 589, 590, 591] (by decide +kernel) (by decide +kernel)
set_option maxRecDepth 20000 in
theorem gL_law_X6_begin : GoodIn wsL_law (wsV RL 90 RX6 yX6_begin wsX6_begin) := goodIn_app (goodIn_of _ (by decide +kernel)) ggL_law_X6_begin
set_option maxRecDepth 20000 in
theorem ggL_law_X6_thrown : GoodIn wsL_law wsX6_thrown := goodIn_r _ [114, 110, 573, 574, 575, 576, 577, 578, 579, 580, 581, 582, 583, 584, 585, 586, 587, 588, 589, 590, 591] (by decide +kernel) (by decide +kernel)
set_option maxRecDepth 20000 in
theorem gL_law_X6_thrown : GoodIn wsL_law (wsV RL 91 RX6 yX6_thrown wsX6_thrown) := goodIn_app (goodIn_of _ (by decide +kernel)) ggL_law_X6_thrown
set_option maxRecDepth 20000 in
theorem ggL_law_L_addNote : GoodIn wsL_law wsL_addNote := goodIn_ca (goodIn_ca (goodIn_ca (goodIn_r _ [117, 118, 119, 94, 120, 121, 122, 2, 123, 99, 100, 14, 124, 125, 126, 127, 128, 129, 130, 35, 131, 132, 133, 134, 135, 136, 137, 138, 16, 139, 43, 140, 141, 142, 143, 42, 144, 563, 564, 565, 566, 567, 568, 569, 570, 571, 572, 592, 593] (by decide +kernel) (by decide +kernel)) (goodIn_sub (fun _ h => List.mem_append_left _ (List.mem_append_left _ (List.mem_append_right _ h))) (by decide +kernel))) (goodIn_sub (fun _ h => List.mem_append_left _ (List.mem_append_right _ h)) (by decide +kernel))) (goodIn_sub (fun _ h => List.mem_append_right _ h) (by decide +kernel))
set_option maxRecDepth 20000 in
theorem gL_law_L_addNote : GoodIn wsL_law (va_wsS RL 94 yL_addNote wsL_addNote) := goodIn_app (goodIn_of _ (by decide +kernel)) ggL_law_L_addNote
set_option maxRecDepth 20000 in
theorem ggL_law_X6_addNote : GoodIn wsL_law wsX6_addNote := goodIn_r _ [148, 75, 76, 149, 150, 151, 5, 152, 105, 153, 154, 155, 106, 107, 108, 109, 110, 573, 574, 575, 576, 577, 578, 579, 580, 581, 582, 583, 584, 585, 586, 587, 588, 589, 590, 591] (by decide +kernel) (by decide +kernel)
set_option maxRecDepth 20000 in
theorem gL_law_X6_addNote : GoodIn wsL_law (wsV RL 97 RX6 yX6_addNote wsX6_addNote) := goodIn_app (goodIn_of _ (by decide +kernel)) ggL_law_X6_addNote
set_option maxRecDepth 20000 in
theorem ggL_law_L_transpose : GoodIn wsL_law wsL_transpose := goodIn_ca (goodIn_ca (goodIn_ca (goodIn_r _ [158, 118, 119, 94, 159, 160, 161, 2, 162, 99, 100, 14, 125, 126, 127, 128, 129, 130, 35, 131, 132, 133, 134, 135, 163, 164, 165, 16, 166, 43, 42, 167, 168, 169, 170, 563, 564, 565, 566, 567, 568, 569, 570, 571, 572, 592, 593] (by decide +kernel) (by decide +kernel)) (goodIn_sub (fun _ h => List.mem_append_left _ (List.mem_append_left _ (List.mem_append_right _ h))) (by decide +kernel))) (goodIn_sub (fun _ h => List.mem_append_left _ (List.mem_append_right _ h)) (by decide +kernel))) (goodIn_sub (fun _ h => List.mem_append_right _ h) (by decide +kernel))
set_option maxRecDepth 20000 in
theorem gL_law_L_transpose : GoodIn wsL_law (va_wsS RL 98 yL_transpose wsL_transpose) := goodIn_app (goodIn_of _ (by decide +kernel)) ggL_law_L_transpose
set_option maxRecDepth 20000 in
theorem ggL_law_X6_transpose : GoodIn wsL_law wsX6_transpose := goodIn_r _ [174, 75, 76, 149, 150, 151, 5, 152, 105, 153, 154, 155, 106, 107, 108, 109, 110, 573, 574, 575, 576, 577, 578, 579, 580, 581, 582, 583, 584, 585, 586, 587, 588, 589, 590, 591] (by decide +kernel) (by decide +kernel)
set_option maxRecDepth 20000 in
theorem gL_law_X6_transpose : GoodIn wsL_law (wsV RL 101 RX6 yX6_transpose wsX6_transpose) := goodIn_app (goodIn_of _ (by decide +kernel)) ggL_law_X6_transpose
set_option maxRecDepth 20000 in
theorem ggL_law_L_pitch : GoodIn wsL_law wsL_pitch := goodIn_ca (goodIn_r _ [177, 118, 178, 179, 180, 2, 181, 14, 182, 183, 184, 185, 186, 129, 130, 124, 125, 126, 127, 128, 35, 563, 564, 565, 566, 567, 568, 569, 570, 571, 572, 592, 593] (by decide +kernel) (by decide +kernel)) (goodIn_sub (fun _ h => List.mem_append_left _ (List.mem_append_right _ h)) (by decide +kernel))
set_option maxRecDepth 20000 in
theorem gL_law_L_pitch : GoodIn wsL_law (va_wsS RL 102 yL_pitch wsL_pitch) := goodIn_app (goodIn_of _ (by decide +kernel)) ggL_law_L_pitch
set_option maxRecDepth 20000 in
theorem ggL_law_X6_pitch : GoodIn wsL_law wsX6_pitch := goodIn_r _ [190, 76, 191, 192, 193, 5, 194, 75, 149, 150, 151, 152, 105, 153, 154, 155, 106, 107, 108, 109, 110, 573, 574, 575, 576, 577, 578, 579, 580, 581, 582, 583, 584, 585, 586, 587, 588, 589, 590, 591] (by decide +kernel) (by decide +kernel)
set_option maxRecDepth 20000 in
theorem gL_law_X6_pitch : GoodIn wsL_law (wsV RL 104 RX6 yX6_pitch wsX6_pitch) := goodIn_app (goodIn_of _ (by decide +kernel)) ggL_law_X6_pitch
set_option maxRecDepth 20000 in
theorem ggL_law_L_tune : GoodIn wsL_law wsL_tune := goodIn_ca (goodIn_ca (goodIn_r _ [197, 118, 119, 198, 199, 200, 2, 201, 18, 202, 203, 204, 205, 206, 129, 130, 36, 131, 132, 133, 134, 135, 563, 564, 565, 566, 567, 568, 569, 570, 571, 572, 594, 595, 596] (by decide +kernel) (by decide +kernel)) (goodIn_sub (fun _ h => List.mem_append_left _ (List.mem_append_right _ h)) (by decide +kernel))) (goodIn_sub (fun _ h => List.mem_append_right _ h) (by decide +kernel))
set_option maxRecDepth 20000 in
theorem gL_law_L_tune : GoodIn wsL_law (va_wsS RL 105 yL_tune wsL_tune) := goodIn_app (goodIn_of _ (by decide +kernel)) ggL_law_L_tune
set_option maxRecDepth 20000 in
theorem ggL_law_X6_tune : GoodIn wsL_law wsX6_tune := goodIn_r _ [210, 79, 211, 212, 213, 5, 214, 215, 153, 154, 155, 106, 107, 108, 109, 110, 573, 574, 575, 576, 577, 578, 579, 580, 581, 582, 583, 584, 585, 586, 587, 588, 589, 590, 591] (by decide +kernel) (by decide +kernel)
set_option maxRecDepth 20000 in
theorem gL_law_X6_tune : GoodIn wsL_law (wsV RL 108 RX6 yX6_tune wsX6_tune) := goodIn_app (goodIn_of _ (by decide +kernel)) ggL_law_X6_tune
set_option maxRecDepth 20000 in
theorem ggL_law_L_owner : GoodIn wsL_law wsL_owner := goodIn_ca (goodIn_r _ [218, 118, 219, 220, 221, 2, 222, 18, 223, 203, 204, 205, 206, 129, 130, 36, 563, 564, 565, 566, 567, 568, 569, 570, 571, 572, 594, 595, 596] (by decide +kernel) (by decide +kernel)) (goodIn_sub (fun _ h => List.mem_append_left _ (List.mem_append_right _ h)) (by decide +kernel))
set_option maxRecDepth 20000 in
theorem gL_law_L_owner : GoodIn wsL_law (va_wsS RL 109 yL_owner wsL_owner) := goodIn_app (goodIn_of _ (by decide +kernel)) ggL_law_L_owner
set_option maxRecDepth 20000 in
theorem ggL_law_X6_owner : GoodIn wsL_law wsX6_owner := goodIn_r _ [227, 77, 211, 212, 213, 5, 214, 215, 153, 154, 155, 106, 107, 108, 109, 110, 573, 574, 575, 576, 577, 578, 579, 580, 581, 582, 583, 584, 585, 586, 587, 588, 589, 590, 591] (by decide +kernel) (by decide +kernel)
set_option maxRecDepth 20000 in
theorem gL_law_X6_owner : GoodIn wsL_law (wsV RL 112 RX6 yX6_owner wsX6_owner) := goodIn_app (goodIn_of _ (by decide +kernel)) ggL_law_X6_owner
set_option maxRecDepth 20000 in
theorem ggL_law_X5_instruments : GoodIn wsL_law wsX5_instruments := goodIn_r _ [231, 36, 563, 564, 565, 566, 567, 568, 569, 570, 571, 572] (by decide +kernel) (by decide +kernel)
set_option maxRecDepth 20000 in
theorem gL_law_X5_instruments : GoodIn wsL_law (wsV RL 113 RX5 yX5_instruments wsX5_instruments) := goodIn_app (goodIn_of _ (by decide +kernel)) ggL_law_X5_instruments
set_option maxRecDepth 20000 in
theorem ggL_law_X6_instruments : GoodIn wsL_law wsX6_instruments := goodIn_r _ [235, 215, 236, 237, 238, 5, 239, 110, 573, 574, 575, 576, 577, 578, 579, 580, 581, 582, 583, 584, 585, 586, 587, 588, 589, 590, 591] (by decide +kernel) (by decide +kernel)
set_option maxRecDepth 20000 in
theorem gL_law_X6_instruments : GoodIn wsL_law (wsV RL 116 RX6 yX6_instruments wsX6_instruments) := goodIn_app (goodIn_of _ (by decide +kernel)) ggL_law_X6_instruments
set_option maxRecDepth 20000 in
theorem ggL_law_L_shifts : GoodIn wsL_law wsL_shifts := goodIn_ca (goodIn_r _ [242, 118, 243, 244, 245, 2, 246, 34, 247, 248, 249, 250, 251, 14, 18, 125, 126, 127, 128, 129, 130, 35, 203, 204, 205, 206, 36, 252, 253, 254, 33, 255, 256, 257, 258, 259, 260, 65, 261, 262, 263, 264, 20, 265, 49, 266, 267, 268, 269, 47, 270, 271, 272, 273, 67, 274, 275, 276, 277, 278, 279, 280, 281, 282, 283, 284, 285, 286, 287, 288, 289, 290, 291, 292, 69, 70, 68, 563, 564, 565, 566, 567, 568, 569, 570, 571, 572, 603, 604, 605, 606, 607, 592, 593, 594, 595, 596] (by decide +kernel) (by decide +kernel)) (goodIn_sub (fun _ h => List.mem_append_left _ (List.mem_append_right _ h)) (by decide +kernel))
set_option maxRecDepth 20000 in
theorem gL_law_L_shifts : GoodIn wsL_law (va_wsS RL 117 yL_shifts wsL_shifts) := goodIn_app (goodIn_of _ (by decide +kernel)) ggL_law_L_shifts
set_option maxRecDepth 20000 in
theorem ggL_law_X6_shifts : GoodIn wsL_law wsX6_shifts := goodIn_r _ [296, 297, 298, 299, 5, 300, 149, 150, 151, 152, 105, 153, 154, 155, 211, 212, 213, 214, 215, 106, 107, 108, 109, 110, 301, 302, 303, 304, 75, 78, 88, 305, 89, 306, 307, 308, 309, 310, 311, 312, 313, 314, 315, 316, 317, 76, 79, 318, 319, 320, 573, 574, 575, 576, 577, 578, 579, 580, 581, 582, 583, 584, 585, 586, 587, 588, 589, 590, 591] (by decide +kernel) (by decide +kernel)
set_option maxRecDepth 20000 in
theorem gL_law_X6_shifts : GoodIn wsL_law (wsV RL 119 RX6 yX6_shifts wsX6_shifts) := goodIn_app (goodIn_of _ (by decide +kernel)) ggL_law_X6_shifts
set_option maxRecDepth 20000 in
theorem ggL_law_L_shiftsByAll : GoodIn wsL_law wsL_shiftsByAll := goodIn_ca (goodIn_ca (goodIn_r _ [323, 118, 94, 324, 325, 326, 2, 327, 99, 100, 14, 124, 34, 18, 125, 126, 127, 128, 129, 130, 35, 203, 204, 205, 206, 36, 328, 329, 330, 33, 331, 256, 65, 274, 257, 258, 259, 260, 261, 262, 263, 264, 20, 265, 49, 266, 267, 268, 269, 47, 332, 333, 334, 286, 287, 288, 279, 280, 281, 282, 283, 284, 285, 563, 564, 565, 566, 567, 568, 569, 570, 571, 572, 592, 593, 603, 604, 605, 606, 607, 594, 595, 596] (by decide +kernel) (by decide +kernel)) (goodIn_sub (fun _ h => List.mem_append_left _ (List.mem_append_left _ (List.mem_append_right _ h))) (by decide +kernel))) (goodIn_sub (fun _ h => List.mem_append_left _ (List.mem_append_right _ h)) (by decide +kernel))
set_option maxRecDepth 20000 in
theorem gL_law_L_shiftsByAll : GoodIn wsL_law (va_wsS RL 120 yL_shiftsByAll wsL_shiftsByAll) := goodIn_app (goodIn_of _ (by decide +kernel)) ggL_law_L_shiftsByAll
set_option maxRecDepth 20000 in
theorem ggL_law_X6_shiftsByAll : GoodIn wsL_law wsX6_shiftsByAll := goodIn_r _ [338, 75, 149, 150, 151, 5, 152, 105, 153, 154, 155, 211, 212, 213, 214, 215, 106, 107, 108, 109, 110, 301, 302, 303, 304, 78, 88, 305, 89, 306, 307, 308, 309, 310, 311, 312, 313, 314, 315, 316, 317, 76, 79, 318, 319, 320, 573, 574, 575, 576, 577, 578, 579, 580, 581, 582, 583, 584, 585, 586, 587, 588, 589, 590, 591] (by decide +kernel) (by decide +kernel)
set_option maxRecDepth 20000 in
theorem gL_law_X6_shiftsByAll : GoodIn wsL_law (wsV RL 122 RX6 yX6_shiftsByAll wsX6_shiftsByAll) := goodIn_app (goodIn_of _ (by decide +kernel)) ggL_law_X6_shiftsByAll
set_option maxRecDepth 20000 in
theorem ggL_law_L_hardest : GoodIn wsL_law wsL_hardest := goodIn_ca (goodIn_r _ [341, 118, 342, 343, 344, 2, 345, 34, 346, 248, 249, 250, 251, 14, 18, 125, 126, 127, 128, 129, 130, 35, 203, 204, 205, 206, 36, 252, 253, 254, 33, 255, 256, 257, 258, 259, 260, 65, 261, 262, 263, 264, 20, 265, 49, 266, 267, 268, 269, 47, 270, 271, 272, 273, 67, 274, 275, 276, 277, 278, 279, 280, 281, 282, 283, 284, 285, 286, 287, 288, 289, 290, 291, 292, 69, 70, 68, 563, 564, 565, 566, 567, 568, 569, 570, 571, 572, 603, 604, 605, 606, 607, 592, 593, 594, 595, 596] (by decide +kernel) (by decide +kernel)) (goodIn_sub (fun _ h => List.mem_append_left _ (List.mem_append_right _ h)) (by decide +kernel))
set_option maxRecDepth 20000 in
theorem gL_law_L_hardest : GoodIn wsL_law (va_wsS RL 123 yL_hardest wsL_hardest) := goodIn_app (goodIn_of _ (by decide +kernel)) ggL_law_L_hardest
set_option maxRecDepth 20000 in
theorem ggL_law_X6_hardest : GoodIn wsL_law wsX6_hardest := goodIn_r _ [350, 297, 298, 299, 5, 300, 149, 150, 151, 152, 105, 153, 154, 155, 211, 212, 213, 214, 215, 106, 107, 108, 109, 110, 351, 352, 353, 354, 75, 89, 301, 302, 303, 304, 78, 88, 305, 306, 307, 308, 309, 310, 311, 312, 313, 314, 315, 316, 317, 76, 79, 318, 319, 320, 573, 574, 575, 576, 577, 578, 579, 580, 581, 582, 583, 584, 585, 586, 587, 588, 589, 590, 591] (by decide +kernel) (by decide +kernel)
set_option maxRecDepth 20000 in
theorem gL_law_X6_hardest : GoodIn wsL_law (wsV RL 125 RX6 yX6_hardest wsX6_hardest) := goodIn_app (goodIn_of _ (by decide +kernel)) ggL_law_X6_hardest
set_option maxRecDepth 20000 in
theorem ggL_law_L_position : GoodIn wsL_law wsL_position := goodIn_ca (goodIn_r _ [357, 118, 358, 359, 360, 2, 361, 34, 362, 183, 184, 185, 186, 129, 130, 14, 124, 125, 126, 127, 128, 35, 248, 249, 250, 251, 18, 203, 204, 205, 206, 36, 252, 253, 254, 33, 255, 256, 257, 258, 259, 260, 65, 261, 262, 263, 264, 20, 265, 49, 266, 267, 268, 269, 47, 270, 271, 272, 273, 67, 274, 275, 276, 277, 278, 279, 280, 281, 282, 283, 284, 285, 286, 287, 288, 289, 290, 291, 292, 69, 70, 68, 563, 564, 565, 566, 567, 568, 569, 570, 571, 572, 603, 604, 605, 606, 607, 592, 593, 594, 595, 596] (by decide +kernel) (by decide +kernel)) (goodIn_sub (fun _ h => List.mem_append_left _ (List.mem_append_right _ h)) (by decide +kernel))
set_option maxRecDepth 20000 in
theorem gL_law_L_position : GoodIn wsL_law (va_wsS RL 126 yL_position wsL_position) := goodIn_app (goodIn_of _ (by decide +kernel)) ggL_law_L_position
set_option maxRecDepth 20000 in
theorem ggL_law_X6_position : GoodIn wsL_law wsX6_position := goodIn_r _ [366, 89, 367, 368, 369, 5, 370, 191, 192, 193, 194, 75, 149, 150, 151, 152, 105, 153, 154, 155, 211, 212, 213, 214, 215, 106, 107, 108, 109, 110, 301, 302, 303, 304, 78, 88, 305, 306, 307, 308, 309, 310, 311, 312, 313, 314, 315, 316, 317, 76, 79, 318, 319, 320, 573, 574, 575, 576, 577, 578, 579, 580, 581, 582, 583, 584, 585, 586, 587, 588, 589, 590, 591] (by decide +kernel) (by decide +kernel)
set_option maxRecDepth 20000 in
theorem gL_law_X6_position : GoodIn wsL_law (wsV RL 128 RX6 yX6_position wsX6_position) := goodIn_app (goodIn_of _ (by decide +kernel)) ggL_law_X6_position
set_option maxRecDepth 20000 in
theorem ggL_law_L_string : GoodIn wsL_law wsL_string := goodIn_ca (goodIn_r _ [373, 118, 374, 375, 376, 2, 377, 18, 14, 182, 34, 362, 183, 184, 185, 186, 129, 130, 124, 125, 126, 127, 128, 35, 248, 249, 250, 251, 203, 204, 205, 206, 36, 252, 253, 254, 33, 255, 256, 257, 258, 259, 260, 65, 261, 262, 263, 264, 20, 265, 49, 266, 267, 268, 269, 47, 270, 271, 272, 273, 67, 274, 275, 276, 277, 278, 279, 280, 281, 282, 283, 284, 285, 286, 287, 288, 289, 290, 291, 292, 69, 70, 68, 378, 563, 564, 565, 566, 567, 568, 569, 570, 571, 572, 592, 593, 603, 604, 605, 606, 607, 594, 595, 596] (by decide +kernel) (by decide +kernel)) (goodIn_sub (fun _ h => List.mem_append_left _ (List.mem_append_right _ h)) (by decide +kernel))
set_option maxRecDepth 20000 in
theorem gL_law_L_string : GoodIn wsL_law (va_wsS RL 129 yL_string wsL_string) := goodIn_app (goodIn_of _ (by decide +kernel)) ggL_law_L_string
set_option maxRecDepth 20000 in
theorem ggL_law_X6_string : GoodIn wsL_law wsX6_string := goodIn_r _ [382, 89, 367, 368, 369, 5, 370, 191, 192, 193, 194, 75, 149, 150, 151, 152, 105, 153, 154, 155, 211, 212, 213, 214, 215, 106, 107, 108, 109, 110, 301, 302, 303, 304, 78, 88, 305, 306, 307, 308, 309, 310, 311, 312, 313, 314, 315, 316, 317, 76, 79, 318, 319, 320, 573, 574, 575, 576, 577, 578, 579, 580, 581, 582, 583, 584, 585, 586, 587, 588, 589, 590, 591] (by decide +kernel) (by decide +kernel)
set_option maxRecDepth 20000 in
theorem gL_law_X6_string : GoodIn wsL_law (wsV RL 131 RX6 yX6_string wsX6_string) := goodIn_app (goodIn_of _ (by decide +kernel)) ggL_law_X6_string
set_option maxRecDepth 20000 in
theorem ggL_law_L_learn : GoodIn wsL_law wsL_learn := goodIn_ca (goodIn_ca (goodIn_ca (goodIn_r _ [385, 118, 119, 94, 386, 387, 388, 2, 389, 99, 100, 22, 390, 125, 126, 127, 128, 129, 130, 35, 203, 204, 205, 206, 36, 391, 392, 393, 131, 132, 133, 134, 135, 394, 395, 396, 24, 397, 54, 398, 399, 400, 401, 18, 223, 34, 346, 248, 249, 250, 251, 14, 252, 253, 254, 33, 255, 256, 257, 258, 259, 260, 65, 261, 262, 263, 264, 20, 265, 49, 266, 267, 268, 269, 47, 270, 271, 272, 273, 67, 274, 275, 276, 277, 278, 279, 280, 281, 282, 283, 284, 285, 286, 287, 288, 289, 290, 291, 292, 69, 70, 68, 402, 403, 404, 405, 53, 563, 564, 565, 566, 567, 568, 569, 570, 571, 572, 597, 598, 594, 595, 596, 603, 604, 605, 606, 607, 592, 593] (by decide +kernel) (by decide +kernel)) (goodIn_sub (fun _ h => List.mem_append_left _ (List.mem_append_left _ (List.mem_append_right _ h))) (by decide +kernel))) (goodIn_sub (fun _ h => List.mem_append_left _ (List.mem_append_right _ h)) (by decide +kernel))) (goodIn_sub (fun _ h => List.mem_append_right _ h) (by decide +kernel))
set_option maxRecDepth 20000 in
theorem gL_law_L_learn : GoodIn wsL_law (va_wsS RL 132 yL_learn wsL_learn) := goodIn_app (goodIn_of _ (by decide +kernel)) ggL_law_L_learn
set_option maxRecDepth 20000 in
theorem ggL_law_X6_learn : GoodIn wsL_law wsX6_learn := goodIn_r _ [409, 80, 81, 149, 150, 151, 5, 152, 105, 153, 154, 155, 211, 212, 213, 214, 215, 410, 411, 412, 413, 414, 415, 416, 77, 351, 352, 353, 354, 75, 89, 301, 302, 303, 304, 78, 88, 305, 306, 307, 308, 309, 310, 311, 312, 313, 314, 315, 316, 317, 76, 79, 318, 319, 320, 417, 418, 419, 420, 106, 107, 108, 109, 110, 573, 574, 575, 576, 577, 578, 579, 580, 581, 582, 583, 584, 585, 586, 587, 588, 589, 590, 591] (by decide +kernel) (by decide +kernel)
set_option maxRecDepth 20000 in
theorem gL_law_X6_learn : GoodIn wsL_law (wsV RL 134 RX6 yX6_learn wsX6_learn) := goodIn_app (goodIn_of _ (by decide +kernel)) ggL_law_X6_learn
set_option maxRecDepth 20000 in
theorem ggL_law_L_level : GoodIn wsL_law wsL_level := goodIn_ca (goodIn_r _ [423, 119, 424, 425, 426, 2, 427, 22, 390, 391, 392, 393, 131, 132, 133, 134, 135, 563, 564, 565, 566, 567, 568, 569, 570, 571, 572, 597, 598] (by decide +kernel) (by decide +kernel)) (goodIn_sub (fun _ h => List.mem_append_right _ h) (by decide +kernel))
set_option maxRecDepth 20000 in
theorem gL_law_L_level : GoodIn wsL_law (va_wsS RL 135 yL_level wsL_level) := goodIn_app (goodIn_of _ (by decide +kernel)) ggL_law_L_level
set_option maxRecDepth 20000 in
theorem ggL_law_X6_level : GoodIn wsL_law wsX6_level := goodIn_r _ [431, 80, 410, 411, 5, 412, 153, 154, 155, 106, 107, 108, 109, 110, 573, 574, 575, 576, 577, 578, 579, 580, 581, 582, 583, 584, 585, 586, 587, 588, 589, 590, 591] (by decide +kernel) (by decide +kernel)
set_option maxRecDepth 20000 in
theorem gL_law_X6_level : GoodIn wsL_law (wsV RL 137 RX6 yX6_level wsX6_level) := goodIn_app (goodIn_of _ (by decide +kernel)) ggL_law_X6_level
set_option maxRecDepth 20000 in
theorem ggL_law_L_known : GoodIn wsL_law wsL_known := goodIn_ca (goodIn_r _ [434, 119, 435, 436, 437, 2, 438, 22, 439, 391, 392, 393, 131, 132, 133, 134, 135, 563, 564, 565, 566, 567, 568, 569, 570, 571, 572, 597, 598] (by decide +kernel) (by decide +kernel)) (goodIn_sub (fun _ h => List.mem_append_right _ h) (by decide +kernel))
set_option maxRecDepth 20000 in
theorem gL_law_L_known : GoodIn wsL_law (va_wsS RL 138 yL_known wsL_known) := goodIn_app (goodIn_of _ (by decide +kernel)) ggL_law_L_known
set_option maxRecDepth 20000 in
theorem ggL_law_X6_known : GoodIn wsL_law wsX6_known := goodIn_r _ [443, 81, 410, 411, 5, 412, 153, 154, 155, 106, 107, 108, 109, 110, 573, 574, 575, 576, 577, 578, 579, 580, 581, 582, 583, 584, 585, 586, 587, 588, 589, 590, 591] (by decide +kernel) (by decide +kernel)
set_option maxRecDepth 20000 in
theorem gL_law_X6_known : GoodIn wsL_law (wsV RL 140 RX6 yX6_known wsX6_known) := goodIn_app (goodIn_of _ (by decide +kernel)) ggL_law_X6_known
set_option maxRecDepth 20000 in
theorem ggL_law_L_next : GoodIn wsL_law wsL_next := goodIn_ca (goodIn_ca (goodIn_r _ [446, 119, 447, 448, 449, 2, 450, 35, 22, 391, 392, 393, 131, 132, 133, 134, 135, 394, 395, 396, 24, 397, 54, 451, 452, 453, 454, 36, 398, 399, 400, 401, 18, 223, 34, 346, 390, 248, 249, 250, 251, 14, 125, 126, 127, 128, 129, 130, 203, 204, 205, 206, 252, 253, 254, 33, 255, 256, 257, 258, 259, 260, 65, 261, 262, 263, 264, 20, 265, 49, 266, 267, 268, 269, 47, 270, 271, 272, 273, 67, 274, 275, 276, 277, 278, 279, 280, 281, 282, 283, 284, 285, 286, 287, 288, 289, 290, 291, 292, 69, 70, 68, 563, 564, 565, 566, 567, 568, 569, 570, 571, 572, 597, 598, 594, 595, 596, 603, 604, 605, 606, 607, 592, 593] (by decide +kernel) (by decide +kernel)) (goodIn_sub (fun _ h => List.mem_append_right _ h) (by decide +kernel))) (goodIn_sub (fun _ h => List.mem_append_left _ (List.mem_append_right _ h)) (by decide +kernel))
set_option maxRecDepth 20000 in
theorem gL_law_L_next : GoodIn wsL_law (va_wsS RL 141 yL_next wsL_next) := goodIn_app (goodIn_of _ (by decide +kernel)) ggL_law_L_next
set_option maxRecDepth 20000 in
theorem ggL_law_X6_next : GoodIn wsL_law wsX6_next := goodIn_r _ [458, 305, 105, 215, 410, 411, 5, 412, 153, 154, 155, 106, 107, 108, 109, 110, 413, 414, 415, 416, 77, 80, 351, 352, 353, 354, 75, 89, 301, 302, 303, 304, 78, 88, 306, 307, 308, 309, 310, 311, 312, 313, 314, 315, 316, 317, 76, 79, 318, 319, 320, 417, 418, 419, 420, 81, 573, 574, 575, 576, 577, 578, 579, 580, 581, 582, 583, 584, 585, 586, 587, 588, 589, 590, 591] (by decide +kernel) (by decide +kernel)
set_option maxRecDepth 20000 in
theorem gL_law_X6_next : GoodIn wsL_law (wsV RL 143 RX6 yX6_next wsX6_next) := goodIn_app (goodIn_of _ (by decide +kernel)) ggL_law_X6_next
set_option maxRecDepth 20000 in
theorem ggL_law_L_addWood : GoodIn wsL_law wsL_addWood := goodIn_ca (goodIn_r _ [461, 119, 462, 463, 464, 2, 465, 30, 131, 132, 133, 134, 135, 563, 564, 565, 566, 567, 568, 569, 570, 571, 572] (by decide +kernel) (by decide +kernel)) (goodIn_sub (fun _ h => List.mem_append_right _ h) (by decide +kernel))
set_option maxRecDepth 20000 in
theorem gL_law_L_addWood : GoodIn wsL_law (va_wsS RL 144 yL_addWood wsL_addWood) := goodIn_app (goodIn_of _ (by decide +kernel)) ggL_law_L_addWood
set_option maxRecDepth 20000 in
theorem ggL_law_X6_addWood : GoodIn wsL_law wsX6_addWood := goodIn_r _ [469, 82, 153, 154, 5, 155, 106, 107, 108, 109, 110, 573, 574, 575, 576, 577, 578, 579, 580, 581, 582, 583, 584, 585, 586, 587, 588, 589, 590, 591] (by decide +kernel) (by decide +kernel)
set_option maxRecDepth 20000 in
theorem gL_law_X6_addWood : GoodIn wsL_law (wsV RL 146 RX6 yX6_addWood wsX6_addWood) := goodIn_app (goodIn_of _ (by decide +kernel)) ggL_law_X6_addWood
set_option maxRecDepth 20000 in
theorem ggL_law_L_order : GoodIn wsL_law wsL_order := goodIn_ca (goodIn_ca (goodIn_r _ [472, 119, 94, 473, 474, 475, 2, 476, 99, 100, 30, 37, 26, 38, 391, 392, 393, 131, 132, 133, 134, 135, 477, 478, 479, 480, 481, 482, 483, 484, 28, 485, 60, 486, 487, 488, 489, 58, 59, 563, 564, 565, 566, 567, 568, 569, 570, 571, 572, 599, 600, 601, 602] (by decide +kernel) (by decide +kernel)) (goodIn_sub (fun _ h => List.mem_append_left _ (List.mem_append_left _ (List.mem_append_right _ h))) (by decide +kernel))) (goodIn_sub (fun _ h => List.mem_append_right _ h) (by decide +kernel))
set_option maxRecDepth 20000 in
theorem gL_law_L_order : GoodIn wsL_law (va_wsS RL 147 yL_order wsL_order) := goodIn_app (goodIn_of _ (by decide +kernel)) ggL_law_L_order
set_option maxRecDepth 20000 in
theorem ggL_law_X6_order : GoodIn wsL_law wsX6_order := goodIn_r _ [493, 82, 494, 83, 84, 85, 495, 410, 411, 5, 412, 153, 154, 155, 496, 497, 498, 499, 87, 106, 107, 108, 109, 110, 573, 574, 575, 576, 577, 578, 579, 580, 581, 582, 583, 584, 585, 586, 587, 588, 589, 590, 591] (by decide +kernel) (by decide +kernel)
set_option maxRecDepth 20000 in
theorem gL_law_X6_order : GoodIn wsL_law (wsV RL 149 RX6 yX6_order wsX6_order) := goodIn_app (goodIn_of _ (by decide +kernel)) ggL_law_X6_order
set_option maxRecDepth 20000 in
theorem ggL_law_L_ready : GoodIn wsL_law wsL_ready := goodIn_ca (goodIn_r _ [502, 118, 503, 504, 505, 2, 506, 26, 507, 508, 509, 510, 511, 129, 130, 37, 563, 564, 565, 566, 567, 568, 569, 570, 571, 572, 599, 600, 601, 602] (by decide +kernel) (by decide +kernel)) (goodIn_sub (fun _ h => List.mem_append_left _ (List.mem_append_right _ h)) (by decide +kernel))
set_option maxRecDepth 20000 in
theorem gL_law_L_ready : GoodIn wsL_law (va_wsS RL 150 yL_ready wsL_ready) := goodIn_app (goodIn_of _ (by decide +kernel)) ggL_law_L_ready
set_option maxRecDepth 20000 in
theorem ggL_law_X6_ready : GoodIn wsL_law wsX6_ready := goodIn_r _ [515, 85, 516, 517, 518, 5, 519, 494, 153, 154, 155, 106, 107, 108, 109, 110, 573, 574, 575, 576, 577, 578, 579, 580, 581, 582, 583, 584, 585, 586, 587, 588, 589, 590, 591] (by decide +kernel) (by decide +kernel)
set_option maxRecDepth 20000 in
theorem gL_law_X6_ready : GoodIn wsL_law (wsV RL 152 RX6 yX6_ready wsX6_ready) := goodIn_app (goodIn_of _ (by decide +kernel)) ggL_law_X6_ready
set_option maxRecDepth 20000 in
theorem ggL_law_L_fetch : GoodIn wsL_law wsL_fetch := goodIn_ca (goodIn_ca (goodIn_ca (goodIn_r _ [522, 118, 119, 94, 523, 524, 525, 2, 526, 99, 100, 26, 38, 481, 36, 18, 527, 528, 508, 509, 510, 511, 129, 130, 37, 131, 132, 133, 134, 135, 482, 483, 484, 28, 485, 60, 529, 530, 531, 20, 532, 48, 49, 533, 534, 535, 536, 47, 563, 564, 565, 566, 567, 568, 569, 570, 571, 572, 599, 600, 601, 602, 594, 595, 596] (by decide +kernel) (by decide +kernel)) (goodIn_sub (fun _ h => List.mem_append_left _ (List.mem_append_left _ (List.mem_append_right _ h))) (by decide +kernel))) (goodIn_sub (fun _ h => List.mem_append_left _ (List.mem_append_right _ h)) (by decide +kernel))) (goodIn_sub (fun _ h => List.mem_append_right _ h) (by decide +kernel))
set_option maxRecDepth 20000 in
theorem gL_law_L_fetch : GoodIn wsL_law (va_wsS RL 153 yL_fetch wsL_fetch) := goodIn_app (goodIn_of _ (by decide +kernel)) ggL_law_L_fetch
set_option maxRecDepth 20000 in
theorem ggL_law_X6_fetch : GoodIn wsL_law wsX6_fetch := goodIn_r _ [540, 495, 85, 87, 215, 77, 83, 78, 84, 79, 516, 517, 518, 5, 519, 494, 153, 154, 155, 541, 542, 543, 106, 107, 108, 109, 110, 573, 574, 575, 576, 577, 578, 579, 580, 581, 582, 583, 584, 585, 586, 587, 588, 589, 590, 591] (by decide +kernel) (by decide +kernel)
set_option maxRecDepth 20000 in
theorem gL_law_X6_fetch : GoodIn wsL_law (wsV RL 156 RX6 yX6_fetch wsX6_fetch) := goodIn_app (goodIn_of _ (by decide +kernel)) ggL_law_X6_fetch
set_option maxRecDepth 20000 in
theorem ggL_law_L_pass : GoodIn wsL_law wsL_pass := goodIn_ca (goodIn_ca (goodIn_r _ [546, 119, 94, 547, 548, 549, 2, 550, 99, 100, 38, 131, 132, 133, 134, 135, 563, 564, 565, 566, 567, 568, 569, 570, 571, 572] (by decide +kernel) (by decide +kernel)) (goodIn_sub (fun _ h => List.mem_append_left _ (List.mem_append_left _ (List.mem_append_right _ h))) (by decide +kernel))) (goodIn_sub (fun _ h => List.mem_append_right _ h) (by decide +kernel))
set_option maxRecDepth 20000 in
theorem gL_law_L_pass : GoodIn wsL_law (va_wsS RL 157 yL_pass wsL_pass) := goodIn_app (goodIn_of _ (by decide +kernel)) ggL_law_L_pass
set_option maxRecDepth 20000 in
theorem ggL_law_X6_pass : GoodIn wsL_law wsX6_pass := goodIn_r _ [554, 495, 153, 154, 5, 155, 106, 107, 108, 109, 110, 573, 574, 575, 576, 577, 578, 579, 580, 581, 582, 583, 584, 585, 586, 587, 588, 589, 590, 591] (by decide +kernel) (by decide +kernel)
set_option maxRecDepth 20000 in
theorem gL_law_X6_pass : GoodIn wsL_law (wsV RL 159 RX6 yX6_pass wsX6_pass) := goodIn_app (goodIn_of _ (by decide +kernel)) ggL_law_X6_pass
set_option maxRecDepth 20000 in
theorem ggL_law_X5_today : GoodIn wsL_law wsX5_today := goodIn_r _ [558, 38, 563, 564, 565, 566, 567, 568, 569, 570, 571, 572] (by decide +kernel) (by decide +kernel)
set_option maxRecDepth 20000 in
theorem gL_law_X5_today : GoodIn wsL_law (wsV RL 160 RX5 yX5_today wsX5_today) := goodIn_app (goodIn_of _ (by decide +kernel)) ggL_law_X5_today
set_option maxRecDepth 20000 in
theorem ggL_law_X6_today : GoodIn wsL_law wsX6_today := goodIn_r _ [562, 495, 236, 237, 238, 5, 239, 110, 573, 574, 575, 576, 577, 578, 579, 580, 581, 582, 583, 584, 585, 586, 587, 588, 589, 590, 591] (by decide +kernel) (by decide +kernel)
set_option maxRecDepth 20000 in
theorem gL_law_X6_today : GoodIn wsL_law (wsV RL 163 RX6 yX6_today wsX6_today) := goodIn_app (goodIn_of _ (by decide +kernel)) ggL_law_X6_today
theorem dL_law_0 : decode cL_law 0 = .ok (.new 8, 3) := by decide +kernel
theorem dL_law_3 : decode cL_law 3 = .ok (.dup, 1) := by decide +kernel
theorem dL_law_4 : decode cL_law 4 = .ok (.invokespecial 81, 3) := by decide +kernel
theorem dL_law_7 : decode cL_law 7 = .ok (.astore_n 1, 1) := by decide +kernel
theorem dL_law_8 : decode cL_law 8 = .ok (.new 82, 3) := by decide +kernel
theorem dL_law_11 : decode cL_law 11 = .ok (.dup, 1) := by decide +kernel
theorem dL_law_12 : decode cL_law 12 = .ok (.invokespecial 84, 3) := by decide +kernel
theorem dL_law_15 : decode cL_law 15 = .ok (.astore_n 2, 1) := by decide +kernel
theorem dL_law_16 : decode cL_law 16 = .ok (.iconst 1, 1) := by decide +kernel
theorem dL_law_17 : decode cL_law 17 = .ok (.newarray .long, 2) := by decide +kernel
theorem dL_law_19 : decode cL_law 19 = .ok (.astore_n 3, 1) := by decide +kernel
theorem dL_law_20 : decode cL_law 20 = .ok (.iconst 0, 1) := by decide +kernel
theorem dL_law_21 : decode cL_law 21 = .ok (.istore 4, 2) := by decide +kernel
theorem dL_law_23 : decode cL_law 23 = .ok (.iload 4, 2) := by decide +kernel
theorem dL_law_25 : decode cL_law 25 = .ok (.aload_n 0, 1) := by decide +kernel
theorem dL_law_26 : decode cL_law 26 = .ok (.arraylength, 1) := by decide +kernel
theorem dL_law_27 : decode cL_law 27 = .ok (.bipush 6, 2) := by decide +kernel
theorem dL_law_29 : decode cL_law 29 = .ok (.isub, 1) := by decide +kernel
theorem dL_law_30 : decode cL_law 30 = .ok (.if_icmp .gt 1486, 3) := by decide +kernel
theorem dL_law_33 : decode cL_law 33 = .ok (.aload_n 0, 1) := by decide +kernel
theorem dL_law_34 : decode cL_law 34 = .ok (.iload 4, 2) := by decide +kernel
theorem dL_law_36 : decode cL_law 36 = .ok (.iaload, 1) := by decide +kernel
theorem dL_law_37 : decode cL_law 37 = .ok (.bipush 31, 2) := by decide +kernel
theorem dL_law_39 : decode cL_law 39 = .ok (.iand, 1) := by decide +kernel
theorem dL_law_40 : decode cL_law 40 = .ok (.tableswitch 1470 0 21 #[104, 148, 216, 264, 332, 412, 468, 481, 549, 617, 685, 765, 845, 925, 981, 1037, 1093, 1161, 1241, 1297, 1401, 1457], 104) := by decide +kernel
theorem dL_law_144 : decode cL_law 144 = .ok (.aload_n 1, 1) := by decide +kernel
theorem dL_law_145 : decode cL_law 145 = .ok (.aload_n 3, 1) := by decide +kernel
theorem dL_law_146 : decode cL_law 146 = .ok (.invokestatic 85, 3) := by decide +kernel
theorem dL_law_149 : decode cL_law 149 = .ok (.istore 5, 2) := by decide +kernel
theorem dL_law_151 : decode cL_law 151 = .ok (.aload_n 2, 1) := by decide +kernel
theorem dL_law_152 : decode cL_law 152 = .ok (.invokevirtual 90, 3) := by decide +kernel
theorem dL_law_155 : decode cL_law 155 = .ok (.istore 6, 2) := by decide +kernel
theorem dL_law_157 : decode cL_law 157 = .ok (.aload_n 2, 1) := by decide +kernel
theorem dL_law_158 : decode cL_law 158 = .ok (.invokevirtual 91, 3) := by decide +kernel
theorem dL_law_161 : decode cL_law 161 = .ok (.iload 5, 2) := by decide +kernel
theorem dL_law_163 : decode cL_law 163 = .ok (.if_icmp .eq 5, 3) := by decide +kernel
theorem dL_law_166 : decode cL_law 166 = .ok (.iconst 0, 1) := by decide +kernel
theorem dL_law_167 : decode cL_law 167 = .ok (.ireturn, 1) := by decide +kernel
theorem dL_law_168 : decode cL_law 168 = .ok (.iload 5, 2) := by decide +kernel
theorem dL_law_170 : decode cL_law 170 = .ok (.ifCond .ne 15, 3) := by decide +kernel
theorem dL_law_173 : decode cL_law 173 = .ok (.aload_n 3, 1) := by decide +kernel
theorem dL_law_174 : decode cL_law 174 = .ok (.iconst 0, 1) := by decide +kernel
theorem dL_law_175 : decode cL_law 175 = .ok (.laload, 1) := by decide +kernel
theorem dL_law_176 : decode cL_law 176 = .ok (.iload 6, 2) := by decide +kernel
theorem dL_law_178 : decode cL_law 178 = .ok (.i2l, 1) := by decide +kernel
theorem dL_law_179 : decode cL_law 179 = .ok (.lcmp, 1) := by decide +kernel
theorem dL_law_180 : decode cL_law 180 = .ok (.ifCond .eq 5, 3) := by decide +kernel
theorem dL_law_183 : decode cL_law 183 = .ok (.iconst 0, 1) := by decide +kernel
theorem dL_law_184 : decode cL_law 184 = .ok (.ireturn, 1) := by decide +kernel
theorem dL_law_185 : decode cL_law 185 = .ok (.goto 1325, 3) := by decide +kernel
theorem dL_law_188 : decode cL_law 188 = .ok (.aload_n 1, 1) := by decide +kernel
theorem dL_law_189 : decode cL_law 189 = .ok (.aload_n 0, 1) := by decide +kernel
theorem dL_law_190 : decode cL_law 190 = .ok (.iload 4, 2) := by decide +kernel
theorem dL_law_192 : decode cL_law 192 = .ok (.iconst 1, 1) := by decide +kernel
theorem dL_law_193 : decode cL_law 193 = .ok (.iadd, 1) := by decide +kernel
theorem dL_law_194 : decode cL_law 194 = .ok (.iaload, 1) := by decide +kernel
theorem dL_law_195 : decode cL_law 195 = .ok (.aload_n 0, 1) := by decide +kernel
theorem dL_law_196 : decode cL_law 196 = .ok (.iload 4, 2) := by decide +kernel
theorem dL_law_198 : decode cL_law 198 = .ok (.iconst 2, 1) := by decide +kernel
theorem dL_law_199 : decode cL_law 199 = .ok (.iadd, 1) := by decide +kernel
theorem dL_law_200 : decode cL_law 200 = .ok (.iaload, 1) := by decide +kernel
theorem dL_law_201 : decode cL_law 201 = .ok (.aload_n 3, 1) := by decide +kernel
theorem dL_law_202 : decode cL_law 202 = .ok (.invokestatic 94, 3) := by decide +kernel
theorem dL_law_205 : decode cL_law 205 = .ok (.istore 5, 2) := by decide +kernel
theorem dL_law_207 : decode cL_law 207 = .ok (.aload_n 2, 1) := by decide +kernel
theorem dL_law_208 : decode cL_law 208 = .ok (.aload_n 0, 1) := by decide +kernel
theorem dL_law_209 : decode cL_law 209 = .ok (.iload 4, 2) := by decide +kernel
theorem dL_law_211 : decode cL_law 211 = .ok (.iconst 1, 1) := by decide +kernel
theorem dL_law_212 : decode cL_law 212 = .ok (.iadd, 1) := by decide +kernel
theorem dL_law_213 : decode cL_law 213 = .ok (.iaload, 1) := by decide +kernel
theorem dL_law_214 : decode cL_law 214 = .ok (.aload_n 0, 1) := by decide +kernel
theorem dL_law_215 : decode cL_law 215 = .ok (.iload 4, 2) := by decide +kernel
theorem dL_law_217 : decode cL_law 217 = .ok (.iconst 2, 1) := by decide +kernel
theorem dL_law_218 : decode cL_law 218 = .ok (.iadd, 1) := by decide +kernel
theorem dL_law_219 : decode cL_law 219 = .ok (.iaload, 1) := by decide +kernel
theorem dL_law_220 : decode cL_law 220 = .ok (.invokevirtual 97, 3) := by decide +kernel
theorem dL_law_223 : decode cL_law 223 = .ok (.istore 6, 2) := by decide +kernel
theorem dL_law_225 : decode cL_law 225 = .ok (.aload_n 2, 1) := by decide +kernel
theorem dL_law_226 : decode cL_law 226 = .ok (.invokevirtual 91, 3) := by decide +kernel
theorem dL_law_229 : decode cL_law 229 = .ok (.iload 5, 2) := by decide +kernel
theorem dL_law_231 : decode cL_law 231 = .ok (.if_icmp .eq 5, 3) := by decide +kernel
theorem dL_law_234 : decode cL_law 234 = .ok (.iconst 0, 1) := by decide +kernel
theorem dL_law_235 : decode cL_law 235 = .ok (.ireturn, 1) := by decide +kernel
theorem dL_law_236 : decode cL_law 236 = .ok (.iload 5, 2) := by decide +kernel
theorem dL_law_238 : decode cL_law 238 = .ok (.ifCond .ne 15, 3) := by decide +kernel
theorem dL_law_241 : decode cL_law 241 = .ok (.aload_n 3, 1) := by decide +kernel
theorem dL_law_242 : decode cL_law 242 = .ok (.iconst 0, 1) := by decide +kernel
theorem dL_law_243 : decode cL_law 243 = .ok (.laload, 1) := by decide +kernel
theorem dL_law_244 : decode cL_law 244 = .ok (.iload 6, 2) := by decide +kernel
theorem dL_law_246 : decode cL_law 246 = .ok (.i2l, 1) := by decide +kernel
theorem dL_law_247 : decode cL_law 247 = .ok (.lcmp, 1) := by decide +kernel
theorem dL_law_248 : decode cL_law 248 = .ok (.ifCond .eq 5, 3) := by decide +kernel
theorem dL_law_251 : decode cL_law 251 = .ok (.iconst 0, 1) := by decide +kernel
theorem dL_law_252 : decode cL_law 252 = .ok (.ireturn, 1) := by decide +kernel
theorem dL_law_253 : decode cL_law 253 = .ok (.goto 1257, 3) := by decide +kernel
theorem dL_law_256 : decode cL_law 256 = .ok (.aload_n 1, 1) := by decide +kernel
theorem dL_law_257 : decode cL_law 257 = .ok (.aload_n 0, 1) := by decide +kernel
theorem dL_law_258 : decode cL_law 258 = .ok (.iload 4, 2) := by decide +kernel
theorem dL_law_260 : decode cL_law 260 = .ok (.iconst 1, 1) := by decide +kernel
theorem dL_law_261 : decode cL_law 261 = .ok (.iadd, 1) := by decide +kernel
theorem dL_law_262 : decode cL_law 262 = .ok (.iaload, 1) := by decide +kernel
theorem dL_law_263 : decode cL_law 263 = .ok (.aload_n 0, 1) := by decide +kernel
theorem dL_law_264 : decode cL_law 264 = .ok (.iload 4, 2) := by decide +kernel
theorem dL_law_266 : decode cL_law 266 = .ok (.iconst 2, 1) := by decide +kernel
theorem dL_law_267 : decode cL_law 267 = .ok (.iadd, 1) := by decide +kernel
theorem dL_law_268 : decode cL_law 268 = .ok (.iaload, 1) := by decide +kernel
theorem dL_law_269 : decode cL_law 269 = .ok (.invokestatic 98, 3) := by decide +kernel
theorem dL_law_272 : decode cL_law 272 = .ok (.istore 5, 2) := by decide +kernel
theorem dL_law_274 : decode cL_law 274 = .ok (.aload_n 2, 1) := by decide +kernel
theorem dL_law_275 : decode cL_law 275 = .ok (.aload_n 0, 1) := by decide +kernel
theorem dL_law_276 : decode cL_law 276 = .ok (.iload 4, 2) := by decide +kernel
theorem dL_law_278 : decode cL_law 278 = .ok (.iconst 1, 1) := by decide +kernel
theorem dL_law_279 : decode cL_law 279 = .ok (.iadd, 1) := by decide +kernel
theorem dL_law_280 : decode cL_law 280 = .ok (.iaload, 1) := by decide +kernel
theorem dL_law_281 : decode cL_law 281 = .ok (.aload_n 0, 1) := by decide +kernel
theorem dL_law_282 : decode cL_law 282 = .ok (.iload 4, 2) := by decide +kernel
theorem dL_law_284 : decode cL_law 284 = .ok (.iconst 2, 1) := by decide +kernel
theorem dL_law_285 : decode cL_law 285 = .ok (.iadd, 1) := by decide +kernel
theorem dL_law_286 : decode cL_law 286 = .ok (.iaload, 1) := by decide +kernel
theorem dL_law_287 : decode cL_law 287 = .ok (.invokevirtual 101, 3) := by decide +kernel
theorem dL_law_290 : decode cL_law 290 = .ok (.aload_n 2, 1) := by decide +kernel
theorem dL_law_291 : decode cL_law 291 = .ok (.invokevirtual 91, 3) := by decide +kernel
theorem dL_law_294 : decode cL_law 294 = .ok (.iload 5, 2) := by decide +kernel
theorem dL_law_296 : decode cL_law 296 = .ok (.if_icmp .eq 5, 3) := by decide +kernel
theorem dL_law_299 : decode cL_law 299 = .ok (.iconst 0, 1) := by decide +kernel
theorem dL_law_300 : decode cL_law 300 = .ok (.ireturn, 1) := by decide +kernel
theorem dL_law_301 : decode cL_law 301 = .ok (.goto 1209, 3) := by decide +kernel
theorem dL_law_304 : decode cL_law 304 = .ok (.aload_n 1, 1) := by decide +kernel
theorem dL_law_305 : decode cL_law 305 = .ok (.aload_n 0, 1) := by decide +kernel
theorem dL_law_306 : decode cL_law 306 = .ok (.iload 4, 2) := by decide +kernel
theorem dL_law_308 : decode cL_law 308 = .ok (.iconst 1, 1) := by decide +kernel
theorem dL_law_309 : decode cL_law 309 = .ok (.iadd, 1) := by decide +kernel
theorem dL_law_310 : decode cL_law 310 = .ok (.iaload, 1) := by decide +kernel
theorem dL_law_311 : decode cL_law 311 = .ok (.aload_n 0, 1) := by decide +kernel
theorem dL_law_312 : decode cL_law 312 = .ok (.iload 4, 2) := by decide +kernel
theorem dL_law_314 : decode cL_law 314 = .ok (.iconst 2, 1) := by decide +kernel
theorem dL_law_315 : decode cL_law 315 = .ok (.iadd, 1) := by decide +kernel
theorem dL_law_316 : decode cL_law 316 = .ok (.iaload, 1) := by decide +kernel
theorem dL_law_317 : decode cL_law 317 = .ok (.aload_n 3, 1) := by decide +kernel
theorem dL_law_318 : decode cL_law 318 = .ok (.invokestatic 102, 3) := by decide +kernel
theorem dL_law_321 : decode cL_law 321 = .ok (.istore 5, 2) := by decide +kernel
theorem dL_law_323 : decode cL_law 323 = .ok (.aload_n 2, 1) := by decide +kernel
theorem dL_law_324 : decode cL_law 324 = .ok (.aload_n 0, 1) := by decide +kernel
theorem dL_law_325 : decode cL_law 325 = .ok (.iload 4, 2) := by decide +kernel
theorem dL_law_327 : decode cL_law 327 = .ok (.iconst 1, 1) := by decide +kernel
theorem dL_law_328 : decode cL_law 328 = .ok (.iadd, 1) := by decide +kernel
theorem dL_law_329 : decode cL_law 329 = .ok (.iaload, 1) := by decide +kernel
theorem dL_law_330 : decode cL_law 330 = .ok (.aload_n 0, 1) := by decide +kernel
theorem dL_law_331 : decode cL_law 331 = .ok (.iload 4, 2) := by decide +kernel
theorem dL_law_333 : decode cL_law 333 = .ok (.iconst 2, 1) := by decide +kernel
theorem dL_law_334 : decode cL_law 334 = .ok (.iadd, 1) := by decide +kernel
theorem dL_law_335 : decode cL_law 335 = .ok (.iaload, 1) := by decide +kernel
theorem dL_law_336 : decode cL_law 336 = .ok (.invokevirtual 104, 3) := by decide +kernel
theorem dL_law_339 : decode cL_law 339 = .ok (.istore 6, 2) := by decide +kernel
theorem dL_law_341 : decode cL_law 341 = .ok (.aload_n 2, 1) := by decide +kernel
theorem dL_law_342 : decode cL_law 342 = .ok (.invokevirtual 91, 3) := by decide +kernel
theorem dL_law_345 : decode cL_law 345 = .ok (.iload 5, 2) := by decide +kernel
theorem dL_law_347 : decode cL_law 347 = .ok (.if_icmp .eq 5, 3) := by decide +kernel
theorem dL_law_350 : decode cL_law 350 = .ok (.iconst 0, 1) := by decide +kernel
theorem dL_law_351 : decode cL_law 351 = .ok (.ireturn, 1) := by decide +kernel
theorem dL_law_352 : decode cL_law 352 = .ok (.iload 5, 2) := by decide +kernel
theorem dL_law_354 : decode cL_law 354 = .ok (.ifCond .ne 15, 3) := by decide +kernel
theorem dL_law_357 : decode cL_law 357 = .ok (.aload_n 3, 1) := by decide +kernel
theorem dL_law_358 : decode cL_law 358 = .ok (.iconst 0, 1) := by decide +kernel
theorem dL_law_359 : decode cL_law 359 = .ok (.laload, 1) := by decide +kernel
theorem dL_law_360 : decode cL_law 360 = .ok (.iload 6, 2) := by decide +kernel
theorem dL_law_362 : decode cL_law 362 = .ok (.i2l, 1) := by decide +kernel
theorem dL_law_363 : decode cL_law 363 = .ok (.lcmp, 1) := by decide +kernel
theorem dL_law_364 : decode cL_law 364 = .ok (.ifCond .eq 5, 3) := by decide +kernel
theorem dL_law_367 : decode cL_law 367 = .ok (.iconst 0, 1) := by decide +kernel
theorem dL_law_368 : decode cL_law 368 = .ok (.ireturn, 1) := by decide +kernel
theorem dL_law_369 : decode cL_law 369 = .ok (.goto 1141, 3) := by decide +kernel
theorem dL_law_372 : decode cL_law 372 = .ok (.aload_n 1, 1) := by decide +kernel
theorem dL_law_373 : decode cL_law 373 = .ok (.aload_n 0, 1) := by decide +kernel
theorem dL_law_374 : decode cL_law 374 = .ok (.iload 4, 2) := by decide +kernel
theorem dL_law_376 : decode cL_law 376 = .ok (.iconst 1, 1) := by decide +kernel
theorem dL_law_377 : decode cL_law 377 = .ok (.iadd, 1) := by decide +kernel
theorem dL_law_378 : decode cL_law 378 = .ok (.iaload, 1) := by decide +kernel
theorem dL_law_379 : decode cL_law 379 = .ok (.aload_n 0, 1) := by decide +kernel
theorem dL_law_380 : decode cL_law 380 = .ok (.iload 4, 2) := by decide +kernel
theorem dL_law_382 : decode cL_law 382 = .ok (.iconst 2, 1) := by decide +kernel
theorem dL_law_383 : decode cL_law 383 = .ok (.iadd, 1) := by decide +kernel
theorem dL_law_384 : decode cL_law 384 = .ok (.iaload, 1) := by decide +kernel
theorem dL_law_385 : decode cL_law 385 = .ok (.aload_n 0, 1) := by decide +kernel
theorem dL_law_386 : decode cL_law 386 = .ok (.iload 4, 2) := by decide +kernel
theorem dL_law_388 : decode cL_law 388 = .ok (.iconst 3, 1) := by decide +kernel
theorem dL_law_389 : decode cL_law 389 = .ok (.iadd, 1) := by decide +kernel
theorem dL_law_390 : decode cL_law 390 = .ok (.iaload, 1) := by decide +kernel
theorem dL_law_391 : decode cL_law 391 = .ok (.aload_n 3, 1) := by decide +kernel
theorem dL_law_392 : decode cL_law 392 = .ok (.invokestatic 105, 3) := by decide +kernel
theorem dL_law_395 : decode cL_law 395 = .ok (.istore 5, 2) := by decide +kernel
theorem dL_law_397 : decode cL_law 397 = .ok (.aload_n 2, 1) := by decide +kernel
theorem dL_law_398 : decode cL_law 398 = .ok (.aload_n 0, 1) := by decide +kernel
theorem dL_law_399 : decode cL_law 399 = .ok (.iload 4, 2) := by decide +kernel
theorem dL_law_401 : decode cL_law 401 = .ok (.iconst 1, 1) := by decide +kernel
theorem dL_law_402 : decode cL_law 402 = .ok (.iadd, 1) := by decide +kernel
theorem dL_law_403 : decode cL_law 403 = .ok (.iaload, 1) := by decide +kernel
theorem dL_law_404 : decode cL_law 404 = .ok (.aload_n 0, 1) := by decide +kernel
theorem dL_law_405 : decode cL_law 405 = .ok (.iload 4, 2) := by decide +kernel
theorem dL_law_407 : decode cL_law 407 = .ok (.iconst 2, 1) := by decide +kernel
theorem dL_law_408 : decode cL_law 408 = .ok (.iadd, 1) := by decide +kernel
theorem dL_law_409 : decode cL_law 409 = .ok (.iaload, 1) := by decide +kernel
theorem dL_law_410 : decode cL_law 410 = .ok (.aload_n 0, 1) := by decide +kernel
theorem dL_law_411 : decode cL_law 411 = .ok (.iload 4, 2) := by decide +kernel
theorem dL_law_413 : decode cL_law 413 = .ok (.iconst 3, 1) := by decide +kernel
theorem dL_law_414 : decode cL_law 414 = .ok (.iadd, 1) := by decide +kernel
theorem dL_law_415 : decode cL_law 415 = .ok (.iaload, 1) := by decide +kernel
theorem dL_law_416 : decode cL_law 416 = .ok (.invokevirtual 108, 3) := by decide +kernel
theorem dL_law_419 : decode cL_law 419 = .ok (.istore 6, 2) := by decide +kernel
theorem dL_law_421 : decode cL_law 421 = .ok (.aload_n 2, 1) := by decide +kernel
theorem dL_law_422 : decode cL_law 422 = .ok (.invokevirtual 91, 3) := by decide +kernel
theorem dL_law_425 : decode cL_law 425 = .ok (.iload 5, 2) := by decide +kernel
theorem dL_law_427 : decode cL_law 427 = .ok (.if_icmp .eq 5, 3) := by decide +kernel
theorem dL_law_430 : decode cL_law 430 = .ok (.iconst 0, 1) := by decide +kernel
theorem dL_law_431 : decode cL_law 431 = .ok (.ireturn, 1) := by decide +kernel
theorem dL_law_432 : decode cL_law 432 = .ok (.iload 5, 2) := by decide +kernel
theorem dL_law_434 : decode cL_law 434 = .ok (.ifCond .ne 15, 3) := by decide +kernel
theorem dL_law_437 : decode cL_law 437 = .ok (.aload_n 3, 1) := by decide +kernel
theorem dL_law_438 : decode cL_law 438 = .ok (.iconst 0, 1) := by decide +kernel
theorem dL_law_439 : decode cL_law 439 = .ok (.laload, 1) := by decide +kernel
theorem dL_law_440 : decode cL_law 440 = .ok (.iload 6, 2) := by decide +kernel
theorem dL_law_442 : decode cL_law 442 = .ok (.i2l, 1) := by decide +kernel
theorem dL_law_443 : decode cL_law 443 = .ok (.lcmp, 1) := by decide +kernel
theorem dL_law_444 : decode cL_law 444 = .ok (.ifCond .eq 5, 3) := by decide +kernel
theorem dL_law_447 : decode cL_law 447 = .ok (.iconst 0, 1) := by decide +kernel
theorem dL_law_448 : decode cL_law 448 = .ok (.ireturn, 1) := by decide +kernel
theorem dL_law_449 : decode cL_law 449 = .ok (.goto 1061, 3) := by decide +kernel
theorem dL_law_452 : decode cL_law 452 = .ok (.aload_n 1, 1) := by decide +kernel
theorem dL_law_453 : decode cL_law 453 = .ok (.aload_n 0, 1) := by decide +kernel
theorem dL_law_454 : decode cL_law 454 = .ok (.iload 4, 2) := by decide +kernel
theorem dL_law_456 : decode cL_law 456 = .ok (.iconst 1, 1) := by decide +kernel
theorem dL_law_457 : decode cL_law 457 = .ok (.iadd, 1) := by decide +kernel
theorem dL_law_458 : decode cL_law 458 = .ok (.iaload, 1) := by decide +kernel
theorem dL_law_459 : decode cL_law 459 = .ok (.aload_n 3, 1) := by decide +kernel
theorem dL_law_460 : decode cL_law 460 = .ok (.invokestatic 109, 3) := by decide +kernel
theorem dL_law_463 : decode cL_law 463 = .ok (.istore 5, 2) := by decide +kernel
theorem dL_law_465 : decode cL_law 465 = .ok (.aload_n 2, 1) := by decide +kernel
theorem dL_law_466 : decode cL_law 466 = .ok (.aload_n 0, 1) := by decide +kernel
theorem dL_law_467 : decode cL_law 467 = .ok (.iload 4, 2) := by decide +kernel
theorem dL_law_469 : decode cL_law 469 = .ok (.iconst 1, 1) := by decide +kernel
theorem dL_law_470 : decode cL_law 470 = .ok (.iadd, 1) := by decide +kernel
theorem dL_law_471 : decode cL_law 471 = .ok (.iaload, 1) := by decide +kernel
theorem dL_law_472 : decode cL_law 472 = .ok (.invokevirtual 112, 3) := by decide +kernel
theorem dL_law_475 : decode cL_law 475 = .ok (.istore 6, 2) := by decide +kernel
theorem dL_law_477 : decode cL_law 477 = .ok (.aload_n 2, 1) := by decide +kernel
theorem dL_law_478 : decode cL_law 478 = .ok (.invokevirtual 91, 3) := by decide +kernel
theorem dL_law_481 : decode cL_law 481 = .ok (.iload 5, 2) := by decide +kernel
theorem dL_law_483 : decode cL_law 483 = .ok (.if_icmp .eq 5, 3) := by decide +kernel
theorem dL_law_486 : decode cL_law 486 = .ok (.iconst 0, 1) := by decide +kernel
theorem dL_law_487 : decode cL_law 487 = .ok (.ireturn, 1) := by decide +kernel
theorem dL_law_488 : decode cL_law 488 = .ok (.iload 5, 2) := by decide +kernel
theorem dL_law_490 : decode cL_law 490 = .ok (.ifCond .ne 15, 3) := by decide +kernel
theorem dL_law_493 : decode cL_law 493 = .ok (.aload_n 3, 1) := by decide +kernel
theorem dL_law_494 : decode cL_law 494 = .ok (.iconst 0, 1) := by decide +kernel
theorem dL_law_495 : decode cL_law 495 = .ok (.laload, 1) := by decide +kernel
theorem dL_law_496 : decode cL_law 496 = .ok (.iload 6, 2) := by decide +kernel
theorem dL_law_498 : decode cL_law 498 = .ok (.i2l, 1) := by decide +kernel
theorem dL_law_499 : decode cL_law 499 = .ok (.lcmp, 1) := by decide +kernel
theorem dL_law_500 : decode cL_law 500 = .ok (.ifCond .eq 5, 3) := by decide +kernel
theorem dL_law_503 : decode cL_law 503 = .ok (.iconst 0, 1) := by decide +kernel
theorem dL_law_504 : decode cL_law 504 = .ok (.ireturn, 1) := by decide +kernel
theorem dL_law_505 : decode cL_law 505 = .ok (.goto 1005, 3) := by decide +kernel
theorem dL_law_508 : decode cL_law 508 = .ok (.aload_n 1, 1) := by decide +kernel
theorem dL_law_509 : decode cL_law 509 = .ok (.invokevirtual 113, 3) := by decide +kernel
theorem dL_law_512 : decode cL_law 512 = .ok (.aload_n 2, 1) := by decide +kernel
theorem dL_law_513 : decode cL_law 513 = .ok (.invokevirtual 116, 3) := by decide +kernel
theorem dL_law_516 : decode cL_law 516 = .ok (.if_icmp .eq 994, 3) := by decide +kernel
theorem dL_law_519 : decode cL_law 519 = .ok (.iconst 0, 1) := by decide +kernel
theorem dL_law_520 : decode cL_law 520 = .ok (.ireturn, 1) := by decide +kernel
theorem dL_law_521 : decode cL_law 521 = .ok (.aload_n 1, 1) := by decide +kernel
theorem dL_law_522 : decode cL_law 522 = .ok (.aload_n 0, 1) := by decide +kernel
theorem dL_law_523 : decode cL_law 523 = .ok (.iload 4, 2) := by decide +kernel
theorem dL_law_525 : decode cL_law 525 = .ok (.iconst 1, 1) := by decide +kernel
theorem dL_law_526 : decode cL_law 526 = .ok (.iadd, 1) := by decide +kernel
theorem dL_law_527 : decode cL_law 527 = .ok (.iaload, 1) := by decide +kernel
theorem dL_law_528 : decode cL_law 528 = .ok (.aload_n 0, 1) := by decide +kernel
theorem dL_law_529 : decode cL_law 529 = .ok (.iload 4, 2) := by decide +kernel
theorem dL_law_531 : decode cL_law 531 = .ok (.iconst 2, 1) := by decide +kernel
theorem dL_law_532 : decode cL_law 532 = .ok (.iadd, 1) := by decide +kernel
theorem dL_law_533 : decode cL_law 533 = .ok (.iaload, 1) := by decide +kernel
theorem dL_law_534 : decode cL_law 534 = .ok (.aload_n 3, 1) := by decide +kernel
theorem dL_law_535 : decode cL_law 535 = .ok (.invokestatic 117, 3) := by decide +kernel
theorem dL_law_538 : decode cL_law 538 = .ok (.istore 5, 2) := by decide +kernel
theorem dL_law_540 : decode cL_law 540 = .ok (.aload_n 2, 1) := by decide +kernel
theorem dL_law_541 : decode cL_law 541 = .ok (.aload_n 0, 1) := by decide +kernel
theorem dL_law_542 : decode cL_law 542 = .ok (.iload 4, 2) := by decide +kernel
theorem dL_law_544 : decode cL_law 544 = .ok (.iconst 1, 1) := by decide +kernel
theorem dL_law_545 : decode cL_law 545 = .ok (.iadd, 1) := by decide +kernel
theorem dL_law_546 : decode cL_law 546 = .ok (.iaload, 1) := by decide +kernel
theorem dL_law_547 : decode cL_law 547 = .ok (.aload_n 0, 1) := by decide +kernel
theorem dL_law_548 : decode cL_law 548 = .ok (.iload 4, 2) := by decide +kernel
theorem dL_law_550 : decode cL_law 550 = .ok (.iconst 2, 1) := by decide +kernel
theorem dL_law_551 : decode cL_law 551 = .ok (.iadd, 1) := by decide +kernel
theorem dL_law_552 : decode cL_law 552 = .ok (.iaload, 1) := by decide +kernel
theorem dL_law_553 : decode cL_law 553 = .ok (.invokevirtual 119, 3) := by decide +kernel
theorem dL_law_556 : decode cL_law 556 = .ok (.istore 6, 2) := by decide +kernel
theorem dL_law_558 : decode cL_law 558 = .ok (.aload_n 2, 1) := by decide +kernel
theorem dL_law_559 : decode cL_law 559 = .ok (.invokevirtual 91, 3) := by decide +kernel
theorem dL_law_562 : decode cL_law 562 = .ok (.iload 5, 2) := by decide +kernel
theorem dL_law_564 : decode cL_law 564 = .ok (.if_icmp .eq 5, 3) := by decide +kernel
theorem dL_law_567 : decode cL_law 567 = .ok (.iconst 0, 1) := by decide +kernel
theorem dL_law_568 : decode cL_law 568 = .ok (.ireturn, 1) := by decide +kernel
theorem dL_law_569 : decode cL_law 569 = .ok (.iload 5, 2) := by decide +kernel
theorem dL_law_571 : decode cL_law 571 = .ok (.ifCond .ne 15, 3) := by decide +kernel
theorem dL_law_574 : decode cL_law 574 = .ok (.aload_n 3, 1) := by decide +kernel
theorem dL_law_575 : decode cL_law 575 = .ok (.iconst 0, 1) := by decide +kernel
theorem dL_law_576 : decode cL_law 576 = .ok (.laload, 1) := by decide +kernel
theorem dL_law_577 : decode cL_law 577 = .ok (.iload 6, 2) := by decide +kernel
theorem dL_law_579 : decode cL_law 579 = .ok (.i2l, 1) := by decide +kernel
theorem dL_law_580 : decode cL_law 580 = .ok (.lcmp, 1) := by decide +kernel
theorem dL_law_581 : decode cL_law 581 = .ok (.ifCond .eq 5, 3) := by decide +kernel
theorem dL_law_584 : decode cL_law 584 = .ok (.iconst 0, 1) := by decide +kernel
theorem dL_law_585 : decode cL_law 585 = .ok (.ireturn, 1) := by decide +kernel
theorem dL_law_586 : decode cL_law 586 = .ok (.goto 924, 3) := by decide +kernel
theorem dL_law_589 : decode cL_law 589 = .ok (.aload_n 1, 1) := by decide +kernel
theorem dL_law_590 : decode cL_law 590 = .ok (.aload_n 0, 1) := by decide +kernel
theorem dL_law_591 : decode cL_law 591 = .ok (.iload 4, 2) := by decide +kernel
theorem dL_law_593 : decode cL_law 593 = .ok (.iconst 1, 1) := by decide +kernel
theorem dL_law_594 : decode cL_law 594 = .ok (.iadd, 1) := by decide +kernel
theorem dL_law_595 : decode cL_law 595 = .ok (.iaload, 1) := by decide +kernel
theorem dL_law_596 : decode cL_law 596 = .ok (.aload_n 0, 1) := by decide +kernel
theorem dL_law_597 : decode cL_law 597 = .ok (.iload 4, 2) := by decide +kernel
theorem dL_law_599 : decode cL_law 599 = .ok (.iconst 2, 1) := by decide +kernel
theorem dL_law_600 : decode cL_law 600 = .ok (.iadd, 1) := by decide +kernel
theorem dL_law_601 : decode cL_law 601 = .ok (.iaload, 1) := by decide +kernel
theorem dL_law_602 : decode cL_law 602 = .ok (.aload_n 3, 1) := by decide +kernel
theorem dL_law_603 : decode cL_law 603 = .ok (.invokestatic 120, 3) := by decide +kernel
theorem dL_law_606 : decode cL_law 606 = .ok (.istore 5, 2) := by decide +kernel
theorem dL_law_608 : decode cL_law 608 = .ok (.aload_n 2, 1) := by decide +kernel
theorem dL_law_609 : decode cL_law 609 = .ok (.aload_n 0, 1) := by decide +kernel
theorem dL_law_610 : decode cL_law 610 = .ok (.iload 4, 2) := by decide +kernel
theorem dL_law_612 : decode cL_law 612 = .ok (.iconst 1, 1) := by decide +kernel
theorem dL_law_613 : decode cL_law 613 = .ok (.iadd, 1) := by decide +kernel
theorem dL_law_614 : decode cL_law 614 = .ok (.iaload, 1) := by decide +kernel
theorem dL_law_615 : decode cL_law 615 = .ok (.aload_n 0, 1) := by decide +kernel
theorem dL_law_616 : decode cL_law 616 = .ok (.iload 4, 2) := by decide +kernel
theorem dL_law_618 : decode cL_law 618 = .ok (.iconst 2, 1) := by decide +kernel
theorem dL_law_619 : decode cL_law 619 = .ok (.iadd, 1) := by decide +kernel
theorem dL_law_620 : decode cL_law 620 = .ok (.iaload, 1) := by decide +kernel
theorem dL_law_621 : decode cL_law 621 = .ok (.invokevirtual 122, 3) := by decide +kernel
theorem dL_law_624 : decode cL_law 624 = .ok (.istore 6, 2) := by decide +kernel
theorem dL_law_626 : decode cL_law 626 = .ok (.aload_n 2, 1) := by decide +kernel
theorem dL_law_627 : decode cL_law 627 = .ok (.invokevirtual 91, 3) := by decide +kernel
theorem dL_law_630 : decode cL_law 630 = .ok (.iload 5, 2) := by decide +kernel
theorem dL_law_632 : decode cL_law 632 = .ok (.if_icmp .eq 5, 3) := by decide +kernel
theorem dL_law_635 : decode cL_law 635 = .ok (.iconst 0, 1) := by decide +kernel
theorem dL_law_636 : decode cL_law 636 = .ok (.ireturn, 1) := by decide +kernel
theorem dL_law_637 : decode cL_law 637 = .ok (.iload 5, 2) := by decide +kernel
theorem dL_law_639 : decode cL_law 639 = .ok (.ifCond .ne 15, 3) := by decide +kernel
theorem dL_law_642 : decode cL_law 642 = .ok (.aload_n 3, 1) := by decide +kernel
theorem dL_law_643 : decode cL_law 643 = .ok (.iconst 0, 1) := by decide +kernel
theorem dL_law_644 : decode cL_law 644 = .ok (.laload, 1) := by decide +kernel
theorem dL_law_645 : decode cL_law 645 = .ok (.iload 6, 2) := by decide +kernel
theorem dL_law_647 : decode cL_law 647 = .ok (.i2l, 1) := by decide +kernel
theorem dL_law_648 : decode cL_law 648 = .ok (.lcmp, 1) := by decide +kernel
theorem dL_law_649 : decode cL_law 649 = .ok (.ifCond .eq 5, 3) := by decide +kernel
theorem dL_law_652 : decode cL_law 652 = .ok (.iconst 0, 1) := by decide +kernel
theorem dL_law_653 : decode cL_law 653 = .ok (.ireturn, 1) := by decide +kernel
theorem dL_law_654 : decode cL_law 654 = .ok (.goto 856, 3) := by decide +kernel
theorem dL_law_657 : decode cL_law 657 = .ok (.aload_n 1, 1) := by decide +kernel
theorem dL_law_658 : decode cL_law 658 = .ok (.aload_n 0, 1) := by decide +kernel
theorem dL_law_659 : decode cL_law 659 = .ok (.iload 4, 2) := by decide +kernel
theorem dL_law_661 : decode cL_law 661 = .ok (.iconst 1, 1) := by decide +kernel
theorem dL_law_662 : decode cL_law 662 = .ok (.iadd, 1) := by decide +kernel
theorem dL_law_663 : decode cL_law 663 = .ok (.iaload, 1) := by decide +kernel
theorem dL_law_664 : decode cL_law 664 = .ok (.aload_n 0, 1) := by decide +kernel
theorem dL_law_665 : decode cL_law 665 = .ok (.iload 4, 2) := by decide +kernel
theorem dL_law_667 : decode cL_law 667 = .ok (.iconst 2, 1) := by decide +kernel
theorem dL_law_668 : decode cL_law 668 = .ok (.iadd, 1) := by decide +kernel
theorem dL_law_669 : decode cL_law 669 = .ok (.iaload, 1) := by decide +kernel
theorem dL_law_670 : decode cL_law 670 = .ok (.aload_n 3, 1) := by decide +kernel
theorem dL_law_671 : decode cL_law 671 = .ok (.invokestatic 123, 3) := by decide +kernel
theorem dL_law_674 : decode cL_law 674 = .ok (.istore 5, 2) := by decide +kernel
theorem dL_law_676 : decode cL_law 676 = .ok (.aload_n 2, 1) := by decide +kernel
theorem dL_law_677 : decode cL_law 677 = .ok (.aload_n 0, 1) := by decide +kernel
theorem dL_law_678 : decode cL_law 678 = .ok (.iload 4, 2) := by decide +kernel
theorem dL_law_680 : decode cL_law 680 = .ok (.iconst 1, 1) := by decide +kernel
theorem dL_law_681 : decode cL_law 681 = .ok (.iadd, 1) := by decide +kernel
theorem dL_law_682 : decode cL_law 682 = .ok (.iaload, 1) := by decide +kernel
theorem dL_law_683 : decode cL_law 683 = .ok (.aload_n 0, 1) := by decide +kernel
theorem dL_law_684 : decode cL_law 684 = .ok (.iload 4, 2) := by decide +kernel
theorem dL_law_686 : decode cL_law 686 = .ok (.iconst 2, 1) := by decide +kernel
theorem dL_law_687 : decode cL_law 687 = .ok (.iadd, 1) := by decide +kernel
theorem dL_law_688 : decode cL_law 688 = .ok (.iaload, 1) := by decide +kernel
theorem dL_law_689 : decode cL_law 689 = .ok (.invokevirtual 125, 3) := by decide +kernel
theorem dL_law_692 : decode cL_law 692 = .ok (.istore 6, 2) := by decide +kernel
theorem dL_law_694 : decode cL_law 694 = .ok (.aload_n 2, 1) := by decide +kernel
theorem dL_law_695 : decode cL_law 695 = .ok (.invokevirtual 91, 3) := by decide +kernel
theorem dL_law_698 : decode cL_law 698 = .ok (.iload 5, 2) := by decide +kernel
theorem dL_law_700 : decode cL_law 700 = .ok (.if_icmp .eq 5, 3) := by decide +kernel
theorem dL_law_703 : decode cL_law 703 = .ok (.iconst 0, 1) := by decide +kernel
theorem dL_law_704 : decode cL_law 704 = .ok (.ireturn, 1) := by decide +kernel
theorem dL_law_705 : decode cL_law 705 = .ok (.iload 5, 2) := by decide +kernel
theorem dL_law_707 : decode cL_law 707 = .ok (.ifCond .ne 15, 3) := by decide +kernel
theorem dL_law_710 : decode cL_law 710 = .ok (.aload_n 3, 1) := by decide +kernel
theorem dL_law_711 : decode cL_law 711 = .ok (.iconst 0, 1) := by decide +kernel
theorem dL_law_712 : decode cL_law 712 = .ok (.laload, 1) := by decide +kernel
theorem dL_law_713 : decode cL_law 713 = .ok (.iload 6, 2) := by decide +kernel
theorem dL_law_715 : decode cL_law 715 = .ok (.i2l, 1) := by decide +kernel
theorem dL_law_716 : decode cL_law 716 = .ok (.lcmp, 1) := by decide +kernel
theorem dL_law_717 : decode cL_law 717 = .ok (.ifCond .eq 5, 3) := by decide +kernel
theorem dL_law_720 : decode cL_law 720 = .ok (.iconst 0, 1) := by decide +kernel
theorem dL_law_721 : decode cL_law 721 = .ok (.ireturn, 1) := by decide +kernel
theorem dL_law_722 : decode cL_law 722 = .ok (.goto 788, 3) := by decide +kernel
theorem dL_law_725 : decode cL_law 725 = .ok (.aload_n 1, 1) := by decide +kernel
theorem dL_law_726 : decode cL_law 726 = .ok (.aload_n 0, 1) := by decide +kernel
theorem dL_law_727 : decode cL_law 727 = .ok (.iload 4, 2) := by decide +kernel
theorem dL_law_729 : decode cL_law 729 = .ok (.iconst 1, 1) := by decide +kernel
theorem dL_law_730 : decode cL_law 730 = .ok (.iadd, 1) := by decide +kernel
theorem dL_law_731 : decode cL_law 731 = .ok (.iaload, 1) := by decide +kernel
theorem dL_law_732 : decode cL_law 732 = .ok (.aload_n 0, 1) := by decide +kernel
theorem dL_law_733 : decode cL_law 733 = .ok (.iload 4, 2) := by decide +kernel
theorem dL_law_735 : decode cL_law 735 = .ok (.iconst 2, 1) := by decide +kernel
theorem dL_law_736 : decode cL_law 736 = .ok (.iadd, 1) := by decide +kernel
theorem dL_law_737 : decode cL_law 737 = .ok (.iaload, 1) := by decide +kernel
theorem dL_law_738 : decode cL_law 738 = .ok (.aload_n 0, 1) := by decide +kernel
theorem dL_law_739 : decode cL_law 739 = .ok (.iload 4, 2) := by decide +kernel
theorem dL_law_741 : decode cL_law 741 = .ok (.iconst 3, 1) := by decide +kernel
theorem dL_law_742 : decode cL_law 742 = .ok (.iadd, 1) := by decide +kernel
theorem dL_law_743 : decode cL_law 743 = .ok (.iaload, 1) := by decide +kernel
theorem dL_law_744 : decode cL_law 744 = .ok (.aload_n 3, 1) := by decide +kernel
theorem dL_law_745 : decode cL_law 745 = .ok (.invokestatic 126, 3) := by decide +kernel
theorem dL_law_748 : decode cL_law 748 = .ok (.istore 5, 2) := by decide +kernel
theorem dL_law_750 : decode cL_law 750 = .ok (.aload_n 2, 1) := by decide +kernel
theorem dL_law_751 : decode cL_law 751 = .ok (.aload_n 0, 1) := by decide +kernel
theorem dL_law_752 : decode cL_law 752 = .ok (.iload 4, 2) := by decide +kernel
theorem dL_law_754 : decode cL_law 754 = .ok (.iconst 1, 1) := by decide +kernel
theorem dL_law_755 : decode cL_law 755 = .ok (.iadd, 1) := by decide +kernel
theorem dL_law_756 : decode cL_law 756 = .ok (.iaload, 1) := by decide +kernel
theorem dL_law_757 : decode cL_law 757 = .ok (.aload_n 0, 1) := by decide +kernel
theorem dL_law_758 : decode cL_law 758 = .ok (.iload 4, 2) := by decide +kernel
theorem dL_law_760 : decode cL_law 760 = .ok (.iconst 2, 1) := by decide +kernel
theorem dL_law_761 : decode cL_law 761 = .ok (.iadd, 1) := by decide +kernel
theorem dL_law_762 : decode cL_law 762 = .ok (.iaload, 1) := by decide +kernel
theorem dL_law_763 : decode cL_law 763 = .ok (.aload_n 0, 1) := by decide +kernel
theorem dL_law_764 : decode cL_law 764 = .ok (.iload 4, 2) := by decide +kernel
theorem dL_law_766 : decode cL_law 766 = .ok (.iconst 3, 1) := by decide +kernel
theorem dL_law_767 : decode cL_law 767 = .ok (.iadd, 1) := by decide +kernel
theorem dL_law_768 : decode cL_law 768 = .ok (.iaload, 1) := by decide +kernel
theorem dL_law_769 : decode cL_law 769 = .ok (.invokevirtual 128, 3) := by decide +kernel
theorem dL_law_772 : decode cL_law 772 = .ok (.istore 6, 2) := by decide +kernel
theorem dL_law_774 : decode cL_law 774 = .ok (.aload_n 2, 1) := by decide +kernel
theorem dL_law_775 : decode cL_law 775 = .ok (.invokevirtual 91, 3) := by decide +kernel
theorem dL_law_778 : decode cL_law 778 = .ok (.iload 5, 2) := by decide +kernel
theorem dL_law_780 : decode cL_law 780 = .ok (.if_icmp .eq 5, 3) := by decide +kernel
theorem dL_law_783 : decode cL_law 783 = .ok (.iconst 0, 1) := by decide +kernel
theorem dL_law_784 : decode cL_law 784 = .ok (.ireturn, 1) := by decide +kernel
theorem dL_law_785 : decode cL_law 785 = .ok (.iload 5, 2) := by decide +kernel
theorem dL_law_787 : decode cL_law 787 = .ok (.ifCond .ne 15, 3) := by decide +kernel
theorem dL_law_790 : decode cL_law 790 = .ok (.aload_n 3, 1) := by decide +kernel
theorem dL_law_791 : decode cL_law 791 = .ok (.iconst 0, 1) := by decide +kernel
theorem dL_law_792 : decode cL_law 792 = .ok (.laload, 1) := by decide +kernel
theorem dL_law_793 : decode cL_law 793 = .ok (.iload 6, 2) := by decide +kernel
theorem dL_law_795 : decode cL_law 795 = .ok (.i2l, 1) := by decide +kernel
theorem dL_law_796 : decode cL_law 796 = .ok (.lcmp, 1) := by decide +kernel
theorem dL_law_797 : decode cL_law 797 = .ok (.ifCond .eq 5, 3) := by decide +kernel
theorem dL_law_800 : decode cL_law 800 = .ok (.iconst 0, 1) := by decide +kernel
theorem dL_law_801 : decode cL_law 801 = .ok (.ireturn, 1) := by decide +kernel
theorem dL_law_802 : decode cL_law 802 = .ok (.goto 708, 3) := by decide +kernel
theorem dL_law_805 : decode cL_law 805 = .ok (.aload_n 1, 1) := by decide +kernel
theorem dL_law_806 : decode cL_law 806 = .ok (.aload_n 0, 1) := by decide +kernel
theorem dL_law_807 : decode cL_law 807 = .ok (.iload 4, 2) := by decide +kernel
theorem dL_law_809 : decode cL_law 809 = .ok (.iconst 1, 1) := by decide +kernel
theorem dL_law_810 : decode cL_law 810 = .ok (.iadd, 1) := by decide +kernel
theorem dL_law_811 : decode cL_law 811 = .ok (.iaload, 1) := by decide +kernel
theorem dL_law_812 : decode cL_law 812 = .ok (.aload_n 0, 1) := by decide +kernel
theorem dL_law_813 : decode cL_law 813 = .ok (.iload 4, 2) := by decide +kernel
theorem dL_law_815 : decode cL_law 815 = .ok (.iconst 2, 1) := by decide +kernel
theorem dL_law_816 : decode cL_law 816 = .ok (.iadd, 1) := by decide +kernel
theorem dL_law_817 : decode cL_law 817 = .ok (.iaload, 1) := by decide +kernel
theorem dL_law_818 : decode cL_law 818 = .ok (.aload_n 0, 1) := by decide +kernel
theorem dL_law_819 : decode cL_law 819 = .ok (.iload 4, 2) := by decide +kernel
theorem dL_law_821 : decode cL_law 821 = .ok (.iconst 3, 1) := by decide +kernel
theorem dL_law_822 : decode cL_law 822 = .ok (.iadd, 1) := by decide +kernel
theorem dL_law_823 : decode cL_law 823 = .ok (.iaload, 1) := by decide +kernel
theorem dL_law_824 : decode cL_law 824 = .ok (.aload_n 3, 1) := by decide +kernel
theorem dL_law_825 : decode cL_law 825 = .ok (.invokestatic 129, 3) := by decide +kernel
theorem dL_law_828 : decode cL_law 828 = .ok (.istore 5, 2) := by decide +kernel
theorem dL_law_830 : decode cL_law 830 = .ok (.aload_n 2, 1) := by decide +kernel
theorem dL_law_831 : decode cL_law 831 = .ok (.aload_n 0, 1) := by decide +kernel
theorem dL_law_832 : decode cL_law 832 = .ok (.iload 4, 2) := by decide +kernel
theorem dL_law_834 : decode cL_law 834 = .ok (.iconst 1, 1) := by decide +kernel
theorem dL_law_835 : decode cL_law 835 = .ok (.iadd, 1) := by decide +kernel
theorem dL_law_836 : decode cL_law 836 = .ok (.iaload, 1) := by decide +kernel
theorem dL_law_837 : decode cL_law 837 = .ok (.aload_n 0, 1) := by decide +kernel
theorem dL_law_838 : decode cL_law 838 = .ok (.iload 4, 2) := by decide +kernel
theorem dL_law_840 : decode cL_law 840 = .ok (.iconst 2, 1) := by decide +kernel
theorem dL_law_841 : decode cL_law 841 = .ok (.iadd, 1) := by decide +kernel
theorem dL_law_842 : decode cL_law 842 = .ok (.iaload, 1) := by decide +kernel
theorem dL_law_843 : decode cL_law 843 = .ok (.aload_n 0, 1) := by decide +kernel
theorem dL_law_844 : decode cL_law 844 = .ok (.iload 4, 2) := by decide +kernel
theorem dL_law_846 : decode cL_law 846 = .ok (.iconst 3, 1) := by decide +kernel
theorem dL_law_847 : decode cL_law 847 = .ok (.iadd, 1) := by decide +kernel
theorem dL_law_848 : decode cL_law 848 = .ok (.iaload, 1) := by decide +kernel
theorem dL_law_849 : decode cL_law 849 = .ok (.invokevirtual 131, 3) := by decide +kernel
theorem dL_law_852 : decode cL_law 852 = .ok (.istore 6, 2) := by decide +kernel
theorem dL_law_854 : decode cL_law 854 = .ok (.aload_n 2, 1) := by decide +kernel
theorem dL_law_855 : decode cL_law 855 = .ok (.invokevirtual 91, 3) := by decide +kernel
theorem dL_law_858 : decode cL_law 858 = .ok (.iload 5, 2) := by decide +kernel
theorem dL_law_860 : decode cL_law 860 = .ok (.if_icmp .eq 5, 3) := by decide +kernel
theorem dL_law_863 : decode cL_law 863 = .ok (.iconst 0, 1) := by decide +kernel
theorem dL_law_864 : decode cL_law 864 = .ok (.ireturn, 1) := by decide +kernel
theorem dL_law_865 : decode cL_law 865 = .ok (.iload 5, 2) := by decide +kernel
theorem dL_law_867 : decode cL_law 867 = .ok (.ifCond .ne 15, 3) := by decide +kernel
theorem dL_law_870 : decode cL_law 870 = .ok (.aload_n 3, 1) := by decide +kernel
theorem dL_law_871 : decode cL_law 871 = .ok (.iconst 0, 1) := by decide +kernel
theorem dL_law_872 : decode cL_law 872 = .ok (.laload, 1) := by decide +kernel
theorem dL_law_873 : decode cL_law 873 = .ok (.iload 6, 2) := by decide +kernel
theorem dL_law_875 : decode cL_law 875 = .ok (.i2l, 1) := by decide +kernel
theorem dL_law_876 : decode cL_law 876 = .ok (.lcmp, 1) := by decide +kernel
theorem dL_law_877 : decode cL_law 877 = .ok (.ifCond .eq 5, 3) := by decide +kernel
theorem dL_law_880 : decode cL_law 880 = .ok (.iconst 0, 1) := by decide +kernel
theorem dL_law_881 : decode cL_law 881 = .ok (.ireturn, 1) := by decide +kernel
theorem dL_law_882 : decode cL_law 882 = .ok (.goto 628, 3) := by decide +kernel
theorem dL_law_885 : decode cL_law 885 = .ok (.aload_n 1, 1) := by decide +kernel
theorem dL_law_886 : decode cL_law 886 = .ok (.aload_n 0, 1) := by decide +kernel
theorem dL_law_887 : decode cL_law 887 = .ok (.iload 4, 2) := by decide +kernel
theorem dL_law_889 : decode cL_law 889 = .ok (.iconst 1, 1) := by decide +kernel
theorem dL_law_890 : decode cL_law 890 = .ok (.iadd, 1) := by decide +kernel
theorem dL_law_891 : decode cL_law 891 = .ok (.iaload, 1) := by decide +kernel
theorem dL_law_892 : decode cL_law 892 = .ok (.aload_n 0, 1) := by decide +kernel
theorem dL_law_893 : decode cL_law 893 = .ok (.iload 4, 2) := by decide +kernel
theorem dL_law_895 : decode cL_law 895 = .ok (.iconst 2, 1) := by decide +kernel
theorem dL_law_896 : decode cL_law 896 = .ok (.iadd, 1) := by decide +kernel
theorem dL_law_897 : decode cL_law 897 = .ok (.iaload, 1) := by decide +kernel
theorem dL_law_898 : decode cL_law 898 = .ok (.aload_n 0, 1) := by decide +kernel
theorem dL_law_899 : decode cL_law 899 = .ok (.iload 4, 2) := by decide +kernel
theorem dL_law_901 : decode cL_law 901 = .ok (.iconst 3, 1) := by decide +kernel
theorem dL_law_902 : decode cL_law 902 = .ok (.iadd, 1) := by decide +kernel
theorem dL_law_903 : decode cL_law 903 = .ok (.iaload, 1) := by decide +kernel
theorem dL_law_904 : decode cL_law 904 = .ok (.aload_n 3, 1) := by decide +kernel
theorem dL_law_905 : decode cL_law 905 = .ok (.invokestatic 132, 3) := by decide +kernel
theorem dL_law_908 : decode cL_law 908 = .ok (.istore 5, 2) := by decide +kernel
theorem dL_law_910 : decode cL_law 910 = .ok (.aload_n 2, 1) := by decide +kernel
theorem dL_law_911 : decode cL_law 911 = .ok (.aload_n 0, 1) := by decide +kernel
theorem dL_law_912 : decode cL_law 912 = .ok (.iload 4, 2) := by decide +kernel
theorem dL_law_914 : decode cL_law 914 = .ok (.iconst 1, 1) := by decide +kernel
theorem dL_law_915 : decode cL_law 915 = .ok (.iadd, 1) := by decide +kernel
theorem dL_law_916 : decode cL_law 916 = .ok (.iaload, 1) := by decide +kernel
theorem dL_law_917 : decode cL_law 917 = .ok (.aload_n 0, 1) := by decide +kernel
theorem dL_law_918 : decode cL_law 918 = .ok (.iload 4, 2) := by decide +kernel
theorem dL_law_920 : decode cL_law 920 = .ok (.iconst 2, 1) := by decide +kernel
theorem dL_law_921 : decode cL_law 921 = .ok (.iadd, 1) := by decide +kernel
theorem dL_law_922 : decode cL_law 922 = .ok (.iaload, 1) := by decide +kernel
theorem dL_law_923 : decode cL_law 923 = .ok (.aload_n 0, 1) := by decide +kernel
theorem dL_law_924 : decode cL_law 924 = .ok (.iload 4, 2) := by decide +kernel
theorem dL_law_926 : decode cL_law 926 = .ok (.iconst 3, 1) := by decide +kernel
theorem dL_law_927 : decode cL_law 927 = .ok (.iadd, 1) := by decide +kernel
theorem dL_law_928 : decode cL_law 928 = .ok (.iaload, 1) := by decide +kernel
theorem dL_law_929 : decode cL_law 929 = .ok (.invokevirtual 134, 3) := by decide +kernel
theorem dL_law_932 : decode cL_law 932 = .ok (.istore 6, 2) := by decide +kernel
theorem dL_law_934 : decode cL_law 934 = .ok (.aload_n 2, 1) := by decide +kernel
theorem dL_law_935 : decode cL_law 935 = .ok (.invokevirtual 91, 3) := by decide +kernel
theorem dL_law_938 : decode cL_law 938 = .ok (.iload 5, 2) := by decide +kernel
theorem dL_law_940 : decode cL_law 940 = .ok (.if_icmp .eq 5, 3) := by decide +kernel
theorem dL_law_943 : decode cL_law 943 = .ok (.iconst 0, 1) := by decide +kernel
theorem dL_law_944 : decode cL_law 944 = .ok (.ireturn, 1) := by decide +kernel
theorem dL_law_945 : decode cL_law 945 = .ok (.iload 5, 2) := by decide +kernel
theorem dL_law_947 : decode cL_law 947 = .ok (.ifCond .ne 15, 3) := by decide +kernel
theorem dL_law_950 : decode cL_law 950 = .ok (.aload_n 3, 1) := by decide +kernel
theorem dL_law_951 : decode cL_law 951 = .ok (.iconst 0, 1) := by decide +kernel
theorem dL_law_952 : decode cL_law 952 = .ok (.laload, 1) := by decide +kernel
theorem dL_law_953 : decode cL_law 953 = .ok (.iload 6, 2) := by decide +kernel
theorem dL_law_955 : decode cL_law 955 = .ok (.i2l, 1) := by decide +kernel
theorem dL_law_956 : decode cL_law 956 = .ok (.lcmp, 1) := by decide +kernel
theorem dL_law_957 : decode cL_law 957 = .ok (.ifCond .eq 5, 3) := by decide +kernel
theorem dL_law_960 : decode cL_law 960 = .ok (.iconst 0, 1) := by decide +kernel
theorem dL_law_961 : decode cL_law 961 = .ok (.ireturn, 1) := by decide +kernel
theorem dL_law_962 : decode cL_law 962 = .ok (.goto 548, 3) := by decide +kernel
theorem dL_law_965 : decode cL_law 965 = .ok (.aload_n 1, 1) := by decide +kernel
theorem dL_law_966 : decode cL_law 966 = .ok (.aload_n 0, 1) := by decide +kernel
theorem dL_law_967 : decode cL_law 967 = .ok (.iload 4, 2) := by decide +kernel
theorem dL_law_969 : decode cL_law 969 = .ok (.iconst 1, 1) := by decide +kernel
theorem dL_law_970 : decode cL_law 970 = .ok (.iadd, 1) := by decide +kernel
theorem dL_law_971 : decode cL_law 971 = .ok (.iaload, 1) := by decide +kernel
theorem dL_law_972 : decode cL_law 972 = .ok (.aload_n 3, 1) := by decide +kernel
theorem dL_law_973 : decode cL_law 973 = .ok (.invokestatic 135, 3) := by decide +kernel
theorem dL_law_976 : decode cL_law 976 = .ok (.istore 5, 2) := by decide +kernel
theorem dL_law_978 : decode cL_law 978 = .ok (.aload_n 2, 1) := by decide +kernel
theorem dL_law_979 : decode cL_law 979 = .ok (.aload_n 0, 1) := by decide +kernel
theorem dL_law_980 : decode cL_law 980 = .ok (.iload 4, 2) := by decide +kernel
theorem dL_law_982 : decode cL_law 982 = .ok (.iconst 1, 1) := by decide +kernel
theorem dL_law_983 : decode cL_law 983 = .ok (.iadd, 1) := by decide +kernel
theorem dL_law_984 : decode cL_law 984 = .ok (.iaload, 1) := by decide +kernel
theorem dL_law_985 : decode cL_law 985 = .ok (.invokevirtual 137, 3) := by decide +kernel
theorem dL_law_988 : decode cL_law 988 = .ok (.istore 6, 2) := by decide +kernel
theorem dL_law_990 : decode cL_law 990 = .ok (.aload_n 2, 1) := by decide +kernel
theorem dL_law_991 : decode cL_law 991 = .ok (.invokevirtual 91, 3) := by decide +kernel
theorem dL_law_994 : decode cL_law 994 = .ok (.iload 5, 2) := by decide +kernel
theorem dL_law_996 : decode cL_law 996 = .ok (.if_icmp .eq 5, 3) := by decide +kernel
theorem dL_law_999 : decode cL_law 999 = .ok (.iconst 0, 1) := by decide +kernel
theorem dL_law_1000 : decode cL_law 1000 = .ok (.ireturn, 1) := by decide +kernel
theorem dL_law_1001 : decode cL_law 1001 = .ok (.iload 5, 2) := by decide +kernel
theorem dL_law_1003 : decode cL_law 1003 = .ok (.ifCond .ne 15, 3) := by decide +kernel
theorem dL_law_1006 : decode cL_law 1006 = .ok (.aload_n 3, 1) := by decide +kernel
theorem dL_law_1007 : decode cL_law 1007 = .ok (.iconst 0, 1) := by decide +kernel
theorem dL_law_1008 : decode cL_law 1008 = .ok (.laload, 1) := by decide +kernel
theorem dL_law_1009 : decode cL_law 1009 = .ok (.iload 6, 2) := by decide +kernel
theorem dL_law_1011 : decode cL_law 1011 = .ok (.i2l, 1) := by decide +kernel
theorem dL_law_1012 : decode cL_law 1012 = .ok (.lcmp, 1) := by decide +kernel
theorem dL_law_1013 : decode cL_law 1013 = .ok (.ifCond .eq 5, 3) := by decide +kernel
theorem dL_law_1016 : decode cL_law 1016 = .ok (.iconst 0, 1) := by decide +kernel
theorem dL_law_1017 : decode cL_law 1017 = .ok (.ireturn, 1) := by decide +kernel
theorem dL_law_1018 : decode cL_law 1018 = .ok (.goto 492, 3) := by decide +kernel
theorem dL_law_1021 : decode cL_law 1021 = .ok (.aload_n 1, 1) := by decide +kernel
theorem dL_law_1022 : decode cL_law 1022 = .ok (.aload_n 0, 1) := by decide +kernel
theorem dL_law_1023 : decode cL_law 1023 = .ok (.iload 4, 2) := by decide +kernel
theorem dL_law_1025 : decode cL_law 1025 = .ok (.iconst 1, 1) := by decide +kernel
theorem dL_law_1026 : decode cL_law 1026 = .ok (.iadd, 1) := by decide +kernel
theorem dL_law_1027 : decode cL_law 1027 = .ok (.iaload, 1) := by decide +kernel
theorem dL_law_1028 : decode cL_law 1028 = .ok (.aload_n 3, 1) := by decide +kernel
theorem dL_law_1029 : decode cL_law 1029 = .ok (.invokestatic 138, 3) := by decide +kernel
theorem dL_law_1032 : decode cL_law 1032 = .ok (.istore 5, 2) := by decide +kernel
theorem dL_law_1034 : decode cL_law 1034 = .ok (.aload_n 2, 1) := by decide +kernel
theorem dL_law_1035 : decode cL_law 1035 = .ok (.aload_n 0, 1) := by decide +kernel
theorem dL_law_1036 : decode cL_law 1036 = .ok (.iload 4, 2) := by decide +kernel
theorem dL_law_1038 : decode cL_law 1038 = .ok (.iconst 1, 1) := by decide +kernel
theorem dL_law_1039 : decode cL_law 1039 = .ok (.iadd, 1) := by decide +kernel
theorem dL_law_1040 : decode cL_law 1040 = .ok (.iaload, 1) := by decide +kernel
theorem dL_law_1041 : decode cL_law 1041 = .ok (.invokevirtual 140, 3) := by decide +kernel
theorem dL_law_1044 : decode cL_law 1044 = .ok (.istore 6, 2) := by decide +kernel
theorem dL_law_1046 : decode cL_law 1046 = .ok (.aload_n 2, 1) := by decide +kernel
theorem dL_law_1047 : decode cL_law 1047 = .ok (.invokevirtual 91, 3) := by decide +kernel
theorem dL_law_1050 : decode cL_law 1050 = .ok (.iload 5, 2) := by decide +kernel
theorem dL_law_1052 : decode cL_law 1052 = .ok (.if_icmp .eq 5, 3) := by decide +kernel
theorem dL_law_1055 : decode cL_law 1055 = .ok (.iconst 0, 1) := by decide +kernel
theorem dL_law_1056 : decode cL_law 1056 = .ok (.ireturn, 1) := by decide +kernel
theorem dL_law_1057 : decode cL_law 1057 = .ok (.iload 5, 2) := by decide +kernel
theorem dL_law_1059 : decode cL_law 1059 = .ok (.ifCond .ne 15, 3) := by decide +kernel
theorem dL_law_1062 : decode cL_law 1062 = .ok (.aload_n 3, 1) := by decide +kernel
theorem dL_law_1063 : decode cL_law 1063 = .ok (.iconst 0, 1) := by decide +kernel
theorem dL_law_1064 : decode cL_law 1064 = .ok (.laload, 1) := by decide +kernel
theorem dL_law_1065 : decode cL_law 1065 = .ok (.iload 6, 2) := by decide +kernel
theorem dL_law_1067 : decode cL_law 1067 = .ok (.i2l, 1) := by decide +kernel
theorem dL_law_1068 : decode cL_law 1068 = .ok (.lcmp, 1) := by decide +kernel
theorem dL_law_1069 : decode cL_law 1069 = .ok (.ifCond .eq 5, 3) := by decide +kernel
theorem dL_law_1072 : decode cL_law 1072 = .ok (.iconst 0, 1) := by decide +kernel
theorem dL_law_1073 : decode cL_law 1073 = .ok (.ireturn, 1) := by decide +kernel
theorem dL_law_1074 : decode cL_law 1074 = .ok (.goto 436, 3) := by decide +kernel
theorem dL_law_1077 : decode cL_law 1077 = .ok (.aload_n 1, 1) := by decide +kernel
theorem dL_law_1078 : decode cL_law 1078 = .ok (.aload_n 0, 1) := by decide +kernel
theorem dL_law_1079 : decode cL_law 1079 = .ok (.iload 4, 2) := by decide +kernel
theorem dL_law_1081 : decode cL_law 1081 = .ok (.iconst 1, 1) := by decide +kernel
theorem dL_law_1082 : decode cL_law 1082 = .ok (.iadd, 1) := by decide +kernel
theorem dL_law_1083 : decode cL_law 1083 = .ok (.iaload, 1) := by decide +kernel
theorem dL_law_1084 : decode cL_law 1084 = .ok (.aload_n 3, 1) := by decide +kernel
theorem dL_law_1085 : decode cL_law 1085 = .ok (.invokestatic 141, 3) := by decide +kernel
theorem dL_law_1088 : decode cL_law 1088 = .ok (.istore 5, 2) := by decide +kernel
theorem dL_law_1090 : decode cL_law 1090 = .ok (.aload_n 2, 1) := by decide +kernel
theorem dL_law_1091 : decode cL_law 1091 = .ok (.aload_n 0, 1) := by decide +kernel
theorem dL_law_1092 : decode cL_law 1092 = .ok (.iload 4, 2) := by decide +kernel
theorem dL_law_1094 : decode cL_law 1094 = .ok (.iconst 1, 1) := by decide +kernel
theorem dL_law_1095 : decode cL_law 1095 = .ok (.iadd, 1) := by decide +kernel
theorem dL_law_1096 : decode cL_law 1096 = .ok (.iaload, 1) := by decide +kernel
theorem dL_law_1097 : decode cL_law 1097 = .ok (.invokevirtual 143, 3) := by decide +kernel
theorem dL_law_1100 : decode cL_law 1100 = .ok (.istore 6, 2) := by decide +kernel
theorem dL_law_1102 : decode cL_law 1102 = .ok (.aload_n 2, 1) := by decide +kernel
theorem dL_law_1103 : decode cL_law 1103 = .ok (.invokevirtual 91, 3) := by decide +kernel
theorem dL_law_1106 : decode cL_law 1106 = .ok (.iload 5, 2) := by decide +kernel
theorem dL_law_1108 : decode cL_law 1108 = .ok (.if_icmp .eq 5, 3) := by decide +kernel
theorem dL_law_1111 : decode cL_law 1111 = .ok (.iconst 0, 1) := by decide +kernel
theorem dL_law_1112 : decode cL_law 1112 = .ok (.ireturn, 1) := by decide +kernel
theorem dL_law_1113 : decode cL_law 1113 = .ok (.iload 5, 2) := by decide +kernel
theorem dL_law_1115 : decode cL_law 1115 = .ok (.ifCond .ne 15, 3) := by decide +kernel
theorem dL_law_1118 : decode cL_law 1118 = .ok (.aload_n 3, 1) := by decide +kernel
theorem dL_law_1119 : decode cL_law 1119 = .ok (.iconst 0, 1) := by decide +kernel
theorem dL_law_1120 : decode cL_law 1120 = .ok (.laload, 1) := by decide +kernel
theorem dL_law_1121 : decode cL_law 1121 = .ok (.iload 6, 2) := by decide +kernel
theorem dL_law_1123 : decode cL_law 1123 = .ok (.i2l, 1) := by decide +kernel
theorem dL_law_1124 : decode cL_law 1124 = .ok (.lcmp, 1) := by decide +kernel
theorem dL_law_1125 : decode cL_law 1125 = .ok (.ifCond .eq 5, 3) := by decide +kernel
theorem dL_law_1128 : decode cL_law 1128 = .ok (.iconst 0, 1) := by decide +kernel
theorem dL_law_1129 : decode cL_law 1129 = .ok (.ireturn, 1) := by decide +kernel
theorem dL_law_1130 : decode cL_law 1130 = .ok (.goto 380, 3) := by decide +kernel
theorem dL_law_1133 : decode cL_law 1133 = .ok (.aload_n 1, 1) := by decide +kernel
theorem dL_law_1134 : decode cL_law 1134 = .ok (.aload_n 0, 1) := by decide +kernel
theorem dL_law_1135 : decode cL_law 1135 = .ok (.iload 4, 2) := by decide +kernel
theorem dL_law_1137 : decode cL_law 1137 = .ok (.iconst 1, 1) := by decide +kernel
theorem dL_law_1138 : decode cL_law 1138 = .ok (.iadd, 1) := by decide +kernel
theorem dL_law_1139 : decode cL_law 1139 = .ok (.iaload, 1) := by decide +kernel
theorem dL_law_1140 : decode cL_law 1140 = .ok (.aload_n 0, 1) := by decide +kernel
theorem dL_law_1141 : decode cL_law 1141 = .ok (.iload 4, 2) := by decide +kernel
theorem dL_law_1143 : decode cL_law 1143 = .ok (.iconst 2, 1) := by decide +kernel
theorem dL_law_1144 : decode cL_law 1144 = .ok (.iadd, 1) := by decide +kernel
theorem dL_law_1145 : decode cL_law 1145 = .ok (.iaload, 1) := by decide +kernel
theorem dL_law_1146 : decode cL_law 1146 = .ok (.aload_n 3, 1) := by decide +kernel
theorem dL_law_1147 : decode cL_law 1147 = .ok (.invokestatic 144, 3) := by decide +kernel
theorem dL_law_1150 : decode cL_law 1150 = .ok (.istore 5, 2) := by decide +kernel
theorem dL_law_1152 : decode cL_law 1152 = .ok (.aload_n 2, 1) := by decide +kernel
theorem dL_law_1153 : decode cL_law 1153 = .ok (.aload_n 0, 1) := by decide +kernel
theorem dL_law_1154 : decode cL_law 1154 = .ok (.iload 4, 2) := by decide +kernel
theorem dL_law_1156 : decode cL_law 1156 = .ok (.iconst 1, 1) := by decide +kernel
theorem dL_law_1157 : decode cL_law 1157 = .ok (.iadd, 1) := by decide +kernel
theorem dL_law_1158 : decode cL_law 1158 = .ok (.iaload, 1) := by decide +kernel
theorem dL_law_1159 : decode cL_law 1159 = .ok (.aload_n 0, 1) := by decide +kernel
theorem dL_law_1160 : decode cL_law 1160 = .ok (.iload 4, 2) := by decide +kernel
theorem dL_law_1162 : decode cL_law 1162 = .ok (.iconst 2, 1) := by decide +kernel
theorem dL_law_1163 : decode cL_law 1163 = .ok (.iadd, 1) := by decide +kernel
theorem dL_law_1164 : decode cL_law 1164 = .ok (.iaload, 1) := by decide +kernel
theorem dL_law_1165 : decode cL_law 1165 = .ok (.invokevirtual 146, 3) := by decide +kernel
theorem dL_law_1168 : decode cL_law 1168 = .ok (.istore 6, 2) := by decide +kernel
theorem dL_law_1170 : decode cL_law 1170 = .ok (.aload_n 2, 1) := by decide +kernel
theorem dL_law_1171 : decode cL_law 1171 = .ok (.invokevirtual 91, 3) := by decide +kernel
theorem dL_law_1174 : decode cL_law 1174 = .ok (.iload 5, 2) := by decide +kernel
theorem dL_law_1176 : decode cL_law 1176 = .ok (.if_icmp .eq 5, 3) := by decide +kernel
theorem dL_law_1179 : decode cL_law 1179 = .ok (.iconst 0, 1) := by decide +kernel
theorem dL_law_1180 : decode cL_law 1180 = .ok (.ireturn, 1) := by decide +kernel
theorem dL_law_1181 : decode cL_law 1181 = .ok (.iload 5, 2) := by decide +kernel
theorem dL_law_1183 : decode cL_law 1183 = .ok (.ifCond .ne 15, 3) := by decide +kernel
theorem dL_law_1186 : decode cL_law 1186 = .ok (.aload_n 3, 1) := by decide +kernel
theorem dL_law_1187 : decode cL_law 1187 = .ok (.iconst 0, 1) := by decide +kernel
theorem dL_law_1188 : decode cL_law 1188 = .ok (.laload, 1) := by decide +kernel
theorem dL_law_1189 : decode cL_law 1189 = .ok (.iload 6, 2) := by decide +kernel
theorem dL_law_1191 : decode cL_law 1191 = .ok (.i2l, 1) := by decide +kernel
theorem dL_law_1192 : decode cL_law 1192 = .ok (.lcmp, 1) := by decide +kernel
theorem dL_law_1193 : decode cL_law 1193 = .ok (.ifCond .eq 5, 3) := by decide +kernel
theorem dL_law_1196 : decode cL_law 1196 = .ok (.iconst 0, 1) := by decide +kernel
theorem dL_law_1197 : decode cL_law 1197 = .ok (.ireturn, 1) := by decide +kernel
theorem dL_law_1198 : decode cL_law 1198 = .ok (.goto 312, 3) := by decide +kernel
theorem dL_law_1201 : decode cL_law 1201 = .ok (.aload_n 1, 1) := by decide +kernel
theorem dL_law_1202 : decode cL_law 1202 = .ok (.aload_n 0, 1) := by decide +kernel
theorem dL_law_1203 : decode cL_law 1203 = .ok (.iload 4, 2) := by decide +kernel
theorem dL_law_1205 : decode cL_law 1205 = .ok (.iconst 1, 1) := by decide +kernel
theorem dL_law_1206 : decode cL_law 1206 = .ok (.iadd, 1) := by decide +kernel
theorem dL_law_1207 : decode cL_law 1207 = .ok (.iaload, 1) := by decide +kernel
theorem dL_law_1208 : decode cL_law 1208 = .ok (.aload_n 0, 1) := by decide +kernel
theorem dL_law_1209 : decode cL_law 1209 = .ok (.iload 4, 2) := by decide +kernel
theorem dL_law_1211 : decode cL_law 1211 = .ok (.iconst 2, 1) := by decide +kernel
theorem dL_law_1212 : decode cL_law 1212 = .ok (.iadd, 1) := by decide +kernel
theorem dL_law_1213 : decode cL_law 1213 = .ok (.iaload, 1) := by decide +kernel
theorem dL_law_1214 : decode cL_law 1214 = .ok (.aload_n 0, 1) := by decide +kernel
theorem dL_law_1215 : decode cL_law 1215 = .ok (.iload 4, 2) := by decide +kernel
theorem dL_law_1217 : decode cL_law 1217 = .ok (.iconst 3, 1) := by decide +kernel
theorem dL_law_1218 : decode cL_law 1218 = .ok (.iadd, 1) := by decide +kernel
theorem dL_law_1219 : decode cL_law 1219 = .ok (.iaload, 1) := by decide +kernel
theorem dL_law_1220 : decode cL_law 1220 = .ok (.aload_n 3, 1) := by decide +kernel
theorem dL_law_1221 : decode cL_law 1221 = .ok (.invokestatic 147, 3) := by decide +kernel
theorem dL_law_1224 : decode cL_law 1224 = .ok (.istore 5, 2) := by decide +kernel
theorem dL_law_1226 : decode cL_law 1226 = .ok (.aload_n 2, 1) := by decide +kernel
theorem dL_law_1227 : decode cL_law 1227 = .ok (.aload_n 0, 1) := by decide +kernel
theorem dL_law_1228 : decode cL_law 1228 = .ok (.iload 4, 2) := by decide +kernel
theorem dL_law_1230 : decode cL_law 1230 = .ok (.iconst 1, 1) := by decide +kernel
theorem dL_law_1231 : decode cL_law 1231 = .ok (.iadd, 1) := by decide +kernel
theorem dL_law_1232 : decode cL_law 1232 = .ok (.iaload, 1) := by decide +kernel
theorem dL_law_1233 : decode cL_law 1233 = .ok (.aload_n 0, 1) := by decide +kernel
theorem dL_law_1234 : decode cL_law 1234 = .ok (.iload 4, 2) := by decide +kernel
theorem dL_law_1236 : decode cL_law 1236 = .ok (.iconst 2, 1) := by decide +kernel
theorem dL_law_1237 : decode cL_law 1237 = .ok (.iadd, 1) := by decide +kernel
theorem dL_law_1238 : decode cL_law 1238 = .ok (.iaload, 1) := by decide +kernel
theorem dL_law_1239 : decode cL_law 1239 = .ok (.aload_n 0, 1) := by decide +kernel
theorem dL_law_1240 : decode cL_law 1240 = .ok (.iload 4, 2) := by decide +kernel
theorem dL_law_1242 : decode cL_law 1242 = .ok (.iconst 3, 1) := by decide +kernel
theorem dL_law_1243 : decode cL_law 1243 = .ok (.iadd, 1) := by decide +kernel
theorem dL_law_1244 : decode cL_law 1244 = .ok (.iaload, 1) := by decide +kernel
theorem dL_law_1245 : decode cL_law 1245 = .ok (.invokevirtual 149, 3) := by decide +kernel
theorem dL_law_1248 : decode cL_law 1248 = .ok (.istore 6, 2) := by decide +kernel
theorem dL_law_1250 : decode cL_law 1250 = .ok (.aload_n 2, 1) := by decide +kernel
theorem dL_law_1251 : decode cL_law 1251 = .ok (.invokevirtual 91, 3) := by decide +kernel
theorem dL_law_1254 : decode cL_law 1254 = .ok (.iload 5, 2) := by decide +kernel
theorem dL_law_1256 : decode cL_law 1256 = .ok (.if_icmp .eq 5, 3) := by decide +kernel
theorem dL_law_1259 : decode cL_law 1259 = .ok (.iconst 0, 1) := by decide +kernel
theorem dL_law_1260 : decode cL_law 1260 = .ok (.ireturn, 1) := by decide +kernel
theorem dL_law_1261 : decode cL_law 1261 = .ok (.iload 5, 2) := by decide +kernel
theorem dL_law_1263 : decode cL_law 1263 = .ok (.ifCond .ne 15, 3) := by decide +kernel
theorem dL_law_1266 : decode cL_law 1266 = .ok (.aload_n 3, 1) := by decide +kernel
theorem dL_law_1267 : decode cL_law 1267 = .ok (.iconst 0, 1) := by decide +kernel
theorem dL_law_1268 : decode cL_law 1268 = .ok (.laload, 1) := by decide +kernel
theorem dL_law_1269 : decode cL_law 1269 = .ok (.iload 6, 2) := by decide +kernel
theorem dL_law_1271 : decode cL_law 1271 = .ok (.i2l, 1) := by decide +kernel
theorem dL_law_1272 : decode cL_law 1272 = .ok (.lcmp, 1) := by decide +kernel
theorem dL_law_1273 : decode cL_law 1273 = .ok (.ifCond .eq 5, 3) := by decide +kernel
theorem dL_law_1276 : decode cL_law 1276 = .ok (.iconst 0, 1) := by decide +kernel
theorem dL_law_1277 : decode cL_law 1277 = .ok (.ireturn, 1) := by decide +kernel
theorem dL_law_1278 : decode cL_law 1278 = .ok (.goto 232, 3) := by decide +kernel
theorem dL_law_1281 : decode cL_law 1281 = .ok (.aload_n 1, 1) := by decide +kernel
theorem dL_law_1282 : decode cL_law 1282 = .ok (.aload_n 0, 1) := by decide +kernel
theorem dL_law_1283 : decode cL_law 1283 = .ok (.iload 4, 2) := by decide +kernel
theorem dL_law_1285 : decode cL_law 1285 = .ok (.iconst 1, 1) := by decide +kernel
theorem dL_law_1286 : decode cL_law 1286 = .ok (.iadd, 1) := by decide +kernel
theorem dL_law_1287 : decode cL_law 1287 = .ok (.iaload, 1) := by decide +kernel
theorem dL_law_1288 : decode cL_law 1288 = .ok (.aload_n 3, 1) := by decide +kernel
theorem dL_law_1289 : decode cL_law 1289 = .ok (.invokestatic 150, 3) := by decide +kernel
theorem dL_law_1292 : decode cL_law 1292 = .ok (.istore 5, 2) := by decide +kernel
theorem dL_law_1294 : decode cL_law 1294 = .ok (.aload_n 2, 1) := by decide +kernel
theorem dL_law_1295 : decode cL_law 1295 = .ok (.aload_n 0, 1) := by decide +kernel
theorem dL_law_1296 : decode cL_law 1296 = .ok (.iload 4, 2) := by decide +kernel
theorem dL_law_1298 : decode cL_law 1298 = .ok (.iconst 1, 1) := by decide +kernel
theorem dL_law_1299 : decode cL_law 1299 = .ok (.iadd, 1) := by decide +kernel
theorem dL_law_1300 : decode cL_law 1300 = .ok (.iaload, 1) := by decide +kernel
theorem dL_law_1301 : decode cL_law 1301 = .ok (.invokevirtual 152, 3) := by decide +kernel
theorem dL_law_1304 : decode cL_law 1304 = .ok (.istore 6, 2) := by decide +kernel
theorem dL_law_1306 : decode cL_law 1306 = .ok (.aload_n 2, 1) := by decide +kernel
theorem dL_law_1307 : decode cL_law 1307 = .ok (.invokevirtual 91, 3) := by decide +kernel
theorem dL_law_1310 : decode cL_law 1310 = .ok (.iload 5, 2) := by decide +kernel
theorem dL_law_1312 : decode cL_law 1312 = .ok (.if_icmp .eq 5, 3) := by decide +kernel
theorem dL_law_1315 : decode cL_law 1315 = .ok (.iconst 0, 1) := by decide +kernel
theorem dL_law_1316 : decode cL_law 1316 = .ok (.ireturn, 1) := by decide +kernel
theorem dL_law_1317 : decode cL_law 1317 = .ok (.iload 5, 2) := by decide +kernel
theorem dL_law_1319 : decode cL_law 1319 = .ok (.ifCond .ne 15, 3) := by decide +kernel
theorem dL_law_1322 : decode cL_law 1322 = .ok (.aload_n 3, 1) := by decide +kernel
theorem dL_law_1323 : decode cL_law 1323 = .ok (.iconst 0, 1) := by decide +kernel
theorem dL_law_1324 : decode cL_law 1324 = .ok (.laload, 1) := by decide +kernel
theorem dL_law_1325 : decode cL_law 1325 = .ok (.iload 6, 2) := by decide +kernel
theorem dL_law_1327 : decode cL_law 1327 = .ok (.i2l, 1) := by decide +kernel
theorem dL_law_1328 : decode cL_law 1328 = .ok (.lcmp, 1) := by decide +kernel
theorem dL_law_1329 : decode cL_law 1329 = .ok (.ifCond .eq 5, 3) := by decide +kernel
theorem dL_law_1332 : decode cL_law 1332 = .ok (.iconst 0, 1) := by decide +kernel
theorem dL_law_1333 : decode cL_law 1333 = .ok (.ireturn, 1) := by decide +kernel
theorem dL_law_1334 : decode cL_law 1334 = .ok (.goto 176, 3) := by decide +kernel
theorem dL_law_1337 : decode cL_law 1337 = .ok (.aload_n 1, 1) := by decide +kernel
theorem dL_law_1338 : decode cL_law 1338 = .ok (.aload_n 0, 1) := by decide +kernel
theorem dL_law_1339 : decode cL_law 1339 = .ok (.iload 4, 2) := by decide +kernel
theorem dL_law_1341 : decode cL_law 1341 = .ok (.iconst 1, 1) := by decide +kernel
theorem dL_law_1342 : decode cL_law 1342 = .ok (.iadd, 1) := by decide +kernel
theorem dL_law_1343 : decode cL_law 1343 = .ok (.iaload, 1) := by decide +kernel
theorem dL_law_1344 : decode cL_law 1344 = .ok (.aload_n 0, 1) := by decide +kernel
theorem dL_law_1345 : decode cL_law 1345 = .ok (.iload 4, 2) := by decide +kernel
theorem dL_law_1347 : decode cL_law 1347 = .ok (.iconst 2, 1) := by decide +kernel
theorem dL_law_1348 : decode cL_law 1348 = .ok (.iadd, 1) := by decide +kernel
theorem dL_law_1349 : decode cL_law 1349 = .ok (.iaload, 1) := by decide +kernel
theorem dL_law_1350 : decode cL_law 1350 = .ok (.aload_n 0, 1) := by decide +kernel
theorem dL_law_1351 : decode cL_law 1351 = .ok (.iload 4, 2) := by decide +kernel
theorem dL_law_1353 : decode cL_law 1353 = .ok (.iconst 3, 1) := by decide +kernel
theorem dL_law_1354 : decode cL_law 1354 = .ok (.iadd, 1) := by decide +kernel
theorem dL_law_1355 : decode cL_law 1355 = .ok (.iaload, 1) := by decide +kernel
theorem dL_law_1356 : decode cL_law 1356 = .ok (.aload_n 0, 1) := by decide +kernel
theorem dL_law_1357 : decode cL_law 1357 = .ok (.iload 4, 2) := by decide +kernel
theorem dL_law_1359 : decode cL_law 1359 = .ok (.iconst 4, 1) := by decide +kernel
theorem dL_law_1360 : decode cL_law 1360 = .ok (.iadd, 1) := by decide +kernel
theorem dL_law_1361 : decode cL_law 1361 = .ok (.iaload, 1) := by decide +kernel
theorem dL_law_1362 : decode cL_law 1362 = .ok (.aload_n 0, 1) := by decide +kernel
theorem dL_law_1363 : decode cL_law 1363 = .ok (.iload 4, 2) := by decide +kernel
theorem dL_law_1365 : decode cL_law 1365 = .ok (.iconst 5, 1) := by decide +kernel
theorem dL_law_1366 : decode cL_law 1366 = .ok (.iadd, 1) := by decide +kernel
theorem dL_law_1367 : decode cL_law 1367 = .ok (.iaload, 1) := by decide +kernel
theorem dL_law_1368 : decode cL_law 1368 = .ok (.aload_n 3, 1) := by decide +kernel
theorem dL_law_1369 : decode cL_law 1369 = .ok (.invokestatic 153, 3) := by decide +kernel
theorem dL_law_1372 : decode cL_law 1372 = .ok (.istore 5, 2) := by decide +kernel
theorem dL_law_1374 : decode cL_law 1374 = .ok (.aload_n 2, 1) := by decide +kernel
theorem dL_law_1375 : decode cL_law 1375 = .ok (.aload_n 0, 1) := by decide +kernel
theorem dL_law_1376 : decode cL_law 1376 = .ok (.iload 4, 2) := by decide +kernel
theorem dL_law_1378 : decode cL_law 1378 = .ok (.iconst 1, 1) := by decide +kernel
theorem dL_law_1379 : decode cL_law 1379 = .ok (.iadd, 1) := by decide +kernel
theorem dL_law_1380 : decode cL_law 1380 = .ok (.iaload, 1) := by decide +kernel
theorem dL_law_1381 : decode cL_law 1381 = .ok (.aload_n 0, 1) := by decide +kernel
theorem dL_law_1382 : decode cL_law 1382 = .ok (.iload 4, 2) := by decide +kernel
theorem dL_law_1384 : decode cL_law 1384 = .ok (.iconst 2, 1) := by decide +kernel
theorem dL_law_1385 : decode cL_law 1385 = .ok (.iadd, 1) := by decide +kernel
theorem dL_law_1386 : decode cL_law 1386 = .ok (.iaload, 1) := by decide +kernel
theorem dL_law_1387 : decode cL_law 1387 = .ok (.aload_n 0, 1) := by decide +kernel
theorem dL_law_1388 : decode cL_law 1388 = .ok (.iload 4, 2) := by decide +kernel
theorem dL_law_1390 : decode cL_law 1390 = .ok (.iconst 3, 1) := by decide +kernel
theorem dL_law_1391 : decode cL_law 1391 = .ok (.iadd, 1) := by decide +kernel
theorem dL_law_1392 : decode cL_law 1392 = .ok (.iaload, 1) := by decide +kernel
theorem dL_law_1393 : decode cL_law 1393 = .ok (.aload_n 0, 1) := by decide +kernel
theorem dL_law_1394 : decode cL_law 1394 = .ok (.iload 4, 2) := by decide +kernel
theorem dL_law_1396 : decode cL_law 1396 = .ok (.iconst 4, 1) := by decide +kernel
theorem dL_law_1397 : decode cL_law 1397 = .ok (.iadd, 1) := by decide +kernel
theorem dL_law_1398 : decode cL_law 1398 = .ok (.iaload, 1) := by decide +kernel
theorem dL_law_1399 : decode cL_law 1399 = .ok (.aload_n 0, 1) := by decide +kernel
theorem dL_law_1400 : decode cL_law 1400 = .ok (.iload 4, 2) := by decide +kernel
theorem dL_law_1402 : decode cL_law 1402 = .ok (.iconst 5, 1) := by decide +kernel
theorem dL_law_1403 : decode cL_law 1403 = .ok (.iadd, 1) := by decide +kernel
theorem dL_law_1404 : decode cL_law 1404 = .ok (.iaload, 1) := by decide +kernel
theorem dL_law_1405 : decode cL_law 1405 = .ok (.invokevirtual 156, 3) := by decide +kernel
theorem dL_law_1408 : decode cL_law 1408 = .ok (.istore 6, 2) := by decide +kernel
theorem dL_law_1410 : decode cL_law 1410 = .ok (.aload_n 2, 1) := by decide +kernel
theorem dL_law_1411 : decode cL_law 1411 = .ok (.invokevirtual 91, 3) := by decide +kernel
theorem dL_law_1414 : decode cL_law 1414 = .ok (.iload 5, 2) := by decide +kernel
theorem dL_law_1416 : decode cL_law 1416 = .ok (.if_icmp .eq 5, 3) := by decide +kernel
theorem dL_law_1419 : decode cL_law 1419 = .ok (.iconst 0, 1) := by decide +kernel
theorem dL_law_1420 : decode cL_law 1420 = .ok (.ireturn, 1) := by decide +kernel
theorem dL_law_1421 : decode cL_law 1421 = .ok (.iload 5, 2) := by decide +kernel
theorem dL_law_1423 : decode cL_law 1423 = .ok (.ifCond .ne 15, 3) := by decide +kernel
theorem dL_law_1426 : decode cL_law 1426 = .ok (.aload_n 3, 1) := by decide +kernel
theorem dL_law_1427 : decode cL_law 1427 = .ok (.iconst 0, 1) := by decide +kernel
theorem dL_law_1428 : decode cL_law 1428 = .ok (.laload, 1) := by decide +kernel
theorem dL_law_1429 : decode cL_law 1429 = .ok (.iload 6, 2) := by decide +kernel
theorem dL_law_1431 : decode cL_law 1431 = .ok (.i2l, 1) := by decide +kernel
theorem dL_law_1432 : decode cL_law 1432 = .ok (.lcmp, 1) := by decide +kernel
theorem dL_law_1433 : decode cL_law 1433 = .ok (.ifCond .eq 5, 3) := by decide +kernel
theorem dL_law_1436 : decode cL_law 1436 = .ok (.iconst 0, 1) := by decide +kernel
theorem dL_law_1437 : decode cL_law 1437 = .ok (.ireturn, 1) := by decide +kernel
theorem dL_law_1438 : decode cL_law 1438 = .ok (.goto 72, 3) := by decide +kernel
theorem dL_law_1441 : decode cL_law 1441 = .ok (.aload_n 1, 1) := by decide +kernel
theorem dL_law_1442 : decode cL_law 1442 = .ok (.aload_n 0, 1) := by decide +kernel
theorem dL_law_1443 : decode cL_law 1443 = .ok (.iload 4, 2) := by decide +kernel
theorem dL_law_1445 : decode cL_law 1445 = .ok (.iconst 1, 1) := by decide +kernel
theorem dL_law_1446 : decode cL_law 1446 = .ok (.iadd, 1) := by decide +kernel
theorem dL_law_1447 : decode cL_law 1447 = .ok (.iaload, 1) := by decide +kernel
theorem dL_law_1448 : decode cL_law 1448 = .ok (.aload_n 3, 1) := by decide +kernel
theorem dL_law_1449 : decode cL_law 1449 = .ok (.invokestatic 157, 3) := by decide +kernel
theorem dL_law_1452 : decode cL_law 1452 = .ok (.istore 5, 2) := by decide +kernel
theorem dL_law_1454 : decode cL_law 1454 = .ok (.aload_n 2, 1) := by decide +kernel
theorem dL_law_1455 : decode cL_law 1455 = .ok (.aload_n 0, 1) := by decide +kernel
theorem dL_law_1456 : decode cL_law 1456 = .ok (.iload 4, 2) := by decide +kernel
theorem dL_law_1458 : decode cL_law 1458 = .ok (.iconst 1, 1) := by decide +kernel
theorem dL_law_1459 : decode cL_law 1459 = .ok (.iadd, 1) := by decide +kernel
theorem dL_law_1460 : decode cL_law 1460 = .ok (.iaload, 1) := by decide +kernel
theorem dL_law_1461 : decode cL_law 1461 = .ok (.invokevirtual 159, 3) := by decide +kernel
theorem dL_law_1464 : decode cL_law 1464 = .ok (.istore 6, 2) := by decide +kernel
theorem dL_law_1466 : decode cL_law 1466 = .ok (.aload_n 2, 1) := by decide +kernel
theorem dL_law_1467 : decode cL_law 1467 = .ok (.invokevirtual 91, 3) := by decide +kernel
theorem dL_law_1470 : decode cL_law 1470 = .ok (.iload 5, 2) := by decide +kernel
theorem dL_law_1472 : decode cL_law 1472 = .ok (.if_icmp .eq 5, 3) := by decide +kernel
theorem dL_law_1475 : decode cL_law 1475 = .ok (.iconst 0, 1) := by decide +kernel
theorem dL_law_1476 : decode cL_law 1476 = .ok (.ireturn, 1) := by decide +kernel
theorem dL_law_1477 : decode cL_law 1477 = .ok (.iload 5, 2) := by decide +kernel
theorem dL_law_1479 : decode cL_law 1479 = .ok (.ifCond .ne 15, 3) := by decide +kernel
theorem dL_law_1482 : decode cL_law 1482 = .ok (.aload_n 3, 1) := by decide +kernel
theorem dL_law_1483 : decode cL_law 1483 = .ok (.iconst 0, 1) := by decide +kernel
theorem dL_law_1484 : decode cL_law 1484 = .ok (.laload, 1) := by decide +kernel
theorem dL_law_1485 : decode cL_law 1485 = .ok (.iload 6, 2) := by decide +kernel
theorem dL_law_1487 : decode cL_law 1487 = .ok (.i2l, 1) := by decide +kernel
theorem dL_law_1488 : decode cL_law 1488 = .ok (.lcmp, 1) := by decide +kernel
theorem dL_law_1489 : decode cL_law 1489 = .ok (.ifCond .eq 5, 3) := by decide +kernel
theorem dL_law_1492 : decode cL_law 1492 = .ok (.iconst 0, 1) := by decide +kernel
theorem dL_law_1493 : decode cL_law 1493 = .ok (.ireturn, 1) := by decide +kernel
theorem dL_law_1494 : decode cL_law 1494 = .ok (.goto 16, 3) := by decide +kernel
theorem dL_law_1497 : decode cL_law 1497 = .ok (.aload_n 1, 1) := by decide +kernel
theorem dL_law_1498 : decode cL_law 1498 = .ok (.invokevirtual 160, 3) := by decide +kernel
theorem dL_law_1501 : decode cL_law 1501 = .ok (.aload_n 2, 1) := by decide +kernel
theorem dL_law_1502 : decode cL_law 1502 = .ok (.invokevirtual 163, 3) := by decide +kernel
theorem dL_law_1505 : decode cL_law 1505 = .ok (.if_icmp .eq 5, 3) := by decide +kernel
theorem dL_law_1508 : decode cL_law 1508 = .ok (.iconst 0, 1) := by decide +kernel
theorem dL_law_1509 : decode cL_law 1509 = .ok (.ireturn, 1) := by decide +kernel
theorem dL_law_1510 : decode cL_law 1510 = .ok (.iinc 4 6, 3) := by decide +kernel
theorem dL_law_1513 : decode cL_law 1513 = .ok (.goto (-1490), 3) := by decide +kernel
theorem dL_law_1516 : decode cL_law 1516 = .ok (.iconst 1, 1) := by decide +kernel
theorem dL_law_1517 : decode cL_law 1517 = .ok (.ireturn, 1) := by decide +kernel
abbrev vwCl : List vw_C := [(RX0, TX0, 5), (RX1, TX1, 3), (RX2, TX2, 4), (RX3, TX3, 2), (RX4, TX4, 2), (RX5, TX5, 10), (RX6, TX6, 19)]
