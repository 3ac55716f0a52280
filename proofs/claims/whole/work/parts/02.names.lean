def RX0 : String := "ClockTexts$ByteRow"
def TX0 : u_T := fun k => match k with
  | 0 => ("ClockTexts$ByteRow", "bytes", "[B", true)
  | _ => ("ClockTexts$ByteRow", "length", "I", false)
def tyX0 : Nat → FieldType := fun k => match k with
  | 0 => .array .byte
  | _ => .int
abbrev wsX00 : List Cond := u_ws RX0 TX0 2
theorem nmX0 : ∀ a, a < 2 → ∀ b, b < 2 → a ≠ b → (TX0 a).2.1 ≠ (TX0 b).2.1 := by decide +kernel
theorem tyX0_ok : ∀ k, k < 2 → parseFieldDescriptor (TX0 k).2.2.1 = some (tyX0 k) := by decide +kernel
def RX1 : String := "ClockTexts$KeptTimes"
def TX1 : u_T := fun k => match k with
  | 0 => ("ClockTexts$KeptTimes", "wholeSeconds", "[J", true)
  | 1 => ("ClockTexts$KeptTimes", "partLengths", "[I", true)
  | 2 => ("ClockTexts$KeptTimes", "parts", "[B", true)
  | 3 => ("ClockTexts$KeptTimes", "inOrder", "[I", true)
  | _ => ("ClockTexts$KeptTimes", "size", "I", false)
def tyX1 : Nat → FieldType := fun k => match k with
  | 0 => .array .long
  | 1 => .array .int
  | 2 => .array .byte
  | 3 => .array .int
  | _ => .int
abbrev wsX10 : List Cond := u_ws RX1 TX1 5
theorem nmX1 : ∀ a, a < 5 → ∀ b, b < 5 → a ≠ b → (TX1 a).2.1 ≠ (TX1 b).2.1 := by decide +kernel
theorem tyX1_ok : ∀ k, k < 5 → parseFieldDescriptor (TX1 k).2.2.1 = some (tyX1 k) := by decide +kernel
def RX2 : String := "ClockTexts$Moment"
def TX2 : u_T := fun k => match k with
  | 0 => ("ClockTexts$Moment", "year", "I", false)
  | 1 => ("ClockTexts$Moment", "month", "I", false)
  | 2 => ("ClockTexts$Moment", "day", "I", false)
  | 3 => ("ClockTexts$Moment", "hour", "I", false)
  | 4 => ("ClockTexts$Moment", "minute", "I", false)
  | 5 => ("ClockTexts$Moment", "second", "I", false)
  | 6 => ("ClockTexts$Moment", "part", "[B", true)
  | _ => ("ClockTexts$Moment", "partLength", "I", false)
def tyX2 : Nat → FieldType := fun k => match k with
  | 0 => .int
  | 1 => .int
  | 2 => .int
  | 3 => .int
  | 4 => .int
  | 5 => .int
  | 6 => .array .byte
  | _ => .int
abbrev wsX20 : List Cond := u_ws RX2 TX2 8
theorem nmX2 : ∀ a, a < 8 → ∀ b, b < 8 → a ≠ b → (TX2 a).2.1 ≠ (TX2 b).2.1 := by decide +kernel
theorem tyX2_ok : ∀ k, k < 8 → parseFieldDescriptor (TX2 k).2.2.1 = some (tyX2 k) := by decide +kernel
def RX3 : String := "ClockTexts$TextReader"
def TX3 : u_T := fun k => match k with
  | 0 => ("ClockTexts$TextReader", "at", "I", false)
  | _ => ("ClockTexts$TextReader", "minutesAhead", "I", false)
def tyX3 : Nat → FieldType := fun k => match k with
  | 0 => .int
  | _ => .int
abbrev wsX30 : List Cond := u_ws RX3 TX3 2
theorem nmX3 : ∀ a, a < 2 → ∀ b, b < 2 → a ≠ b → (TX3 a).2.1 ≠ (TX3 b).2.1 := by decide +kernel
theorem tyX3_ok : ∀ k, k < 2 → parseFieldDescriptor (TX3 k).2.2.1 = some (tyX3 k) := by decide +kernel
def RX4 : String := "ClockTexts"
def TX4 : u_T := fun k => match k with
  | 0 => ("ClockTexts", "text", "LClockTexts$ByteRow;", true)
  | 1 => ("ClockTexts", "written", "LClockTexts$ByteRow;", true)
  | 2 => ("ClockTexts", "reader", "LClockTexts$TextReader;", true)
  | 3 => ("ClockTexts", "moment", "LClockTexts$Moment;", true)
  | 4 => ("ClockTexts", "kept", "LClockTexts$KeptTimes;", true)
  | 5 => ("ClockTexts", "timeThere", "Z", false)
  | _ => ("ClockTexts", "latestFault", "I", false)
def tyX4 : Nat → FieldType := fun k => match k with
  | 0 => .object "ClockTexts$ByteRow"
  | 1 => .object "ClockTexts$ByteRow"
  | 2 => .object "ClockTexts$TextReader"
  | 3 => .object "ClockTexts$Moment"
  | 4 => .object "ClockTexts$KeptTimes"
  | 5 => .boolean
  | _ => .int
abbrev wsX40 : List Cond := u_ws RX4 TX4 7
theorem nmX4 : ∀ a, a < 7 → ∀ b, b < 7 → a ≠ b → (TX4 a).2.1 ≠ (TX4 b).2.1 := by decide +kernel
theorem tyX4_ok : ∀ k, k < 7 → parseFieldDescriptor (TX4 k).2.2.1 = some (tyX4 k) := by decide +kernel
def RX5 : String := "ClockTextsModel"
def TX5 : u_T := fun k => match k with
  | 0 => ("ClockTextsModel", "thrown", "I", false)
  | 1 => ("ClockTextsModel", "text", "[I", true)
  | 2 => ("ClockTextsModel", "size", "I", false)
  | 3 => ("ClockTextsModel", "fault", "I", false)
  | 4 => ("ClockTextsModel", "isTime", "Z", false)
  | 5 => ("ClockTextsModel", "all", "J", false)
  | 6 => ("ClockTextsModel", "part", "[I", true)
  | 7 => ("ClockTextsModel", "digits", "I", false)
  | 8 => ("ClockTextsModel", "out", "[I", true)
  | 9 => ("ClockTextsModel", "written", "I", false)
  | 10 => ("ClockTextsModel", "kept", "I", false)
  | 11 => ("ClockTextsModel", "keptAll", "[J", true)
  | 12 => ("ClockTextsModel", "keptDigits", "[I", true)
  | 13 => ("ClockTextsModel", "keptPart", "[I", true)
  | 14 => ("ClockTextsModel", "at", "I", false)
  | _ => ("ClockTextsModel", "wrong", "Z", false)
def tyX5 : Nat → FieldType := fun k => match k with
  | 0 => .int
  | 1 => .array .int
  | 2 => .int
  | 3 => .int
  | 4 => .boolean
  | 5 => .long
  | 6 => .array .int
  | 7 => .int
  | 8 => .array .int
  | 9 => .int
  | 10 => .int
  | 11 => .array .long
  | 12 => .array .int
  | 13 => .array .int
  | 14 => .int
  | _ => .boolean
abbrev wsX50 : List Cond := u_ws RX5 TX5 16
theorem nmX5 : ∀ a, a < 16 → ∀ b, b < 16 → a ≠ b → (TX5 a).2.1 ≠ (TX5 b).2.1 := by decide +kernel
theorem tyX5_ok : ∀ k, k < 16 → parseFieldDescriptor (TX5 k).2.2.1 = some (tyX5 k) := by decide +kernel
def RL : String := "ClockTextsLaw"
abbrev kcl : List vw_C := [(RX0, TX0, 2), (RX1, TX1, 5), (RX2, TX2, 8), (RX3, TX3, 2), (RX4, TX4, 7), (RX5, TX5, 16)]
abbrev cX0_init : ByteArray := prog_2_method_1_code
def yX0_init : MethodName := ⟨RX0, "<init>", "()V"⟩
abbrev cX0_append : ByteArray := prog_2_method_2_code
def yX0_append : MethodName := ⟨RX0, "append", "(I)V"⟩
abbrev cX0_appendFour : ByteArray := prog_2_method_3_code
def yX0_appendFour : MethodName := ⟨RX0, "appendFour", "(I)V"⟩
abbrev cX0_appendPair : ByteArray := prog_2_method_4_code
def yX0_appendPair : MethodName := ⟨RX0, "appendPair", "(I)V"⟩
abbrev cX0_byteAt : ByteArray := prog_2_method_5_code
def yX0_byteAt : MethodName := ⟨RX0, "byteAt", "(I)I"⟩
abbrev cX0_digitAt : ByteArray := prog_2_method_6_code
def yX0_digitAt : MethodName := ⟨RX0, "digitAt", "(I)I"⟩
abbrev cX1_init : ByteArray := prog_3_method_1_code
def yX1_init : MethodName := ⟨RX1, "<init>", "()V"⟩
abbrev cX1_add : ByteArray := prog_3_method_3_code
def yX1_add : MethodName := ⟨RX1, "add", "(LClockTexts$Moment;)I"⟩
abbrev cX1_has : ByteArray := prog_3_method_2_code
def yX1_has : MethodName := ⟨RX1, "has", "(I)Z"⟩
abbrev cX1_isBefore : ByteArray := prog_3_method_4_code
def yX1_isBefore : MethodName := ⟨RX1, "isBefore", "(II)Z"⟩
abbrev cX2_init : ByteArray := prog_4_method_1_code
def yX2_init : MethodName := ⟨RX2, "<init>", "()V"⟩
abbrev cX2_appendPartDigit : ByteArray := prog_4_method_3_code
def yX2_appendPartDigit : MethodName := ⟨RX2, "appendPartDigit", "(I)V"⟩
abbrev cX2_clearOptional : ByteArray := prog_4_method_2_code
def yX2_clearOptional : MethodName := ⟨RX2, "clearOptional", "()V"⟩
abbrev cX2_dayNumber : ByteArray := prog_4_method_9_code
def yX2_dayNumber : MethodName := ⟨RX2, "dayNumber", "()I"⟩
abbrev cX2_dayOfWeek : ByteArray := prog_4_method_11_code
def yX2_dayOfWeek : MethodName := ⟨RX2, "dayOfWeek", "()I"⟩
abbrev cX2_goDayBack : ByteArray := prog_4_method_7_code
def yX2_goDayBack : MethodName := ⟨RX2, "goDayBack", "()V"⟩
abbrev cX2_goDayOn : ByteArray := prog_4_method_8_code
def yX2_goDayOn : MethodName := ⟨RX2, "goDayOn", "()V"⟩
abbrev cX2_moveBy : ByteArray := prog_4_method_6_code
def yX2_moveBy : MethodName := ⟨RX2, "moveBy", "(I)V"⟩
abbrev cX2_spreadPartOf : ByteArray := prog_4_method_4_code
def yX2_spreadPartOf : MethodName := ⟨RX2, "spreadPartOf", "(I)V"⟩
abbrev cX2_takeSixtiethsOfPart : ByteArray := prog_4_method_5_code
def yX2_takeSixtiethsOfPart : MethodName := ⟨RX2, "takeSixtiethsOfPart", "()I"⟩
abbrev cX2_wholeSeconds : ByteArray := prog_4_method_10_code
def yX2_wholeSeconds : MethodName := ⟨RX2, "wholeSeconds", "()J"⟩
abbrev cX3_init : ByteArray := prog_5_method_1_code
def yX3_init : MethodName := ⟨RX3, "<init>", "()V"⟩
abbrev cX3_faultOf : ByteArray := prog_5_method_2_code
def yX3_faultOf : MethodName := ⟨RX3, "faultOf", "(LClockTexts$ByteRow;ILClockTexts$Moment;)I"⟩
abbrev cX3_longYear : ByteArray := prog_5_method_6_code
def yX3_longYear : MethodName := ⟨RX3, "longYear", "(LClockTexts$ByteRow;)I"⟩
abbrev cX3_readClock : ByteArray := prog_5_method_7_code
def yX3_readClock : MethodName := ⟨RX3, "readClock", "(LClockTexts$ByteRow;ILClockTexts$Moment;)Z"⟩
abbrev cX3_readDate : ByteArray := prog_5_method_4_code
def yX3_readDate : MethodName := ⟨RX3, "readDate", "(LClockTexts$ByteRow;ILClockTexts$Moment;)Z"⟩
abbrev cX3_readPair : ByteArray := prog_5_method_11_code
def yX3_readPair : MethodName := ⟨RX3, "readPair", "(LClockTexts$ByteRow;II)I"⟩
abbrev cX3_readPart : ByteArray := prog_5_method_9_code
def yX3_readPart : MethodName := ⟨RX3, "readPart", "(LClockTexts$ByteRow;ILClockTexts$Moment;)Z"⟩
abbrev cX3_readUnits : ByteArray := prog_5_method_8_code
def yX3_readUnits : MethodName := ⟨RX3, "readUnits", "(LClockTexts$ByteRow;LClockTexts$Moment;)I"⟩
abbrev cX3_readZone : ByteArray := prog_5_method_10_code
def yX3_readZone : MethodName := ⟨RX3, "readZone", "(LClockTexts$ByteRow;I)Z"⟩
abbrev cX3_shortYear : ByteArray := prog_5_method_5_code
def yX3_shortYear : MethodName := ⟨RX3, "shortYear", "(LClockTexts$ByteRow;)I"⟩
abbrev cX3_yearFits : ByteArray := prog_5_method_3_code
def yX3_yearFits : MethodName := ⟨RX3, "yearFits", "(II)Z"⟩
abbrev cX4_init : ByteArray := prog_1_method_1_code
def yX4_init : MethodName := ⟨RX4, "<init>", "()V"⟩
abbrev cX4_again : ByteArray := prog_1_method_7_code
def yX4_again : MethodName := ⟨RX4, "again", "()I"⟩
abbrev cX4_between : ByteArray := prog_1_method_12_code
def yX4_between : MethodName := ⟨RX4, "between", "(II)J"⟩
abbrev cX4_count : ByteArray := prog_1_method_13_code
def yX4_count : MethodName := ⟨RX4, "count", "(I)I"⟩
abbrev cX4_daysOfMonth : ByteArray := prog_1_method_16_code
def yX4_daysOfMonth : MethodName := ⟨RX4, "daysOfMonth", "(II)I"⟩
abbrev cX4_end : ByteArray := prog_1_method_3_code
def yX4_end : MethodName := ⟨RX4, "end", "(I)I"⟩
abbrev cX4_fault : ByteArray := prog_1_method_5_code
def yX4_fault : MethodName := ⟨RX4, "fault", "()I"⟩
abbrev cX4_feed : ByteArray := prog_1_method_2_code
def yX4_feed : MethodName := ⟨RX4, "feed", "(IIII)I"⟩
abbrev cX4_isLeapYear : ByteArray := prog_1_method_15_code
def yX4_isLeapYear : MethodName := ⟨RX4, "isLeapYear", "(I)Z"⟩
abbrev cX4_keep : ByteArray := prog_1_method_10_code
def yX4_keep : MethodName := ⟨RX4, "keep", "()I"⟩
abbrev cX4_order : ByteArray := prog_1_method_11_code
def yX4_order : MethodName := ⟨RX4, "order", "(I)I"⟩
abbrev cX4_out : ByteArray := prog_1_method_6_code
def yX4_out : MethodName := ⟨RX4, "out", "(I)I"⟩
abbrev cX4_read : ByteArray := prog_1_method_4_code
def yX4_read : MethodName := ⟨RX4, "read", "(I)I"⟩
abbrev cX4_seconds : ByteArray := prog_1_method_8_code
def yX4_seconds : MethodName := ⟨RX4, "seconds", "()J"⟩
abbrev cX4_unit : ByteArray := prog_1_method_9_code
def yX4_unit : MethodName := ⟨RX4, "unit", "(I)I"⟩
abbrev cX4_writeMoment : ByteArray := prog_1_method_14_code
def yX4_writeMoment : MethodName := ⟨RX4, "writeMoment", "(I)V"⟩
-- WORDS: all good words of the tables; a method's words are its own code and these
def kw : List Cond := lw_tbl.filter goodWord
theorem kw_in {w : Cond} {i : Nat} (h : lw_tbl[i]? = some w) (hg : goodWord w = true) : w ∈ kw := List.mem_filter.mpr ⟨List.mem_of_getElem? h, hg⟩
theorem kw_good {w : Cond} (h : w ∈ kw) : (w.onTables && w.keeps) = true ∨ ∃ ty, w = .arrayClass ty := good_of_word (List.mem_filter.mp h).2
theorem kcm {c w : Cond} (h : w ∈ kw) : w ∈ c :: kw := List.mem_cons_of_mem _ h
theorem kwC {c0 cw : Cond} (h : cw ∈ kw) : GoodIn (c0 :: kw) (cw :: kw) := by
  intro w hw
  rcases List.mem_cons.mp hw with rfl | hw
  · exact ⟨kcm h, kw_good h⟩
  · exact ⟨kcm hw, kw_good hw⟩
theorem kwV {c0 cw : Cond} {own C : String} {idx : Nat} {y : MethodName} (h1 : Cond.methodLink own idx y ∈ kw) (h2 : Cond.instanceMethod y ∈ kw) (h3 : Cond.selects C y y ∈ kw) (h4 : Cond.initialized C ∈ kw) (h5 : cw ∈ kw) : GoodIn (c0 :: kw) (wsV own idx C y (cw :: kw)) := by
  intro w hw
  rcases List.mem_append.mp hw with hw | hw
  · simp only [List.mem_cons, List.not_mem_nil, or_false] at hw
    rcases hw with rfl | rfl | rfl | rfl
    · exact ⟨kcm h1, kw_good h1⟩
    · exact ⟨kcm h2, kw_good h2⟩
    · exact ⟨kcm h3, kw_good h3⟩
    · exact ⟨kcm h4, kw_good h4⟩
  · exact kwC h5 w hw
theorem kwS {c0 cw : Cond} {own : String} {idx : Nat} {y : MethodName} (h1 : Cond.methodLink own idx y ∈ kw) (h2 : Cond.static y ∈ kw) (h4 : Cond.initialized y.cls ∈ kw) (h5 : cw ∈ kw) : GoodIn (c0 :: kw) (va_wsS own idx y (cw :: kw)) := by
  intro w hw
  rcases List.mem_append.mp hw with hw | hw
  · simp only [List.mem_cons, List.not_mem_nil, or_false] at hw
    rcases hw with rfl | rfl | rfl
    · exact ⟨kcm h1, kw_good h1⟩
    · exact ⟨kcm h2, kw_good h2⟩
    · exact ⟨kcm h4, kw_good h4⟩
  · exact kwC h5 w hw

abbrev wsX0_init : List Cond := .code yX0_init cX0_init 1 none :: kw
abbrev wsX0_append : List Cond := .code yX0_append cX0_append 2 none :: kw
abbrev wsX0_appendFour : List Cond := .code yX0_appendFour cX0_appendFour 2 none :: kw
abbrev wsX0_appendPair : List Cond := .code yX0_appendPair cX0_appendPair 2 none :: kw
abbrev wsX0_byteAt : List Cond := .code yX0_byteAt cX0_byteAt 2 (some .int) :: kw
abbrev wsX0_digitAt : List Cond := .code yX0_digitAt cX0_digitAt 3 (some .int) :: kw
abbrev wsX1_init : List Cond := .code yX1_init cX1_init 1 none :: kw
abbrev wsX1_add : List Cond := .code yX1_add cX1_add 4 (some .int) :: kw
abbrev wsX1_has : List Cond := .code yX1_has cX1_has 2 (some .boolean) :: kw
abbrev wsX1_isBefore : List Cond := .code yX1_isBefore cX1_isBefore 7 (some .boolean) :: kw
abbrev wsX2_init : List Cond := .code yX2_init cX2_init 1 none :: kw
abbrev wsX2_appendPartDigit : List Cond := .code yX2_appendPartDigit cX2_appendPartDigit 2 none :: kw
abbrev wsX2_clearOptional : List Cond := .code yX2_clearOptional cX2_clearOptional 1 none :: kw
abbrev wsX2_dayNumber : List Cond := .code yX2_dayNumber cX2_dayNumber 3 (some .int) :: kw
abbrev wsX2_dayOfWeek : List Cond := .code yX2_dayOfWeek cX2_dayOfWeek 1 (some .int) :: kw
abbrev wsX2_goDayBack : List Cond := .code yX2_goDayBack cX2_goDayBack 1 none :: kw
abbrev wsX2_goDayOn : List Cond := .code yX2_goDayOn cX2_goDayOn 1 none :: kw
abbrev wsX2_moveBy : List Cond := .code yX2_moveBy cX2_moveBy 3 none :: kw
abbrev wsX2_spreadPartOf : List Cond := .code yX2_spreadPartOf cX2_spreadPartOf 2 none :: kw
abbrev wsX2_takeSixtiethsOfPart : List Cond := .code yX2_takeSixtiethsOfPart cX2_takeSixtiethsOfPart 4 (some .int) :: kw
abbrev wsX2_wholeSeconds : List Cond := .code yX2_wholeSeconds cX2_wholeSeconds 1 (some .long) :: kw
abbrev wsX3_init : List Cond := .code yX3_init cX3_init 1 none :: kw
abbrev wsX3_faultOf : List Cond := .code yX3_faultOf cX3_faultOf 4 (some .int) :: kw
abbrev wsX3_longYear : List Cond := .code yX3_longYear cX3_longYear 4 (some .int) :: kw
abbrev wsX3_readClock : List Cond := .code yX3_readClock cX3_readClock 6 (some .boolean) :: kw
abbrev wsX3_readDate : List Cond := .code yX3_readDate cX3_readDate 4 (some .boolean) :: kw
abbrev wsX3_readPair : List Cond := .code yX3_readPair cX3_readPair 7 (some .int) :: kw
abbrev wsX3_readPart : List Cond := .code yX3_readPart cX3_readPart 5 (some .boolean) :: kw
abbrev wsX3_readUnits : List Cond := .code yX3_readUnits cX3_readUnits 3 (some .int) :: kw
abbrev wsX3_readZone : List Cond := .code yX3_readZone cX3_readZone 7 (some .boolean) :: kw
abbrev wsX3_shortYear : List Cond := .code yX3_shortYear cX3_shortYear 3 (some .int) :: kw
abbrev wsX3_yearFits : List Cond := .code yX3_yearFits cX3_yearFits 2 (some .boolean) :: kw
abbrev wsX4_init : List Cond := .code yX4_init cX4_init 1 none :: kw
abbrev wsX4_again : List Cond := .code yX4_again cX4_again 2 (some .int) :: kw
abbrev wsX4_between : List Cond := .code yX4_between cX4_between 3 (some .long) :: kw
abbrev wsX4_count : List Cond := .code yX4_count cX4_count 2 (some .int) :: kw
abbrev wsX4_daysOfMonth : List Cond := .code yX4_daysOfMonth cX4_daysOfMonth 3 (some .int) :: kw
abbrev wsX4_end : List Cond := .code yX4_end cX4_end 2 (some .int) :: kw
abbrev wsX4_fault : List Cond := .code yX4_fault cX4_fault 1 (some .int) :: kw
abbrev wsX4_feed : List Cond := .code yX4_feed cX4_feed 5 (some .int) :: kw
abbrev wsX4_isLeapYear : List Cond := .code yX4_isLeapYear cX4_isLeapYear 1 (some .boolean) :: kw
abbrev wsX4_keep : List Cond := .code yX4_keep cX4_keep 1 (some .int) :: kw
abbrev wsX4_order : List Cond := .code yX4_order cX4_order 2 (some .int) :: kw
abbrev wsX4_out : List Cond := .code yX4_out cX4_out 2 (some .int) :: kw
abbrev wsX4_read : List Cond := .code yX4_read cX4_read 2 (some .int) :: kw
abbrev wsX4_seconds : List Cond := .code yX4_seconds cX4_seconds 1 (some .long) :: kw
abbrev wsX4_unit : List Cond := .code yX4_unit cX4_unit 2 (some .int) :: kw
abbrev wsX4_writeMoment : List Cond := .code yX4_writeMoment cX4_writeMoment 3 none :: kw
theorem kin_0 {c : Cond} : ∀ w ∈ u_ws RX0 TX0 2, w ∈ c :: kw := fun w h => kcm ((by decide +kernel : ∀ w ∈ u_ws RX0 TX0 2, w ∈ kw) w h)
theorem kin_1 {c : Cond} : ∀ w ∈ u_ws RX1 TX1 5, w ∈ c :: kw := fun w h => kcm ((by decide +kernel : ∀ w ∈ u_ws RX1 TX1 5, w ∈ kw) w h)
theorem kin_2 {c : Cond} : ∀ w ∈ u_ws RX2 TX2 8, w ∈ c :: kw := fun w h => kcm ((by decide +kernel : ∀ w ∈ u_ws RX2 TX2 8, w ∈ kw) w h)
theorem kin_3 {c : Cond} : ∀ w ∈ u_ws RX3 TX3 2, w ∈ c :: kw := fun w h => kcm ((by decide +kernel : ∀ w ∈ u_ws RX3 TX3 2, w ∈ kw) w h)
theorem kin_4 {c : Cond} : ∀ w ∈ u_ws RX4 TX4 7, w ∈ c :: kw := fun w h => kcm ((by decide +kernel : ∀ w ∈ u_ws RX4 TX4 7, w ∈ kw) w h)
theorem kin_5 {c : Cond} : ∀ w ∈ u_ws RX5 TX5 16, w ∈ c :: kw := fun w h => kcm ((by decide +kernel : ∀ w ∈ u_ws RX5 TX5 16, w ∈ kw) w h)
