abbrev cX5_add : ByteArray := prog_7_method_3_code
def yX5_add : MethodName := ⟨RX5, "add", "(I)V"⟩
abbrev cX5_dayNow : ByteArray := prog_7_method_11_code
def yX5_dayNow : MethodName := ⟨RX5, "dayNow", "()I"⟩
abbrev cX5_dayOf : ByteArray := prog_7_method_9_code
def yX5_dayOf : MethodName := ⟨RX5, "dayOf", "(III)I"⟩
abbrev cX5_daysOf : ByteArray := prog_7_method_7_code
def yX5_daysOf : MethodName := ⟨RX5, "daysOf", "(II)I"⟩
abbrev cX5_daysTo : ByteArray := prog_7_method_8_code
def yX5_daysTo : MethodName := ⟨RX5, "daysTo", "(I)I"⟩
abbrev cX5_end : ByteArray := prog_7_method_5_code
def yX5_end : MethodName := ⟨RX5, "end", "(I)I"⟩
abbrev cX5_feed : ByteArray := prog_7_method_4_code
def yX5_feed : MethodName := ⟨RX5, "feed", "(IIII)I"⟩
abbrev cX5_isDigit : ByteArray := prog_7_method_13_code
def yX5_isDigit : MethodName := ⟨RX5, "isDigit", "()Z"⟩
abbrev cX5_isLeap : ByteArray := prog_7_method_6_code
def yX5_isLeap : MethodName := ⟨RX5, "isLeap", "(I)Z"⟩
abbrev cX5_monthNow : ByteArray := prog_7_method_12_code
def yX5_monthNow : MethodName := ⟨RX5, "monthNow", "()I"⟩
abbrev cX5_number : ByteArray := prog_7_method_14_code
def yX5_number : MethodName := ⟨RX5, "number", "(I)I"⟩
abbrev cX5_readLong : ByteArray := prog_7_method_18_code
def yX5_readLong : MethodName := ⟨RX5, "readLong", "()I"⟩
abbrev cX5_readPart : ByteArray := prog_7_method_17_code
def yX5_readPart : MethodName := ⟨RX5, "readPart", "(I)I"⟩
abbrev cX5_readShort : ByteArray := prog_7_method_19_code
def yX5_readShort : MethodName := ⟨RX5, "readShort", "()I"⟩
abbrev cX5_readZone : ByteArray := prog_7_method_20_code
def yX5_readZone : MethodName := ⟨RX5, "readZone", "(I)I"⟩
abbrev cX5_thrown : ByteArray := prog_7_method_2_code
def yX5_thrown : MethodName := ⟨RX5, "thrown", "()I"⟩
abbrev cX5_two : ByteArray := prog_7_method_15_code
def yX5_two : MethodName := ⟨RX5, "two", "(II)I"⟩
abbrev cX5_yearOf : ByteArray := prog_7_method_10_code
def yX5_yearOf : MethodName := ⟨RX5, "yearOf", "(I)I"⟩
abbrev cX5_yearOfText : ByteArray := prog_7_method_16_code
def yX5_yearOfText : MethodName := ⟨RX5, "yearOfText", "(I)I"⟩
abbrev wsX5_add : List Cond := .code yX5_add cX5_add 3 none :: kw
abbrev wsX5_dayNow : List Cond := .code yX5_dayNow cX5_dayNow 1 (some .int) :: kw
abbrev wsX5_dayOf : List Cond := .code yX5_dayOf cX5_dayOf 5 (some .int) :: kw
abbrev wsX5_daysOf : List Cond := .code yX5_daysOf cX5_daysOf 2 (some .int) :: kw
abbrev wsX5_daysTo : List Cond := .code yX5_daysTo cX5_daysTo 1 (some .int) :: kw
abbrev wsX5_end : List Cond := .code yX5_end cX5_end 2 (some .int) :: kw
abbrev wsX5_feed : List Cond := .code yX5_feed cX5_feed 5 (some .int) :: kw
abbrev wsX5_isDigit : List Cond := .code yX5_isDigit cX5_isDigit 1 (some .boolean) :: kw
abbrev wsX5_isLeap : List Cond := .code yX5_isLeap cX5_isLeap 1 (some .boolean) :: kw
abbrev wsX5_monthNow : List Cond := .code yX5_monthNow cX5_monthNow 3 (some .int) :: kw
abbrev wsX5_number : List Cond := .code yX5_number cX5_number 4 (some .int) :: kw
abbrev wsX5_readLong : List Cond := .code yX5_readLong cX5_readLong 3 (some .int) :: kw
abbrev wsX5_readPart : List Cond := .code yX5_readPart cX5_readPart 5 (some .int) :: kw
abbrev wsX5_readShort : List Cond := .code yX5_readShort cX5_readShort 2 (some .int) :: kw
abbrev wsX5_readZone : List Cond := .code yX5_readZone cX5_readZone 4 (some .int) :: kw
abbrev wsX5_thrown : List Cond := .code yX5_thrown cX5_thrown 1 (some .int) :: kw
abbrev wsX5_two : List Cond := .code yX5_two cX5_two 4 (some .int) :: kw
abbrev wsX5_yearOf : List Cond := .code yX5_yearOf cX5_yearOf 2 (some .int) :: kw
abbrev wsX5_yearOfText : List Cond := .code yX5_yearOfText cX5_yearOfText 3 (some .int) :: kw
theorem kwm_200 : (.code yX5_isLeap cX5_isLeap 1 (some .boolean) : Cond) ∈ kw := kw_in (i := 623) (by decide +kernel) (by decide +kernel)
theorem kwm_201 : (.methodLink RX5 40 yX5_isLeap : Cond) ∈ kw := kw_in (i := 621) (by decide +kernel) (by decide +kernel)
theorem kwm_202 : (.static yX5_isLeap : Cond) ∈ kw := kw_in (i := 622) (by decide +kernel) (by decide +kernel)
theorem kwm_203 : (.initialized RX5 : Cond) ∈ kw := kw_in (i := 38) (by decide +kernel) (by decide +kernel)
theorem kwm_204 : (.fieldLink RX5 29 "ClockTextsModel" "thrown" "I" : Cond) ∈ kw := kw_in (i := 529) (by decide +kernel) (by decide +kernel)
theorem kwm_205 : (.fieldLink RX5 7 "ClockTextsModel" "text" "[I" : Cond) ∈ kw := kw_in (i := 530) (by decide +kernel) (by decide +kernel)
theorem kwm_206 : (.fieldLink RX5 33 "ClockTextsModel" "size" "I" : Cond) ∈ kw := kw_in (i := 531) (by decide +kernel) (by decide +kernel)
theorem kwm_207 : (.code yX5_add cX5_add 3 none : Cond) ∈ kw := kw_in (i := 589) (by decide +kernel) (by decide +kernel)
theorem kwm_208 : (.methodLink RX5 36 yX5_add : Cond) ∈ kw := kw_in (i := 586) (by decide +kernel) (by decide +kernel)
theorem kwm_209 : (.instanceMethod yX5_add : Cond) ∈ kw := kw_in (i := 588) (by decide +kernel) (by decide +kernel)
theorem kwm_210 : (.selects RX5 yX5_add yX5_add : Cond) ∈ kw := kw_in (i := 15) (by decide +kernel) (by decide +kernel)
theorem kwm_211 : (.code yX5_daysOf cX5_daysOf 2 (some .int) : Cond) ∈ kw := kw_in (i := 620) (by decide +kernel) (by decide +kernel)
theorem kwm_212 : (.methodLink RX5 48 yX5_daysOf : Cond) ∈ kw := kw_in (i := 618) (by decide +kernel) (by decide +kernel)
theorem kwm_213 : (.static yX5_daysOf : Cond) ∈ kw := kw_in (i := 619) (by decide +kernel) (by decide +kernel)
theorem kwm_214 : (.code yX5_daysTo cX5_daysTo 1 (some .int) : Cond) ∈ kw := kw_in (i := 646) (by decide +kernel) (by decide +kernel)
theorem kwm_215 : (.methodLink RX5 44 yX5_daysTo : Cond) ∈ kw := kw_in (i := 644) (by decide +kernel) (by decide +kernel)
theorem kwm_216 : (.static yX5_daysTo : Cond) ∈ kw := kw_in (i := 645) (by decide +kernel) (by decide +kernel)
theorem kwm_217 : (.fieldLink RX5 52 "ClockTextsModel" "all" "J" : Cond) ∈ kw := kw_in (i := 534) (by decide +kernel) (by decide +kernel)
theorem kwm_218 : (.constantLong RX5 56 86400 : Cond) ∈ kw := kw_in (i := 640) (by decide +kernel) (by decide +kernel)
theorem kwm_219 : (.code yX5_dayNow cX5_dayNow 1 (some .int) : Cond) ∈ kw := kw_in (i := 659) (by decide +kernel) (by decide +kernel)
theorem kwm_220 : (.methodLink RX5 58 yX5_dayNow : Cond) ∈ kw := kw_in (i := 656) (by decide +kernel) (by decide +kernel)
theorem kwm_221 : (.instanceMethod yX5_dayNow : Cond) ∈ kw := kw_in (i := 658) (by decide +kernel) (by decide +kernel)
theorem kwm_222 : (.selects RX5 yX5_dayNow yX5_dayNow : Cond) ∈ kw := kw_in (i := 27) (by decide +kernel) (by decide +kernel)
theorem kwm_223 : (.code yX5_yearOf cX5_yearOf 2 (some .int) : Cond) ∈ kw := kw_in (i := 662) (by decide +kernel) (by decide +kernel)
theorem kwm_224 : (.methodLink RX5 62 yX5_yearOf : Cond) ∈ kw := kw_in (i := 660) (by decide +kernel) (by decide +kernel)
theorem kwm_225 : (.static yX5_yearOf : Cond) ∈ kw := kw_in (i := 661) (by decide +kernel) (by decide +kernel)
theorem kwm_226 : (.fieldLink RX5 65 "ClockTextsModel" "at" "I" : Cond) ∈ kw := kw_in (i := 543) (by decide +kernel) (by decide +kernel)
theorem kwm_227 : (.code yX5_isDigit cX5_isDigit 1 (some .boolean) : Cond) ∈ kw := kw_in (i := 613) (by decide +kernel) (by decide +kernel)
theorem kwm_228 : (.methodLink RX5 72 yX5_isDigit : Cond) ∈ kw := kw_in (i := 610) (by decide +kernel) (by decide +kernel)
theorem kwm_229 : (.instanceMethod yX5_isDigit : Cond) ∈ kw := kw_in (i := 612) (by decide +kernel) (by decide +kernel)
theorem kwm_230 : (.selects RX5 yX5_isDigit yX5_isDigit : Cond) ∈ kw := kw_in (i := 19) (by decide +kernel) (by decide +kernel)
theorem kwm_231 : (.code yX5_number cX5_number 4 (some .int) : Cond) ∈ kw := kw_in (i := 609) (by decide +kernel) (by decide +kernel)
theorem kwm_232 : (.methodLink RX5 76 yX5_number : Cond) ∈ kw := kw_in (i := 606) (by decide +kernel) (by decide +kernel)
theorem kwm_233 : (.instanceMethod yX5_number : Cond) ∈ kw := kw_in (i := 608) (by decide +kernel) (by decide +kernel)
theorem kwm_234 : (.selects RX5 yX5_number yX5_number : Cond) ∈ kw := kw_in (i := 18) (by decide +kernel) (by decide +kernel)
theorem kwm_235 : (.fieldLink RX5 68 "ClockTextsModel" "wrong" "Z" : Cond) ∈ kw := kw_in (i := 544) (by decide +kernel) (by decide +kernel)
theorem kwm_236 : (.fieldLink RX5 79 "ClockTextsModel" "digits" "I" : Cond) ∈ kw := kw_in (i := 536) (by decide +kernel) (by decide +kernel)
theorem kwm_237 : (.fieldLink RX5 13 "ClockTextsModel" "part" "[I" : Cond) ∈ kw := kw_in (i := 535) (by decide +kernel) (by decide +kernel)
theorem kwm_238 : (.code yX5_readPart cX5_readPart 5 (some .int) : Cond) ∈ kw := kw_in (i := 635) (by decide +kernel) (by decide +kernel)
theorem kwm_239 : (.methodLink RX5 85 yX5_readPart : Cond) ∈ kw := kw_in (i := 632) (by decide +kernel) (by decide +kernel)
theorem kwm_240 : (.instanceMethod yX5_readPart : Cond) ∈ kw := kw_in (i := 634) (by decide +kernel) (by decide +kernel)
theorem kwm_241 : (.selects RX5 yX5_readPart yX5_readPart : Cond) ∈ kw := kw_in (i := 23) (by decide +kernel) (by decide +kernel)
theorem kwm_242 : (.code yX5_two cX5_two 4 (some .int) : Cond) ∈ kw := kw_in (i := 617) (by decide +kernel) (by decide +kernel)
theorem kwm_243 : (.methodLink RX5 82 yX5_two : Cond) ∈ kw := kw_in (i := 614) (by decide +kernel) (by decide +kernel)
theorem kwm_244 : (.instanceMethod yX5_two : Cond) ∈ kw := kw_in (i := 616) (by decide +kernel) (by decide +kernel)
theorem kwm_245 : (.selects RX5 yX5_two yX5_two : Cond) ∈ kw := kw_in (i := 20) (by decide +kernel) (by decide +kernel)
