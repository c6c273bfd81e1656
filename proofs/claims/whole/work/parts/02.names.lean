/-! ===== BEGIN printed: names, fields, word lists, decode rows ===== -/
def RX0 : String := "WeatherMast$Floats"
def TX0 : u_T := fun k => match k with
  | 0 => ("WeatherMast$Sort", "narrow", "Z", true)
  | 1 => ("WeatherMast$Sort", "signBit", "J", true)
  | 2 => ("WeatherMast$Sort", "lowest", "J", true)
  | 3 => ("WeatherMast$Sort", "highest", "J", true)
  | 4 => ("WeatherMast$Floats", "fractionBits", "I", true)
  | 5 => ("WeatherMast$Floats", "bias", "I", true)
  | 6 => ("WeatherMast$Floats", "leadingOne", "J", true)
  | 7 => ("WeatherMast$Floats", "half", "J", true)
  | 8 => ("WeatherMast$Floats", "one", "J", true)
  | _ => ("WeatherMast$Floats", "infinity", "J", true)
def tyX0 : Nat → FieldType := fun k => match k with
  | 0 => .boolean
  | 1 => .long
  | 2 => .long
  | 3 => .long
  | 4 => .int
  | 5 => .int
  | 6 => .long
  | 7 => .long
  | 8 => .long
  | _ => .long
abbrev wsX00 : List Cond := u_ws RX0 TX0 10
theorem nmX0 : ∀ a, a < 10 → ∀ b, b < 10 → a ≠ b → (TX0 a).2.1 ≠ (TX0 b).2.1 := by decide +kernel
theorem tyX0_ok : ∀ k, k < 10 → parseFieldDescriptor (TX0 k).2.2.1 = some (tyX0 k) := by decide +kernel
abbrev cX0_init : ByteArray := prog_2_method_1_code
def yX0_init : MethodName := ⟨RX0, "<init>", "(Z)V"⟩
abbrev cX0_isNumber : ByteArray := prog_2_method_2_code
def yX0_isNumber : MethodName := ⟨RX0, "isNumber", "(J)Z"⟩
abbrev cX0_hasStep : ByteArray := prog_2_method_3_code
def yX0_hasStep : MethodName := ⟨RX0, "hasStep", "(I)Z"⟩
abbrev cX0_amount : ByteArray := prog_2_method_4_code
def yX0_amount : MethodName := ⟨RX0, "amount", "(J)J"⟩
abbrev cX0_rank : ByteArray := prog_2_method_5_code
def yX0_rank : MethodName := ⟨RX0, "rank", "(J)J"⟩
abbrev cX0_place : ByteArray := prog_2_method_6_code
def yX0_place : MethodName := ⟨RX0, "place", "(J)J"⟩
abbrev cX0_addAmounts : ByteArray := prog_2_method_7_code
def yX0_addAmounts : MethodName := ⟨RX0, "addAmounts", "(JJ)J"⟩
abbrev cX0_apart : ByteArray := prog_2_method_8_code
def yX0_apart : MethodName := ⟨RX0, "apart", "(JJ)J"⟩
abbrev cX0_differenceOfAmounts : ByteArray := prog_2_method_9_code
def yX0_differenceOfAmounts : MethodName := ⟨RX0, "differenceOfAmounts", "(JJ)J"⟩
abbrev cX0_exponent : ByteArray := prog_2_method_10_code
def yX0_exponent : MethodName := ⟨RX0, "exponent", "(J)I"⟩
abbrev cX0_digits : ByteArray := prog_2_method_11_code
def yX0_digits : MethodName := ⟨RX0, "digits", "(J)J"⟩
abbrev cX0_guardedDigits : ByteArray := prog_2_method_12_code
def yX0_guardedDigits : MethodName := ⟨RX0, "guardedDigits", "(J)J"⟩
abbrev cX0_shiftedDown : ByteArray := prog_2_method_13_code
def yX0_shiftedDown : MethodName := ⟨RX0, "shiftedDown", "(JI)J"⟩
abbrev cX0_rounded : ByteArray := prog_2_method_14_code
def yX0_rounded : MethodName := ⟨RX0, "rounded", "(IJ)J"⟩
abbrev cX0_asInt : ByteArray := prog_2_method_15_code
def yX0_asInt : MethodName := ⟨RX0, "asInt", "(J)I"⟩
abbrev cX0_afterFurtherStep : ByteArray := prog_2_method_16_code
def yX0_afterFurtherStep : MethodName := ⟨RX0, "afterFurtherStep", "(IJJ)J"⟩
abbrev cX0_withSignOf : ByteArray := prog_2_method_17_code
def yX0_withSignOf : MethodName := ⟨RX0, "withSignOf", "(JJ)J"⟩
abbrev cX0_bitsBehindPoint : ByteArray := prog_2_method_18_code
def yX0_bitsBehindPoint : MethodName := ⟨RX0, "bitsBehindPoint", "(J)I"⟩
abbrev cX0_wholeNotAbove : ByteArray := prog_2_method_19_code
def yX0_wholeNotAbove : MethodName := ⟨RX0, "wholeNotAbove", "(J)J"⟩
abbrev cX0_wholeNotBelow : ByteArray := prog_2_method_20_code
def yX0_wholeNotBelow : MethodName := ⟨RX0, "wholeNotBelow", "(J)J"⟩
abbrev cX0_wholeNearest : ByteArray := prog_2_method_21_code
def yX0_wholeNearest : MethodName := ⟨RX0, "wholeNearest", "(J)J"⟩
def RX1 : String := "WeatherMast$Instrument"
def TX1 : u_T := fun k => match k with
  | 0 => ("WeatherMast$Instrument", "sortNumber", "I", true)
  | 1 => ("WeatherMast$Instrument", "sort", "LWeatherMast$Sort;", true)
  | 2 => ("WeatherMast$Instrument", "chain", "[LWeatherMast$Step;", true)
  | 3 => ("WeatherMast$Instrument", "kept", "[J", true)
  | 4 => ("WeatherMast$Instrument", "steps", "I", false)
  | 5 => ("WeatherMast$Instrument", "low", "J", false)
  | 6 => ("WeatherMast$Instrument", "high", "J", false)
  | 7 => ("WeatherMast$Instrument", "alarmsGiven", "I", false)
  | 8 => ("WeatherMast$Instrument", "readings", "I", false)
  | 9 => ("WeatherMast$Instrument", "latest", "J", false)
  | 10 => ("WeatherMast$Instrument", "least", "J", false)
  | 11 => ("WeatherMast$Instrument", "greatest", "J", false)
  | 12 => ("WeatherMast$Instrument", "swing", "J", false)
  | _ => ("WeatherMast$Instrument", "sum", "J", false)
def tyX1 : Nat → FieldType := fun k => match k with
  | 0 => .int
  | 1 => .object "WeatherMast$Sort"
  | 2 => .array (.object "WeatherMast$Step")
  | 3 => .array .long
  | 4 => .int
  | 5 => .long
  | 6 => .long
  | 7 => .int
  | 8 => .int
  | 9 => .long
  | 10 => .long
  | 11 => .long
  | 12 => .long
  | _ => .long
abbrev wsX10 : List Cond := u_ws RX1 TX1 14
theorem nmX1 : ∀ a, a < 14 → ∀ b, b < 14 → a ≠ b → (TX1 a).2.1 ≠ (TX1 b).2.1 := by decide +kernel
theorem tyX1_ok : ∀ k, k < 14 → parseFieldDescriptor (TX1 k).2.2.1 = some (tyX1 k) := by decide +kernel
abbrev cX1_init : ByteArray := prog_3_method_1_code
def yX1_init : MethodName := ⟨RX1, "<init>", "(ILWeatherMast$Sort;)V"⟩
abbrev cX1_isChainFull : ByteArray := prog_3_method_2_code
def yX1_isChainFull : MethodName := ⟨RX1, "isChainFull", "()Z"⟩
abbrev cX1_lengthenChain : ByteArray := prog_3_method_3_code
def yX1_lengthenChain : MethodName := ⟨RX1, "lengthenChain", "(LWeatherMast$Step;)I"⟩
abbrev cX1_throughChain : ByteArray := prog_3_method_4_code
def yX1_throughChain : MethodName := ⟨RX1, "throughChain", "(J)J"⟩
abbrev cX1_keep : ByteArray := prog_3_method_5_code
def yX1_keep : MethodName := ⟨RX1, "keep", "(J)V"⟩
abbrev cX1_hasRead : ByteArray := prog_3_method_6_code
def yX1_hasRead : MethodName := ⟨RX1, "hasRead", "()Z"⟩
abbrev cX1_isBeyondLimits : ByteArray := prog_3_method_7_code
def yX1_isBeyondLimits : MethodName := ⟨RX1, "isBeyondLimits", "(J)Z"⟩
abbrev cX1_isKept : ByteArray := prog_3_method_8_code
def yX1_isKept : MethodName := ⟨RX1, "isKept", "(I)Z"⟩
abbrev cX1_keptAt : ByteArray := prog_3_method_9_code
def yX1_keptAt : MethodName := ⟨RX1, "keptAt", "(I)J"⟩
abbrev cX1_loseReadings : ByteArray := prog_3_method_10_code
def yX1_loseReadings : MethodName := ⟨RX1, "loseReadings", "()V"⟩
def RX2 : String := "WeatherMast$Sort"
def TX2 : u_T := fun k => match k with
  | _ => ("", "", "", false)
def tyX2 : Nat → FieldType := fun k => match k with
  | _ => .int
abbrev wsX20 : List Cond := u_ws RX2 TX2 0
theorem nmX2 : ∀ a, a < 0 → ∀ b, b < 0 → a ≠ b → (TX2 a).2.1 ≠ (TX2 b).2.1 := by decide +kernel
theorem tyX2_ok : ∀ k, k < 0 → parseFieldDescriptor (TX2 k).2.2.1 = some (tyX2 k) := by decide +kernel
abbrev cX2_init : ByteArray := prog_4_method_1_code
def yX2_init : MethodName := ⟨RX2, "<init>", "(ZJJ)V"⟩
abbrev cX2_heard : ByteArray := prog_4_method_11_code
def yX2_heard : MethodName := ⟨RX2, "heard", "(J)J"⟩
abbrev cX2_greater : ByteArray := prog_4_method_12_code
def yX2_greater : MethodName := ⟨RX2, "greater", "(JJ)J"⟩
abbrev cX2_lesser : ByteArray := prog_4_method_13_code
def yX2_lesser : MethodName := ⟨RX2, "lesser", "(JJ)J"⟩
abbrev cX2_isAbove : ByteArray := prog_4_method_14_code
def yX2_isAbove : MethodName := ⟨RX2, "isAbove", "(JJ)Z"⟩
abbrev cX2_afterStep : ByteArray := prog_4_method_15_code
def yX2_afterStep : MethodName := ⟨RX2, "afterStep", "(IJJ)J"⟩
def RX3 : String := "WeatherMast$Step"
def TX3 : u_T := fun k => match k with
  | 0 => ("WeatherMast$Step", "number", "I", true)
  | 1 => ("WeatherMast$Step", "told", "J", true)
  | _ => ("WeatherMast$Step", "followed", "LWeatherMast$Instrument;", true)
def tyX3 : Nat → FieldType := fun k => match k with
  | 0 => .int
  | 1 => .long
  | _ => .object "WeatherMast$Instrument"
abbrev wsX30 : List Cond := u_ws RX3 TX3 3
theorem nmX3 : ∀ a, a < 3 → ∀ b, b < 3 → a ≠ b → (TX3 a).2.1 ≠ (TX3 b).2.1 := by decide +kernel
theorem tyX3_ok : ∀ k, k < 3 → parseFieldDescriptor (TX3 k).2.2.1 = some (tyX3 k) := by decide +kernel
abbrev cX3_init : ByteArray := prog_5_method_1_code
def yX3_init : MethodName := ⟨RX3, "<init>", "(IJLWeatherMast$Instrument;)V"⟩
abbrev cX3_currentK : ByteArray := prog_5_method_2_code
def yX3_currentK : MethodName := ⟨RX3, "currentK", "()J"⟩
def RX4 : String := "WeatherMast$Wholes"
def TX4 : u_T := fun k => match k with
  | 0 => ("WeatherMast$Sort", "narrow", "Z", true)
  | 1 => ("WeatherMast$Sort", "signBit", "J", true)
  | 2 => ("WeatherMast$Sort", "lowest", "J", true)
  | _ => ("WeatherMast$Sort", "highest", "J", true)
def tyX4 : Nat → FieldType := fun k => match k with
  | 0 => .boolean
  | 1 => .long
  | 2 => .long
  | _ => .long
abbrev wsX40 : List Cond := u_ws RX4 TX4 4
theorem nmX4 : ∀ a, a < 4 → ∀ b, b < 4 → a ≠ b → (TX4 a).2.1 ≠ (TX4 b).2.1 := by decide +kernel
theorem tyX4_ok : ∀ k, k < 4 → parseFieldDescriptor (TX4 k).2.2.1 = some (tyX4 k) := by decide +kernel
abbrev cX4_init : ByteArray := prog_6_method_1_code
def yX4_init : MethodName := ⟨RX4, "<init>", "(Z)V"⟩
abbrev cX4_isNumber : ByteArray := prog_6_method_2_code
def yX4_isNumber : MethodName := ⟨RX4, "isNumber", "(J)Z"⟩
abbrev cX4_hasStep : ByteArray := prog_6_method_3_code
def yX4_hasStep : MethodName := ⟨RX4, "hasStep", "(I)Z"⟩
abbrev cX4_amount : ByteArray := prog_6_method_4_code
def yX4_amount : MethodName := ⟨RX4, "amount", "(J)J"⟩
abbrev cX4_rank : ByteArray := prog_6_method_5_code
def yX4_rank : MethodName := ⟨RX4, "rank", "(J)J"⟩
abbrev cX4_place : ByteArray := prog_6_method_6_code
def yX4_place : MethodName := ⟨RX4, "place", "(J)J"⟩
abbrev cX4_addAmounts : ByteArray := prog_6_method_7_code
def yX4_addAmounts : MethodName := ⟨RX4, "addAmounts", "(JJ)J"⟩
abbrev cX4_apart : ByteArray := prog_6_method_8_code
def yX4_apart : MethodName := ⟨RX4, "apart", "(JJ)J"⟩
abbrev cX4_asInt : ByteArray := prog_6_method_9_code
def yX4_asInt : MethodName := ⟨RX4, "asInt", "(J)I"⟩
abbrev cX4_afterFurtherStep : ByteArray := prog_6_method_10_code
def yX4_afterFurtherStep : MethodName := ⟨RX4, "afterFurtherStep", "(IJJ)J"⟩
def RX5 : String := "WeatherMast"
def TX5 : u_T := fun k => match k with
  | 0 => ("WeatherMast", "sorts", "[LWeatherMast$Sort;", true)
  | 1 => ("WeatherMast", "instruments", "[LWeatherMast$Instrument;", true)
  | 2 => ("WeatherMast", "mounted", "I", false)
  | 3 => ("WeatherMast", "readingsEver", "I", false)
  | 4 => ("WeatherMast", "alarmsEver", "I", false)
  | _ => ("WeatherMast", "stepsEver", "I", false)
def tyX5 : Nat → FieldType := fun k => match k with
  | 0 => .array (.object "WeatherMast$Sort")
  | 1 => .array (.object "WeatherMast$Instrument")
  | 2 => .int
  | 3 => .int
  | 4 => .int
  | _ => .int
abbrev wsX50 : List Cond := u_ws RX5 TX5 6
theorem nmX5 : ∀ a, a < 6 → ∀ b, b < 6 → a ≠ b → (TX5 a).2.1 ≠ (TX5 b).2.1 := by decide +kernel
theorem tyX5_ok : ∀ k, k < 6 → parseFieldDescriptor (TX5 k).2.2.1 = some (tyX5 k) := by decide +kernel
abbrev cX5_init : ByteArray := prog_1_method_1_code
def yX5_init : MethodName := ⟨RX5, "<init>", "()V"⟩
abbrev cX5_mount : ByteArray := prog_1_method_2_code
def yX5_mount : MethodName := ⟨RX5, "mount", "(I)I"⟩
abbrev cX5_step : ByteArray := prog_1_method_3_code
def yX5_step : MethodName := ⟨RX5, "step", "(IIJ)I"⟩
abbrev cX5_follow : ByteArray := prog_1_method_4_code
def yX5_follow : MethodName := ⟨RX5, "follow", "(III)I"⟩
abbrev cX5_read : ByteArray := prog_1_method_5_code
def yX5_read : MethodName := ⟨RX5, "read", "(IJ)J"⟩
abbrev cX5_reading : ByteArray := prog_1_method_6_code
def yX5_reading : MethodName := ⟨RX5, "reading", "(II)J"⟩
abbrev cX5_tell : ByteArray := prog_1_method_7_code
def yX5_tell : MethodName := ⟨RX5, "tell", "(II)J"⟩
abbrev cX5_whole : ByteArray := prog_1_method_8_code
def yX5_whole : MethodName := ⟨RX5, "whole", "(I)I"⟩
abbrev cX5_limits : ByteArray := prog_1_method_9_code
def yX5_limits : MethodName := ⟨RX5, "limits", "(IJJ)Z"⟩
abbrev cX5_widest : ByteArray := prog_1_method_10_code
def yX5_widest : MethodName := ⟨RX5, "widest", "(I)J"⟩
abbrev cX5_forget : ByteArray := prog_1_method_11_code
def yX5_forget : MethodName := ⟨RX5, "forget", "(I)I"⟩
abbrev cX5_alarms : ByteArray := prog_1_method_12_code
def yX5_alarms : MethodName := ⟨RX5, "alarms", "(I)I"⟩
abbrev cX5_count : ByteArray := prog_1_method_13_code
def yX5_count : MethodName := ⟨RX5, "count", "(I)I"⟩
abbrev cX5_findSort : ByteArray := prog_1_method_14_code
def yX5_findSort : MethodName := ⟨RX5, "findSort", "(I)LWeatherMast$Sort;"⟩
abbrev cX5_findInstrument : ByteArray := prog_1_method_15_code
def yX5_findInstrument : MethodName := ⟨RX5, "findInstrument", "(I)LWeatherMast$Instrument;"⟩
abbrev cX5_takesK : ByteArray := prog_1_method_16_code
def yX5_takesK : MethodName := ⟨RX5, "takesK", "(I)Z"⟩
def RX6 : String := "WeatherMastModel"
def TX6 : u_T := fun k => match k with
  | 0 => ("WeatherMastModel", "thrown", "I", false)
  | 1 => ("WeatherMastModel", "instruments", "I", false)
  | 2 => ("WeatherMastModel", "sorts", "[I", true)
  | 3 => ("WeatherMastModel", "chains", "[I", true)
  | 4 => ("WeatherMastModel", "steps", "[I", true)
  | 5 => ("WeatherMastModel", "sources", "[I", true)
  | 6 => ("WeatherMastModel", "told", "[J", true)
  | 7 => ("WeatherMastModel", "lows", "[J", true)
  | 8 => ("WeatherMastModel", "highs", "[J", true)
  | 9 => ("WeatherMastModel", "many", "[I", true)
  | 10 => ("WeatherMastModel", "kept", "[J", true)
  | 11 => ("WeatherMastModel", "leasts", "[J", true)
  | 12 => ("WeatherMastModel", "greatests", "[J", true)
  | 13 => ("WeatherMastModel", "swings", "[J", true)
  | 14 => ("WeatherMastModel", "sums", "[J", true)
  | 15 => ("WeatherMastModel", "alarms", "[I", true)
  | 16 => ("WeatherMastModel", "readings", "I", false)
  | 17 => ("WeatherMastModel", "allAlarms", "I", false)
  | _ => ("WeatherMastModel", "done", "I", false)
def tyX6 : Nat → FieldType := fun k => match k with
  | 0 => .int
  | 1 => .int
  | 2 => .array .int
  | 3 => .array .int
  | 4 => .array .int
  | 5 => .array .int
  | 6 => .array .long
  | 7 => .array .long
  | 8 => .array .long
  | 9 => .array .int
  | 10 => .array .long
  | 11 => .array .long
  | 12 => .array .long
  | 13 => .array .long
  | 14 => .array .long
  | 15 => .array .int
  | 16 => .int
  | 17 => .int
  | _ => .int
abbrev wsX60 : List Cond := u_ws RX6 TX6 19
theorem nmX6 : ∀ a, a < 19 → ∀ b, b < 19 → a ≠ b → (TX6 a).2.1 ≠ (TX6 b).2.1 := by decide +kernel
theorem tyX6_ok : ∀ k, k < 19 → parseFieldDescriptor (TX6 k).2.2.1 = some (tyX6 k) := by decide +kernel
abbrev cX6_init : ByteArray := prog_8_method_1_code
def yX6_init : MethodName := ⟨RX6, "<init>", "()V"⟩
abbrev cX6_thrown : ByteArray := prog_8_method_2_code
def yX6_thrown : MethodName := ⟨RX6, "thrown", "()I"⟩
abbrev cX6_fail : ByteArray := prog_8_method_3_code
def yX6_fail : MethodName := ⟨RX6, "fail", "(I)I"⟩
abbrev cX6_isInstrument : ByteArray := prog_8_method_4_code
def yX6_isInstrument : MethodName := ⟨RX6, "isInstrument", "(I)Z"⟩
abbrev cX6_isReal : ByteArray := prog_8_method_5_code
def yX6_isReal : MethodName := ⟨RX6, "isReal", "(I)Z"⟩
abbrev cX6_places : ByteArray := prog_8_method_6_code
def yX6_places : MethodName := ⟨RX6, "places", "(I)I"⟩
abbrev cX6_signBit : ByteArray := prog_8_method_7_code
def yX6_signBit : MethodName := ⟨RX6, "signBit", "(I)J"⟩
abbrev cX6_endless : ByteArray := prog_8_method_8_code
def yX6_endless : MethodName := ⟨RX6, "endless", "(I)J"⟩
abbrev cX6_one : ByteArray := prog_8_method_9_code
def yX6_one : MethodName := ⟨RX6, "one", "(I)J"⟩
abbrev cX6_cut : ByteArray := prog_8_method_10_code
def yX6_cut : MethodName := ⟨RX6, "cut", "(IJ)J"⟩
abbrev cX6_form : ByteArray := prog_8_method_11_code
def yX6_form : MethodName := ⟨RX6, "form", "(IJ)J"⟩
abbrev cX6_amountBits : ByteArray := prog_8_method_12_code
def yX6_amountBits : MethodName := ⟨RX6, "amountBits", "(IJ)J"⟩
abbrev cX6_isMinus : ByteArray := prog_8_method_13_code
def yX6_isMinus : MethodName := ⟨RX6, "isMinus", "(IJ)Z"⟩
abbrev cX6_isNone : ByteArray := prog_8_method_14_code
def yX6_isNone : MethodName := ⟨RX6, "isNone", "(IJ)Z"⟩
abbrev cX6_rank : ByteArray := prog_8_method_15_code
def yX6_rank : MethodName := ⟨RX6, "rank", "(IJ)J"⟩
abbrev cX6_height : ByteArray := prog_8_method_16_code
def yX6_height : MethodName := ⟨RX6, "height", "(IJ)J"⟩
abbrev cX6_greater : ByteArray := prog_8_method_17_code
def yX6_greater : MethodName := ⟨RX6, "greater", "(IJJ)J"⟩
abbrev cX6_lesser : ByteArray := prog_8_method_18_code
def yX6_lesser : MethodName := ⟨RX6, "lesser", "(IJJ)J"⟩
abbrev cX6_isAbove : ByteArray := prog_8_method_19_code
def yX6_isAbove : MethodName := ⟨RX6, "isAbove", "(IJJ)Z"⟩
abbrev cX6_amount : ByteArray := prog_8_method_20_code
def yX6_amount : MethodName := ⟨RX6, "amount", "(IJ)J"⟩
abbrev cX6_signed : ByteArray := prog_8_method_21_code
def yX6_signed : MethodName := ⟨RX6, "signed", "(IJZ)J"⟩
abbrev cX6_toWhole : ByteArray := prog_8_method_22_code
def yX6_toWhole : MethodName := ⟨RX6, "toWhole", "(IJI)J"⟩
abbrev cX6_changed : ByteArray := prog_8_method_23_code
def yX6_changed : MethodName := ⟨RX6, "changed", "(IIJJ)J"⟩
abbrev cX6_takes : ByteArray := prog_8_method_24_code
def yX6_takes : MethodName := ⟨RX6, "takes", "(I)Z"⟩
abbrev cX6_isStep : ByteArray := prog_8_method_25_code
def yX6_isStep : MethodName := ⟨RX6, "isStep", "(II)Z"⟩
abbrev cX6_single : ByteArray := prog_8_method_26_code
def yX6_single : MethodName := ⟨RX6, "single", "(J)F"⟩
abbrev cX6_real : ByteArray := prog_8_method_27_code
def yX6_real : MethodName := ⟨RX6, "real", "(J)D"⟩
abbrev cX6_swing : ByteArray := prog_8_method_28_code
def yX6_swing : MethodName := ⟨RX6, "swing", "(IJJ)J"⟩
abbrev cX6_sum : ByteArray := prog_8_method_29_code
def yX6_sum : MethodName := ⟨RX6, "sum", "(IJJ)J"⟩
abbrev cX6_mount : ByteArray := prog_8_method_30_code
def yX6_mount : MethodName := ⟨RX6, "mount", "(I)I"⟩
abbrev cX6_link : ByteArray := prog_8_method_31_code
def yX6_link : MethodName := ⟨RX6, "link", "(IIJI)I"⟩
abbrev cX6_step : ByteArray := prog_8_method_32_code
def yX6_step : MethodName := ⟨RX6, "step", "(IIJ)I"⟩
abbrev cX6_follow : ByteArray := prog_8_method_33_code
def yX6_follow : MethodName := ⟨RX6, "follow", "(III)I"⟩
abbrev cX6_limits : ByteArray := prog_8_method_34_code
def yX6_limits : MethodName := ⟨RX6, "limits", "(IJJ)Z"⟩
abbrev cX6_latest : ByteArray := prog_8_method_35_code
def yX6_latest : MethodName := ⟨RX6, "latest", "(I)J"⟩
abbrev cX6_through : ByteArray := prog_8_method_36_code
def yX6_through : MethodName := ⟨RX6, "through", "(IJ)J"⟩
abbrev cX6_read : ByteArray := prog_8_method_37_code
def yX6_read : MethodName := ⟨RX6, "read", "(IJ)J"⟩
abbrev cX6_forget : ByteArray := prog_8_method_38_code
def yX6_forget : MethodName := ⟨RX6, "forget", "(I)I"⟩
abbrev cX6_reading : ByteArray := prog_8_method_39_code
def yX6_reading : MethodName := ⟨RX6, "reading", "(II)J"⟩
abbrev cX6_tell : ByteArray := prog_8_method_40_code
def yX6_tell : MethodName := ⟨RX6, "tell", "(II)J"⟩
abbrev cX6_whole : ByteArray := prog_8_method_41_code
def yX6_whole : MethodName := ⟨RX6, "whole", "(I)I"⟩
abbrev cX6_widest : ByteArray := prog_8_method_42_code
def yX6_widest : MethodName := ⟨RX6, "widest", "(I)J"⟩
abbrev cX6_alarms : ByteArray := prog_8_method_43_code
def yX6_alarms : MethodName := ⟨RX6, "alarms", "(I)I"⟩
abbrev cX6_count : ByteArray := prog_8_method_44_code
def yX6_count : MethodName := ⟨RX6, "count", "(I)I"⟩
def RJxe99ae : String := "java/lang/Double"
def TJxe99ae : u_T := fun k => match k with
  | _ => ("", "", "", false)
def tyJxe99ae : Nat → FieldType := fun k => match k with
  | _ => .int
abbrev wsJxe99ae0 : List Cond := u_ws RJxe99ae TJxe99ae 0
theorem nmJxe99ae : ∀ a, a < 0 → ∀ b, b < 0 → a ≠ b → (TJxe99ae a).2.1 ≠ (TJxe99ae b).2.1 := by decide +kernel
theorem tyJxe99ae_ok : ∀ k, k < 0 → parseFieldDescriptor (TJxe99ae k).2.2.1 = some (tyJxe99ae k) := by decide +kernel
abbrev cJxe99ae_isNaN_b9ae7 : ByteArray := prog_9_method_6_code
def yJxe99ae_isNaN_b9ae7 : MethodName := ⟨RJxe99ae, "isNaN", "(D)Z"⟩
abbrev cJxe99ae_doubleToLongBits_ccdee : ByteArray := prog_9_method_23_code
def yJxe99ae_doubleToLongBits_ccdee : MethodName := ⟨RJxe99ae, "doubleToLongBits", "(D)J"⟩
def RJxf58ca : String := "java/lang/Float"
def TJxf58ca : u_T := fun k => match k with
  | _ => ("", "", "", false)
def tyJxf58ca : Nat → FieldType := fun k => match k with
  | _ => .int
abbrev wsJxf58ca0 : List Cond := u_ws RJxf58ca TJxf58ca 0
theorem nmJxf58ca : ∀ a, a < 0 → ∀ b, b < 0 → a ≠ b → (TJxf58ca a).2.1 ≠ (TJxf58ca b).2.1 := by decide +kernel
theorem tyJxf58ca_ok : ∀ k, k < 0 → parseFieldDescriptor (TJxf58ca k).2.2.1 = some (tyJxf58ca k) := by decide +kernel
abbrev cJxf58ca_isNaN_12338 : ByteArray := prog_11_method_6_code
def yJxf58ca_isNaN_12338 : MethodName := ⟨RJxf58ca, "isNaN", "(F)Z"⟩
abbrev cJxf58ca_floatToIntBits_5c35a : ByteArray := prog_11_method_24_code
def yJxf58ca_floatToIntBits_5c35a : MethodName := ⟨RJxf58ca, "floatToIntBits", "(F)I"⟩
def RJ6 : String := "java/lang/Integer"
def TJ6 : u_T := fun k => match k with
  | _ => ("", "", "", false)
def tyJ6 : Nat → FieldType := fun k => match k with
  | _ => .int
abbrev wsJ60 : List Cond := u_ws RJ6 TJ6 0
theorem nmJ6 : ∀ a, a < 0 → ∀ b, b < 0 → a ≠ b → (TJ6 a).2.1 ≠ (TJ6 b).2.1 := by decide +kernel
theorem tyJ6_ok : ∀ k, k < 0 → parseFieldDescriptor (TJ6 k).2.2.1 = some (tyJ6 k) := by decide +kernel
abbrev cJ6_numberOfLeadingZeros_0f7a4 : ByteArray := prog_15_method_47_code
def yJ6_numberOfLeadingZeros_0f7a4 : MethodName := ⟨RJ6, "numberOfLeadingZeros", "(I)I"⟩
def RJ13 : String := "java/lang/Long"
def TJ13 : u_T := fun k => match k with
  | _ => ("", "", "", false)
def tyJ13 : Nat → FieldType := fun k => match k with
  | _ => .int
abbrev wsJ130 : List Cond := u_ws RJ13 TJ13 0
theorem nmJ13 : ∀ a, a < 0 → ∀ b, b < 0 → a ≠ b → (TJ13 a).2.1 ≠ (TJ13 b).2.1 := by decide +kernel
theorem tyJ13_ok : ∀ k, k < 0 → parseFieldDescriptor (TJ13 k).2.2.1 = some (tyJ13 k) := by decide +kernel
abbrev cJ13_numberOfLeadingZeros_95d88 : ByteArray := prog_16_method_48_code
def yJ13_numberOfLeadingZeros_95d88 : MethodName := ⟨RJ13, "numberOfLeadingZeros", "(J)I"⟩
def RJ9 : String := "java/lang/Math"
def TJ9 : u_T := fun k => match k with
  | _ => ("", "", "", false)
def tyJ9 : Nat → FieldType := fun k => match k with
  | _ => .int
abbrev wsJ90 : List Cond := u_ws RJ9 TJ9 0
theorem nmJ9 : ∀ a, a < 0 → ∀ b, b < 0 → a ≠ b → (TJ9 a).2.1 ≠ (TJ9 b).2.1 := by decide +kernel
theorem tyJ9_ok : ∀ k, k < 0 → parseFieldDescriptor (TJ9 k).2.2.1 = some (tyJ9 k) := by decide +kernel
abbrev cJ9_max_f86c9 : ByteArray := prog_17_method_66_code
def yJ9_max_f86c9 : MethodName := ⟨RJ9, "max", "(JJ)J"⟩
abbrev cJ9_min_7cf53 : ByteArray := prog_17_method_69_code
def yJ9_min_7cf53 : MethodName := ⟨RJ9, "min", "(II)I"⟩
abbrev cJ9_min_f86c9 : ByteArray := prog_17_method_70_code
def yJ9_min_f86c9 : MethodName := ⟨RJ9, "min", "(JJ)J"⟩
def RJ0 : String := "java/lang/String"
def TJ0 : u_T := fun k => match k with
  | _ => ("", "", "", false)
def tyJ0 : Nat → FieldType := fun k => match k with
  | _ => .int
abbrev wsJ00 : List Cond := u_ws RJ0 TJ0 0
theorem nmJ0 : ∀ a, a < 0 → ∀ b, b < 0 → a ≠ b → (TJ0 a).2.1 ≠ (TJ0 b).2.1 := by decide +kernel
theorem tyJ0_ok : ∀ k, k < 0 → parseFieldDescriptor (TJ0 k).2.2.1 = some (tyJ0 k) := by decide +kernel
def RL : String := "WeatherMastLaw"
abbrev cL_mount : ByteArray := method_3_code
def yL_mount : MethodName := ⟨RL, "mount", "(LWeatherMast;I[J)I"⟩
abbrev cL_step : ByteArray := method_4_code
def yL_step : MethodName := ⟨RL, "step", "(LWeatherMast;IIJ[J)I"⟩
abbrev cL_follow : ByteArray := method_5_code
def yL_follow : MethodName := ⟨RL, "follow", "(LWeatherMast;III[J)I"⟩
abbrev cL_read : ByteArray := method_6_code
def yL_read : MethodName := ⟨RL, "read", "(LWeatherMast;IJ[J)I"⟩
abbrev cL_reading : ByteArray := method_7_code
def yL_reading : MethodName := ⟨RL, "reading", "(LWeatherMast;II[J)I"⟩
abbrev cL_tell : ByteArray := method_8_code
def yL_tell : MethodName := ⟨RL, "tell", "(LWeatherMast;II[J)I"⟩
abbrev cL_whole : ByteArray := method_9_code
def yL_whole : MethodName := ⟨RL, "whole", "(LWeatherMast;I[J)I"⟩
abbrev cL_limits : ByteArray := method_10_code
def yL_limits : MethodName := ⟨RL, "limits", "(LWeatherMast;IJJ[J)I"⟩
abbrev cL_widest : ByteArray := method_11_code
def yL_widest : MethodName := ⟨RL, "widest", "(LWeatherMast;I[J)I"⟩
abbrev cL_forget : ByteArray := method_12_code
def yL_forget : MethodName := ⟨RL, "forget", "(LWeatherMast;I[J)I"⟩
abbrev cL_alarms : ByteArray := method_13_code
def yL_alarms : MethodName := ⟨RL, "alarms", "(LWeatherMast;I[J)I"⟩
abbrev cL_law : ByteArray := code
def yL_law : MethodName := ⟨RL, "law", "([I)Z"⟩
def wsX2_init : List Cond := .code yX2_init cX2_init 6 none :: ([.methodLink RX2 3 objectInit, .instanceMethod objectInit, .code objectInit ⟨#[0xb1]⟩ 1 none, .fieldLink RX2 9 "WeatherMast$Sort" "narrow" "Z", .constantLong RX2 15 (-2147483648), .constantLong RX2 17 (-9223372036854775808), .fieldLink RX2 19 "WeatherMast$Sort" "signBit" "J", .fieldLink RX2 23 "WeatherMast$Sort" "lowest" "J", .fieldLink RX2 26 "WeatherMast$Sort" "highest" "J"] ++ wsX00 ++ wsX40)
def wsX0_init : List Cond := .code yX0_init cX0_init 2 none :: ([.constantLong RX0 5 (-8388608), .constantLong RX0 7 (-4503599627370496), .constantLong RX0 9 (2139095040), .constantLong RX0 11 (9218868437227405312), .fieldLink RX0 19 "WeatherMast$Floats" "fractionBits" "I", .fieldLink RX0 23 "WeatherMast$Floats" "bias" "I", .fieldLink RX0 26 "WeatherMast$Floats" "leadingOne" "J", .fieldLink RX0 30 "WeatherMast$Floats" "half" "J", .fieldLink RX0 33 "WeatherMast$Floats" "one" "J", .fieldLink RX0 36 "WeatherMast$Floats" "infinity" "J", .methodLink RX0 13 yX2_init, .instanceMethod yX2_init, .initialized RX2, .code yX2_init cX2_init 6 none, .methodLink RX2 3 objectInit, .instanceMethod objectInit, .code objectInit ⟨#[0xb1]⟩ 1 none, .fieldLink RX2 9 "WeatherMast$Sort" "narrow" "Z", .constantLong RX2 15 (-2147483648), .constantLong RX2 17 (-9223372036854775808), .fieldLink RX2 19 "WeatherMast$Sort" "signBit" "J", .fieldLink RX2 23 "WeatherMast$Sort" "lowest" "J", .fieldLink RX2 26 "WeatherMast$Sort" "highest" "J"] ++ wsX00 ++ wsX40)
def wsX0_amount : List Cond := .code yX0_amount cX0_amount 3 (some .long) :: ([.fieldLink RX0 43 "WeatherMast$Floats" "signBit" "J", .sameField "WeatherMast$Floats" "WeatherMast$Sort" "signBit" "J", .constantLong RX0 46 (-1)] ++ wsX00 ++ wsX40)
def wsX0_isNumber : List Cond := .code yX0_isNumber cX0_isNumber 3 (some .boolean) :: ([.fieldLink RX0 36 "WeatherMast$Floats" "infinity" "J", .methodLink RX0 39 yX0_amount, .instanceMethod yX0_amount, .selects RX0 yX0_amount yX0_amount, .initialized RX0, .code yX0_amount cX0_amount 3 (some .long), .fieldLink RX0 43 "WeatherMast$Floats" "signBit" "J", .sameField "WeatherMast$Floats" "WeatherMast$Sort" "signBit" "J", .constantLong RX0 46 (-1)] ++ wsX00 ++ wsX40)
def wsX0_hasStep : List Cond := .code yX0_hasStep cX0_hasStep 2 (some .boolean) :: ([])
def wsX0_rank : List Cond := .code yX0_rank cX0_rank 3 (some .long) :: ([.constantLong RX0 46 (-1), .methodLink RX0 39 yX0_amount, .instanceMethod yX0_amount, .selects RX0 yX0_amount yX0_amount, .initialized RX0, .code yX0_amount cX0_amount 3 (some .long), .fieldLink RX0 43 "WeatherMast$Floats" "signBit" "J", .sameField "WeatherMast$Floats" "WeatherMast$Sort" "signBit" "J"] ++ wsX00 ++ wsX40)
def wsX0_place : List Cond := .code yX0_place cX0_place 3 (some .long) :: ([.methodLink RX0 39 yX0_amount, .instanceMethod yX0_amount, .selects RX0 yX0_amount yX0_amount, .initialized RX0, .code yX0_amount cX0_amount 3 (some .long), .fieldLink RX0 43 "WeatherMast$Floats" "signBit" "J", .sameField "WeatherMast$Floats" "WeatherMast$Sort" "signBit" "J", .constantLong RX0 46 (-1)] ++ wsX00 ++ wsX40)
def wsX0_exponent : List Cond := .code yX0_exponent cX0_exponent 3 (some .int) :: ([.fieldLink RX0 26 "WeatherMast$Floats" "leadingOne" "J", .fieldLink RX0 19 "WeatherMast$Floats" "fractionBits" "I"] ++ wsX00)
def wsX0_digits : List Cond := .code yX0_digits cX0_digits 3 (some .long) :: ([.fieldLink RX0 26 "WeatherMast$Floats" "leadingOne" "J"] ++ wsX00)
def wsX0_guardedDigits : List Cond := .code yX0_guardedDigits cX0_guardedDigits 3 (some .long) :: ([.methodLink RX0 89 yX0_digits, .instanceMethod yX0_digits, .selects RX0 yX0_digits yX0_digits, .initialized RX0, .code yX0_digits cX0_digits 3 (some .long), .fieldLink RX0 26 "WeatherMast$Floats" "leadingOne" "J"] ++ wsX00)
def wsX0_shiftedDown : List Cond := .code yX0_shiftedDown cX0_shiftedDown 5 (some .long) :: ([])
def wsX0_rounded : List Cond := .code yX0_rounded cX0_rounded 9 (some .long) :: ([.fieldLink RX0 23 "WeatherMast$Floats" "bias" "I", .fieldLink RX0 36 "WeatherMast$Floats" "infinity" "J", .constantLong RX0 92 (7), .constantLong RX0 94 (4), .fieldLink RX0 19 "WeatherMast$Floats" "fractionBits" "I"] ++ wsX00)
def wsX0_addAmounts_r1 : List Cond := [Cond.methodLink RX0 48 Lib.MathLoose.max_long.x, Cond.static Lib.MathLoose.max_long.x, Cond.initialized "java/lang/Math", Cond.code Lib.MathLoose.max_long.x Lib.MathLoose.max_long.code 4 (some .long), Cond.methodLink RX0 54 Lib.MathLoose.min_long.x, Cond.static Lib.MathLoose.min_long.x, Cond.code Lib.MathLoose.min_long.x Lib.MathLoose.min_long.code 4 (some .long), Cond.fieldLink RX0 36 "WeatherMast$Floats" "infinity" "J", Cond.fieldLink RX0 26 "WeatherMast$Floats" "leadingOne" "J", Cond.methodLink RX0 57 yX0_exponent, Cond.instanceMethod yX0_exponent, Cond.selects RX0 yX0_exponent yX0_exponent, Cond.initialized RX0, Cond.code yX0_exponent cX0_exponent 3 (some .int), Cond.fieldLink RX0 19 "WeatherMast$Floats" "fractionBits" "I", Cond.methodLink RX0 61 yX0_guardedDigits, Cond.instanceMethod yX0_guardedDigits, Cond.selects RX0 yX0_guardedDigits yX0_guardedDigits, Cond.code yX0_guardedDigits cX0_guardedDigits 3 (some .long), Cond.methodLink RX0 89 yX0_digits, Cond.instanceMethod yX0_digits, Cond.selects RX0 yX0_digits yX0_digits, Cond.code yX0_digits cX0_digits 3 (some .long), Cond.methodLink RX0 64 yX0_shiftedDown]
def wsX0_addAmounts_r2 : List Cond := [Cond.static yX0_shiftedDown, Cond.code yX0_shiftedDown cX0_shiftedDown 5 (some .long), Cond.methodLink RX0 68 yX0_rounded, Cond.instanceMethod yX0_rounded, Cond.selects RX0 yX0_rounded yX0_rounded, Cond.code yX0_rounded cX0_rounded 9 (some .long), Cond.fieldLink RX0 23 "WeatherMast$Floats" "bias" "I", Cond.constantLong RX0 92 (7), Cond.constantLong RX0 94 (4)]
def wsX0_addAmounts : List Cond := .code yX0_addAmounts cX0_addAmounts 13 (some .long) :: ((wsX0_addAmounts_r1 ++ wsX0_addAmounts_r2) ++ wsX00)
def wsJ6_numberOfLeadingZeros_0f7a4 : List Cond := .code yJ6_numberOfLeadingZeros_0f7a4 cJ6_numberOfLeadingZeros_0f7a4 2 (some .int) :: ([.constant RJ6 264 (65536)])
def wsJ13_numberOfLeadingZeros_95d88 : List Cond := .code yJ13_numberOfLeadingZeros_95d88 cJ13_numberOfLeadingZeros_95d88 3 (some .int) :: ([.methodLink RJ13 308 yJ6_numberOfLeadingZeros_0f7a4, .static yJ6_numberOfLeadingZeros_0f7a4, .initialized RJ6, .code yJ6_numberOfLeadingZeros_0f7a4 cJ6_numberOfLeadingZeros_0f7a4 2 (some .int), .constant RJ6 264 (65536)])
def wsX0_differenceOfAmounts_r1 : List Cond := [Cond.methodLink RX0 48 Lib.MathLoose.max_long.x, Cond.static Lib.MathLoose.max_long.x, Cond.initialized "java/lang/Math", Cond.code Lib.MathLoose.max_long.x Lib.MathLoose.max_long.code 4 (some .long), Cond.methodLink RX0 54 Lib.MathLoose.min_long.x, Cond.static Lib.MathLoose.min_long.x, Cond.code Lib.MathLoose.min_long.x Lib.MathLoose.min_long.code 4 (some .long), Cond.fieldLink RX0 36 "WeatherMast$Floats" "infinity" "J", Cond.fieldLink RX0 26 "WeatherMast$Floats" "leadingOne" "J", Cond.methodLink RX0 86 Lib.Math.min.name, Cond.static Lib.Math.min.name, Cond.code Lib.Math.min.name Lib.Math.min.code 2 (some .int), Cond.methodLink RX0 57 yX0_exponent, Cond.instanceMethod yX0_exponent, Cond.selects RX0 yX0_exponent yX0_exponent, Cond.initialized RX0, Cond.code yX0_exponent cX0_exponent 3 (some .int), Cond.fieldLink RX0 19 "WeatherMast$Floats" "fractionBits" "I", Cond.methodLink RX0 61 yX0_guardedDigits, Cond.instanceMethod yX0_guardedDigits, Cond.selects RX0 yX0_guardedDigits yX0_guardedDigits, Cond.code yX0_guardedDigits cX0_guardedDigits 3 (some .long), Cond.methodLink RX0 89 yX0_digits, Cond.instanceMethod yX0_digits]
def wsX0_differenceOfAmounts_r2 : List Cond := [Cond.selects RX0 yX0_digits yX0_digits, Cond.code yX0_digits cX0_digits 3 (some .long), Cond.methodLink RX0 64 yX0_shiftedDown, Cond.static yX0_shiftedDown, Cond.code yX0_shiftedDown cX0_shiftedDown 5 (some .long), Cond.methodLink RX0 81 yJ13_numberOfLeadingZeros_95d88, Cond.static yJ13_numberOfLeadingZeros_95d88, Cond.initialized RJ13, Cond.code yJ13_numberOfLeadingZeros_95d88 cJ13_numberOfLeadingZeros_95d88 3 (some .int), Cond.methodLink RJ13 308 yJ6_numberOfLeadingZeros_0f7a4, Cond.static yJ6_numberOfLeadingZeros_0f7a4, Cond.initialized RJ6, Cond.code yJ6_numberOfLeadingZeros_0f7a4 cJ6_numberOfLeadingZeros_0f7a4 2 (some .int), Cond.constant RJ6 264 (65536), Cond.methodLink RX0 68 yX0_rounded, Cond.instanceMethod yX0_rounded, Cond.selects RX0 yX0_rounded yX0_rounded, Cond.code yX0_rounded cX0_rounded 9 (some .long), Cond.fieldLink RX0 23 "WeatherMast$Floats" "bias" "I", Cond.constantLong RX0 92 (7), Cond.constantLong RX0 94 (4)]
def wsX0_differenceOfAmounts : List Cond := .code yX0_differenceOfAmounts cX0_differenceOfAmounts 14 (some .long) :: ((wsX0_differenceOfAmounts_r1 ++ wsX0_differenceOfAmounts_r2) ++ wsX00)
def wsX0_apart_r1 : List Cond := [Cond.methodLink RX0 72 yX0_place, Cond.instanceMethod yX0_place, Cond.selects RX0 yX0_place yX0_place, Cond.initialized RX0, Cond.code yX0_place cX0_place 3 (some .long), Cond.methodLink RX0 39 yX0_amount, Cond.instanceMethod yX0_amount, Cond.selects RX0 yX0_amount yX0_amount, Cond.code yX0_amount cX0_amount 3 (some .long), Cond.fieldLink RX0 43 "WeatherMast$Floats" "signBit" "J", Cond.sameField "WeatherMast$Floats" "WeatherMast$Sort" "signBit" "J", Cond.constantLong RX0 46 (-1), Cond.methodLink RX0 75 yX0_addAmounts, Cond.instanceMethod yX0_addAmounts, Cond.selects RX0 yX0_addAmounts yX0_addAmounts, Cond.code yX0_addAmounts cX0_addAmounts 13 (some .long), Cond.methodLink RX0 48 Lib.MathLoose.max_long.x, Cond.static Lib.MathLoose.max_long.x, Cond.initialized "java/lang/Math", Cond.code Lib.MathLoose.max_long.x Lib.MathLoose.max_long.code 4 (some .long), Cond.methodLink RX0 54 Lib.MathLoose.min_long.x, Cond.static Lib.MathLoose.min_long.x, Cond.code Lib.MathLoose.min_long.x Lib.MathLoose.min_long.code 4 (some .long), Cond.fieldLink RX0 36 "WeatherMast$Floats" "infinity" "J"]
def wsX0_apart_r2 : List Cond := [Cond.fieldLink RX0 26 "WeatherMast$Floats" "leadingOne" "J", Cond.methodLink RX0 57 yX0_exponent, Cond.instanceMethod yX0_exponent, Cond.selects RX0 yX0_exponent yX0_exponent, Cond.code yX0_exponent cX0_exponent 3 (some .int), Cond.fieldLink RX0 19 "WeatherMast$Floats" "fractionBits" "I", Cond.methodLink RX0 61 yX0_guardedDigits, Cond.instanceMethod yX0_guardedDigits, Cond.selects RX0 yX0_guardedDigits yX0_guardedDigits, Cond.code yX0_guardedDigits cX0_guardedDigits 3 (some .long), Cond.methodLink RX0 89 yX0_digits, Cond.instanceMethod yX0_digits, Cond.selects RX0 yX0_digits yX0_digits, Cond.code yX0_digits cX0_digits 3 (some .long), Cond.methodLink RX0 64 yX0_shiftedDown, Cond.static yX0_shiftedDown, Cond.code yX0_shiftedDown cX0_shiftedDown 5 (some .long), Cond.methodLink RX0 68 yX0_rounded, Cond.instanceMethod yX0_rounded, Cond.selects RX0 yX0_rounded yX0_rounded, Cond.code yX0_rounded cX0_rounded 9 (some .long), Cond.fieldLink RX0 23 "WeatherMast$Floats" "bias" "I", Cond.constantLong RX0 92 (7), Cond.constantLong RX0 94 (4)]
def wsX0_apart_r3 : List Cond := [Cond.methodLink RX0 78 yX0_differenceOfAmounts, Cond.instanceMethod yX0_differenceOfAmounts, Cond.selects RX0 yX0_differenceOfAmounts yX0_differenceOfAmounts, Cond.code yX0_differenceOfAmounts cX0_differenceOfAmounts 14 (some .long), Cond.methodLink RX0 86 Lib.Math.min.name, Cond.static Lib.Math.min.name, Cond.code Lib.Math.min.name Lib.Math.min.code 2 (some .int), Cond.methodLink RX0 81 yJ13_numberOfLeadingZeros_95d88, Cond.static yJ13_numberOfLeadingZeros_95d88, Cond.initialized RJ13, Cond.code yJ13_numberOfLeadingZeros_95d88 cJ13_numberOfLeadingZeros_95d88 3 (some .int), Cond.methodLink RJ13 308 yJ6_numberOfLeadingZeros_0f7a4, Cond.static yJ6_numberOfLeadingZeros_0f7a4, Cond.initialized RJ6, Cond.code yJ6_numberOfLeadingZeros_0f7a4 cJ6_numberOfLeadingZeros_0f7a4 2 (some .int), Cond.constant RJ6 264 (65536)]
def wsX0_apart : List Cond := .code yX0_apart cX0_apart 6 (some .long) :: ((wsX0_apart_r1 ++ (wsX0_apart_r2 ++ wsX0_apart_r3)) ++ wsX00 ++ wsX40)
def wsX0_asInt : List Cond := .code yX0_asInt cX0_asInt 9 (some .int) :: ([.fieldLink RX0 33 "WeatherMast$Floats" "one" "J", .fieldLink RX0 23 "WeatherMast$Floats" "bias" "I", .constant RX0 96 (-2147483648), .constant RX0 97 (2147483647), .fieldLink RX0 19 "WeatherMast$Floats" "fractionBits" "I", .methodLink RX0 39 yX0_amount, .instanceMethod yX0_amount, .selects RX0 yX0_amount yX0_amount, .initialized RX0, .code yX0_amount cX0_amount 3 (some .long), .fieldLink RX0 43 "WeatherMast$Floats" "signBit" "J", .sameField "WeatherMast$Floats" "WeatherMast$Sort" "signBit" "J", .constantLong RX0 46 (-1), .methodLink RX0 57 yX0_exponent, .instanceMethod yX0_exponent, .selects RX0 yX0_exponent yX0_exponent, .code yX0_exponent cX0_exponent 3 (some .int), .fieldLink RX0 26 "WeatherMast$Floats" "leadingOne" "J", .methodLink RX0 89 yX0_digits, .instanceMethod yX0_digits, .selects RX0 yX0_digits yX0_digits, .code yX0_digits cX0_digits 3 (some .long)] ++ wsX00 ++ wsX40)
def wsX0_bitsBehindPoint : List Cond := .code yX0_bitsBehindPoint cX0_bitsBehindPoint 4 (some .int) :: ([.fieldLink RX0 19 "WeatherMast$Floats" "fractionBits" "I", .fieldLink RX0 23 "WeatherMast$Floats" "bias" "I"] ++ wsX00)
def wsX0_wholeNotAbove : List Cond := .code yX0_wholeNotAbove cX0_wholeNotAbove 4 (some .long) :: ([.fieldLink RX0 33 "WeatherMast$Floats" "one" "J", .methodLink RX0 110 yX0_bitsBehindPoint, .instanceMethod yX0_bitsBehindPoint, .selects RX0 yX0_bitsBehindPoint yX0_bitsBehindPoint, .initialized RX0, .code yX0_bitsBehindPoint cX0_bitsBehindPoint 4 (some .int), .fieldLink RX0 19 "WeatherMast$Floats" "fractionBits" "I", .fieldLink RX0 23 "WeatherMast$Floats" "bias" "I"] ++ wsX00)
def wsX0_wholeNotBelow : List Cond := .code yX0_wholeNotBelow cX0_wholeNotBelow 5 (some .long) :: ([.fieldLink RX0 33 "WeatherMast$Floats" "one" "J", .methodLink RX0 101 yX0_wholeNotAbove, .instanceMethod yX0_wholeNotAbove, .selects RX0 yX0_wholeNotAbove yX0_wholeNotAbove, .initialized RX0, .code yX0_wholeNotAbove cX0_wholeNotAbove 4 (some .long), .methodLink RX0 110 yX0_bitsBehindPoint, .instanceMethod yX0_bitsBehindPoint, .selects RX0 yX0_bitsBehindPoint yX0_bitsBehindPoint, .code yX0_bitsBehindPoint cX0_bitsBehindPoint 4 (some .int), .fieldLink RX0 19 "WeatherMast$Floats" "fractionBits" "I", .fieldLink RX0 23 "WeatherMast$Floats" "bias" "I"] ++ wsX00)
def wsX0_withSignOf : List Cond := .code yX0_withSignOf cX0_withSignOf 5 (some .long) :: ([.fieldLink RX0 43 "WeatherMast$Floats" "signBit" "J", .sameField "WeatherMast$Floats" "WeatherMast$Sort" "signBit" "J"] ++ wsX00 ++ wsX40)
def wsX0_wholeNearest : List Cond := .code yX0_wholeNearest cX0_wholeNearest 11 (some .long) :: ([.fieldLink RX0 33 "WeatherMast$Floats" "one" "J", .fieldLink RX0 30 "WeatherMast$Floats" "half" "J", .constantLong RX0 113 (2), .methodLink RX0 110 yX0_bitsBehindPoint, .instanceMethod yX0_bitsBehindPoint, .selects RX0 yX0_bitsBehindPoint yX0_bitsBehindPoint, .initialized RX0, .code yX0_bitsBehindPoint cX0_bitsBehindPoint 4 (some .int), .fieldLink RX0 19 "WeatherMast$Floats" "fractionBits" "I", .fieldLink RX0 23 "WeatherMast$Floats" "bias" "I"] ++ wsX00)
def wsX0_afterFurtherStep_r1 : List Cond := [Cond.fieldLink RX0 33 "WeatherMast$Floats" "one" "J", Cond.methodLink RX0 39 yX0_amount, Cond.instanceMethod yX0_amount, Cond.selects RX0 yX0_amount yX0_amount, Cond.initialized RX0, Cond.code yX0_amount cX0_amount 3 (some .long), Cond.fieldLink RX0 43 "WeatherMast$Floats" "signBit" "J", Cond.sameField "WeatherMast$Floats" "WeatherMast$Sort" "signBit" "J", Cond.constantLong RX0 46 (-1), Cond.methodLink RX0 98 yX0_wholeNotBelow, Cond.instanceMethod yX0_wholeNotBelow, Cond.selects RX0 yX0_wholeNotBelow yX0_wholeNotBelow, Cond.code yX0_wholeNotBelow cX0_wholeNotBelow 5 (some .long), Cond.methodLink RX0 101 yX0_wholeNotAbove, Cond.instanceMethod yX0_wholeNotAbove, Cond.selects RX0 yX0_wholeNotAbove yX0_wholeNotAbove, Cond.code yX0_wholeNotAbove cX0_wholeNotAbove 4 (some .long), Cond.methodLink RX0 110 yX0_bitsBehindPoint, Cond.instanceMethod yX0_bitsBehindPoint, Cond.selects RX0 yX0_bitsBehindPoint yX0_bitsBehindPoint, Cond.code yX0_bitsBehindPoint cX0_bitsBehindPoint 4 (some .int), Cond.fieldLink RX0 19 "WeatherMast$Floats" "fractionBits" "I", Cond.fieldLink RX0 23 "WeatherMast$Floats" "bias" "I", Cond.methodLink RX0 104 yX0_withSignOf]
def wsX0_afterFurtherStep_r2 : List Cond := [Cond.instanceMethod yX0_withSignOf, Cond.selects RX0 yX0_withSignOf yX0_withSignOf, Cond.code yX0_withSignOf cX0_withSignOf 5 (some .long), Cond.methodLink RX0 107 yX0_wholeNearest, Cond.instanceMethod yX0_wholeNearest, Cond.selects RX0 yX0_wholeNearest yX0_wholeNearest, Cond.code yX0_wholeNearest cX0_wholeNearest 11 (some .long), Cond.fieldLink RX0 30 "WeatherMast$Floats" "half" "J", Cond.constantLong RX0 113 (2)]
def wsX0_afterFurtherStep : List Cond := .code yX0_afterFurtherStep cX0_afterFurtherStep 6 (some .long) :: ((wsX0_afterFurtherStep_r1 ++ wsX0_afterFurtherStep_r2) ++ wsX00 ++ wsX40)
def wsX1_init : List Cond := .code yX1_init cX1_init 3 none :: ([.methodLink RX1 3 objectInit, .instanceMethod objectInit, .code objectInit ⟨#[0xb1]⟩ 1 none, .fieldLink RX1 9 "WeatherMast$Instrument" "sortNumber" "I", .fieldLink RX1 15 "WeatherMast$Instrument" "sort" "LWeatherMast$Sort;", .classLink RX1 19 RX3, .fieldLink RX1 21 "WeatherMast$Instrument" "chain" "[LWeatherMast$Step;", .arrayClass .long, .fieldLink RX1 25 "WeatherMast$Instrument" "kept" "[J", .fieldLink RX1 29 "WeatherMast$Sort" "lowest" "J", .fieldLink RX1 35 "WeatherMast$Instrument" "low" "J", .fieldLink RX1 38 "WeatherMast$Sort" "highest" "J", .fieldLink RX1 41 "WeatherMast$Instrument" "high" "J"] ++ wsX10 ++ wsX00 ++ wsX40)
def wsX1_isChainFull : List Cond := .code yX1_isChainFull cX1_isChainFull 1 (some .boolean) :: ([.fieldLink RX1 44 "WeatherMast$Instrument" "steps" "I", .fieldLink RX1 21 "WeatherMast$Instrument" "chain" "[LWeatherMast$Step;"] ++ wsX10)
def wsX1_lengthenChain : List Cond := .code yX1_lengthenChain cX1_lengthenChain 2 (some .int) :: ([.fieldLink RX1 21 "WeatherMast$Instrument" "chain" "[LWeatherMast$Step;", .fieldLink RX1 44 "WeatherMast$Instrument" "steps" "I", .methodLink RX1 47 yX1_isChainFull, .instanceMethod yX1_isChainFull, .selects RX1 yX1_isChainFull yX1_isChainFull, .initialized RX1, .code yX1_isChainFull cX1_isChainFull 1 (some .boolean)] ++ wsX10)
def wsX3_currentK : List Cond := .code yX3_currentK cX3_currentK 1 (some .long) :: ([.fieldLink RX3 17 "WeatherMast$Step" "followed" "LWeatherMast$Instrument;", .fieldLink RX3 13 "WeatherMast$Step" "told" "J", .fieldLink RX3 21 "WeatherMast$Instrument" "latest" "J"] ++ wsX30 ++ wsX10)
def wsX2_heard : List Cond := .code yX2_heard cX2_heard 3 (some .long) :: ([.fieldLink RX2 9 "WeatherMast$Sort" "narrow" "Z"] ++ wsX00 ++ wsX40)
def wsX4_amount : List Cond := .code yX4_amount cX4_amount 3 (some .long) :: ([.methodLink RX4 17 ⟨"WeatherMast$Wholes", "heard", "(J)J"⟩, .sameMethod "WeatherMast$Wholes" "WeatherMast$Sort" "heard" "(J)J", .selects RX4 ⟨"WeatherMast$Wholes", "heard", "(J)J"⟩ yX2_heard, .instanceMethod yX2_heard, .initialized RX2, .code yX2_heard cX2_heard 3 (some .long), .fieldLink RX2 9 "WeatherMast$Sort" "narrow" "Z"] ++ wsX00 ++ wsX40)
def wsX4_rank : List Cond := .code yX4_rank cX4_rank 3 (some .long) :: ([])
def wsX2_greater : List Cond := .code yX2_greater cX2_greater 5 (some .long) :: ([.methodLink RX2 29 ⟨"WeatherMast$Sort", "rank", "(J)J"⟩, .sameMethod "WeatherMast$Sort" "WeatherMast$Sort" "rank" "(J)J", .selects RX0 ⟨"WeatherMast$Sort", "rank", "(J)J"⟩ yX0_rank, .instanceMethod yX0_rank, .initialized RX0, .code yX0_rank cX0_rank 3 (some .long), .constantLong RX0 46 (-1), .methodLink RX0 39 yX0_amount, .instanceMethod yX0_amount, .selects RX0 yX0_amount yX0_amount, .code yX0_amount cX0_amount 3 (some .long), .fieldLink RX0 43 "WeatherMast$Floats" "signBit" "J", .sameField "WeatherMast$Floats" "WeatherMast$Sort" "signBit" "J", .selects RX4 ⟨"WeatherMast$Sort", "rank", "(J)J"⟩ yX4_rank, .instanceMethod yX4_rank, .initialized RX4, .code yX4_rank cX4_rank 3 (some .long)] ++ wsX00 ++ wsX40)
def wsX2_lesser : List Cond := .code yX2_lesser cX2_lesser 5 (some .long) :: ([.methodLink RX2 29 ⟨"WeatherMast$Sort", "rank", "(J)J"⟩, .sameMethod "WeatherMast$Sort" "WeatherMast$Sort" "rank" "(J)J", .selects RX0 ⟨"WeatherMast$Sort", "rank", "(J)J"⟩ yX0_rank, .instanceMethod yX0_rank, .initialized RX0, .code yX0_rank cX0_rank 3 (some .long), .constantLong RX0 46 (-1), .methodLink RX0 39 yX0_amount, .instanceMethod yX0_amount, .selects RX0 yX0_amount yX0_amount, .code yX0_amount cX0_amount 3 (some .long), .fieldLink RX0 43 "WeatherMast$Floats" "signBit" "J", .sameField "WeatherMast$Floats" "WeatherMast$Sort" "signBit" "J", .selects RX4 ⟨"WeatherMast$Sort", "rank", "(J)J"⟩ yX4_rank, .instanceMethod yX4_rank, .initialized RX4, .code yX4_rank cX4_rank 3 (some .long)] ++ wsX00 ++ wsX40)
def wsX4_afterFurtherStep : List Cond := .code yX4_afterFurtherStep cX4_afterFurtherStep 6 (some .long) :: ([])
def wsX2_afterStep_r1 : List Cond := [Cond.methodLink RX2 36 ⟨"WeatherMast$Sort", "amount", "(J)J"⟩, Cond.sameMethod "WeatherMast$Sort" "WeatherMast$Sort" "amount" "(J)J", Cond.selects RX0 ⟨"WeatherMast$Sort", "amount", "(J)J"⟩ yX0_amount, Cond.instanceMethod yX0_amount, Cond.initialized RX0, Cond.code yX0_amount cX0_amount 3 (some .long), Cond.fieldLink RX0 43 "WeatherMast$Floats" "signBit" "J", Cond.sameField "WeatherMast$Floats" "WeatherMast$Sort" "signBit" "J", Cond.constantLong RX0 46 (-1), Cond.selects RX4 ⟨"WeatherMast$Sort", "amount", "(J)J"⟩ yX4_amount, Cond.instanceMethod yX4_amount, Cond.initialized RX4, Cond.code yX4_amount cX4_amount 3 (some .long), Cond.methodLink RX4 17 ⟨"WeatherMast$Wholes", "heard", "(J)J"⟩, Cond.sameMethod "WeatherMast$Wholes" "WeatherMast$Sort" "heard" "(J)J", Cond.selects RX4 ⟨"WeatherMast$Wholes", "heard", "(J)J"⟩ yX2_heard, Cond.instanceMethod yX2_heard, Cond.initialized RX2, Cond.code yX2_heard cX2_heard 3 (some .long), Cond.fieldLink RX2 9 "WeatherMast$Sort" "narrow" "Z", Cond.methodLink RX2 39 ⟨"WeatherMast$Sort", "greater", "(JJ)J"⟩, Cond.sameMethod "WeatherMast$Sort" "WeatherMast$Sort" "greater" "(JJ)J", Cond.selects RX0 ⟨"WeatherMast$Sort", "greater", "(JJ)J"⟩ yX2_greater, Cond.instanceMethod yX2_greater]
def wsX2_afterStep_r2 : List Cond := [Cond.code yX2_greater cX2_greater 5 (some .long), Cond.methodLink RX2 29 ⟨"WeatherMast$Sort", "rank", "(J)J"⟩, Cond.sameMethod "WeatherMast$Sort" "WeatherMast$Sort" "rank" "(J)J", Cond.selects RX0 ⟨"WeatherMast$Sort", "rank", "(J)J"⟩ yX0_rank, Cond.instanceMethod yX0_rank, Cond.code yX0_rank cX0_rank 3 (some .long), Cond.methodLink RX0 39 yX0_amount, Cond.selects RX0 yX0_amount yX0_amount, Cond.selects RX4 ⟨"WeatherMast$Sort", "rank", "(J)J"⟩ yX4_rank, Cond.instanceMethod yX4_rank, Cond.code yX4_rank cX4_rank 3 (some .long), Cond.selects RX4 ⟨"WeatherMast$Sort", "greater", "(JJ)J"⟩ yX2_greater, Cond.methodLink RX2 43 ⟨"WeatherMast$Sort", "lesser", "(JJ)J"⟩, Cond.sameMethod "WeatherMast$Sort" "WeatherMast$Sort" "lesser" "(JJ)J", Cond.selects RX0 ⟨"WeatherMast$Sort", "lesser", "(JJ)J"⟩ yX2_lesser, Cond.instanceMethod yX2_lesser, Cond.code yX2_lesser cX2_lesser 5 (some .long), Cond.selects RX4 ⟨"WeatherMast$Sort", "lesser", "(JJ)J"⟩ yX2_lesser, Cond.methodLink RX2 46 ⟨"WeatherMast$Sort", "afterFurtherStep", "(IJJ)J"⟩, Cond.sameMethod "WeatherMast$Sort" "WeatherMast$Sort" "afterFurtherStep" "(IJJ)J", Cond.selects RX0 ⟨"WeatherMast$Sort", "afterFurtherStep", "(IJJ)J"⟩ yX0_afterFurtherStep, Cond.instanceMethod yX0_afterFurtherStep, Cond.code yX0_afterFurtherStep cX0_afterFurtherStep 6 (some .long), Cond.fieldLink RX0 33 "WeatherMast$Floats" "one" "J"]
def wsX2_afterStep_r3 : List Cond := [Cond.methodLink RX0 98 yX0_wholeNotBelow, Cond.instanceMethod yX0_wholeNotBelow, Cond.selects RX0 yX0_wholeNotBelow yX0_wholeNotBelow, Cond.code yX0_wholeNotBelow cX0_wholeNotBelow 5 (some .long), Cond.methodLink RX0 101 yX0_wholeNotAbove, Cond.instanceMethod yX0_wholeNotAbove, Cond.selects RX0 yX0_wholeNotAbove yX0_wholeNotAbove, Cond.code yX0_wholeNotAbove cX0_wholeNotAbove 4 (some .long), Cond.methodLink RX0 110 yX0_bitsBehindPoint, Cond.instanceMethod yX0_bitsBehindPoint, Cond.selects RX0 yX0_bitsBehindPoint yX0_bitsBehindPoint, Cond.code yX0_bitsBehindPoint cX0_bitsBehindPoint 4 (some .int), Cond.fieldLink RX0 19 "WeatherMast$Floats" "fractionBits" "I", Cond.fieldLink RX0 23 "WeatherMast$Floats" "bias" "I", Cond.methodLink RX0 104 yX0_withSignOf, Cond.instanceMethod yX0_withSignOf, Cond.selects RX0 yX0_withSignOf yX0_withSignOf, Cond.code yX0_withSignOf cX0_withSignOf 5 (some .long), Cond.methodLink RX0 107 yX0_wholeNearest, Cond.instanceMethod yX0_wholeNearest, Cond.selects RX0 yX0_wholeNearest yX0_wholeNearest, Cond.code yX0_wholeNearest cX0_wholeNearest 11 (some .long), Cond.fieldLink RX0 30 "WeatherMast$Floats" "half" "J", Cond.constantLong RX0 113 (2)]
def wsX2_afterStep_r4 : List Cond := [Cond.selects RX4 ⟨"WeatherMast$Sort", "afterFurtherStep", "(IJJ)J"⟩ yX4_afterFurtherStep, Cond.instanceMethod yX4_afterFurtherStep, Cond.code yX4_afterFurtherStep cX4_afterFurtherStep 6 (some .long)]
def wsX2_afterStep : List Cond := .code yX2_afterStep cX2_afterStep 6 (some .long) :: ((wsX2_afterStep_r1 ++ (wsX2_afterStep_r2 ++ (wsX2_afterStep_r3 ++ wsX2_afterStep_r4))) ++ wsX00 ++ wsX40)
def wsX1_throughChain_r1 : List Cond := [Cond.fieldLink RX1 21 "WeatherMast$Instrument" "chain" "[LWeatherMast$Step;", Cond.fieldLink RX1 15 "WeatherMast$Instrument" "sort" "LWeatherMast$Sort;", Cond.fieldLink RX1 51 "WeatherMast$Step" "number" "I", Cond.methodLink RX1 54 yX3_currentK, Cond.instanceMethod yX3_currentK, Cond.selects RX3 yX3_currentK yX3_currentK, Cond.initialized RX3, Cond.code yX3_currentK cX3_currentK 1 (some .long), Cond.fieldLink RX3 17 "WeatherMast$Step" "followed" "LWeatherMast$Instrument;", Cond.fieldLink RX3 13 "WeatherMast$Step" "told" "J", Cond.fieldLink RX3 21 "WeatherMast$Instrument" "latest" "J", Cond.methodLink RX1 58 ⟨"WeatherMast$Sort", "afterStep", "(IJJ)J"⟩, Cond.sameMethod "WeatherMast$Sort" "WeatherMast$Sort" "afterStep" "(IJJ)J", Cond.selects RX0 ⟨"WeatherMast$Sort", "afterStep", "(IJJ)J"⟩ yX2_afterStep, Cond.instanceMethod yX2_afterStep, Cond.initialized RX2, Cond.code yX2_afterStep cX2_afterStep 6 (some .long), Cond.methodLink RX2 36 ⟨"WeatherMast$Sort", "amount", "(J)J"⟩, Cond.sameMethod "WeatherMast$Sort" "WeatherMast$Sort" "amount" "(J)J", Cond.selects RX0 ⟨"WeatherMast$Sort", "amount", "(J)J"⟩ yX0_amount, Cond.instanceMethod yX0_amount, Cond.initialized RX0, Cond.code yX0_amount cX0_amount 3 (some .long), Cond.fieldLink RX0 43 "WeatherMast$Floats" "signBit" "J"]
def wsX1_throughChain_r2 : List Cond := [Cond.sameField "WeatherMast$Floats" "WeatherMast$Sort" "signBit" "J", Cond.constantLong RX0 46 (-1), Cond.selects RX4 ⟨"WeatherMast$Sort", "amount", "(J)J"⟩ yX4_amount, Cond.instanceMethod yX4_amount, Cond.initialized RX4, Cond.code yX4_amount cX4_amount 3 (some .long), Cond.methodLink RX4 17 ⟨"WeatherMast$Wholes", "heard", "(J)J"⟩, Cond.sameMethod "WeatherMast$Wholes" "WeatherMast$Sort" "heard" "(J)J", Cond.selects RX4 ⟨"WeatherMast$Wholes", "heard", "(J)J"⟩ yX2_heard, Cond.instanceMethod yX2_heard, Cond.code yX2_heard cX2_heard 3 (some .long), Cond.fieldLink RX2 9 "WeatherMast$Sort" "narrow" "Z", Cond.methodLink RX2 39 ⟨"WeatherMast$Sort", "greater", "(JJ)J"⟩, Cond.sameMethod "WeatherMast$Sort" "WeatherMast$Sort" "greater" "(JJ)J", Cond.selects RX0 ⟨"WeatherMast$Sort", "greater", "(JJ)J"⟩ yX2_greater, Cond.instanceMethod yX2_greater, Cond.code yX2_greater cX2_greater 5 (some .long), Cond.methodLink RX2 29 ⟨"WeatherMast$Sort", "rank", "(J)J"⟩, Cond.sameMethod "WeatherMast$Sort" "WeatherMast$Sort" "rank" "(J)J", Cond.selects RX0 ⟨"WeatherMast$Sort", "rank", "(J)J"⟩ yX0_rank, Cond.instanceMethod yX0_rank, Cond.code yX0_rank cX0_rank 3 (some .long), Cond.methodLink RX0 39 yX0_amount, Cond.selects RX0 yX0_amount yX0_amount]
def wsX1_throughChain_r3 : List Cond := [Cond.selects RX4 ⟨"WeatherMast$Sort", "rank", "(J)J"⟩ yX4_rank, Cond.instanceMethod yX4_rank, Cond.code yX4_rank cX4_rank 3 (some .long), Cond.selects RX4 ⟨"WeatherMast$Sort", "greater", "(JJ)J"⟩ yX2_greater, Cond.methodLink RX2 43 ⟨"WeatherMast$Sort", "lesser", "(JJ)J"⟩, Cond.sameMethod "WeatherMast$Sort" "WeatherMast$Sort" "lesser" "(JJ)J", Cond.selects RX0 ⟨"WeatherMast$Sort", "lesser", "(JJ)J"⟩ yX2_lesser, Cond.instanceMethod yX2_lesser, Cond.code yX2_lesser cX2_lesser 5 (some .long), Cond.selects RX4 ⟨"WeatherMast$Sort", "lesser", "(JJ)J"⟩ yX2_lesser, Cond.methodLink RX2 46 ⟨"WeatherMast$Sort", "afterFurtherStep", "(IJJ)J"⟩, Cond.sameMethod "WeatherMast$Sort" "WeatherMast$Sort" "afterFurtherStep" "(IJJ)J", Cond.selects RX0 ⟨"WeatherMast$Sort", "afterFurtherStep", "(IJJ)J"⟩ yX0_afterFurtherStep, Cond.instanceMethod yX0_afterFurtherStep, Cond.code yX0_afterFurtherStep cX0_afterFurtherStep 6 (some .long), Cond.fieldLink RX0 33 "WeatherMast$Floats" "one" "J", Cond.methodLink RX0 98 yX0_wholeNotBelow, Cond.instanceMethod yX0_wholeNotBelow, Cond.selects RX0 yX0_wholeNotBelow yX0_wholeNotBelow, Cond.code yX0_wholeNotBelow cX0_wholeNotBelow 5 (some .long), Cond.methodLink RX0 101 yX0_wholeNotAbove, Cond.instanceMethod yX0_wholeNotAbove, Cond.selects RX0 yX0_wholeNotAbove yX0_wholeNotAbove, Cond.code yX0_wholeNotAbove cX0_wholeNotAbove 4 (some .long)]
def wsX1_throughChain_r4 : List Cond := [Cond.methodLink RX0 110 yX0_bitsBehindPoint, Cond.instanceMethod yX0_bitsBehindPoint, Cond.selects RX0 yX0_bitsBehindPoint yX0_bitsBehindPoint, Cond.code yX0_bitsBehindPoint cX0_bitsBehindPoint 4 (some .int), Cond.fieldLink RX0 19 "WeatherMast$Floats" "fractionBits" "I", Cond.fieldLink RX0 23 "WeatherMast$Floats" "bias" "I", Cond.methodLink RX0 104 yX0_withSignOf, Cond.instanceMethod yX0_withSignOf, Cond.selects RX0 yX0_withSignOf yX0_withSignOf, Cond.code yX0_withSignOf cX0_withSignOf 5 (some .long), Cond.methodLink RX0 107 yX0_wholeNearest, Cond.instanceMethod yX0_wholeNearest, Cond.selects RX0 yX0_wholeNearest yX0_wholeNearest, Cond.code yX0_wholeNearest cX0_wholeNearest 11 (some .long), Cond.fieldLink RX0 30 "WeatherMast$Floats" "half" "J", Cond.constantLong RX0 113 (2), Cond.selects RX4 ⟨"WeatherMast$Sort", "afterFurtherStep", "(IJJ)J"⟩ yX4_afterFurtherStep, Cond.instanceMethod yX4_afterFurtherStep, Cond.code yX4_afterFurtherStep cX4_afterFurtherStep 6 (some .long), Cond.selects RX4 ⟨"WeatherMast$Sort", "afterStep", "(IJJ)J"⟩ yX2_afterStep]
def wsX1_throughChain : List Cond := .code yX1_throughChain cX1_throughChain 9 (some .long) :: ((wsX1_throughChain_r1 ++ (wsX1_throughChain_r2 ++ (wsX1_throughChain_r3 ++ wsX1_throughChain_r4))) ++ wsX10 ++ wsX30 ++ wsX00 ++ wsX40)
def wsX1_hasRead : List Cond := .code yX1_hasRead cX1_hasRead 1 (some .boolean) :: ([.fieldLink RX1 97 "WeatherMast$Instrument" "readings" "I"] ++ wsX10)
def wsX4_apart : List Cond := .code yX4_apart cX4_apart 5 (some .long) :: ([.methodLink RX4 17 ⟨"WeatherMast$Wholes", "heard", "(J)J"⟩, .sameMethod "WeatherMast$Wholes" "WeatherMast$Sort" "heard" "(J)J", .selects RX4 ⟨"WeatherMast$Wholes", "heard", "(J)J"⟩ yX2_heard, .instanceMethod yX2_heard, .initialized RX2, .code yX2_heard cX2_heard 3 (some .long), .fieldLink RX2 9 "WeatherMast$Sort" "narrow" "Z", .methodLink RX4 23 yX4_amount, .instanceMethod yX4_amount, .selects RX4 yX4_amount yX4_amount, .initialized RX4, .code yX4_amount cX4_amount 3 (some .long)] ++ wsX00 ++ wsX40)
def wsX4_addAmounts : List Cond := .code yX4_addAmounts cX4_addAmounts 5 (some .long) :: ([.methodLink RX4 17 ⟨"WeatherMast$Wholes", "heard", "(J)J"⟩, .sameMethod "WeatherMast$Wholes" "WeatherMast$Sort" "heard" "(J)J", .selects RX4 ⟨"WeatherMast$Wholes", "heard", "(J)J"⟩ yX2_heard, .instanceMethod yX2_heard, .initialized RX2, .code yX2_heard cX2_heard 3 (some .long), .fieldLink RX2 9 "WeatherMast$Sort" "narrow" "Z"] ++ wsX00 ++ wsX40)
def wsX1_keep_r1 : List Cond := [Cond.fieldLink RX1 15 "WeatherMast$Instrument" "sort" "LWeatherMast$Sort;", Cond.fieldLink RX1 65 "WeatherMast$Instrument" "least" "J", Cond.fieldLink RX1 72 "WeatherMast$Instrument" "greatest" "J", Cond.fieldLink RX1 78 "WeatherMast$Instrument" "latest" "J", Cond.fieldLink RX1 84 "WeatherMast$Instrument" "swing" "J", Cond.fieldLink RX1 87 "WeatherMast$Instrument" "sum" "J", Cond.fieldLink RX1 25 "WeatherMast$Instrument" "kept" "[J", Cond.fieldLink RX1 97 "WeatherMast$Instrument" "readings" "I", Cond.methodLink RX1 62 yX1_hasRead, Cond.instanceMethod yX1_hasRead, Cond.selects RX1 yX1_hasRead yX1_hasRead, Cond.initialized RX1, Cond.code yX1_hasRead cX1_hasRead 1 (some .boolean), Cond.methodLink RX1 68 ⟨"WeatherMast$Sort", "lesser", "(JJ)J"⟩, Cond.sameMethod "WeatherMast$Sort" "WeatherMast$Sort" "lesser" "(JJ)J", Cond.selects RX0 ⟨"WeatherMast$Sort", "lesser", "(JJ)J"⟩ yX2_lesser, Cond.instanceMethod yX2_lesser, Cond.initialized RX2, Cond.code yX2_lesser cX2_lesser 5 (some .long), Cond.methodLink RX2 29 ⟨"WeatherMast$Sort", "rank", "(J)J"⟩, Cond.sameMethod "WeatherMast$Sort" "WeatherMast$Sort" "rank" "(J)J", Cond.selects RX0 ⟨"WeatherMast$Sort", "rank", "(J)J"⟩ yX0_rank, Cond.instanceMethod yX0_rank, Cond.initialized RX0]
def wsX1_keep_r2 : List Cond := [Cond.code yX0_rank cX0_rank 3 (some .long), Cond.constantLong RX0 46 (-1), Cond.methodLink RX0 39 yX0_amount, Cond.instanceMethod yX0_amount, Cond.selects RX0 yX0_amount yX0_amount, Cond.code yX0_amount cX0_amount 3 (some .long), Cond.fieldLink RX0 43 "WeatherMast$Floats" "signBit" "J", Cond.sameField "WeatherMast$Floats" "WeatherMast$Sort" "signBit" "J", Cond.selects RX4 ⟨"WeatherMast$Sort", "rank", "(J)J"⟩ yX4_rank, Cond.instanceMethod yX4_rank, Cond.initialized RX4, Cond.code yX4_rank cX4_rank 3 (some .long), Cond.selects RX4 ⟨"WeatherMast$Sort", "lesser", "(JJ)J"⟩ yX2_lesser, Cond.methodLink RX1 75 ⟨"WeatherMast$Sort", "greater", "(JJ)J"⟩, Cond.sameMethod "WeatherMast$Sort" "WeatherMast$Sort" "greater" "(JJ)J", Cond.selects RX0 ⟨"WeatherMast$Sort", "greater", "(JJ)J"⟩ yX2_greater, Cond.instanceMethod yX2_greater, Cond.code yX2_greater cX2_greater 5 (some .long), Cond.selects RX4 ⟨"WeatherMast$Sort", "greater", "(JJ)J"⟩ yX2_greater, Cond.methodLink RX1 81 ⟨"WeatherMast$Sort", "apart", "(JJ)J"⟩, Cond.sameMethod "WeatherMast$Sort" "WeatherMast$Sort" "apart" "(JJ)J", Cond.selects RX0 ⟨"WeatherMast$Sort", "apart", "(JJ)J"⟩ yX0_apart, Cond.instanceMethod yX0_apart, Cond.code yX0_apart cX0_apart 6 (some .long)]
def wsX1_keep_r3 : List Cond := [Cond.methodLink RX0 72 yX0_place, Cond.instanceMethod yX0_place, Cond.selects RX0 yX0_place yX0_place, Cond.code yX0_place cX0_place 3 (some .long), Cond.methodLink RX0 75 yX0_addAmounts, Cond.instanceMethod yX0_addAmounts, Cond.selects RX0 yX0_addAmounts yX0_addAmounts, Cond.code yX0_addAmounts cX0_addAmounts 13 (some .long), Cond.methodLink RX0 48 Lib.MathLoose.max_long.x, Cond.static Lib.MathLoose.max_long.x, Cond.initialized "java/lang/Math", Cond.code Lib.MathLoose.max_long.x Lib.MathLoose.max_long.code 4 (some .long), Cond.methodLink RX0 54 Lib.MathLoose.min_long.x, Cond.static Lib.MathLoose.min_long.x, Cond.code Lib.MathLoose.min_long.x Lib.MathLoose.min_long.code 4 (some .long), Cond.fieldLink RX0 36 "WeatherMast$Floats" "infinity" "J", Cond.fieldLink RX0 26 "WeatherMast$Floats" "leadingOne" "J", Cond.methodLink RX0 57 yX0_exponent, Cond.instanceMethod yX0_exponent, Cond.selects RX0 yX0_exponent yX0_exponent, Cond.code yX0_exponent cX0_exponent 3 (some .int), Cond.fieldLink RX0 19 "WeatherMast$Floats" "fractionBits" "I", Cond.methodLink RX0 61 yX0_guardedDigits, Cond.instanceMethod yX0_guardedDigits]
def wsX1_keep_r4 : List Cond := [Cond.selects RX0 yX0_guardedDigits yX0_guardedDigits, Cond.code yX0_guardedDigits cX0_guardedDigits 3 (some .long), Cond.methodLink RX0 89 yX0_digits, Cond.instanceMethod yX0_digits, Cond.selects RX0 yX0_digits yX0_digits, Cond.code yX0_digits cX0_digits 3 (some .long), Cond.methodLink RX0 64 yX0_shiftedDown, Cond.static yX0_shiftedDown, Cond.code yX0_shiftedDown cX0_shiftedDown 5 (some .long), Cond.methodLink RX0 68 yX0_rounded, Cond.instanceMethod yX0_rounded, Cond.selects RX0 yX0_rounded yX0_rounded, Cond.code yX0_rounded cX0_rounded 9 (some .long), Cond.fieldLink RX0 23 "WeatherMast$Floats" "bias" "I", Cond.constantLong RX0 92 (7), Cond.constantLong RX0 94 (4), Cond.methodLink RX0 78 yX0_differenceOfAmounts, Cond.instanceMethod yX0_differenceOfAmounts, Cond.selects RX0 yX0_differenceOfAmounts yX0_differenceOfAmounts, Cond.code yX0_differenceOfAmounts cX0_differenceOfAmounts 14 (some .long), Cond.methodLink RX0 86 Lib.Math.min.name, Cond.static Lib.Math.min.name, Cond.code Lib.Math.min.name Lib.Math.min.code 2 (some .int), Cond.methodLink RX0 81 yJ13_numberOfLeadingZeros_95d88]
def wsX1_keep_r5 : List Cond := [Cond.static yJ13_numberOfLeadingZeros_95d88, Cond.initialized RJ13, Cond.code yJ13_numberOfLeadingZeros_95d88 cJ13_numberOfLeadingZeros_95d88 3 (some .int), Cond.methodLink RJ13 308 yJ6_numberOfLeadingZeros_0f7a4, Cond.static yJ6_numberOfLeadingZeros_0f7a4, Cond.initialized RJ6, Cond.code yJ6_numberOfLeadingZeros_0f7a4 cJ6_numberOfLeadingZeros_0f7a4 2 (some .int), Cond.constant RJ6 264 (65536), Cond.selects RX4 ⟨"WeatherMast$Sort", "apart", "(JJ)J"⟩ yX4_apart, Cond.instanceMethod yX4_apart, Cond.code yX4_apart cX4_apart 5 (some .long), Cond.methodLink RX4 17 ⟨"WeatherMast$Wholes", "heard", "(J)J"⟩, Cond.sameMethod "WeatherMast$Wholes" "WeatherMast$Sort" "heard" "(J)J", Cond.selects RX4 ⟨"WeatherMast$Wholes", "heard", "(J)J"⟩ yX2_heard, Cond.instanceMethod yX2_heard, Cond.code yX2_heard cX2_heard 3 (some .long), Cond.fieldLink RX2 9 "WeatherMast$Sort" "narrow" "Z", Cond.methodLink RX4 23 yX4_amount, Cond.instanceMethod yX4_amount, Cond.selects RX4 yX4_amount yX4_amount, Cond.code yX4_amount cX4_amount 3 (some .long), Cond.methodLink RX1 90 ⟨"WeatherMast$Sort", "amount", "(J)J"⟩, Cond.sameMethod "WeatherMast$Sort" "WeatherMast$Sort" "amount" "(J)J", Cond.selects RX0 ⟨"WeatherMast$Sort", "amount", "(J)J"⟩ yX0_amount]
def wsX1_keep_r6 : List Cond := [Cond.selects RX4 ⟨"WeatherMast$Sort", "amount", "(J)J"⟩ yX4_amount, Cond.methodLink RX1 94 ⟨"WeatherMast$Sort", "addAmounts", "(JJ)J"⟩, Cond.sameMethod "WeatherMast$Sort" "WeatherMast$Sort" "addAmounts" "(JJ)J", Cond.selects RX0 ⟨"WeatherMast$Sort", "addAmounts", "(JJ)J"⟩ yX0_addAmounts, Cond.selects RX4 ⟨"WeatherMast$Sort", "addAmounts", "(JJ)J"⟩ yX4_addAmounts, Cond.instanceMethod yX4_addAmounts, Cond.code yX4_addAmounts cX4_addAmounts 5 (some .long)]
def wsX1_keep : List Cond := .code yX1_keep cX1_keep 4 none :: ((wsX1_keep_r1 ++ (wsX1_keep_r2 ++ (wsX1_keep_r3 ++ (wsX1_keep_r4 ++ (wsX1_keep_r5 ++ wsX1_keep_r6))))) ++ wsX10 ++ wsX00 ++ wsX40)
def wsX4_place : List Cond := .code yX4_place cX4_place 3 (some .long) :: ([])
def wsX2_isAbove : List Cond := .code yX2_isAbove cX2_isAbove 5 (some .boolean) :: ([.methodLink RX2 33 ⟨"WeatherMast$Sort", "place", "(J)J"⟩, .sameMethod "WeatherMast$Sort" "WeatherMast$Sort" "place" "(J)J", .selects RX0 ⟨"WeatherMast$Sort", "place", "(J)J"⟩ yX0_place, .instanceMethod yX0_place, .initialized RX0, .code yX0_place cX0_place 3 (some .long), .methodLink RX0 39 yX0_amount, .instanceMethod yX0_amount, .selects RX0 yX0_amount yX0_amount, .code yX0_amount cX0_amount 3 (some .long), .fieldLink RX0 43 "WeatherMast$Floats" "signBit" "J", .sameField "WeatherMast$Floats" "WeatherMast$Sort" "signBit" "J", .constantLong RX0 46 (-1), .selects RX4 ⟨"WeatherMast$Sort", "place", "(J)J"⟩ yX4_place, .instanceMethod yX4_place, .initialized RX4, .code yX4_place cX4_place 3 (some .long)] ++ wsX00 ++ wsX40)
def wsX1_isBeyondLimits_r1 : List Cond := [Cond.fieldLink RX1 15 "WeatherMast$Instrument" "sort" "LWeatherMast$Sort;", Cond.fieldLink RX1 35 "WeatherMast$Instrument" "low" "J", Cond.fieldLink RX1 41 "WeatherMast$Instrument" "high" "J", Cond.methodLink RX1 100 ⟨"WeatherMast$Sort", "isAbove", "(JJ)Z"⟩, Cond.sameMethod "WeatherMast$Sort" "WeatherMast$Sort" "isAbove" "(JJ)Z", Cond.selects RX0 ⟨"WeatherMast$Sort", "isAbove", "(JJ)Z"⟩ yX2_isAbove, Cond.instanceMethod yX2_isAbove, Cond.initialized RX2, Cond.code yX2_isAbove cX2_isAbove 5 (some .boolean), Cond.methodLink RX2 33 ⟨"WeatherMast$Sort", "place", "(J)J"⟩, Cond.sameMethod "WeatherMast$Sort" "WeatherMast$Sort" "place" "(J)J", Cond.selects RX0 ⟨"WeatherMast$Sort", "place", "(J)J"⟩ yX0_place, Cond.instanceMethod yX0_place, Cond.initialized RX0, Cond.code yX0_place cX0_place 3 (some .long), Cond.methodLink RX0 39 yX0_amount, Cond.instanceMethod yX0_amount, Cond.selects RX0 yX0_amount yX0_amount, Cond.code yX0_amount cX0_amount 3 (some .long), Cond.fieldLink RX0 43 "WeatherMast$Floats" "signBit" "J", Cond.sameField "WeatherMast$Floats" "WeatherMast$Sort" "signBit" "J", Cond.constantLong RX0 46 (-1), Cond.selects RX4 ⟨"WeatherMast$Sort", "place", "(J)J"⟩ yX4_place, Cond.instanceMethod yX4_place]
def wsX1_isBeyondLimits_r2 : List Cond := [Cond.initialized RX4, Cond.code yX4_place cX4_place 3 (some .long), Cond.selects RX4 ⟨"WeatherMast$Sort", "isAbove", "(JJ)Z"⟩ yX2_isAbove]
def wsX1_isBeyondLimits : List Cond := .code yX1_isBeyondLimits cX1_isBeyondLimits 3 (some .boolean) :: ((wsX1_isBeyondLimits_r1 ++ wsX1_isBeyondLimits_r2) ++ wsX10 ++ wsX00 ++ wsX40)
def wsX1_isKept : List Cond := .code yX1_isKept cX1_isKept 2 (some .boolean) :: ([.fieldLink RX1 97 "WeatherMast$Instrument" "readings" "I"] ++ wsX10)
def wsX1_keptAt : List Cond := .code yX1_keptAt cX1_keptAt 2 (some .long) :: ([.fieldLink RX1 25 "WeatherMast$Instrument" "kept" "[J", .fieldLink RX1 97 "WeatherMast$Instrument" "readings" "I"] ++ wsX10)
def wsX1_loseReadings : List Cond := .code yX1_loseReadings cX1_loseReadings 1 none :: ([.fieldLink RX1 97 "WeatherMast$Instrument" "readings" "I", .fieldLink RX1 78 "WeatherMast$Instrument" "latest" "J", .fieldLink RX1 65 "WeatherMast$Instrument" "least" "J", .fieldLink RX1 72 "WeatherMast$Instrument" "greatest" "J", .fieldLink RX1 84 "WeatherMast$Instrument" "swing" "J", .fieldLink RX1 87 "WeatherMast$Instrument" "sum" "J"] ++ wsX10)
def wsX3_init : List Cond := .code yX3_init cX3_init 5 none :: ([.methodLink RX3 1 objectInit, .instanceMethod objectInit, .code objectInit ⟨#[0xb1]⟩ 1 none, .fieldLink RX3 7 "WeatherMast$Step" "number" "I", .fieldLink RX3 13 "WeatherMast$Step" "told" "J", .fieldLink RX3 17 "WeatherMast$Step" "followed" "LWeatherMast$Instrument;"] ++ wsX30)
def wsX4_init : List Cond := .code yX4_init cX4_init 2 none :: ([.constantLong RX4 3 (-2147483648), .constantLong RX4 5 (-9223372036854775808), .constantLong RX4 7 (2147483647), .constantLong RX4 9 (9223372036854775807), .methodLink RX4 11 yX2_init, .instanceMethod yX2_init, .initialized RX2, .code yX2_init cX2_init 6 none, .methodLink RX2 3 objectInit, .instanceMethod objectInit, .code objectInit ⟨#[0xb1]⟩ 1 none, .fieldLink RX2 9 "WeatherMast$Sort" "narrow" "Z", .constantLong RX2 15 (-2147483648), .constantLong RX2 17 (-9223372036854775808), .fieldLink RX2 19 "WeatherMast$Sort" "signBit" "J", .fieldLink RX2 23 "WeatherMast$Sort" "lowest" "J", .fieldLink RX2 26 "WeatherMast$Sort" "highest" "J"] ++ wsX00 ++ wsX40)
def wsX4_isNumber : List Cond := .code yX4_isNumber cX4_isNumber 3 (some .boolean) :: ([])
def wsX4_hasStep : List Cond := .code yX4_hasStep cX4_hasStep 2 (some .boolean) :: ([])
def wsX4_asInt : List Cond := .code yX4_asInt cX4_asInt 3 (some .int) :: ([.constantLong RX4 3 (-2147483648), .constantLong RX4 7 (2147483647), .methodLink RX4 26 Lib.MathLoose.min_long.x, .static Lib.MathLoose.min_long.x, .initialized "java/lang/Math", .code Lib.MathLoose.min_long.x Lib.MathLoose.min_long.code 4 (some .long), .methodLink RX4 32 Lib.MathLoose.max_long.x, .static Lib.MathLoose.max_long.x, .code Lib.MathLoose.max_long.x Lib.MathLoose.max_long.code 4 (some .long)])
def wsX5_init_r1 : List Cond := [Cond.methodLink RX5 1 objectInit, Cond.instanceMethod objectInit, Cond.code objectInit ⟨#[0xb1]⟩ 1 none, Cond.classLink RX5 7 RX2, Cond.classLink RX5 9 RX4, Cond.instantiable RX4 4, Cond.initialized RX4, Cond.classLink RX5 14 RX0, Cond.instantiable RX0 10, Cond.initialized RX0, Cond.fieldLink RX5 17 "WeatherMast" "sorts" "[LWeatherMast$Sort;", Cond.classLink RX5 23 RX1, Cond.fieldLink RX5 25 "WeatherMast" "instruments" "[LWeatherMast$Instrument;", Cond.methodLink RX5 11 yX4_init, Cond.instanceMethod yX4_init, Cond.code yX4_init cX4_init 2 none, Cond.constantLong RX4 3 (-2147483648), Cond.constantLong RX4 5 (-9223372036854775808), Cond.constantLong RX4 7 (2147483647), Cond.constantLong RX4 9 (9223372036854775807), Cond.methodLink RX4 11 yX2_init, Cond.instanceMethod yX2_init, Cond.initialized RX2, Cond.code yX2_init cX2_init 6 none]
def wsX5_init_r2 : List Cond := [Cond.methodLink RX2 3 objectInit, Cond.fieldLink RX2 9 "WeatherMast$Sort" "narrow" "Z", Cond.constantLong RX2 15 (-2147483648), Cond.constantLong RX2 17 (-9223372036854775808), Cond.fieldLink RX2 19 "WeatherMast$Sort" "signBit" "J", Cond.fieldLink RX2 23 "WeatherMast$Sort" "lowest" "J", Cond.fieldLink RX2 26 "WeatherMast$Sort" "highest" "J", Cond.methodLink RX5 16 yX0_init, Cond.instanceMethod yX0_init, Cond.code yX0_init cX0_init 2 none, Cond.constantLong RX0 5 (-8388608), Cond.constantLong RX0 7 (-4503599627370496), Cond.constantLong RX0 9 (2139095040), Cond.constantLong RX0 11 (9218868437227405312), Cond.fieldLink RX0 19 "WeatherMast$Floats" "fractionBits" "I", Cond.fieldLink RX0 23 "WeatherMast$Floats" "bias" "I", Cond.fieldLink RX0 26 "WeatherMast$Floats" "leadingOne" "J", Cond.fieldLink RX0 30 "WeatherMast$Floats" "half" "J", Cond.fieldLink RX0 33 "WeatherMast$Floats" "one" "J", Cond.fieldLink RX0 36 "WeatherMast$Floats" "infinity" "J", Cond.methodLink RX0 13 yX2_init]
def wsX5_init : List Cond := .code yX5_init cX5_init 1 none :: ((wsX5_init_r1 ++ wsX5_init_r2) ++ wsX40 ++ wsX00 ++ wsX50)
def wsX5_findSort : List Cond := .code yX5_findSort cX5_findSort 2 (some (.object "WeatherMast$Sort")) :: ([.fieldLink RX5 17 "WeatherMast" "sorts" "[LWeatherMast$Sort;"] ++ wsX50)
def wsX5_mount_r1 : List Cond := [Cond.classLink RX5 33 "java/lang/IllegalArgumentException", Cond.initialized "java/lang/IllegalArgumentException", Cond.classLink RX5 44 "java/lang/UnsupportedOperationException", Cond.initialized "java/lang/UnsupportedOperationException", Cond.fieldLink RX5 40 "WeatherMast" "mounted" "I", Cond.fieldLink RX5 25 "WeatherMast" "instruments" "[LWeatherMast$Instrument;", Cond.classLink RX5 23 RX1, Cond.instantiable RX1 14, Cond.initialized RX1, Cond.methodLink RX5 29 yX5_findSort, Cond.instanceMethod yX5_findSort, Cond.selects RX5 yX5_findSort yX5_findSort, Cond.initialized RX5, Cond.code yX5_findSort cX5_findSort 2 (some (.object "WeatherMast$Sort")), Cond.fieldLink RX5 17 "WeatherMast" "sorts" "[LWeatherMast$Sort;", Cond.methodLink RX5 49 yX1_init, Cond.instanceMethod yX1_init, Cond.code yX1_init cX1_init 3 none, Cond.methodLink RX1 3 objectInit, Cond.instanceMethod objectInit, Cond.code objectInit ⟨#[0xb1]⟩ 1 none, Cond.fieldLink RX1 9 "WeatherMast$Instrument" "sortNumber" "I", Cond.fieldLink RX1 15 "WeatherMast$Instrument" "sort" "LWeatherMast$Sort;", Cond.classLink RX1 19 RX3]
def wsX5_mount_r2 : List Cond := [Cond.fieldLink RX1 21 "WeatherMast$Instrument" "chain" "[LWeatherMast$Step;", Cond.arrayClass .long, Cond.fieldLink RX1 25 "WeatherMast$Instrument" "kept" "[J", Cond.fieldLink RX1 29 "WeatherMast$Sort" "lowest" "J", Cond.fieldLink RX1 35 "WeatherMast$Instrument" "low" "J", Cond.fieldLink RX1 38 "WeatherMast$Sort" "highest" "J", Cond.fieldLink RX1 41 "WeatherMast$Instrument" "high" "J"]
def wsX5_mount : List Cond := .code yX5_mount cX5_mount 4 (some .int) :: ((wsX5_mount_r1 ++ wsX5_mount_r2) ++ wsX50 ++ wsX10 ++ wsX00 ++ wsX40 ++ (vx_atS RX5 37 "java/lang/IllegalArgumentException" ["java/lang/RuntimeException", "java/lang/Exception"]).filter goodWord ++ (vx_atS RX5 48 "java/lang/UnsupportedOperationException" ["java/lang/RuntimeException", "java/lang/Exception"]).filter goodWord)
def wsX5_findInstrument : List Cond := .code yX5_findInstrument cX5_findInstrument 2 (some (.object "WeatherMast$Instrument")) :: ([.fieldLink RX5 25 "WeatherMast" "instruments" "[LWeatherMast$Instrument;"] ++ wsX50)
def wsX5_takesK : List Cond := .code yX5_takesK cX5_takesK 1 (some .boolean) :: ([])
def wsX5_step_r1 : List Cond := [Cond.classLink RX5 56 "java/lang/IndexOutOfBoundsException", Cond.initialized "java/lang/IndexOutOfBoundsException", Cond.classLink RX5 33 "java/lang/IllegalArgumentException", Cond.initialized "java/lang/IllegalArgumentException", Cond.classLink RX5 88 "java/lang/IllegalStateException", Cond.initialized "java/lang/IllegalStateException", Cond.fieldLink RX5 61 "WeatherMast$Instrument" "sort" "LWeatherMast$Sort;", Cond.classLink RX5 93 RX3, Cond.instantiable RX3 3, Cond.initialized RX3, Cond.methodLink RX5 52 yX5_findInstrument, Cond.instanceMethod yX5_findInstrument, Cond.selects RX5 yX5_findInstrument yX5_findInstrument, Cond.initialized RX5, Cond.code yX5_findInstrument cX5_findInstrument 2 (some (.object "WeatherMast$Instrument")), Cond.fieldLink RX5 25 "WeatherMast" "instruments" "[LWeatherMast$Instrument;", Cond.methodLink RX5 65 ⟨"WeatherMast$Sort", "hasStep", "(I)Z"⟩, Cond.sameMethod "WeatherMast$Sort" "WeatherMast$Sort" "hasStep" "(I)Z", Cond.selects RX0 ⟨"WeatherMast$Sort", "hasStep", "(I)Z"⟩ yX0_hasStep, Cond.instanceMethod yX0_hasStep, Cond.initialized RX0, Cond.code yX0_hasStep cX0_hasStep 2 (some .boolean), Cond.selects RX4 ⟨"WeatherMast$Sort", "hasStep", "(I)Z"⟩ yX4_hasStep, Cond.instanceMethod yX4_hasStep]
def wsX5_step_r2 : List Cond := [Cond.initialized RX4, Cond.code yX4_hasStep cX4_hasStep 2 (some .boolean), Cond.methodLink RX5 71 ⟨"WeatherMast$Sort", "heard", "(J)J"⟩, Cond.sameMethod "WeatherMast$Sort" "WeatherMast$Sort" "heard" "(J)J", Cond.selects RX0 ⟨"WeatherMast$Sort", "heard", "(J)J"⟩ yX2_heard, Cond.instanceMethod yX2_heard, Cond.initialized RX2, Cond.code yX2_heard cX2_heard 3 (some .long), Cond.fieldLink RX2 9 "WeatherMast$Sort" "narrow" "Z", Cond.selects RX4 ⟨"WeatherMast$Sort", "heard", "(J)J"⟩ yX2_heard, Cond.methodLink RX5 75 yX5_takesK, Cond.static yX5_takesK, Cond.code yX5_takesK cX5_takesK 1 (some .boolean), Cond.methodLink RX5 78 ⟨"WeatherMast$Sort", "isNumber", "(J)Z"⟩, Cond.sameMethod "WeatherMast$Sort" "WeatherMast$Sort" "isNumber" "(J)Z", Cond.selects RX0 ⟨"WeatherMast$Sort", "isNumber", "(J)Z"⟩ yX0_isNumber, Cond.instanceMethod yX0_isNumber, Cond.code yX0_isNumber cX0_isNumber 3 (some .boolean), Cond.fieldLink RX0 36 "WeatherMast$Floats" "infinity" "J", Cond.methodLink RX0 39 yX0_amount, Cond.instanceMethod yX0_amount, Cond.selects RX0 yX0_amount yX0_amount, Cond.code yX0_amount cX0_amount 3 (some .long), Cond.fieldLink RX0 43 "WeatherMast$Floats" "signBit" "J"]
def wsX5_step_r3 : List Cond := [Cond.sameField "WeatherMast$Floats" "WeatherMast$Sort" "signBit" "J", Cond.constantLong RX0 46 (-1), Cond.selects RX4 ⟨"WeatherMast$Sort", "isNumber", "(J)Z"⟩ yX4_isNumber, Cond.instanceMethod yX4_isNumber, Cond.code yX4_isNumber cX4_isNumber 3 (some .boolean), Cond.methodLink RX5 84 yX1_isChainFull, Cond.instanceMethod yX1_isChainFull, Cond.selects RX1 yX1_isChainFull yX1_isChainFull, Cond.initialized RX1, Cond.code yX1_isChainFull cX1_isChainFull 1 (some .boolean), Cond.fieldLink RX1 44 "WeatherMast$Instrument" "steps" "I", Cond.fieldLink RX1 21 "WeatherMast$Instrument" "chain" "[LWeatherMast$Step;", Cond.methodLink RX5 95 yX3_init, Cond.instanceMethod yX3_init, Cond.code yX3_init cX3_init 5 none, Cond.methodLink RX3 1 objectInit, Cond.instanceMethod objectInit, Cond.code objectInit ⟨#[0xb1]⟩ 1 none, Cond.fieldLink RX3 7 "WeatherMast$Step" "number" "I", Cond.fieldLink RX3 13 "WeatherMast$Step" "told" "J", Cond.fieldLink RX3 17 "WeatherMast$Step" "followed" "LWeatherMast$Instrument;", Cond.methodLink RX5 98 yX1_lengthenChain, Cond.instanceMethod yX1_lengthenChain, Cond.selects RX1 yX1_lengthenChain yX1_lengthenChain]
def wsX5_step_r4 : List Cond := [Cond.code yX1_lengthenChain cX1_lengthenChain 2 (some .int), Cond.methodLink RX1 47 yX1_isChainFull]
def wsX5_step : List Cond := .code yX5_step cX5_step 8 (some .int) :: ((wsX5_step_r1 ++ (wsX5_step_r2 ++ (wsX5_step_r3 ++ wsX5_step_r4))) ++ wsX10 ++ wsX30 ++ wsX50 ++ wsX00 ++ wsX40 ++ (vx_atS RX5 60 "java/lang/IndexOutOfBoundsException" ["java/lang/RuntimeException", "java/lang/Exception"]).filter goodWord ++ (vx_atS RX5 37 "java/lang/IllegalArgumentException" ["java/lang/RuntimeException", "java/lang/Exception"]).filter goodWord ++ (vx_atS RX5 92 "java/lang/IllegalStateException" ["java/lang/RuntimeException", "java/lang/Exception"]).filter goodWord)
def wsX5_follow_r1 : List Cond := [Cond.classLink RX5 56 "java/lang/IndexOutOfBoundsException", Cond.initialized "java/lang/IndexOutOfBoundsException", Cond.classLink RX5 33 "java/lang/IllegalArgumentException", Cond.initialized "java/lang/IllegalArgumentException", Cond.classLink RX5 88 "java/lang/IllegalStateException", Cond.initialized "java/lang/IllegalStateException", Cond.fieldLink RX5 61 "WeatherMast$Instrument" "sort" "LWeatherMast$Sort;", Cond.fieldLink RX5 104 "WeatherMast$Instrument" "sortNumber" "I", Cond.classLink RX5 93 RX3, Cond.instantiable RX3 3, Cond.initialized RX3, Cond.methodLink RX5 52 yX5_findInstrument, Cond.instanceMethod yX5_findInstrument, Cond.selects RX5 yX5_findInstrument yX5_findInstrument, Cond.initialized RX5, Cond.code yX5_findInstrument cX5_findInstrument 2 (some (.object "WeatherMast$Instrument")), Cond.fieldLink RX5 25 "WeatherMast" "instruments" "[LWeatherMast$Instrument;", Cond.methodLink RX5 65 ⟨"WeatherMast$Sort", "hasStep", "(I)Z"⟩, Cond.sameMethod "WeatherMast$Sort" "WeatherMast$Sort" "hasStep" "(I)Z", Cond.selects RX0 ⟨"WeatherMast$Sort", "hasStep", "(I)Z"⟩ yX0_hasStep, Cond.instanceMethod yX0_hasStep, Cond.initialized RX0, Cond.code yX0_hasStep cX0_hasStep 2 (some .boolean), Cond.selects RX4 ⟨"WeatherMast$Sort", "hasStep", "(I)Z"⟩ yX4_hasStep]
def wsX5_follow_r2 : List Cond := [Cond.instanceMethod yX4_hasStep, Cond.initialized RX4, Cond.code yX4_hasStep cX4_hasStep 2 (some .boolean), Cond.methodLink RX5 75 yX5_takesK, Cond.static yX5_takesK, Cond.code yX5_takesK cX5_takesK 1 (some .boolean), Cond.methodLink RX5 84 yX1_isChainFull, Cond.instanceMethod yX1_isChainFull, Cond.selects RX1 yX1_isChainFull yX1_isChainFull, Cond.initialized RX1, Cond.code yX1_isChainFull cX1_isChainFull 1 (some .boolean), Cond.fieldLink RX1 44 "WeatherMast$Instrument" "steps" "I", Cond.fieldLink RX1 21 "WeatherMast$Instrument" "chain" "[LWeatherMast$Step;", Cond.methodLink RX5 95 yX3_init, Cond.instanceMethod yX3_init, Cond.code yX3_init cX3_init 5 none, Cond.methodLink RX3 1 objectInit, Cond.instanceMethod objectInit, Cond.code objectInit ⟨#[0xb1]⟩ 1 none, Cond.fieldLink RX3 7 "WeatherMast$Step" "number" "I", Cond.fieldLink RX3 13 "WeatherMast$Step" "told" "J", Cond.fieldLink RX3 17 "WeatherMast$Step" "followed" "LWeatherMast$Instrument;", Cond.methodLink RX5 98 yX1_lengthenChain, Cond.instanceMethod yX1_lengthenChain]
def wsX5_follow_r3 : List Cond := [Cond.selects RX1 yX1_lengthenChain yX1_lengthenChain, Cond.code yX1_lengthenChain cX1_lengthenChain 2 (some .int), Cond.methodLink RX1 47 yX1_isChainFull]
def wsX5_follow : List Cond := .code yX5_follow cX5_follow 6 (some .int) :: ((wsX5_follow_r1 ++ (wsX5_follow_r2 ++ wsX5_follow_r3)) ++ wsX10 ++ wsX30 ++ wsX50 ++ (vx_atS RX5 60 "java/lang/IndexOutOfBoundsException" ["java/lang/RuntimeException", "java/lang/Exception"]).filter goodWord ++ (vx_atS RX5 37 "java/lang/IllegalArgumentException" ["java/lang/RuntimeException", "java/lang/Exception"]).filter goodWord ++ (vx_atS RX5 92 "java/lang/IllegalStateException" ["java/lang/RuntimeException", "java/lang/Exception"]).filter goodWord)
def wsX5_read_r1 : List Cond := [Cond.classLink RX5 56 "java/lang/IndexOutOfBoundsException", Cond.initialized "java/lang/IndexOutOfBoundsException", Cond.classLink RX5 33 "java/lang/IllegalArgumentException", Cond.initialized "java/lang/IllegalArgumentException", Cond.fieldLink RX5 61 "WeatherMast$Instrument" "sort" "LWeatherMast$Sort;", Cond.fieldLink RX5 118 "WeatherMast" "readingsEver" "I", Cond.fieldLink RX5 121 "WeatherMast" "stepsEver" "I", Cond.fieldLink RX5 124 "WeatherMast$Instrument" "steps" "I", Cond.fieldLink RX5 130 "WeatherMast$Instrument" "alarmsGiven" "I", Cond.fieldLink RX5 133 "WeatherMast" "alarmsEver" "I", Cond.methodLink RX5 52 yX5_findInstrument, Cond.instanceMethod yX5_findInstrument, Cond.selects RX5 yX5_findInstrument yX5_findInstrument, Cond.initialized RX5, Cond.code yX5_findInstrument cX5_findInstrument 2 (some (.object "WeatherMast$Instrument")), Cond.fieldLink RX5 25 "WeatherMast" "instruments" "[LWeatherMast$Instrument;", Cond.methodLink RX5 71 ⟨"WeatherMast$Sort", "heard", "(J)J"⟩, Cond.sameMethod "WeatherMast$Sort" "WeatherMast$Sort" "heard" "(J)J", Cond.selects RX0 ⟨"WeatherMast$Sort", "heard", "(J)J"⟩ yX2_heard, Cond.instanceMethod yX2_heard, Cond.initialized RX2, Cond.code yX2_heard cX2_heard 3 (some .long), Cond.fieldLink RX2 9 "WeatherMast$Sort" "narrow" "Z", Cond.selects RX4 ⟨"WeatherMast$Sort", "heard", "(J)J"⟩ yX2_heard]
def wsX5_read_r2 : List Cond := [Cond.methodLink RX5 78 ⟨"WeatherMast$Sort", "isNumber", "(J)Z"⟩, Cond.sameMethod "WeatherMast$Sort" "WeatherMast$Sort" "isNumber" "(J)Z", Cond.selects RX0 ⟨"WeatherMast$Sort", "isNumber", "(J)Z"⟩ yX0_isNumber, Cond.instanceMethod yX0_isNumber, Cond.initialized RX0, Cond.code yX0_isNumber cX0_isNumber 3 (some .boolean), Cond.fieldLink RX0 36 "WeatherMast$Floats" "infinity" "J", Cond.methodLink RX0 39 yX0_amount, Cond.instanceMethod yX0_amount, Cond.selects RX0 yX0_amount yX0_amount, Cond.code yX0_amount cX0_amount 3 (some .long), Cond.fieldLink RX0 43 "WeatherMast$Floats" "signBit" "J", Cond.sameField "WeatherMast$Floats" "WeatherMast$Sort" "signBit" "J", Cond.constantLong RX0 46 (-1), Cond.selects RX4 ⟨"WeatherMast$Sort", "isNumber", "(J)Z"⟩ yX4_isNumber, Cond.instanceMethod yX4_isNumber, Cond.initialized RX4, Cond.code yX4_isNumber cX4_isNumber 3 (some .boolean), Cond.methodLink RX5 111 yX1_throughChain, Cond.instanceMethod yX1_throughChain, Cond.selects RX1 yX1_throughChain yX1_throughChain, Cond.initialized RX1, Cond.code yX1_throughChain cX1_throughChain 9 (some .long), Cond.fieldLink RX1 21 "WeatherMast$Instrument" "chain" "[LWeatherMast$Step;"]
def wsX5_read_r3 : List Cond := [Cond.fieldLink RX1 15 "WeatherMast$Instrument" "sort" "LWeatherMast$Sort;", Cond.fieldLink RX1 51 "WeatherMast$Step" "number" "I", Cond.methodLink RX1 54 yX3_currentK, Cond.instanceMethod yX3_currentK, Cond.selects RX3 yX3_currentK yX3_currentK, Cond.initialized RX3, Cond.code yX3_currentK cX3_currentK 1 (some .long), Cond.fieldLink RX3 17 "WeatherMast$Step" "followed" "LWeatherMast$Instrument;", Cond.fieldLink RX3 13 "WeatherMast$Step" "told" "J", Cond.fieldLink RX3 21 "WeatherMast$Instrument" "latest" "J", Cond.methodLink RX1 58 ⟨"WeatherMast$Sort", "afterStep", "(IJJ)J"⟩, Cond.sameMethod "WeatherMast$Sort" "WeatherMast$Sort" "afterStep" "(IJJ)J", Cond.selects RX0 ⟨"WeatherMast$Sort", "afterStep", "(IJJ)J"⟩ yX2_afterStep, Cond.instanceMethod yX2_afterStep, Cond.code yX2_afterStep cX2_afterStep 6 (some .long), Cond.methodLink RX2 36 ⟨"WeatherMast$Sort", "amount", "(J)J"⟩, Cond.sameMethod "WeatherMast$Sort" "WeatherMast$Sort" "amount" "(J)J", Cond.selects RX0 ⟨"WeatherMast$Sort", "amount", "(J)J"⟩ yX0_amount, Cond.selects RX4 ⟨"WeatherMast$Sort", "amount", "(J)J"⟩ yX4_amount, Cond.instanceMethod yX4_amount, Cond.code yX4_amount cX4_amount 3 (some .long), Cond.methodLink RX4 17 ⟨"WeatherMast$Wholes", "heard", "(J)J"⟩, Cond.sameMethod "WeatherMast$Wholes" "WeatherMast$Sort" "heard" "(J)J", Cond.selects RX4 ⟨"WeatherMast$Wholes", "heard", "(J)J"⟩ yX2_heard]
def wsX5_read_r4 : List Cond := [Cond.methodLink RX2 39 ⟨"WeatherMast$Sort", "greater", "(JJ)J"⟩, Cond.sameMethod "WeatherMast$Sort" "WeatherMast$Sort" "greater" "(JJ)J", Cond.selects RX0 ⟨"WeatherMast$Sort", "greater", "(JJ)J"⟩ yX2_greater, Cond.instanceMethod yX2_greater, Cond.code yX2_greater cX2_greater 5 (some .long), Cond.methodLink RX2 29 ⟨"WeatherMast$Sort", "rank", "(J)J"⟩, Cond.sameMethod "WeatherMast$Sort" "WeatherMast$Sort" "rank" "(J)J", Cond.selects RX0 ⟨"WeatherMast$Sort", "rank", "(J)J"⟩ yX0_rank, Cond.instanceMethod yX0_rank, Cond.code yX0_rank cX0_rank 3 (some .long), Cond.selects RX4 ⟨"WeatherMast$Sort", "rank", "(J)J"⟩ yX4_rank, Cond.instanceMethod yX4_rank, Cond.code yX4_rank cX4_rank 3 (some .long), Cond.selects RX4 ⟨"WeatherMast$Sort", "greater", "(JJ)J"⟩ yX2_greater, Cond.methodLink RX2 43 ⟨"WeatherMast$Sort", "lesser", "(JJ)J"⟩, Cond.sameMethod "WeatherMast$Sort" "WeatherMast$Sort" "lesser" "(JJ)J", Cond.selects RX0 ⟨"WeatherMast$Sort", "lesser", "(JJ)J"⟩ yX2_lesser, Cond.instanceMethod yX2_lesser, Cond.code yX2_lesser cX2_lesser 5 (some .long), Cond.selects RX4 ⟨"WeatherMast$Sort", "lesser", "(JJ)J"⟩ yX2_lesser, Cond.methodLink RX2 46 ⟨"WeatherMast$Sort", "afterFurtherStep", "(IJJ)J"⟩, Cond.sameMethod "WeatherMast$Sort" "WeatherMast$Sort" "afterFurtherStep" "(IJJ)J", Cond.selects RX0 ⟨"WeatherMast$Sort", "afterFurtherStep", "(IJJ)J"⟩ yX0_afterFurtherStep, Cond.instanceMethod yX0_afterFurtherStep]
def wsX5_read_r5 : List Cond := [Cond.code yX0_afterFurtherStep cX0_afterFurtherStep 6 (some .long), Cond.fieldLink RX0 33 "WeatherMast$Floats" "one" "J", Cond.methodLink RX0 98 yX0_wholeNotBelow, Cond.instanceMethod yX0_wholeNotBelow, Cond.selects RX0 yX0_wholeNotBelow yX0_wholeNotBelow, Cond.code yX0_wholeNotBelow cX0_wholeNotBelow 5 (some .long), Cond.methodLink RX0 101 yX0_wholeNotAbove, Cond.instanceMethod yX0_wholeNotAbove, Cond.selects RX0 yX0_wholeNotAbove yX0_wholeNotAbove, Cond.code yX0_wholeNotAbove cX0_wholeNotAbove 4 (some .long), Cond.methodLink RX0 110 yX0_bitsBehindPoint, Cond.instanceMethod yX0_bitsBehindPoint, Cond.selects RX0 yX0_bitsBehindPoint yX0_bitsBehindPoint, Cond.code yX0_bitsBehindPoint cX0_bitsBehindPoint 4 (some .int), Cond.fieldLink RX0 19 "WeatherMast$Floats" "fractionBits" "I", Cond.fieldLink RX0 23 "WeatherMast$Floats" "bias" "I", Cond.methodLink RX0 104 yX0_withSignOf, Cond.instanceMethod yX0_withSignOf, Cond.selects RX0 yX0_withSignOf yX0_withSignOf, Cond.code yX0_withSignOf cX0_withSignOf 5 (some .long), Cond.methodLink RX0 107 yX0_wholeNearest, Cond.instanceMethod yX0_wholeNearest, Cond.selects RX0 yX0_wholeNearest yX0_wholeNearest, Cond.code yX0_wholeNearest cX0_wholeNearest 11 (some .long)]
def wsX5_read_r6 : List Cond := [Cond.fieldLink RX0 30 "WeatherMast$Floats" "half" "J", Cond.constantLong RX0 113 (2), Cond.selects RX4 ⟨"WeatherMast$Sort", "afterFurtherStep", "(IJJ)J"⟩ yX4_afterFurtherStep, Cond.instanceMethod yX4_afterFurtherStep, Cond.code yX4_afterFurtherStep cX4_afterFurtherStep 6 (some .long), Cond.selects RX4 ⟨"WeatherMast$Sort", "afterStep", "(IJJ)J"⟩ yX2_afterStep, Cond.methodLink RX5 114 yX1_keep, Cond.instanceMethod yX1_keep, Cond.selects RX1 yX1_keep yX1_keep, Cond.code yX1_keep cX1_keep 4 none, Cond.fieldLink RX1 65 "WeatherMast$Instrument" "least" "J", Cond.fieldLink RX1 72 "WeatherMast$Instrument" "greatest" "J", Cond.fieldLink RX1 78 "WeatherMast$Instrument" "latest" "J", Cond.fieldLink RX1 84 "WeatherMast$Instrument" "swing" "J", Cond.fieldLink RX1 87 "WeatherMast$Instrument" "sum" "J", Cond.fieldLink RX1 25 "WeatherMast$Instrument" "kept" "[J", Cond.fieldLink RX1 97 "WeatherMast$Instrument" "readings" "I", Cond.methodLink RX1 62 yX1_hasRead, Cond.instanceMethod yX1_hasRead, Cond.selects RX1 yX1_hasRead yX1_hasRead, Cond.code yX1_hasRead cX1_hasRead 1 (some .boolean), Cond.methodLink RX1 68 ⟨"WeatherMast$Sort", "lesser", "(JJ)J"⟩, Cond.methodLink RX1 75 ⟨"WeatherMast$Sort", "greater", "(JJ)J"⟩, Cond.methodLink RX1 81 ⟨"WeatherMast$Sort", "apart", "(JJ)J"⟩]
def wsX5_read_r7 : List Cond := [Cond.sameMethod "WeatherMast$Sort" "WeatherMast$Sort" "apart" "(JJ)J", Cond.selects RX0 ⟨"WeatherMast$Sort", "apart", "(JJ)J"⟩ yX0_apart, Cond.instanceMethod yX0_apart, Cond.code yX0_apart cX0_apart 6 (some .long), Cond.methodLink RX0 72 yX0_place, Cond.instanceMethod yX0_place, Cond.selects RX0 yX0_place yX0_place, Cond.code yX0_place cX0_place 3 (some .long), Cond.methodLink RX0 75 yX0_addAmounts, Cond.instanceMethod yX0_addAmounts, Cond.selects RX0 yX0_addAmounts yX0_addAmounts, Cond.code yX0_addAmounts cX0_addAmounts 13 (some .long), Cond.methodLink RX0 48 Lib.MathLoose.max_long.x, Cond.static Lib.MathLoose.max_long.x, Cond.initialized "java/lang/Math", Cond.code Lib.MathLoose.max_long.x Lib.MathLoose.max_long.code 4 (some .long), Cond.methodLink RX0 54 Lib.MathLoose.min_long.x, Cond.static Lib.MathLoose.min_long.x, Cond.code Lib.MathLoose.min_long.x Lib.MathLoose.min_long.code 4 (some .long), Cond.fieldLink RX0 26 "WeatherMast$Floats" "leadingOne" "J", Cond.methodLink RX0 57 yX0_exponent, Cond.instanceMethod yX0_exponent, Cond.selects RX0 yX0_exponent yX0_exponent, Cond.code yX0_exponent cX0_exponent 3 (some .int)]
def wsX5_read_r8 : List Cond := [Cond.methodLink RX0 61 yX0_guardedDigits, Cond.instanceMethod yX0_guardedDigits, Cond.selects RX0 yX0_guardedDigits yX0_guardedDigits, Cond.code yX0_guardedDigits cX0_guardedDigits 3 (some .long), Cond.methodLink RX0 89 yX0_digits, Cond.instanceMethod yX0_digits, Cond.selects RX0 yX0_digits yX0_digits, Cond.code yX0_digits cX0_digits 3 (some .long), Cond.methodLink RX0 64 yX0_shiftedDown, Cond.static yX0_shiftedDown, Cond.code yX0_shiftedDown cX0_shiftedDown 5 (some .long), Cond.methodLink RX0 68 yX0_rounded, Cond.instanceMethod yX0_rounded, Cond.selects RX0 yX0_rounded yX0_rounded, Cond.code yX0_rounded cX0_rounded 9 (some .long), Cond.constantLong RX0 92 (7), Cond.constantLong RX0 94 (4), Cond.methodLink RX0 78 yX0_differenceOfAmounts, Cond.instanceMethod yX0_differenceOfAmounts, Cond.selects RX0 yX0_differenceOfAmounts yX0_differenceOfAmounts, Cond.code yX0_differenceOfAmounts cX0_differenceOfAmounts 14 (some .long), Cond.methodLink RX0 86 Lib.Math.min.name, Cond.static Lib.Math.min.name, Cond.code Lib.Math.min.name Lib.Math.min.code 2 (some .int)]
def wsX5_read_r9 : List Cond := [Cond.methodLink RX0 81 yJ13_numberOfLeadingZeros_95d88, Cond.static yJ13_numberOfLeadingZeros_95d88, Cond.initialized RJ13, Cond.code yJ13_numberOfLeadingZeros_95d88 cJ13_numberOfLeadingZeros_95d88 3 (some .int), Cond.methodLink RJ13 308 yJ6_numberOfLeadingZeros_0f7a4, Cond.static yJ6_numberOfLeadingZeros_0f7a4, Cond.initialized RJ6, Cond.code yJ6_numberOfLeadingZeros_0f7a4 cJ6_numberOfLeadingZeros_0f7a4 2 (some .int), Cond.constant RJ6 264 (65536), Cond.selects RX4 ⟨"WeatherMast$Sort", "apart", "(JJ)J"⟩ yX4_apart, Cond.instanceMethod yX4_apart, Cond.code yX4_apart cX4_apart 5 (some .long), Cond.methodLink RX4 23 yX4_amount, Cond.selects RX4 yX4_amount yX4_amount, Cond.methodLink RX1 90 ⟨"WeatherMast$Sort", "amount", "(J)J"⟩, Cond.methodLink RX1 94 ⟨"WeatherMast$Sort", "addAmounts", "(JJ)J"⟩, Cond.sameMethod "WeatherMast$Sort" "WeatherMast$Sort" "addAmounts" "(JJ)J", Cond.selects RX0 ⟨"WeatherMast$Sort", "addAmounts", "(JJ)J"⟩ yX0_addAmounts, Cond.selects RX4 ⟨"WeatherMast$Sort", "addAmounts", "(JJ)J"⟩ yX4_addAmounts, Cond.instanceMethod yX4_addAmounts, Cond.code yX4_addAmounts cX4_addAmounts 5 (some .long), Cond.methodLink RX5 127 yX1_isBeyondLimits, Cond.instanceMethod yX1_isBeyondLimits, Cond.selects RX1 yX1_isBeyondLimits yX1_isBeyondLimits]
def wsX5_read_r10 : List Cond := [Cond.code yX1_isBeyondLimits cX1_isBeyondLimits 3 (some .boolean), Cond.fieldLink RX1 35 "WeatherMast$Instrument" "low" "J", Cond.fieldLink RX1 41 "WeatherMast$Instrument" "high" "J", Cond.methodLink RX1 100 ⟨"WeatherMast$Sort", "isAbove", "(JJ)Z"⟩, Cond.sameMethod "WeatherMast$Sort" "WeatherMast$Sort" "isAbove" "(JJ)Z", Cond.selects RX0 ⟨"WeatherMast$Sort", "isAbove", "(JJ)Z"⟩ yX2_isAbove, Cond.instanceMethod yX2_isAbove, Cond.code yX2_isAbove cX2_isAbove 5 (some .boolean), Cond.methodLink RX2 33 ⟨"WeatherMast$Sort", "place", "(J)J"⟩, Cond.sameMethod "WeatherMast$Sort" "WeatherMast$Sort" "place" "(J)J", Cond.selects RX0 ⟨"WeatherMast$Sort", "place", "(J)J"⟩ yX0_place, Cond.selects RX4 ⟨"WeatherMast$Sort", "place", "(J)J"⟩ yX4_place, Cond.instanceMethod yX4_place, Cond.code yX4_place cX4_place 3 (some .long), Cond.selects RX4 ⟨"WeatherMast$Sort", "isAbove", "(JJ)Z"⟩ yX2_isAbove]
def wsX5_read : List Cond := .code yX5_read cX5_read 9 (some .long) :: ((wsX5_read_r1 ++ (wsX5_read_r2 ++ (wsX5_read_r3 ++ (wsX5_read_r4 ++ (wsX5_read_r5 ++ (wsX5_read_r6 ++ (wsX5_read_r7 ++ (wsX5_read_r8 ++ (wsX5_read_r9 ++ wsX5_read_r10))))))))) ++ wsX10 ++ wsX50 ++ wsX00 ++ wsX40 ++ wsX30 ++ (vx_atS RX5 60 "java/lang/IndexOutOfBoundsException" ["java/lang/RuntimeException", "java/lang/Exception"]).filter goodWord ++ (vx_atS RX5 37 "java/lang/IllegalArgumentException" ["java/lang/RuntimeException", "java/lang/Exception"]).filter goodWord)
def wsX5_reading : List Cond := .code yX5_reading cX5_reading 4 (some .long) :: ([.classLink RX5 56 "java/lang/IndexOutOfBoundsException", .initialized "java/lang/IndexOutOfBoundsException", .classLink RX5 139 "java/util/NoSuchElementException", .initialized "java/util/NoSuchElementException", .methodLink RX5 52 yX5_findInstrument, .instanceMethod yX5_findInstrument, .selects RX5 yX5_findInstrument yX5_findInstrument, .initialized RX5, .code yX5_findInstrument cX5_findInstrument 2 (some (.object "WeatherMast$Instrument")), .fieldLink RX5 25 "WeatherMast" "instruments" "[LWeatherMast$Instrument;", .methodLink RX5 136 yX1_isKept, .instanceMethod yX1_isKept, .selects RX1 yX1_isKept yX1_isKept, .initialized RX1, .code yX1_isKept cX1_isKept 2 (some .boolean), .fieldLink RX1 97 "WeatherMast$Instrument" "readings" "I", .methodLink RX5 144 yX1_keptAt, .instanceMethod yX1_keptAt, .selects RX1 yX1_keptAt yX1_keptAt, .code yX1_keptAt cX1_keptAt 2 (some .long), .fieldLink RX1 25 "WeatherMast$Instrument" "kept" "[J"] ++ wsX50 ++ wsX10 ++ (vx_atS RX5 60 "java/lang/IndexOutOfBoundsException" ["java/lang/RuntimeException", "java/lang/Exception"]).filter goodWord ++ (vx_atS RX5 143 "java/util/NoSuchElementException" ["java/lang/RuntimeException", "java/lang/Exception"]).filter goodWord)
def wsX5_tell : List Cond := .code yX5_tell cX5_tell 4 (some .long) :: ([.classLink RX5 56 "java/lang/IndexOutOfBoundsException", .initialized "java/lang/IndexOutOfBoundsException", .classLink RX5 33 "java/lang/IllegalArgumentException", .initialized "java/lang/IllegalArgumentException", .classLink RX5 139 "java/util/NoSuchElementException", .initialized "java/util/NoSuchElementException", .fieldLink RX5 155 "WeatherMast$Instrument" "least" "J", .fieldLink RX5 159 "WeatherMast$Instrument" "greatest" "J", .fieldLink RX5 162 "WeatherMast$Instrument" "swing" "J", .fieldLink RX5 165 "WeatherMast$Instrument" "sum" "J", .methodLink RX5 52 yX5_findInstrument, .instanceMethod yX5_findInstrument, .selects RX5 yX5_findInstrument yX5_findInstrument, .initialized RX5, .code yX5_findInstrument cX5_findInstrument 2 (some (.object "WeatherMast$Instrument")), .fieldLink RX5 25 "WeatherMast" "instruments" "[LWeatherMast$Instrument;", .methodLink RX5 150 yX1_hasRead, .instanceMethod yX1_hasRead, .selects RX1 yX1_hasRead yX1_hasRead, .initialized RX1, .code yX1_hasRead cX1_hasRead 1 (some .boolean), .fieldLink RX1 97 "WeatherMast$Instrument" "readings" "I"] ++ wsX10 ++ wsX50 ++ (vx_atS RX5 60 "java/lang/IndexOutOfBoundsException" ["java/lang/RuntimeException", "java/lang/Exception"]).filter goodWord ++ (vx_atS RX5 37 "java/lang/IllegalArgumentException" ["java/lang/RuntimeException", "java/lang/Exception"]).filter goodWord ++ (vx_atS RX5 143 "java/util/NoSuchElementException" ["java/lang/RuntimeException", "java/lang/Exception"]).filter goodWord)
def wsX5_whole_r1 : List Cond := [Cond.classLink RX5 56 "java/lang/IndexOutOfBoundsException", Cond.initialized "java/lang/IndexOutOfBoundsException", Cond.classLink RX5 139 "java/util/NoSuchElementException", Cond.initialized "java/util/NoSuchElementException", Cond.fieldLink RX5 61 "WeatherMast$Instrument" "sort" "LWeatherMast$Sort;", Cond.fieldLink RX5 168 "WeatherMast$Instrument" "latest" "J", Cond.methodLink RX5 52 yX5_findInstrument, Cond.instanceMethod yX5_findInstrument, Cond.selects RX5 yX5_findInstrument yX5_findInstrument, Cond.initialized RX5, Cond.code yX5_findInstrument cX5_findInstrument 2 (some (.object "WeatherMast$Instrument")), Cond.fieldLink RX5 25 "WeatherMast" "instruments" "[LWeatherMast$Instrument;", Cond.methodLink RX5 150 yX1_hasRead, Cond.instanceMethod yX1_hasRead, Cond.selects RX1 yX1_hasRead yX1_hasRead, Cond.initialized RX1, Cond.code yX1_hasRead cX1_hasRead 1 (some .boolean), Cond.fieldLink RX1 97 "WeatherMast$Instrument" "readings" "I", Cond.methodLink RX5 171 ⟨"WeatherMast$Sort", "asInt", "(J)I"⟩, Cond.sameMethod "WeatherMast$Sort" "WeatherMast$Sort" "asInt" "(J)I", Cond.selects RX0 ⟨"WeatherMast$Sort", "asInt", "(J)I"⟩ yX0_asInt, Cond.instanceMethod yX0_asInt, Cond.initialized RX0, Cond.code yX0_asInt cX0_asInt 9 (some .int)]
def wsX5_whole_r2 : List Cond := [Cond.fieldLink RX0 33 "WeatherMast$Floats" "one" "J", Cond.fieldLink RX0 23 "WeatherMast$Floats" "bias" "I", Cond.constant RX0 96 (-2147483648), Cond.constant RX0 97 (2147483647), Cond.fieldLink RX0 19 "WeatherMast$Floats" "fractionBits" "I", Cond.methodLink RX0 39 yX0_amount, Cond.instanceMethod yX0_amount, Cond.selects RX0 yX0_amount yX0_amount, Cond.code yX0_amount cX0_amount 3 (some .long), Cond.fieldLink RX0 43 "WeatherMast$Floats" "signBit" "J", Cond.sameField "WeatherMast$Floats" "WeatherMast$Sort" "signBit" "J", Cond.constantLong RX0 46 (-1), Cond.methodLink RX0 57 yX0_exponent, Cond.instanceMethod yX0_exponent, Cond.selects RX0 yX0_exponent yX0_exponent, Cond.code yX0_exponent cX0_exponent 3 (some .int), Cond.fieldLink RX0 26 "WeatherMast$Floats" "leadingOne" "J", Cond.methodLink RX0 89 yX0_digits, Cond.instanceMethod yX0_digits, Cond.selects RX0 yX0_digits yX0_digits, Cond.code yX0_digits cX0_digits 3 (some .long), Cond.selects RX4 ⟨"WeatherMast$Sort", "asInt", "(J)I"⟩ yX4_asInt, Cond.instanceMethod yX4_asInt, Cond.initialized RX4]
def wsX5_whole_r3 : List Cond := [Cond.code yX4_asInt cX4_asInt 3 (some .int), Cond.constantLong RX4 3 (-2147483648), Cond.constantLong RX4 7 (2147483647), Cond.methodLink RX4 26 Lib.MathLoose.min_long.x, Cond.static Lib.MathLoose.min_long.x, Cond.initialized "java/lang/Math", Cond.code Lib.MathLoose.min_long.x Lib.MathLoose.min_long.code 4 (some .long), Cond.methodLink RX4 32 Lib.MathLoose.max_long.x, Cond.static Lib.MathLoose.max_long.x, Cond.code Lib.MathLoose.max_long.x Lib.MathLoose.max_long.code 4 (some .long)]
def wsX5_whole : List Cond := .code yX5_whole cX5_whole 3 (some .int) :: ((wsX5_whole_r1 ++ (wsX5_whole_r2 ++ wsX5_whole_r3)) ++ wsX10 ++ wsX50 ++ wsX00 ++ wsX40 ++ (vx_atS RX5 60 "java/lang/IndexOutOfBoundsException" ["java/lang/RuntimeException", "java/lang/Exception"]).filter goodWord ++ (vx_atS RX5 143 "java/util/NoSuchElementException" ["java/lang/RuntimeException", "java/lang/Exception"]).filter goodWord)
def wsX5_limits_r1 : List Cond := [Cond.classLink RX5 56 "java/lang/IndexOutOfBoundsException", Cond.initialized "java/lang/IndexOutOfBoundsException", Cond.classLink RX5 33 "java/lang/IllegalArgumentException", Cond.initialized "java/lang/IllegalArgumentException", Cond.fieldLink RX5 61 "WeatherMast$Instrument" "sort" "LWeatherMast$Sort;", Cond.fieldLink RX5 177 "WeatherMast$Instrument" "low" "J", Cond.fieldLink RX5 180 "WeatherMast$Instrument" "high" "J", Cond.methodLink RX5 52 yX5_findInstrument, Cond.instanceMethod yX5_findInstrument, Cond.selects RX5 yX5_findInstrument yX5_findInstrument, Cond.initialized RX5, Cond.code yX5_findInstrument cX5_findInstrument 2 (some (.object "WeatherMast$Instrument")), Cond.fieldLink RX5 25 "WeatherMast" "instruments" "[LWeatherMast$Instrument;", Cond.methodLink RX5 71 ⟨"WeatherMast$Sort", "heard", "(J)J"⟩, Cond.sameMethod "WeatherMast$Sort" "WeatherMast$Sort" "heard" "(J)J", Cond.selects RX0 ⟨"WeatherMast$Sort", "heard", "(J)J"⟩ yX2_heard, Cond.instanceMethod yX2_heard, Cond.initialized RX2, Cond.code yX2_heard cX2_heard 3 (some .long), Cond.fieldLink RX2 9 "WeatherMast$Sort" "narrow" "Z", Cond.selects RX4 ⟨"WeatherMast$Sort", "heard", "(J)J"⟩ yX2_heard, Cond.methodLink RX5 78 ⟨"WeatherMast$Sort", "isNumber", "(J)Z"⟩, Cond.sameMethod "WeatherMast$Sort" "WeatherMast$Sort" "isNumber" "(J)Z", Cond.selects RX0 ⟨"WeatherMast$Sort", "isNumber", "(J)Z"⟩ yX0_isNumber]
def wsX5_limits_r2 : List Cond := [Cond.instanceMethod yX0_isNumber, Cond.initialized RX0, Cond.code yX0_isNumber cX0_isNumber 3 (some .boolean), Cond.fieldLink RX0 36 "WeatherMast$Floats" "infinity" "J", Cond.methodLink RX0 39 yX0_amount, Cond.instanceMethod yX0_amount, Cond.selects RX0 yX0_amount yX0_amount, Cond.code yX0_amount cX0_amount 3 (some .long), Cond.fieldLink RX0 43 "WeatherMast$Floats" "signBit" "J", Cond.sameField "WeatherMast$Floats" "WeatherMast$Sort" "signBit" "J", Cond.constantLong RX0 46 (-1), Cond.selects RX4 ⟨"WeatherMast$Sort", "isNumber", "(J)Z"⟩ yX4_isNumber, Cond.instanceMethod yX4_isNumber, Cond.initialized RX4, Cond.code yX4_isNumber cX4_isNumber 3 (some .boolean), Cond.methodLink RX5 183 ⟨"WeatherMast$Sort", "isAbove", "(JJ)Z"⟩, Cond.sameMethod "WeatherMast$Sort" "WeatherMast$Sort" "isAbove" "(JJ)Z", Cond.selects RX0 ⟨"WeatherMast$Sort", "isAbove", "(JJ)Z"⟩ yX2_isAbove, Cond.instanceMethod yX2_isAbove, Cond.code yX2_isAbove cX2_isAbove 5 (some .boolean), Cond.methodLink RX2 33 ⟨"WeatherMast$Sort", "place", "(J)J"⟩, Cond.sameMethod "WeatherMast$Sort" "WeatherMast$Sort" "place" "(J)J", Cond.selects RX0 ⟨"WeatherMast$Sort", "place", "(J)J"⟩ yX0_place, Cond.instanceMethod yX0_place]
def wsX5_limits_r3 : List Cond := [Cond.code yX0_place cX0_place 3 (some .long), Cond.selects RX4 ⟨"WeatherMast$Sort", "place", "(J)J"⟩ yX4_place, Cond.instanceMethod yX4_place, Cond.code yX4_place cX4_place 3 (some .long), Cond.selects RX4 ⟨"WeatherMast$Sort", "isAbove", "(JJ)Z"⟩ yX2_isAbove]
def wsX5_limits : List Cond := .code yX5_limits cX5_limits 11 (some .boolean) :: ((wsX5_limits_r1 ++ (wsX5_limits_r2 ++ wsX5_limits_r3)) ++ wsX10 ++ wsX50 ++ wsX00 ++ wsX40 ++ (vx_atS RX5 60 "java/lang/IndexOutOfBoundsException" ["java/lang/RuntimeException", "java/lang/Exception"]).filter goodWord ++ (vx_atS RX5 37 "java/lang/IllegalArgumentException" ["java/lang/RuntimeException", "java/lang/Exception"]).filter goodWord)
def wsX5_widest_r1 : List Cond := [Cond.classLink RX5 33 "java/lang/IllegalArgumentException", Cond.initialized "java/lang/IllegalArgumentException", Cond.classLink RX5 139 "java/util/NoSuchElementException", Cond.initialized "java/util/NoSuchElementException", Cond.fieldLink RX5 25 "WeatherMast" "instruments" "[LWeatherMast$Instrument;", Cond.fieldLink RX5 104 "WeatherMast$Instrument" "sortNumber" "I", Cond.fieldLink RX5 162 "WeatherMast$Instrument" "swing" "J", Cond.methodLink RX5 29 yX5_findSort, Cond.instanceMethod yX5_findSort, Cond.selects RX5 yX5_findSort yX5_findSort, Cond.initialized RX5, Cond.code yX5_findSort cX5_findSort 2 (some (.object "WeatherMast$Sort")), Cond.fieldLink RX5 17 "WeatherMast" "sorts" "[LWeatherMast$Sort;", Cond.methodLink RX5 150 yX1_hasRead, Cond.instanceMethod yX1_hasRead, Cond.selects RX1 yX1_hasRead yX1_hasRead, Cond.initialized RX1, Cond.code yX1_hasRead cX1_hasRead 1 (some .boolean), Cond.fieldLink RX1 97 "WeatherMast$Instrument" "readings" "I", Cond.methodLink RX5 187 ⟨"WeatherMast$Sort", "greater", "(JJ)J"⟩, Cond.sameMethod "WeatherMast$Sort" "WeatherMast$Sort" "greater" "(JJ)J", Cond.selects RX0 ⟨"WeatherMast$Sort", "greater", "(JJ)J"⟩ yX2_greater, Cond.instanceMethod yX2_greater, Cond.initialized RX2]
def wsX5_widest_r2 : List Cond := [Cond.code yX2_greater cX2_greater 5 (some .long), Cond.methodLink RX2 29 ⟨"WeatherMast$Sort", "rank", "(J)J"⟩, Cond.sameMethod "WeatherMast$Sort" "WeatherMast$Sort" "rank" "(J)J", Cond.selects RX0 ⟨"WeatherMast$Sort", "rank", "(J)J"⟩ yX0_rank, Cond.instanceMethod yX0_rank, Cond.initialized RX0, Cond.code yX0_rank cX0_rank 3 (some .long), Cond.constantLong RX0 46 (-1), Cond.methodLink RX0 39 yX0_amount, Cond.instanceMethod yX0_amount, Cond.selects RX0 yX0_amount yX0_amount, Cond.code yX0_amount cX0_amount 3 (some .long), Cond.fieldLink RX0 43 "WeatherMast$Floats" "signBit" "J", Cond.sameField "WeatherMast$Floats" "WeatherMast$Sort" "signBit" "J", Cond.selects RX4 ⟨"WeatherMast$Sort", "rank", "(J)J"⟩ yX4_rank, Cond.instanceMethod yX4_rank, Cond.initialized RX4, Cond.code yX4_rank cX4_rank 3 (some .long), Cond.selects RX4 ⟨"WeatherMast$Sort", "greater", "(JJ)J"⟩ yX2_greater]
def wsX5_widest : List Cond := .code yX5_widest cX5_widest 10 (some .long) :: ((wsX5_widest_r1 ++ wsX5_widest_r2) ++ wsX50 ++ wsX10 ++ wsX00 ++ wsX40 ++ (vx_atS RX5 37 "java/lang/IllegalArgumentException" ["java/lang/RuntimeException", "java/lang/Exception"]).filter goodWord ++ (vx_atS RX5 143 "java/util/NoSuchElementException" ["java/lang/RuntimeException", "java/lang/Exception"]).filter goodWord)
def wsX5_forget : List Cond := .code yX5_forget cX5_forget 4 (some .int) :: ([.classLink RX5 56 "java/lang/IndexOutOfBoundsException", .initialized "java/lang/IndexOutOfBoundsException", .fieldLink RX5 193 "WeatherMast$Instrument" "readings" "I", .methodLink RX5 52 yX5_findInstrument, .instanceMethod yX5_findInstrument, .selects RX5 yX5_findInstrument yX5_findInstrument, .initialized RX5, .code yX5_findInstrument cX5_findInstrument 2 (some (.object "WeatherMast$Instrument")), .fieldLink RX5 25 "WeatherMast" "instruments" "[LWeatherMast$Instrument;", .methodLink RX5 196 yX1_loseReadings, .instanceMethod yX1_loseReadings, .selects RX1 yX1_loseReadings yX1_loseReadings, .initialized RX1, .code yX1_loseReadings cX1_loseReadings 1 none, .fieldLink RX1 97 "WeatherMast$Instrument" "readings" "I", .fieldLink RX1 78 "WeatherMast$Instrument" "latest" "J", .fieldLink RX1 65 "WeatherMast$Instrument" "least" "J", .fieldLink RX1 72 "WeatherMast$Instrument" "greatest" "J", .fieldLink RX1 84 "WeatherMast$Instrument" "swing" "J", .fieldLink RX1 87 "WeatherMast$Instrument" "sum" "J"] ++ wsX10 ++ wsX50 ++ (vx_atS RX5 60 "java/lang/IndexOutOfBoundsException" ["java/lang/RuntimeException", "java/lang/Exception"]).filter goodWord)
def wsX5_alarms : List Cond := .code yX5_alarms cX5_alarms 3 (some .int) :: ([.classLink RX5 56 "java/lang/IndexOutOfBoundsException", .initialized "java/lang/IndexOutOfBoundsException", .fieldLink RX5 130 "WeatherMast$Instrument" "alarmsGiven" "I", .methodLink RX5 52 yX5_findInstrument, .instanceMethod yX5_findInstrument, .selects RX5 yX5_findInstrument yX5_findInstrument, .initialized RX5, .code yX5_findInstrument cX5_findInstrument 2 (some (.object "WeatherMast$Instrument")), .fieldLink RX5 25 "WeatherMast" "instruments" "[LWeatherMast$Instrument;"] ++ wsX10 ++ wsX50 ++ (vx_atS RX5 60 "java/lang/IndexOutOfBoundsException" ["java/lang/RuntimeException", "java/lang/Exception"]).filter goodWord)
def wsX5_count : List Cond := .code yX5_count cX5_count 2 (some .int) :: ([.fieldLink RX5 40 "WeatherMast" "mounted" "I", .fieldLink RX5 118 "WeatherMast" "readingsEver" "I", .fieldLink RX5 133 "WeatherMast" "alarmsEver" "I", .fieldLink RX5 121 "WeatherMast" "stepsEver" "I"] ++ wsX50)
def wsX6_init : List Cond := .code yX6_init cX6_init 1 none :: ([.methodLink RX6 1 objectInit, .instanceMethod objectInit, .code objectInit ⟨#[0xb1]⟩ 1 none, .arrayClass .int, .fieldLink RX6 7 "WeatherMastModel" "sorts" "[I", .fieldLink RX6 13 "WeatherMastModel" "chains" "[I", .fieldLink RX6 16 "WeatherMastModel" "steps" "[I", .fieldLink RX6 19 "WeatherMastModel" "sources" "[I", .arrayClass .long, .fieldLink RX6 22 "WeatherMastModel" "told" "[J", .fieldLink RX6 26 "WeatherMastModel" "lows" "[J", .fieldLink RX6 29 "WeatherMastModel" "highs" "[J", .fieldLink RX6 32 "WeatherMastModel" "many" "[I", .fieldLink RX6 35 "WeatherMastModel" "kept" "[J", .fieldLink RX6 38 "WeatherMastModel" "leasts" "[J", .fieldLink RX6 41 "WeatherMastModel" "greatests" "[J", .fieldLink RX6 44 "WeatherMastModel" "swings" "[J", .fieldLink RX6 47 "WeatherMastModel" "sums" "[J", .fieldLink RX6 50 "WeatherMastModel" "alarms" "[I"] ++ wsX60)
def wsX6_thrown : List Cond := .code yX6_thrown cX6_thrown 1 (some .int) :: ([.fieldLink RX6 53 "WeatherMastModel" "thrown" "I"] ++ wsX60)
def wsX6_fail : List Cond := .code yX6_fail cX6_fail 2 (some .int) :: ([.fieldLink RX6 53 "WeatherMastModel" "thrown" "I"] ++ wsX60)
def wsX6_isInstrument : List Cond := .code yX6_isInstrument cX6_isInstrument 2 (some .boolean) :: ([.fieldLink RX6 57 "WeatherMastModel" "instruments" "I"] ++ wsX60)
def wsX6_isReal : List Cond := .code yX6_isReal cX6_isReal 1 (some .boolean) :: ([])
def wsX6_places : List Cond := .code yX6_places cX6_places 1 (some .int) :: ([])
def wsX6_signBit : List Cond := .code yX6_signBit cX6_signBit 1 (some .long) :: ([.constantLong RX6 60 (2147483648), .constantLong RX6 62 (-9223372036854775808)])
def wsX6_endless : List Cond := .code yX6_endless cX6_endless 1 (some .long) :: ([.constantLong RX6 64 (2139095040), .constantLong RX6 66 (9218868437227405312)])
def wsX6_one : List Cond := .code yX6_one cX6_one 1 (some .long) :: ([.constantLong RX6 68 (1065353216), .constantLong RX6 70 (4607182418800017408)])
def wsX6_cut : List Cond := .code yX6_cut cX6_cut 3 (some .long) :: ([])
def wsX6_form : List Cond := .code yX6_form cX6_form 3 (some .long) :: ([.constantLong RX6 72 (4294967295)])
def wsX6_amountBits : List Cond := .code yX6_amountBits cX6_amountBits 3 (some .long) :: ([.constantLong RX6 82 (-1), .methodLink RX6 74 yX6_form, .static yX6_form, .initialized RX6, .code yX6_form cX6_form 3 (some .long), .constantLong RX6 72 (4294967295), .methodLink RX6 78 yX6_signBit, .static yX6_signBit, .code yX6_signBit cX6_signBit 1 (some .long), .constantLong RX6 60 (2147483648), .constantLong RX6 62 (-9223372036854775808)])
def wsX6_isMinus : List Cond := .code yX6_isMinus cX6_isMinus 3 (some .boolean) :: ([])
def wsX6_isNone_r1 : List Cond := [Cond.methodLink RX6 84 yX6_isReal, Cond.static yX6_isReal, Cond.initialized RX6, Cond.code yX6_isReal cX6_isReal 1 (some .boolean), Cond.methodLink RX6 88 yX6_cut, Cond.static yX6_cut, Cond.code yX6_cut cX6_cut 3 (some .long), Cond.methodLink RX6 91 yX6_amountBits, Cond.static yX6_amountBits, Cond.code yX6_amountBits cX6_amountBits 3 (some .long), Cond.constantLong RX6 82 (-1), Cond.methodLink RX6 74 yX6_form, Cond.static yX6_form, Cond.code yX6_form cX6_form 3 (some .long), Cond.constantLong RX6 72 (4294967295), Cond.methodLink RX6 78 yX6_signBit, Cond.static yX6_signBit, Cond.code yX6_signBit cX6_signBit 1 (some .long), Cond.constantLong RX6 60 (2147483648), Cond.constantLong RX6 62 (-9223372036854775808), Cond.methodLink RX6 94 yX6_endless, Cond.static yX6_endless, Cond.code yX6_endless cX6_endless 1 (some .long), Cond.constantLong RX6 64 (2139095040)]
def wsX6_isNone_r2 : List Cond := [Cond.constantLong RX6 66 (9218868437227405312)]
def wsX6_isNone : List Cond := .code yX6_isNone cX6_isNone 3 (some .boolean) :: ((wsX6_isNone_r1 ++ wsX6_isNone_r2))
def wsX6_rank : List Cond := .code yX6_rank cX6_rank 5 (some .long) :: ([.constantLong RX6 82 (-1), .methodLink RX6 84 yX6_isReal, .static yX6_isReal, .initialized RX6, .code yX6_isReal cX6_isReal 1 (some .boolean), .methodLink RX6 91 yX6_amountBits, .static yX6_amountBits, .code yX6_amountBits cX6_amountBits 3 (some .long), .methodLink RX6 74 yX6_form, .static yX6_form, .code yX6_form cX6_form 3 (some .long), .constantLong RX6 72 (4294967295), .methodLink RX6 78 yX6_signBit, .static yX6_signBit, .code yX6_signBit cX6_signBit 1 (some .long), .constantLong RX6 60 (2147483648), .constantLong RX6 62 (-9223372036854775808), .methodLink RX6 97 yX6_isMinus, .static yX6_isMinus, .code yX6_isMinus cX6_isMinus 3 (some .boolean)])
def wsX6_height : List Cond := .code yX6_height cX6_height 3 (some .long) :: ([.methodLink RX6 84 yX6_isReal, .static yX6_isReal, .initialized RX6, .code yX6_isReal cX6_isReal 1 (some .boolean), .methodLink RX6 91 yX6_amountBits, .static yX6_amountBits, .code yX6_amountBits cX6_amountBits 3 (some .long), .constantLong RX6 82 (-1), .methodLink RX6 74 yX6_form, .static yX6_form, .code yX6_form cX6_form 3 (some .long), .constantLong RX6 72 (4294967295), .methodLink RX6 78 yX6_signBit, .static yX6_signBit, .code yX6_signBit cX6_signBit 1 (some .long), .constantLong RX6 60 (2147483648), .constantLong RX6 62 (-9223372036854775808), .methodLink RX6 101 yX6_rank, .static yX6_rank, .code yX6_rank cX6_rank 5 (some .long), .methodLink RX6 97 yX6_isMinus, .static yX6_isMinus, .code yX6_isMinus cX6_isMinus 3 (some .boolean)])
def wsX6_greater : List Cond := .code yX6_greater cX6_greater 5 (some .long) :: ([.methodLink RX6 101 yX6_rank, .static yX6_rank, .initialized RX6, .code yX6_rank cX6_rank 5 (some .long), .constantLong RX6 82 (-1), .methodLink RX6 84 yX6_isReal, .static yX6_isReal, .code yX6_isReal cX6_isReal 1 (some .boolean), .methodLink RX6 91 yX6_amountBits, .static yX6_amountBits, .code yX6_amountBits cX6_amountBits 3 (some .long), .methodLink RX6 74 yX6_form, .static yX6_form, .code yX6_form cX6_form 3 (some .long), .constantLong RX6 72 (4294967295), .methodLink RX6 78 yX6_signBit, .static yX6_signBit, .code yX6_signBit cX6_signBit 1 (some .long), .constantLong RX6 60 (2147483648), .constantLong RX6 62 (-9223372036854775808), .methodLink RX6 97 yX6_isMinus, .static yX6_isMinus, .code yX6_isMinus cX6_isMinus 3 (some .boolean)])
def wsX6_lesser : List Cond := .code yX6_lesser cX6_lesser 5 (some .long) :: ([.methodLink RX6 101 yX6_rank, .static yX6_rank, .initialized RX6, .code yX6_rank cX6_rank 5 (some .long), .constantLong RX6 82 (-1), .methodLink RX6 84 yX6_isReal, .static yX6_isReal, .code yX6_isReal cX6_isReal 1 (some .boolean), .methodLink RX6 91 yX6_amountBits, .static yX6_amountBits, .code yX6_amountBits cX6_amountBits 3 (some .long), .methodLink RX6 74 yX6_form, .static yX6_form, .code yX6_form cX6_form 3 (some .long), .constantLong RX6 72 (4294967295), .methodLink RX6 78 yX6_signBit, .static yX6_signBit, .code yX6_signBit cX6_signBit 1 (some .long), .constantLong RX6 60 (2147483648), .constantLong RX6 62 (-9223372036854775808), .methodLink RX6 97 yX6_isMinus, .static yX6_isMinus, .code yX6_isMinus cX6_isMinus 3 (some .boolean)])
def wsX6_isAbove_r1 : List Cond := [Cond.methodLink RX6 104 yX6_height, Cond.static yX6_height, Cond.initialized RX6, Cond.code yX6_height cX6_height 3 (some .long), Cond.methodLink RX6 84 yX6_isReal, Cond.static yX6_isReal, Cond.code yX6_isReal cX6_isReal 1 (some .boolean), Cond.methodLink RX6 91 yX6_amountBits, Cond.static yX6_amountBits, Cond.code yX6_amountBits cX6_amountBits 3 (some .long), Cond.constantLong RX6 82 (-1), Cond.methodLink RX6 74 yX6_form, Cond.static yX6_form, Cond.code yX6_form cX6_form 3 (some .long), Cond.constantLong RX6 72 (4294967295), Cond.methodLink RX6 78 yX6_signBit, Cond.static yX6_signBit, Cond.code yX6_signBit cX6_signBit 1 (some .long), Cond.constantLong RX6 60 (2147483648), Cond.constantLong RX6 62 (-9223372036854775808), Cond.methodLink RX6 101 yX6_rank, Cond.static yX6_rank, Cond.code yX6_rank cX6_rank 5 (some .long), Cond.methodLink RX6 97 yX6_isMinus]
def wsX6_isAbove_r2 : List Cond := [Cond.static yX6_isMinus, Cond.code yX6_isMinus cX6_isMinus 3 (some .boolean)]
def wsX6_isAbove : List Cond := .code yX6_isAbove cX6_isAbove 5 (some .boolean) :: ((wsX6_isAbove_r1 ++ wsX6_isAbove_r2))
def wsX6_amount : List Cond := .code yX6_amount cX6_amount 3 (some .long) :: ([.methodLink RX6 84 yX6_isReal, .static yX6_isReal, .initialized RX6, .code yX6_isReal cX6_isReal 1 (some .boolean), .methodLink RX6 91 yX6_amountBits, .static yX6_amountBits, .code yX6_amountBits cX6_amountBits 3 (some .long), .constantLong RX6 82 (-1), .methodLink RX6 74 yX6_form, .static yX6_form, .code yX6_form cX6_form 3 (some .long), .constantLong RX6 72 (4294967295), .methodLink RX6 78 yX6_signBit, .static yX6_signBit, .code yX6_signBit cX6_signBit 1 (some .long), .constantLong RX6 60 (2147483648), .constantLong RX6 62 (-9223372036854775808), .methodLink RX6 88 yX6_cut, .static yX6_cut, .code yX6_cut cX6_cut 3 (some .long)])
def wsX6_signed : List Cond := .code yX6_signed cX6_signed 4 (some .long) :: ([.methodLink RX6 78 yX6_signBit, .static yX6_signBit, .initialized RX6, .code yX6_signBit cX6_signBit 1 (some .long), .constantLong RX6 60 (2147483648), .constantLong RX6 62 (-9223372036854775808), .methodLink RX6 88 yX6_cut, .static yX6_cut, .code yX6_cut cX6_cut 3 (some .long)])
def wsX6_toWhole_r1 : List Cond := [Cond.constantLong RX6 118 (2), Cond.methodLink RX6 97 yX6_isMinus, Cond.static yX6_isMinus, Cond.initialized RX6, Cond.code yX6_isMinus cX6_isMinus 3 (some .boolean), Cond.methodLink RX6 91 yX6_amountBits, Cond.static yX6_amountBits, Cond.code yX6_amountBits cX6_amountBits 3 (some .long), Cond.constantLong RX6 82 (-1), Cond.methodLink RX6 74 yX6_form, Cond.static yX6_form, Cond.code yX6_form cX6_form 3 (some .long), Cond.constantLong RX6 72 (4294967295), Cond.methodLink RX6 78 yX6_signBit, Cond.static yX6_signBit, Cond.code yX6_signBit cX6_signBit 1 (some .long), Cond.constantLong RX6 60 (2147483648), Cond.constantLong RX6 62 (-9223372036854775808), Cond.methodLink RX6 107 yX6_places, Cond.static yX6_places, Cond.code yX6_places cX6_places 1 (some .int), Cond.methodLink RX6 111 yX6_one, Cond.static yX6_one, Cond.code yX6_one cX6_one 1 (some .long)]
def wsX6_toWhole_r2 : List Cond := [Cond.constantLong RX6 68 (1065353216), Cond.constantLong RX6 70 (4607182418800017408), Cond.methodLink RX6 114 yX6_signed, Cond.static yX6_signed, Cond.code yX6_signed cX6_signed 4 (some .long), Cond.methodLink RX6 88 yX6_cut, Cond.static yX6_cut, Cond.code yX6_cut cX6_cut 3 (some .long)]
def wsX6_toWhole : List Cond := .code yX6_toWhole cX6_toWhole 16 (some .long) :: ((wsX6_toWhole_r1 ++ wsX6_toWhole_r2))
def wsX6_changed_r1 : List Cond := [Cond.methodLink RX6 120 yX6_amount, Cond.static yX6_amount, Cond.initialized RX6, Cond.code yX6_amount cX6_amount 3 (some .long), Cond.methodLink RX6 84 yX6_isReal, Cond.static yX6_isReal, Cond.code yX6_isReal cX6_isReal 1 (some .boolean), Cond.methodLink RX6 91 yX6_amountBits, Cond.static yX6_amountBits, Cond.code yX6_amountBits cX6_amountBits 3 (some .long), Cond.constantLong RX6 82 (-1), Cond.methodLink RX6 74 yX6_form, Cond.static yX6_form, Cond.code yX6_form cX6_form 3 (some .long), Cond.constantLong RX6 72 (4294967295), Cond.methodLink RX6 78 yX6_signBit, Cond.static yX6_signBit, Cond.code yX6_signBit cX6_signBit 1 (some .long), Cond.constantLong RX6 60 (2147483648), Cond.constantLong RX6 62 (-9223372036854775808), Cond.methodLink RX6 88 yX6_cut, Cond.static yX6_cut, Cond.code yX6_cut cX6_cut 3 (some .long), Cond.methodLink RX6 123 yX6_greater]
def wsX6_changed_r2 : List Cond := [Cond.static yX6_greater, Cond.code yX6_greater cX6_greater 5 (some .long), Cond.methodLink RX6 101 yX6_rank, Cond.static yX6_rank, Cond.code yX6_rank cX6_rank 5 (some .long), Cond.methodLink RX6 97 yX6_isMinus, Cond.static yX6_isMinus, Cond.code yX6_isMinus cX6_isMinus 3 (some .boolean), Cond.methodLink RX6 127 yX6_lesser, Cond.static yX6_lesser, Cond.code yX6_lesser cX6_lesser 5 (some .long), Cond.methodLink RX6 111 yX6_one, Cond.static yX6_one, Cond.code yX6_one cX6_one 1 (some .long), Cond.constantLong RX6 68 (1065353216), Cond.constantLong RX6 70 (4607182418800017408), Cond.methodLink RX6 114 yX6_signed, Cond.static yX6_signed, Cond.code yX6_signed cX6_signed 4 (some .long), Cond.methodLink RX6 130 yX6_toWhole, Cond.static yX6_toWhole, Cond.code yX6_toWhole cX6_toWhole 16 (some .long), Cond.constantLong RX6 118 (2), Cond.methodLink RX6 107 yX6_places]
def wsX6_changed_r3 : List Cond := [Cond.static yX6_places, Cond.code yX6_places cX6_places 1 (some .int)]
def wsX6_changed : List Cond := .code yX6_changed cX6_changed 6 (some .long) :: ((wsX6_changed_r1 ++ (wsX6_changed_r2 ++ wsX6_changed_r3)))
def wsX6_takes : List Cond := .code yX6_takes cX6_takes 1 (some .boolean) :: ([])
def wsX6_isStep : List Cond := .code yX6_isStep cX6_isStep 2 (some .boolean) :: ([.methodLink RX6 84 yX6_isReal, .static yX6_isReal, .initialized RX6, .code yX6_isReal cX6_isReal 1 (some .boolean)])
def wsX6_single : List Cond := .code yX6_single cX6_single 2 (some .float) :: ([.methodLink RX6 134 ⟨"java/lang/Float", "intBitsToFloat", "(I)F"⟩, .native ⟨"java/lang/Float", "intBitsToFloat", "(I)F"⟩, .static ⟨"java/lang/Float", "intBitsToFloat", "(I)F"⟩, .initialized "java/lang/Float"])
def wsX6_real : List Cond := .code yX6_real cX6_real 2 (some .double) :: ([.methodLink RX6 140 ⟨"java/lang/Double", "longBitsToDouble", "(J)D"⟩, .native ⟨"java/lang/Double", "longBitsToDouble", "(J)D"⟩, .static ⟨"java/lang/Double", "longBitsToDouble", "(J)D"⟩, .initialized "java/lang/Double"])
def wsJxf58ca_isNaN_12338 : List Cond := .code yJxf58ca_isNaN_12338 cJxf58ca_isNaN_12338 1 (some .boolean) :: ([])
def wsJxf58ca_floatToIntBits_5c35a : List Cond := .code yJxf58ca_floatToIntBits_5c35a cJxf58ca_floatToIntBits_5c35a 1 (some .int) :: ([.methodLink RJxf58ca 74 ⟨"java/lang/Float", "floatToRawIntBits", "(F)I"⟩, .native ⟨"java/lang/Float", "floatToRawIntBits", "(F)I"⟩, .static ⟨"java/lang/Float", "floatToRawIntBits", "(F)I"⟩, .initialized "java/lang/Float", .constant RJxf58ca 77 (2143289344), .methodLink RJxf58ca 59 yJxf58ca_isNaN_12338, .static yJxf58ca_isNaN_12338, .initialized RJxf58ca, .code yJxf58ca_isNaN_12338 cJxf58ca_isNaN_12338 1 (some .boolean)])
def wsJxe99ae_isNaN_b9ae7 : List Cond := .code yJxe99ae_isNaN_b9ae7 cJxe99ae_isNaN_b9ae7 2 (some .boolean) :: ([])
def wsJxe99ae_doubleToLongBits_ccdee : List Cond := .code yJxe99ae_doubleToLongBits_ccdee cJxe99ae_doubleToLongBits_ccdee 2 (some .long) :: ([.methodLink RJxe99ae 134 ⟨"java/lang/Double", "doubleToRawLongBits", "(D)J"⟩, .native ⟨"java/lang/Double", "doubleToRawLongBits", "(D)J"⟩, .static ⟨"java/lang/Double", "doubleToRawLongBits", "(D)J"⟩, .initialized "java/lang/Double", .constantLong RJxe99ae 137 (9221120237041090560), .methodLink RJxe99ae 122 yJxe99ae_isNaN_b9ae7, .static yJxe99ae_isNaN_b9ae7, .initialized RJxe99ae, .code yJxe99ae_isNaN_b9ae7 cJxe99ae_isNaN_b9ae7 2 (some .boolean)])
def wsX6_swing_r1 : List Cond := [Cond.methodLink RX6 104 yX6_height, Cond.static yX6_height, Cond.initialized RX6, Cond.code yX6_height cX6_height 3 (some .long), Cond.methodLink RX6 84 yX6_isReal, Cond.static yX6_isReal, Cond.code yX6_isReal cX6_isReal 1 (some .boolean), Cond.methodLink RX6 91 yX6_amountBits, Cond.static yX6_amountBits, Cond.code yX6_amountBits cX6_amountBits 3 (some .long), Cond.constantLong RX6 82 (-1), Cond.methodLink RX6 74 yX6_form, Cond.static yX6_form, Cond.code yX6_form cX6_form 3 (some .long), Cond.constantLong RX6 72 (4294967295), Cond.methodLink RX6 78 yX6_signBit, Cond.static yX6_signBit, Cond.code yX6_signBit cX6_signBit 1 (some .long), Cond.constantLong RX6 60 (2147483648), Cond.constantLong RX6 62 (-9223372036854775808), Cond.methodLink RX6 101 yX6_rank, Cond.static yX6_rank, Cond.code yX6_rank cX6_rank 5 (some .long), Cond.methodLink RX6 97 yX6_isMinus]
def wsX6_swing_r2 : List Cond := [Cond.static yX6_isMinus, Cond.code yX6_isMinus cX6_isMinus 3 (some .boolean), Cond.methodLink RX6 146 yX6_single, Cond.static yX6_single, Cond.code yX6_single cX6_single 2 (some .float), Cond.methodLink RX6 134 ⟨"java/lang/Float", "intBitsToFloat", "(I)F"⟩, Cond.native ⟨"java/lang/Float", "intBitsToFloat", "(I)F"⟩, Cond.static ⟨"java/lang/Float", "intBitsToFloat", "(I)F"⟩, Cond.initialized "java/lang/Float", Cond.methodLink RX6 150 yJxf58ca_floatToIntBits_5c35a, Cond.static yJxf58ca_floatToIntBits_5c35a, Cond.initialized RJxf58ca, Cond.code yJxf58ca_floatToIntBits_5c35a cJxf58ca_floatToIntBits_5c35a 1 (some .int), Cond.methodLink RJxf58ca 74 ⟨"java/lang/Float", "floatToRawIntBits", "(F)I"⟩, Cond.native ⟨"java/lang/Float", "floatToRawIntBits", "(F)I"⟩, Cond.static ⟨"java/lang/Float", "floatToRawIntBits", "(F)I"⟩, Cond.constant RJxf58ca 77 (2143289344), Cond.methodLink RJxf58ca 59 yJxf58ca_isNaN_12338, Cond.static yJxf58ca_isNaN_12338, Cond.code yJxf58ca_isNaN_12338 cJxf58ca_isNaN_12338 1 (some .boolean), Cond.methodLink RX6 120 yX6_amount, Cond.static yX6_amount, Cond.code yX6_amount cX6_amount 3 (some .long), Cond.methodLink RX6 88 yX6_cut]
def wsX6_swing_r3 : List Cond := [Cond.static yX6_cut, Cond.code yX6_cut cX6_cut 3 (some .long), Cond.methodLink RX6 154 yX6_real, Cond.static yX6_real, Cond.code yX6_real cX6_real 2 (some .double), Cond.methodLink RX6 140 ⟨"java/lang/Double", "longBitsToDouble", "(J)D"⟩, Cond.native ⟨"java/lang/Double", "longBitsToDouble", "(J)D"⟩, Cond.static ⟨"java/lang/Double", "longBitsToDouble", "(J)D"⟩, Cond.initialized "java/lang/Double", Cond.methodLink RX6 157 yJxe99ae_doubleToLongBits_ccdee, Cond.static yJxe99ae_doubleToLongBits_ccdee, Cond.initialized RJxe99ae, Cond.code yJxe99ae_doubleToLongBits_ccdee cJxe99ae_doubleToLongBits_ccdee 2 (some .long), Cond.methodLink RJxe99ae 134 ⟨"java/lang/Double", "doubleToRawLongBits", "(D)J"⟩, Cond.native ⟨"java/lang/Double", "doubleToRawLongBits", "(D)J"⟩, Cond.static ⟨"java/lang/Double", "doubleToRawLongBits", "(D)J"⟩, Cond.constantLong RJxe99ae 137 (9221120237041090560), Cond.methodLink RJxe99ae 122 yJxe99ae_isNaN_b9ae7, Cond.static yJxe99ae_isNaN_b9ae7, Cond.code yJxe99ae_isNaN_b9ae7 cJxe99ae_isNaN_b9ae7 2 (some .boolean)]
def wsX6_swing : List Cond := .code yX6_swing cX6_swing 5 (some .long) :: ((wsX6_swing_r1 ++ (wsX6_swing_r2 ++ wsX6_swing_r3)))
def wsX6_sum_r1 : List Cond := [Cond.methodLink RX6 146 yX6_single, Cond.static yX6_single, Cond.initialized RX6, Cond.code yX6_single cX6_single 2 (some .float), Cond.methodLink RX6 134 ⟨"java/lang/Float", "intBitsToFloat", "(I)F"⟩, Cond.native ⟨"java/lang/Float", "intBitsToFloat", "(I)F"⟩, Cond.static ⟨"java/lang/Float", "intBitsToFloat", "(I)F"⟩, Cond.initialized "java/lang/Float", Cond.methodLink RX6 150 yJxf58ca_floatToIntBits_5c35a, Cond.static yJxf58ca_floatToIntBits_5c35a, Cond.initialized RJxf58ca, Cond.code yJxf58ca_floatToIntBits_5c35a cJxf58ca_floatToIntBits_5c35a 1 (some .int), Cond.methodLink RJxf58ca 74 ⟨"java/lang/Float", "floatToRawIntBits", "(F)I"⟩, Cond.native ⟨"java/lang/Float", "floatToRawIntBits", "(F)I"⟩, Cond.static ⟨"java/lang/Float", "floatToRawIntBits", "(F)I"⟩, Cond.constant RJxf58ca 77 (2143289344), Cond.methodLink RJxf58ca 59 yJxf58ca_isNaN_12338, Cond.static yJxf58ca_isNaN_12338, Cond.code yJxf58ca_isNaN_12338 cJxf58ca_isNaN_12338 1 (some .boolean), Cond.methodLink RX6 154 yX6_real, Cond.static yX6_real, Cond.code yX6_real cX6_real 2 (some .double), Cond.methodLink RX6 140 ⟨"java/lang/Double", "longBitsToDouble", "(J)D"⟩, Cond.native ⟨"java/lang/Double", "longBitsToDouble", "(J)D"⟩]
def wsX6_sum_r2 : List Cond := [Cond.static ⟨"java/lang/Double", "longBitsToDouble", "(J)D"⟩, Cond.initialized "java/lang/Double", Cond.methodLink RX6 157 yJxe99ae_doubleToLongBits_ccdee, Cond.static yJxe99ae_doubleToLongBits_ccdee, Cond.initialized RJxe99ae, Cond.code yJxe99ae_doubleToLongBits_ccdee cJxe99ae_doubleToLongBits_ccdee 2 (some .long), Cond.methodLink RJxe99ae 134 ⟨"java/lang/Double", "doubleToRawLongBits", "(D)J"⟩, Cond.native ⟨"java/lang/Double", "doubleToRawLongBits", "(D)J"⟩, Cond.static ⟨"java/lang/Double", "doubleToRawLongBits", "(D)J"⟩, Cond.constantLong RJxe99ae 137 (9221120237041090560), Cond.methodLink RJxe99ae 122 yJxe99ae_isNaN_b9ae7, Cond.static yJxe99ae_isNaN_b9ae7, Cond.code yJxe99ae_isNaN_b9ae7 cJxe99ae_isNaN_b9ae7 2 (some .boolean), Cond.methodLink RX6 88 yX6_cut, Cond.static yX6_cut, Cond.code yX6_cut cX6_cut 3 (some .long)]
def wsX6_sum : List Cond := .code yX6_sum cX6_sum 5 (some .long) :: ((wsX6_sum_r1 ++ wsX6_sum_r2))
def wsX6_mount_r1 : List Cond := [Cond.fieldLink RX6 53 "WeatherMastModel" "thrown" "I", Cond.fieldLink RX6 57 "WeatherMastModel" "instruments" "I", Cond.fieldLink RX6 7 "WeatherMastModel" "sorts" "[I", Cond.fieldLink RX6 26 "WeatherMastModel" "lows" "[J", Cond.constantLong RX6 164 (-2147483648), Cond.constantLong RX6 62 (-9223372036854775808), Cond.fieldLink RX6 29 "WeatherMastModel" "highs" "[J", Cond.constantLong RX6 166 (2147483647), Cond.constantLong RX6 168 (9223372036854775807), Cond.methodLink RX6 161 yX6_fail, Cond.instanceMethod yX6_fail, Cond.selects RX6 yX6_fail yX6_fail, Cond.initialized RX6, Cond.code yX6_fail cX6_fail 2 (some .int), Cond.methodLink RX6 94 yX6_endless, Cond.static yX6_endless, Cond.code yX6_endless cX6_endless 1 (some .long), Cond.constantLong RX6 64 (2139095040), Cond.constantLong RX6 66 (9218868437227405312), Cond.methodLink RX6 114 yX6_signed, Cond.static yX6_signed, Cond.code yX6_signed cX6_signed 4 (some .long), Cond.methodLink RX6 78 yX6_signBit, Cond.static yX6_signBit]
def wsX6_mount_r2 : List Cond := [Cond.code yX6_signBit cX6_signBit 1 (some .long), Cond.constantLong RX6 60 (2147483648), Cond.methodLink RX6 88 yX6_cut, Cond.static yX6_cut, Cond.code yX6_cut cX6_cut 3 (some .long)]
def wsX6_mount : List Cond := .code yX6_mount cX6_mount 3 (some .int) :: ((wsX6_mount_r1 ++ wsX6_mount_r2) ++ wsX60)
def wsX6_link : List Cond := .code yX6_link cX6_link 7 (some .int) :: ([.fieldLink RX6 13 "WeatherMastModel" "chains" "[I", .fieldLink RX6 16 "WeatherMastModel" "steps" "[I", .fieldLink RX6 22 "WeatherMastModel" "told" "[J", .fieldLink RX6 19 "WeatherMastModel" "sources" "[I", .methodLink RX6 161 yX6_fail, .instanceMethod yX6_fail, .selects RX6 yX6_fail yX6_fail, .initialized RX6, .code yX6_fail cX6_fail 2 (some .int), .fieldLink RX6 53 "WeatherMastModel" "thrown" "I"] ++ wsX60)
def wsX6_step_r1 : List Cond := [Cond.fieldLink RX6 53 "WeatherMastModel" "thrown" "I", Cond.fieldLink RX6 7 "WeatherMastModel" "sorts" "[I", Cond.methodLink RX6 170 yX6_isInstrument, Cond.instanceMethod yX6_isInstrument, Cond.selects RX6 yX6_isInstrument yX6_isInstrument, Cond.initialized RX6, Cond.code yX6_isInstrument cX6_isInstrument 2 (some .boolean), Cond.fieldLink RX6 57 "WeatherMastModel" "instruments" "I", Cond.methodLink RX6 161 yX6_fail, Cond.instanceMethod yX6_fail, Cond.selects RX6 yX6_fail yX6_fail, Cond.code yX6_fail cX6_fail 2 (some .int), Cond.methodLink RX6 173 yX6_isStep, Cond.static yX6_isStep, Cond.code yX6_isStep cX6_isStep 2 (some .boolean), Cond.methodLink RX6 84 yX6_isReal, Cond.static yX6_isReal, Cond.code yX6_isReal cX6_isReal 1 (some .boolean), Cond.methodLink RX6 177 yX6_takes, Cond.static yX6_takes, Cond.code yX6_takes cX6_takes 1 (some .boolean), Cond.methodLink RX6 180 yX6_isNone, Cond.static yX6_isNone, Cond.code yX6_isNone cX6_isNone 3 (some .boolean)]
def wsX6_step_r2 : List Cond := [Cond.methodLink RX6 88 yX6_cut, Cond.static yX6_cut, Cond.code yX6_cut cX6_cut 3 (some .long), Cond.methodLink RX6 91 yX6_amountBits, Cond.static yX6_amountBits, Cond.code yX6_amountBits cX6_amountBits 3 (some .long), Cond.constantLong RX6 82 (-1), Cond.methodLink RX6 74 yX6_form, Cond.static yX6_form, Cond.code yX6_form cX6_form 3 (some .long), Cond.constantLong RX6 72 (4294967295), Cond.methodLink RX6 78 yX6_signBit, Cond.static yX6_signBit, Cond.code yX6_signBit cX6_signBit 1 (some .long), Cond.constantLong RX6 60 (2147483648), Cond.constantLong RX6 62 (-9223372036854775808), Cond.methodLink RX6 94 yX6_endless, Cond.static yX6_endless, Cond.code yX6_endless cX6_endless 1 (some .long), Cond.constantLong RX6 64 (2139095040), Cond.constantLong RX6 66 (9218868437227405312), Cond.methodLink RX6 183 yX6_link, Cond.instanceMethod yX6_link, Cond.selects RX6 yX6_link yX6_link]
def wsX6_step_r3 : List Cond := [Cond.code yX6_link cX6_link 7 (some .int), Cond.fieldLink RX6 13 "WeatherMastModel" "chains" "[I", Cond.fieldLink RX6 16 "WeatherMastModel" "steps" "[I", Cond.fieldLink RX6 22 "WeatherMastModel" "told" "[J", Cond.fieldLink RX6 19 "WeatherMastModel" "sources" "[I"]
def wsX6_step : List Cond := .code yX6_step cX6_step 6 (some .int) :: ((wsX6_step_r1 ++ (wsX6_step_r2 ++ wsX6_step_r3)) ++ wsX60)
def wsX6_follow_r1 : List Cond := [Cond.fieldLink RX6 53 "WeatherMastModel" "thrown" "I", Cond.fieldLink RX6 7 "WeatherMastModel" "sorts" "[I", Cond.methodLink RX6 170 yX6_isInstrument, Cond.instanceMethod yX6_isInstrument, Cond.selects RX6 yX6_isInstrument yX6_isInstrument, Cond.initialized RX6, Cond.code yX6_isInstrument cX6_isInstrument 2 (some .boolean), Cond.fieldLink RX6 57 "WeatherMastModel" "instruments" "I", Cond.methodLink RX6 161 yX6_fail, Cond.instanceMethod yX6_fail, Cond.selects RX6 yX6_fail yX6_fail, Cond.code yX6_fail cX6_fail 2 (some .int), Cond.methodLink RX6 173 yX6_isStep, Cond.static yX6_isStep, Cond.code yX6_isStep cX6_isStep 2 (some .boolean), Cond.methodLink RX6 84 yX6_isReal, Cond.static yX6_isReal, Cond.code yX6_isReal cX6_isReal 1 (some .boolean), Cond.methodLink RX6 177 yX6_takes, Cond.static yX6_takes, Cond.code yX6_takes cX6_takes 1 (some .boolean), Cond.methodLink RX6 183 yX6_link, Cond.instanceMethod yX6_link, Cond.selects RX6 yX6_link yX6_link]
def wsX6_follow_r2 : List Cond := [Cond.code yX6_link cX6_link 7 (some .int), Cond.fieldLink RX6 13 "WeatherMastModel" "chains" "[I", Cond.fieldLink RX6 16 "WeatherMastModel" "steps" "[I", Cond.fieldLink RX6 22 "WeatherMastModel" "told" "[J", Cond.fieldLink RX6 19 "WeatherMastModel" "sources" "[I"]
def wsX6_follow : List Cond := .code yX6_follow cX6_follow 4 (some .int) :: ((wsX6_follow_r1 ++ wsX6_follow_r2) ++ wsX60)
def wsX6_limits_r1 : List Cond := [Cond.fieldLink RX6 53 "WeatherMastModel" "thrown" "I", Cond.fieldLink RX6 7 "WeatherMastModel" "sorts" "[I", Cond.fieldLink RX6 26 "WeatherMastModel" "lows" "[J", Cond.fieldLink RX6 29 "WeatherMastModel" "highs" "[J", Cond.methodLink RX6 170 yX6_isInstrument, Cond.instanceMethod yX6_isInstrument, Cond.selects RX6 yX6_isInstrument yX6_isInstrument, Cond.initialized RX6, Cond.code yX6_isInstrument cX6_isInstrument 2 (some .boolean), Cond.fieldLink RX6 57 "WeatherMastModel" "instruments" "I", Cond.methodLink RX6 161 yX6_fail, Cond.instanceMethod yX6_fail, Cond.selects RX6 yX6_fail yX6_fail, Cond.code yX6_fail cX6_fail 2 (some .int), Cond.methodLink RX6 180 yX6_isNone, Cond.static yX6_isNone, Cond.code yX6_isNone cX6_isNone 3 (some .boolean), Cond.methodLink RX6 84 yX6_isReal, Cond.static yX6_isReal, Cond.code yX6_isReal cX6_isReal 1 (some .boolean), Cond.methodLink RX6 88 yX6_cut, Cond.static yX6_cut, Cond.code yX6_cut cX6_cut 3 (some .long), Cond.methodLink RX6 91 yX6_amountBits]
def wsX6_limits_r2 : List Cond := [Cond.static yX6_amountBits, Cond.code yX6_amountBits cX6_amountBits 3 (some .long), Cond.constantLong RX6 82 (-1), Cond.methodLink RX6 74 yX6_form, Cond.static yX6_form, Cond.code yX6_form cX6_form 3 (some .long), Cond.constantLong RX6 72 (4294967295), Cond.methodLink RX6 78 yX6_signBit, Cond.static yX6_signBit, Cond.code yX6_signBit cX6_signBit 1 (some .long), Cond.constantLong RX6 60 (2147483648), Cond.constantLong RX6 62 (-9223372036854775808), Cond.methodLink RX6 94 yX6_endless, Cond.static yX6_endless, Cond.code yX6_endless cX6_endless 1 (some .long), Cond.constantLong RX6 64 (2139095040), Cond.constantLong RX6 66 (9218868437227405312), Cond.methodLink RX6 187 yX6_isAbove, Cond.static yX6_isAbove, Cond.code yX6_isAbove cX6_isAbove 5 (some .boolean), Cond.methodLink RX6 104 yX6_height, Cond.static yX6_height, Cond.code yX6_height cX6_height 3 (some .long), Cond.methodLink RX6 101 yX6_rank]
def wsX6_limits_r3 : List Cond := [Cond.static yX6_rank, Cond.code yX6_rank cX6_rank 5 (some .long), Cond.methodLink RX6 97 yX6_isMinus, Cond.static yX6_isMinus, Cond.code yX6_isMinus cX6_isMinus 3 (some .boolean)]
def wsX6_limits : List Cond := .code yX6_limits cX6_limits 7 (some .boolean) :: ((wsX6_limits_r1 ++ (wsX6_limits_r2 ++ wsX6_limits_r3)) ++ wsX60)
def wsX6_latest : List Cond := .code yX6_latest cX6_latest 2 (some .long) :: ([.fieldLink RX6 32 "WeatherMastModel" "many" "[I", .fieldLink RX6 35 "WeatherMastModel" "kept" "[J"] ++ wsX60)
def wsX6_through_r1 : List Cond := [Cond.fieldLink RX6 13 "WeatherMastModel" "chains" "[I", Cond.fieldLink RX6 19 "WeatherMastModel" "sources" "[I", Cond.fieldLink RX6 22 "WeatherMastModel" "told" "[J", Cond.fieldLink RX6 7 "WeatherMastModel" "sorts" "[I", Cond.fieldLink RX6 16 "WeatherMastModel" "steps" "[I", Cond.fieldLink RX6 198 "WeatherMastModel" "done" "I", Cond.methodLink RX6 191 yX6_latest, Cond.instanceMethod yX6_latest, Cond.selects RX6 yX6_latest yX6_latest, Cond.initialized RX6, Cond.code yX6_latest cX6_latest 2 (some .long), Cond.fieldLink RX6 32 "WeatherMastModel" "many" "[I", Cond.fieldLink RX6 35 "WeatherMastModel" "kept" "[J", Cond.methodLink RX6 194 yX6_changed, Cond.static yX6_changed, Cond.code yX6_changed cX6_changed 6 (some .long), Cond.methodLink RX6 120 yX6_amount, Cond.static yX6_amount, Cond.code yX6_amount cX6_amount 3 (some .long), Cond.methodLink RX6 84 yX6_isReal, Cond.static yX6_isReal, Cond.code yX6_isReal cX6_isReal 1 (some .boolean), Cond.methodLink RX6 91 yX6_amountBits, Cond.static yX6_amountBits]
def wsX6_through_r2 : List Cond := [Cond.code yX6_amountBits cX6_amountBits 3 (some .long), Cond.constantLong RX6 82 (-1), Cond.methodLink RX6 74 yX6_form, Cond.static yX6_form, Cond.code yX6_form cX6_form 3 (some .long), Cond.constantLong RX6 72 (4294967295), Cond.methodLink RX6 78 yX6_signBit, Cond.static yX6_signBit, Cond.code yX6_signBit cX6_signBit 1 (some .long), Cond.constantLong RX6 60 (2147483648), Cond.constantLong RX6 62 (-9223372036854775808), Cond.methodLink RX6 88 yX6_cut, Cond.static yX6_cut, Cond.code yX6_cut cX6_cut 3 (some .long), Cond.methodLink RX6 123 yX6_greater, Cond.static yX6_greater, Cond.code yX6_greater cX6_greater 5 (some .long), Cond.methodLink RX6 101 yX6_rank, Cond.static yX6_rank, Cond.code yX6_rank cX6_rank 5 (some .long), Cond.methodLink RX6 97 yX6_isMinus, Cond.static yX6_isMinus, Cond.code yX6_isMinus cX6_isMinus 3 (some .boolean), Cond.methodLink RX6 127 yX6_lesser]
def wsX6_through_r3 : List Cond := [Cond.static yX6_lesser, Cond.code yX6_lesser cX6_lesser 5 (some .long), Cond.methodLink RX6 111 yX6_one, Cond.static yX6_one, Cond.code yX6_one cX6_one 1 (some .long), Cond.constantLong RX6 68 (1065353216), Cond.constantLong RX6 70 (4607182418800017408), Cond.methodLink RX6 114 yX6_signed, Cond.static yX6_signed, Cond.code yX6_signed cX6_signed 4 (some .long), Cond.methodLink RX6 130 yX6_toWhole, Cond.static yX6_toWhole, Cond.code yX6_toWhole cX6_toWhole 16 (some .long), Cond.constantLong RX6 118 (2), Cond.methodLink RX6 107 yX6_places, Cond.static yX6_places, Cond.code yX6_places cX6_places 1 (some .int)]
def wsX6_through : List Cond := .code yX6_through cX6_through 9 (some .long) :: ((wsX6_through_r1 ++ (wsX6_through_r2 ++ wsX6_through_r3)) ++ wsX60)
def wsX6_read_r1 : List Cond := [Cond.fieldLink RX6 53 "WeatherMastModel" "thrown" "I", Cond.fieldLink RX6 7 "WeatherMastModel" "sorts" "[I", Cond.fieldLink RX6 32 "WeatherMastModel" "many" "[I", Cond.fieldLink RX6 44 "WeatherMastModel" "swings" "[J", Cond.fieldLink RX6 38 "WeatherMastModel" "leasts" "[J", Cond.fieldLink RX6 41 "WeatherMastModel" "greatests" "[J", Cond.fieldLink RX6 47 "WeatherMastModel" "sums" "[J", Cond.fieldLink RX6 35 "WeatherMastModel" "kept" "[J", Cond.fieldLink RX6 210 "WeatherMastModel" "readings" "I", Cond.fieldLink RX6 26 "WeatherMastModel" "lows" "[J", Cond.fieldLink RX6 29 "WeatherMastModel" "highs" "[J", Cond.fieldLink RX6 50 "WeatherMastModel" "alarms" "[I", Cond.fieldLink RX6 213 "WeatherMastModel" "allAlarms" "I", Cond.methodLink RX6 170 yX6_isInstrument, Cond.instanceMethod yX6_isInstrument, Cond.selects RX6 yX6_isInstrument yX6_isInstrument, Cond.initialized RX6, Cond.code yX6_isInstrument cX6_isInstrument 2 (some .boolean), Cond.fieldLink RX6 57 "WeatherMastModel" "instruments" "I", Cond.methodLink RX6 161 yX6_fail, Cond.instanceMethod yX6_fail, Cond.selects RX6 yX6_fail yX6_fail, Cond.code yX6_fail cX6_fail 2 (some .int), Cond.methodLink RX6 180 yX6_isNone]
def wsX6_read_r2 : List Cond := [Cond.static yX6_isNone, Cond.code yX6_isNone cX6_isNone 3 (some .boolean), Cond.methodLink RX6 84 yX6_isReal, Cond.static yX6_isReal, Cond.code yX6_isReal cX6_isReal 1 (some .boolean), Cond.methodLink RX6 88 yX6_cut, Cond.static yX6_cut, Cond.code yX6_cut cX6_cut 3 (some .long), Cond.methodLink RX6 91 yX6_amountBits, Cond.static yX6_amountBits, Cond.code yX6_amountBits cX6_amountBits 3 (some .long), Cond.constantLong RX6 82 (-1), Cond.methodLink RX6 74 yX6_form, Cond.static yX6_form, Cond.code yX6_form cX6_form 3 (some .long), Cond.constantLong RX6 72 (4294967295), Cond.methodLink RX6 78 yX6_signBit, Cond.static yX6_signBit, Cond.code yX6_signBit cX6_signBit 1 (some .long), Cond.constantLong RX6 60 (2147483648), Cond.constantLong RX6 62 (-9223372036854775808), Cond.methodLink RX6 94 yX6_endless, Cond.static yX6_endless, Cond.code yX6_endless cX6_endless 1 (some .long)]
def wsX6_read_r3 : List Cond := [Cond.constantLong RX6 64 (2139095040), Cond.constantLong RX6 66 (9218868437227405312), Cond.methodLink RX6 201 yX6_through, Cond.instanceMethod yX6_through, Cond.selects RX6 yX6_through yX6_through, Cond.code yX6_through cX6_through 9 (some .long), Cond.fieldLink RX6 13 "WeatherMastModel" "chains" "[I", Cond.fieldLink RX6 19 "WeatherMastModel" "sources" "[I", Cond.fieldLink RX6 22 "WeatherMastModel" "told" "[J", Cond.fieldLink RX6 16 "WeatherMastModel" "steps" "[I", Cond.fieldLink RX6 198 "WeatherMastModel" "done" "I", Cond.methodLink RX6 191 yX6_latest, Cond.instanceMethod yX6_latest, Cond.selects RX6 yX6_latest yX6_latest, Cond.code yX6_latest cX6_latest 2 (some .long), Cond.methodLink RX6 194 yX6_changed, Cond.static yX6_changed, Cond.code yX6_changed cX6_changed 6 (some .long), Cond.methodLink RX6 120 yX6_amount, Cond.static yX6_amount, Cond.code yX6_amount cX6_amount 3 (some .long), Cond.methodLink RX6 123 yX6_greater, Cond.static yX6_greater, Cond.code yX6_greater cX6_greater 5 (some .long)]
def wsX6_read_r4 : List Cond := [Cond.methodLink RX6 101 yX6_rank, Cond.static yX6_rank, Cond.code yX6_rank cX6_rank 5 (some .long), Cond.methodLink RX6 97 yX6_isMinus, Cond.static yX6_isMinus, Cond.code yX6_isMinus cX6_isMinus 3 (some .boolean), Cond.methodLink RX6 127 yX6_lesser, Cond.static yX6_lesser, Cond.code yX6_lesser cX6_lesser 5 (some .long), Cond.methodLink RX6 111 yX6_one, Cond.static yX6_one, Cond.code yX6_one cX6_one 1 (some .long), Cond.constantLong RX6 68 (1065353216), Cond.constantLong RX6 70 (4607182418800017408), Cond.methodLink RX6 114 yX6_signed, Cond.static yX6_signed, Cond.code yX6_signed cX6_signed 4 (some .long), Cond.methodLink RX6 130 yX6_toWhole, Cond.static yX6_toWhole, Cond.code yX6_toWhole cX6_toWhole 16 (some .long), Cond.constantLong RX6 118 (2), Cond.methodLink RX6 107 yX6_places, Cond.static yX6_places, Cond.code yX6_places cX6_places 1 (some .int)]
def wsX6_read_r5 : List Cond := [Cond.methodLink RX6 204 yX6_swing, Cond.static yX6_swing, Cond.code yX6_swing cX6_swing 5 (some .long), Cond.methodLink RX6 104 yX6_height, Cond.static yX6_height, Cond.code yX6_height cX6_height 3 (some .long), Cond.methodLink RX6 146 yX6_single, Cond.static yX6_single, Cond.code yX6_single cX6_single 2 (some .float), Cond.methodLink RX6 134 ⟨"java/lang/Float", "intBitsToFloat", "(I)F"⟩, Cond.native ⟨"java/lang/Float", "intBitsToFloat", "(I)F"⟩, Cond.static ⟨"java/lang/Float", "intBitsToFloat", "(I)F"⟩, Cond.initialized "java/lang/Float", Cond.methodLink RX6 150 yJxf58ca_floatToIntBits_5c35a, Cond.static yJxf58ca_floatToIntBits_5c35a, Cond.initialized RJxf58ca, Cond.code yJxf58ca_floatToIntBits_5c35a cJxf58ca_floatToIntBits_5c35a 1 (some .int), Cond.methodLink RJxf58ca 74 ⟨"java/lang/Float", "floatToRawIntBits", "(F)I"⟩, Cond.native ⟨"java/lang/Float", "floatToRawIntBits", "(F)I"⟩, Cond.static ⟨"java/lang/Float", "floatToRawIntBits", "(F)I"⟩, Cond.constant RJxf58ca 77 (2143289344), Cond.methodLink RJxf58ca 59 yJxf58ca_isNaN_12338, Cond.static yJxf58ca_isNaN_12338, Cond.code yJxf58ca_isNaN_12338 cJxf58ca_isNaN_12338 1 (some .boolean)]
def wsX6_read_r6 : List Cond := [Cond.methodLink RX6 154 yX6_real, Cond.static yX6_real, Cond.code yX6_real cX6_real 2 (some .double), Cond.methodLink RX6 140 ⟨"java/lang/Double", "longBitsToDouble", "(J)D"⟩, Cond.native ⟨"java/lang/Double", "longBitsToDouble", "(J)D"⟩, Cond.static ⟨"java/lang/Double", "longBitsToDouble", "(J)D"⟩, Cond.initialized "java/lang/Double", Cond.methodLink RX6 157 yJxe99ae_doubleToLongBits_ccdee, Cond.static yJxe99ae_doubleToLongBits_ccdee, Cond.initialized RJxe99ae, Cond.code yJxe99ae_doubleToLongBits_ccdee cJxe99ae_doubleToLongBits_ccdee 2 (some .long), Cond.methodLink RJxe99ae 134 ⟨"java/lang/Double", "doubleToRawLongBits", "(D)J"⟩, Cond.native ⟨"java/lang/Double", "doubleToRawLongBits", "(D)J"⟩, Cond.static ⟨"java/lang/Double", "doubleToRawLongBits", "(D)J"⟩, Cond.constantLong RJxe99ae 137 (9221120237041090560), Cond.methodLink RJxe99ae 122 yJxe99ae_isNaN_b9ae7, Cond.static yJxe99ae_isNaN_b9ae7, Cond.code yJxe99ae_isNaN_b9ae7 cJxe99ae_isNaN_b9ae7 2 (some .boolean), Cond.methodLink RX6 207 yX6_sum, Cond.static yX6_sum, Cond.code yX6_sum cX6_sum 5 (some .long), Cond.methodLink RX6 187 yX6_isAbove, Cond.static yX6_isAbove, Cond.code yX6_isAbove cX6_isAbove 5 (some .boolean)]
def wsX6_read : List Cond := .code yX6_read cX6_read 9 (some .long) :: ((wsX6_read_r1 ++ (wsX6_read_r2 ++ (wsX6_read_r3 ++ (wsX6_read_r4 ++ (wsX6_read_r5 ++ wsX6_read_r6))))) ++ wsX60)
def wsX6_forget : List Cond := .code yX6_forget cX6_forget 3 (some .int) :: ([.fieldLink RX6 53 "WeatherMastModel" "thrown" "I", .fieldLink RX6 32 "WeatherMastModel" "many" "[I", .methodLink RX6 170 yX6_isInstrument, .instanceMethod yX6_isInstrument, .selects RX6 yX6_isInstrument yX6_isInstrument, .initialized RX6, .code yX6_isInstrument cX6_isInstrument 2 (some .boolean), .fieldLink RX6 57 "WeatherMastModel" "instruments" "I", .methodLink RX6 161 yX6_fail, .instanceMethod yX6_fail, .selects RX6 yX6_fail yX6_fail, .code yX6_fail cX6_fail 2 (some .int)] ++ wsX60)
def wsX6_reading : List Cond := .code yX6_reading cX6_reading 4 (some .long) :: ([.fieldLink RX6 53 "WeatherMastModel" "thrown" "I", .fieldLink RX6 32 "WeatherMastModel" "many" "[I", .fieldLink RX6 35 "WeatherMastModel" "kept" "[J", .methodLink RX6 170 yX6_isInstrument, .instanceMethod yX6_isInstrument, .selects RX6 yX6_isInstrument yX6_isInstrument, .initialized RX6, .code yX6_isInstrument cX6_isInstrument 2 (some .boolean), .fieldLink RX6 57 "WeatherMastModel" "instruments" "I", .methodLink RX6 161 yX6_fail, .instanceMethod yX6_fail, .selects RX6 yX6_fail yX6_fail, .code yX6_fail cX6_fail 2 (some .int)] ++ wsX60)
def wsX6_tell : List Cond := .code yX6_tell cX6_tell 3 (some .long) :: ([.fieldLink RX6 53 "WeatherMastModel" "thrown" "I", .fieldLink RX6 32 "WeatherMastModel" "many" "[I", .fieldLink RX6 38 "WeatherMastModel" "leasts" "[J", .fieldLink RX6 41 "WeatherMastModel" "greatests" "[J", .fieldLink RX6 44 "WeatherMastModel" "swings" "[J", .fieldLink RX6 47 "WeatherMastModel" "sums" "[J", .methodLink RX6 170 yX6_isInstrument, .instanceMethod yX6_isInstrument, .selects RX6 yX6_isInstrument yX6_isInstrument, .initialized RX6, .code yX6_isInstrument cX6_isInstrument 2 (some .boolean), .fieldLink RX6 57 "WeatherMastModel" "instruments" "I", .methodLink RX6 161 yX6_fail, .instanceMethod yX6_fail, .selects RX6 yX6_fail yX6_fail, .code yX6_fail cX6_fail 2 (some .int)] ++ wsX60)
def wsX6_whole_r1 : List Cond := [Cond.fieldLink RX6 53 "WeatherMastModel" "thrown" "I", Cond.fieldLink RX6 32 "WeatherMastModel" "many" "[I", Cond.fieldLink RX6 7 "WeatherMastModel" "sorts" "[I", Cond.constantLong RX6 164 (-2147483648), Cond.constantLong RX6 166 (2147483647), Cond.methodLink RX6 170 yX6_isInstrument, Cond.instanceMethod yX6_isInstrument, Cond.selects RX6 yX6_isInstrument yX6_isInstrument, Cond.initialized RX6, Cond.code yX6_isInstrument cX6_isInstrument 2 (some .boolean), Cond.fieldLink RX6 57 "WeatherMastModel" "instruments" "I", Cond.methodLink RX6 161 yX6_fail, Cond.instanceMethod yX6_fail, Cond.selects RX6 yX6_fail yX6_fail, Cond.code yX6_fail cX6_fail 2 (some .int), Cond.methodLink RX6 191 yX6_latest, Cond.instanceMethod yX6_latest, Cond.selects RX6 yX6_latest yX6_latest, Cond.code yX6_latest cX6_latest 2 (some .long), Cond.fieldLink RX6 35 "WeatherMastModel" "kept" "[J", Cond.methodLink RX6 146 yX6_single, Cond.static yX6_single, Cond.code yX6_single cX6_single 2 (some .float), Cond.methodLink RX6 134 ⟨"java/lang/Float", "intBitsToFloat", "(I)F"⟩]
def wsX6_whole_r2 : List Cond := [Cond.native ⟨"java/lang/Float", "intBitsToFloat", "(I)F"⟩, Cond.static ⟨"java/lang/Float", "intBitsToFloat", "(I)F"⟩, Cond.initialized "java/lang/Float", Cond.methodLink RX6 154 yX6_real, Cond.static yX6_real, Cond.code yX6_real cX6_real 2 (some .double), Cond.methodLink RX6 140 ⟨"java/lang/Double", "longBitsToDouble", "(J)D"⟩, Cond.native ⟨"java/lang/Double", "longBitsToDouble", "(J)D"⟩, Cond.static ⟨"java/lang/Double", "longBitsToDouble", "(J)D"⟩, Cond.initialized "java/lang/Double"]
def wsX6_whole : List Cond := .code yX6_whole cX6_whole 4 (some .int) :: ((wsX6_whole_r1 ++ wsX6_whole_r2) ++ wsX60)
def wsX6_widest_r1 : List Cond := [Cond.fieldLink RX6 53 "WeatherMastModel" "thrown" "I", Cond.fieldLink RX6 57 "WeatherMastModel" "instruments" "I", Cond.fieldLink RX6 7 "WeatherMastModel" "sorts" "[I", Cond.fieldLink RX6 32 "WeatherMastModel" "many" "[I", Cond.fieldLink RX6 44 "WeatherMastModel" "swings" "[J", Cond.methodLink RX6 161 yX6_fail, Cond.instanceMethod yX6_fail, Cond.selects RX6 yX6_fail yX6_fail, Cond.initialized RX6, Cond.code yX6_fail cX6_fail 2 (some .int), Cond.methodLink RX6 123 yX6_greater, Cond.static yX6_greater, Cond.code yX6_greater cX6_greater 5 (some .long), Cond.methodLink RX6 101 yX6_rank, Cond.static yX6_rank, Cond.code yX6_rank cX6_rank 5 (some .long), Cond.constantLong RX6 82 (-1), Cond.methodLink RX6 84 yX6_isReal, Cond.static yX6_isReal, Cond.code yX6_isReal cX6_isReal 1 (some .boolean), Cond.methodLink RX6 91 yX6_amountBits, Cond.static yX6_amountBits, Cond.code yX6_amountBits cX6_amountBits 3 (some .long), Cond.methodLink RX6 74 yX6_form]
def wsX6_widest_r2 : List Cond := [Cond.static yX6_form, Cond.code yX6_form cX6_form 3 (some .long), Cond.constantLong RX6 72 (4294967295), Cond.methodLink RX6 78 yX6_signBit, Cond.static yX6_signBit, Cond.code yX6_signBit cX6_signBit 1 (some .long), Cond.constantLong RX6 60 (2147483648), Cond.constantLong RX6 62 (-9223372036854775808), Cond.methodLink RX6 97 yX6_isMinus, Cond.static yX6_isMinus, Cond.code yX6_isMinus cX6_isMinus 3 (some .boolean)]
def wsX6_widest : List Cond := .code yX6_widest cX6_widest 6 (some .long) :: ((wsX6_widest_r1 ++ wsX6_widest_r2) ++ wsX60)
def wsX6_alarms : List Cond := .code yX6_alarms cX6_alarms 2 (some .int) :: ([.fieldLink RX6 53 "WeatherMastModel" "thrown" "I", .fieldLink RX6 50 "WeatherMastModel" "alarms" "[I", .methodLink RX6 170 yX6_isInstrument, .instanceMethod yX6_isInstrument, .selects RX6 yX6_isInstrument yX6_isInstrument, .initialized RX6, .code yX6_isInstrument cX6_isInstrument 2 (some .boolean), .fieldLink RX6 57 "WeatherMastModel" "instruments" "I", .methodLink RX6 161 yX6_fail, .instanceMethod yX6_fail, .selects RX6 yX6_fail yX6_fail, .code yX6_fail cX6_fail 2 (some .int)] ++ wsX60)
def wsX6_count : List Cond := .code yX6_count cX6_count 2 (some .int) :: ([.fieldLink RX6 53 "WeatherMastModel" "thrown" "I", .fieldLink RX6 57 "WeatherMastModel" "instruments" "I", .fieldLink RX6 210 "WeatherMastModel" "readings" "I", .fieldLink RX6 213 "WeatherMastModel" "allAlarms" "I", .fieldLink RX6 198 "WeatherMastModel" "done" "I"] ++ wsX60)
def wsJ9_max_f86c9 : List Cond := .code yJ9_max_f86c9 cJ9_max_f86c9 4 (some .long) :: ([])
def wsJ9_min_7cf53 : List Cond := .code yJ9_min_7cf53 cJ9_min_7cf53 2 (some .int) :: ([])
def wsJ9_min_f86c9 : List Cond := .code yJ9_min_f86c9 cJ9_min_f86c9 4 (some .long) :: ([])
def wsL_mount_r1 : List Cond := [Cond.classLink RL 13 "java/lang/IllegalArgumentException", Cond.classLink RL 15 "java/lang/UnsupportedOperationException", Cond.methodLink RL 7 yX5_mount, Cond.instanceMethod yX5_mount, Cond.selects RX5 yX5_mount yX5_mount, Cond.initialized RX5, Cond.code yX5_mount cX5_mount 4 (some .int), Cond.classLink RX5 33 "java/lang/IllegalArgumentException", Cond.initialized "java/lang/IllegalArgumentException", Cond.classLink RX5 44 "java/lang/UnsupportedOperationException", Cond.initialized "java/lang/UnsupportedOperationException", Cond.fieldLink RX5 40 "WeatherMast" "mounted" "I", Cond.fieldLink RX5 25 "WeatherMast" "instruments" "[LWeatherMast$Instrument;", Cond.classLink RX5 23 RX1, Cond.instantiable RX1 14, Cond.initialized RX1, Cond.methodLink RX5 29 yX5_findSort, Cond.instanceMethod yX5_findSort, Cond.selects RX5 yX5_findSort yX5_findSort, Cond.code yX5_findSort cX5_findSort 2 (some (.object "WeatherMast$Sort")), Cond.fieldLink RX5 17 "WeatherMast" "sorts" "[LWeatherMast$Sort;", Cond.methodLink RX5 49 yX1_init, Cond.instanceMethod yX1_init, Cond.code yX1_init cX1_init 3 none]
def wsL_mount_r2 : List Cond := [Cond.methodLink RX1 3 objectInit, Cond.instanceMethod objectInit, Cond.code objectInit ⟨#[0xb1]⟩ 1 none, Cond.fieldLink RX1 9 "WeatherMast$Instrument" "sortNumber" "I", Cond.fieldLink RX1 15 "WeatherMast$Instrument" "sort" "LWeatherMast$Sort;", Cond.classLink RX1 19 RX3, Cond.fieldLink RX1 21 "WeatherMast$Instrument" "chain" "[LWeatherMast$Step;", Cond.arrayClass .long, Cond.fieldLink RX1 25 "WeatherMast$Instrument" "kept" "[J", Cond.fieldLink RX1 29 "WeatherMast$Sort" "lowest" "J", Cond.fieldLink RX1 35 "WeatherMast$Instrument" "low" "J", Cond.fieldLink RX1 38 "WeatherMast$Sort" "highest" "J", Cond.fieldLink RX1 41 "WeatherMast$Instrument" "high" "J"]
def wsL_mount : List Cond := .codeWith yL_mount cL_mount 4 (some .int) [(0, 9, 12, 13), (0, 9, 15, 15)] :: ((wsL_mount_r1 ++ wsL_mount_r2) ++ wsX50 ++ wsX10 ++ wsX00 ++ wsX40 ++ (vx_atS RX5 37 "java/lang/IllegalArgumentException" ["java/lang/RuntimeException", "java/lang/Exception"]).filter goodWord ++ (vx_atS RX5 48 "java/lang/UnsupportedOperationException" ["java/lang/RuntimeException", "java/lang/Exception"]).filter goodWord)
def wsL_step_r1 : List Cond := [Cond.classLink RL 21 "java/lang/IndexOutOfBoundsException", Cond.classLink RL 13 "java/lang/IllegalArgumentException", Cond.classLink RL 23 "java/lang/IllegalStateException", Cond.methodLink RL 17 yX5_step, Cond.instanceMethod yX5_step, Cond.selects RX5 yX5_step yX5_step, Cond.initialized RX5, Cond.code yX5_step cX5_step 8 (some .int), Cond.classLink RX5 56 "java/lang/IndexOutOfBoundsException", Cond.initialized "java/lang/IndexOutOfBoundsException", Cond.classLink RX5 33 "java/lang/IllegalArgumentException", Cond.initialized "java/lang/IllegalArgumentException", Cond.classLink RX5 88 "java/lang/IllegalStateException", Cond.initialized "java/lang/IllegalStateException", Cond.fieldLink RX5 61 "WeatherMast$Instrument" "sort" "LWeatherMast$Sort;", Cond.classLink RX5 93 RX3, Cond.instantiable RX3 3, Cond.initialized RX3, Cond.methodLink RX5 52 yX5_findInstrument, Cond.instanceMethod yX5_findInstrument, Cond.selects RX5 yX5_findInstrument yX5_findInstrument, Cond.code yX5_findInstrument cX5_findInstrument 2 (some (.object "WeatherMast$Instrument")), Cond.fieldLink RX5 25 "WeatherMast" "instruments" "[LWeatherMast$Instrument;", Cond.methodLink RX5 65 ⟨"WeatherMast$Sort", "hasStep", "(I)Z"⟩]
def wsL_step_r2 : List Cond := [Cond.sameMethod "WeatherMast$Sort" "WeatherMast$Sort" "hasStep" "(I)Z", Cond.selects RX0 ⟨"WeatherMast$Sort", "hasStep", "(I)Z"⟩ yX0_hasStep, Cond.instanceMethod yX0_hasStep, Cond.initialized RX0, Cond.code yX0_hasStep cX0_hasStep 2 (some .boolean), Cond.selects RX4 ⟨"WeatherMast$Sort", "hasStep", "(I)Z"⟩ yX4_hasStep, Cond.instanceMethod yX4_hasStep, Cond.initialized RX4, Cond.code yX4_hasStep cX4_hasStep 2 (some .boolean), Cond.methodLink RX5 71 ⟨"WeatherMast$Sort", "heard", "(J)J"⟩, Cond.sameMethod "WeatherMast$Sort" "WeatherMast$Sort" "heard" "(J)J", Cond.selects RX0 ⟨"WeatherMast$Sort", "heard", "(J)J"⟩ yX2_heard, Cond.instanceMethod yX2_heard, Cond.initialized RX2, Cond.code yX2_heard cX2_heard 3 (some .long), Cond.fieldLink RX2 9 "WeatherMast$Sort" "narrow" "Z", Cond.selects RX4 ⟨"WeatherMast$Sort", "heard", "(J)J"⟩ yX2_heard, Cond.methodLink RX5 75 yX5_takesK, Cond.static yX5_takesK, Cond.code yX5_takesK cX5_takesK 1 (some .boolean), Cond.methodLink RX5 78 ⟨"WeatherMast$Sort", "isNumber", "(J)Z"⟩, Cond.sameMethod "WeatherMast$Sort" "WeatherMast$Sort" "isNumber" "(J)Z", Cond.selects RX0 ⟨"WeatherMast$Sort", "isNumber", "(J)Z"⟩ yX0_isNumber, Cond.instanceMethod yX0_isNumber]
def wsL_step_r3 : List Cond := [Cond.code yX0_isNumber cX0_isNumber 3 (some .boolean), Cond.fieldLink RX0 36 "WeatherMast$Floats" "infinity" "J", Cond.methodLink RX0 39 yX0_amount, Cond.instanceMethod yX0_amount, Cond.selects RX0 yX0_amount yX0_amount, Cond.code yX0_amount cX0_amount 3 (some .long), Cond.fieldLink RX0 43 "WeatherMast$Floats" "signBit" "J", Cond.sameField "WeatherMast$Floats" "WeatherMast$Sort" "signBit" "J", Cond.constantLong RX0 46 (-1), Cond.selects RX4 ⟨"WeatherMast$Sort", "isNumber", "(J)Z"⟩ yX4_isNumber, Cond.instanceMethod yX4_isNumber, Cond.code yX4_isNumber cX4_isNumber 3 (some .boolean), Cond.methodLink RX5 84 yX1_isChainFull, Cond.instanceMethod yX1_isChainFull, Cond.selects RX1 yX1_isChainFull yX1_isChainFull, Cond.initialized RX1, Cond.code yX1_isChainFull cX1_isChainFull 1 (some .boolean), Cond.fieldLink RX1 44 "WeatherMast$Instrument" "steps" "I", Cond.fieldLink RX1 21 "WeatherMast$Instrument" "chain" "[LWeatherMast$Step;", Cond.methodLink RX5 95 yX3_init, Cond.instanceMethod yX3_init, Cond.code yX3_init cX3_init 5 none, Cond.methodLink RX3 1 objectInit, Cond.instanceMethod objectInit]
def wsL_step_r4 : List Cond := [Cond.code objectInit ⟨#[0xb1]⟩ 1 none, Cond.fieldLink RX3 7 "WeatherMast$Step" "number" "I", Cond.fieldLink RX3 13 "WeatherMast$Step" "told" "J", Cond.fieldLink RX3 17 "WeatherMast$Step" "followed" "LWeatherMast$Instrument;", Cond.methodLink RX5 98 yX1_lengthenChain, Cond.instanceMethod yX1_lengthenChain, Cond.selects RX1 yX1_lengthenChain yX1_lengthenChain, Cond.code yX1_lengthenChain cX1_lengthenChain 2 (some .int), Cond.methodLink RX1 47 yX1_isChainFull]
def wsL_step : List Cond := .codeWith yL_step cL_step 7 (some .int) [(0, 12, 15, 21), (0, 12, 19, 13), (0, 12, 23, 23)] :: ((wsL_step_r1 ++ (wsL_step_r2 ++ (wsL_step_r3 ++ wsL_step_r4))) ++ wsX10 ++ wsX30 ++ wsX50 ++ wsX00 ++ wsX40 ++ (vx_atS RX5 60 "java/lang/IndexOutOfBoundsException" ["java/lang/RuntimeException", "java/lang/Exception"]).filter goodWord ++ (vx_atS RX5 37 "java/lang/IllegalArgumentException" ["java/lang/RuntimeException", "java/lang/Exception"]).filter goodWord ++ (vx_atS RX5 92 "java/lang/IllegalStateException" ["java/lang/RuntimeException", "java/lang/Exception"]).filter goodWord)
def wsL_follow_r1 : List Cond := [Cond.classLink RL 21 "java/lang/IndexOutOfBoundsException", Cond.classLink RL 13 "java/lang/IllegalArgumentException", Cond.classLink RL 23 "java/lang/IllegalStateException", Cond.methodLink RL 25 yX5_follow, Cond.instanceMethod yX5_follow, Cond.selects RX5 yX5_follow yX5_follow, Cond.initialized RX5, Cond.code yX5_follow cX5_follow 6 (some .int), Cond.classLink RX5 56 "java/lang/IndexOutOfBoundsException", Cond.initialized "java/lang/IndexOutOfBoundsException", Cond.classLink RX5 33 "java/lang/IllegalArgumentException", Cond.initialized "java/lang/IllegalArgumentException", Cond.classLink RX5 88 "java/lang/IllegalStateException", Cond.initialized "java/lang/IllegalStateException", Cond.fieldLink RX5 61 "WeatherMast$Instrument" "sort" "LWeatherMast$Sort;", Cond.fieldLink RX5 104 "WeatherMast$Instrument" "sortNumber" "I", Cond.classLink RX5 93 RX3, Cond.instantiable RX3 3, Cond.initialized RX3, Cond.methodLink RX5 52 yX5_findInstrument, Cond.instanceMethod yX5_findInstrument, Cond.selects RX5 yX5_findInstrument yX5_findInstrument, Cond.code yX5_findInstrument cX5_findInstrument 2 (some (.object "WeatherMast$Instrument")), Cond.fieldLink RX5 25 "WeatherMast" "instruments" "[LWeatherMast$Instrument;"]
def wsL_follow_r2 : List Cond := [Cond.methodLink RX5 65 ⟨"WeatherMast$Sort", "hasStep", "(I)Z"⟩, Cond.sameMethod "WeatherMast$Sort" "WeatherMast$Sort" "hasStep" "(I)Z", Cond.selects RX0 ⟨"WeatherMast$Sort", "hasStep", "(I)Z"⟩ yX0_hasStep, Cond.instanceMethod yX0_hasStep, Cond.initialized RX0, Cond.code yX0_hasStep cX0_hasStep 2 (some .boolean), Cond.selects RX4 ⟨"WeatherMast$Sort", "hasStep", "(I)Z"⟩ yX4_hasStep, Cond.instanceMethod yX4_hasStep, Cond.initialized RX4, Cond.code yX4_hasStep cX4_hasStep 2 (some .boolean), Cond.methodLink RX5 75 yX5_takesK, Cond.static yX5_takesK, Cond.code yX5_takesK cX5_takesK 1 (some .boolean), Cond.methodLink RX5 84 yX1_isChainFull, Cond.instanceMethod yX1_isChainFull, Cond.selects RX1 yX1_isChainFull yX1_isChainFull, Cond.initialized RX1, Cond.code yX1_isChainFull cX1_isChainFull 1 (some .boolean), Cond.fieldLink RX1 44 "WeatherMast$Instrument" "steps" "I", Cond.fieldLink RX1 21 "WeatherMast$Instrument" "chain" "[LWeatherMast$Step;", Cond.methodLink RX5 95 yX3_init, Cond.instanceMethod yX3_init, Cond.code yX3_init cX3_init 5 none, Cond.methodLink RX3 1 objectInit]
def wsL_follow_r3 : List Cond := [Cond.instanceMethod objectInit, Cond.code objectInit ⟨#[0xb1]⟩ 1 none, Cond.fieldLink RX3 7 "WeatherMast$Step" "number" "I", Cond.fieldLink RX3 13 "WeatherMast$Step" "told" "J", Cond.fieldLink RX3 17 "WeatherMast$Step" "followed" "LWeatherMast$Instrument;", Cond.methodLink RX5 98 yX1_lengthenChain, Cond.instanceMethod yX1_lengthenChain, Cond.selects RX1 yX1_lengthenChain yX1_lengthenChain, Cond.code yX1_lengthenChain cX1_lengthenChain 2 (some .int), Cond.methodLink RX1 47 yX1_isChainFull]
def wsL_follow : List Cond := .codeWith yL_follow cL_follow 6 (some .int) [(0, 12, 15, 21), (0, 12, 19, 13), (0, 12, 23, 23)] :: ((wsL_follow_r1 ++ (wsL_follow_r2 ++ wsL_follow_r3)) ++ wsX10 ++ wsX30 ++ wsX50 ++ (vx_atS RX5 60 "java/lang/IndexOutOfBoundsException" ["java/lang/RuntimeException", "java/lang/Exception"]).filter goodWord ++ (vx_atS RX5 37 "java/lang/IllegalArgumentException" ["java/lang/RuntimeException", "java/lang/Exception"]).filter goodWord ++ (vx_atS RX5 92 "java/lang/IllegalStateException" ["java/lang/RuntimeException", "java/lang/Exception"]).filter goodWord)
def wsL_read_r1 : List Cond := [Cond.classLink RL 21 "java/lang/IndexOutOfBoundsException", Cond.classLink RL 13 "java/lang/IllegalArgumentException", Cond.methodLink RL 29 yX5_read, Cond.instanceMethod yX5_read, Cond.selects RX5 yX5_read yX5_read, Cond.initialized RX5, Cond.code yX5_read cX5_read 9 (some .long), Cond.classLink RX5 56 "java/lang/IndexOutOfBoundsException", Cond.initialized "java/lang/IndexOutOfBoundsException", Cond.classLink RX5 33 "java/lang/IllegalArgumentException", Cond.initialized "java/lang/IllegalArgumentException", Cond.fieldLink RX5 61 "WeatherMast$Instrument" "sort" "LWeatherMast$Sort;", Cond.fieldLink RX5 118 "WeatherMast" "readingsEver" "I", Cond.fieldLink RX5 121 "WeatherMast" "stepsEver" "I", Cond.fieldLink RX5 124 "WeatherMast$Instrument" "steps" "I", Cond.fieldLink RX5 130 "WeatherMast$Instrument" "alarmsGiven" "I", Cond.fieldLink RX5 133 "WeatherMast" "alarmsEver" "I", Cond.methodLink RX5 52 yX5_findInstrument, Cond.instanceMethod yX5_findInstrument, Cond.selects RX5 yX5_findInstrument yX5_findInstrument, Cond.code yX5_findInstrument cX5_findInstrument 2 (some (.object "WeatherMast$Instrument")), Cond.fieldLink RX5 25 "WeatherMast" "instruments" "[LWeatherMast$Instrument;", Cond.methodLink RX5 71 ⟨"WeatherMast$Sort", "heard", "(J)J"⟩, Cond.sameMethod "WeatherMast$Sort" "WeatherMast$Sort" "heard" "(J)J"]
def wsL_read_r2 : List Cond := [Cond.selects RX0 ⟨"WeatherMast$Sort", "heard", "(J)J"⟩ yX2_heard, Cond.instanceMethod yX2_heard, Cond.initialized RX2, Cond.code yX2_heard cX2_heard 3 (some .long), Cond.fieldLink RX2 9 "WeatherMast$Sort" "narrow" "Z", Cond.selects RX4 ⟨"WeatherMast$Sort", "heard", "(J)J"⟩ yX2_heard, Cond.methodLink RX5 78 ⟨"WeatherMast$Sort", "isNumber", "(J)Z"⟩, Cond.sameMethod "WeatherMast$Sort" "WeatherMast$Sort" "isNumber" "(J)Z", Cond.selects RX0 ⟨"WeatherMast$Sort", "isNumber", "(J)Z"⟩ yX0_isNumber, Cond.instanceMethod yX0_isNumber, Cond.initialized RX0, Cond.code yX0_isNumber cX0_isNumber 3 (some .boolean), Cond.fieldLink RX0 36 "WeatherMast$Floats" "infinity" "J", Cond.methodLink RX0 39 yX0_amount, Cond.instanceMethod yX0_amount, Cond.selects RX0 yX0_amount yX0_amount, Cond.code yX0_amount cX0_amount 3 (some .long), Cond.fieldLink RX0 43 "WeatherMast$Floats" "signBit" "J", Cond.sameField "WeatherMast$Floats" "WeatherMast$Sort" "signBit" "J", Cond.constantLong RX0 46 (-1), Cond.selects RX4 ⟨"WeatherMast$Sort", "isNumber", "(J)Z"⟩ yX4_isNumber, Cond.instanceMethod yX4_isNumber, Cond.initialized RX4, Cond.code yX4_isNumber cX4_isNumber 3 (some .boolean)]
def wsL_read_r3 : List Cond := [Cond.methodLink RX5 111 yX1_throughChain, Cond.instanceMethod yX1_throughChain, Cond.selects RX1 yX1_throughChain yX1_throughChain, Cond.initialized RX1, Cond.code yX1_throughChain cX1_throughChain 9 (some .long), Cond.fieldLink RX1 21 "WeatherMast$Instrument" "chain" "[LWeatherMast$Step;", Cond.fieldLink RX1 15 "WeatherMast$Instrument" "sort" "LWeatherMast$Sort;", Cond.fieldLink RX1 51 "WeatherMast$Step" "number" "I", Cond.methodLink RX1 54 yX3_currentK, Cond.instanceMethod yX3_currentK, Cond.selects RX3 yX3_currentK yX3_currentK, Cond.initialized RX3, Cond.code yX3_currentK cX3_currentK 1 (some .long), Cond.fieldLink RX3 17 "WeatherMast$Step" "followed" "LWeatherMast$Instrument;", Cond.fieldLink RX3 13 "WeatherMast$Step" "told" "J", Cond.fieldLink RX3 21 "WeatherMast$Instrument" "latest" "J", Cond.methodLink RX1 58 ⟨"WeatherMast$Sort", "afterStep", "(IJJ)J"⟩, Cond.sameMethod "WeatherMast$Sort" "WeatherMast$Sort" "afterStep" "(IJJ)J", Cond.selects RX0 ⟨"WeatherMast$Sort", "afterStep", "(IJJ)J"⟩ yX2_afterStep, Cond.instanceMethod yX2_afterStep, Cond.code yX2_afterStep cX2_afterStep 6 (some .long), Cond.methodLink RX2 36 ⟨"WeatherMast$Sort", "amount", "(J)J"⟩, Cond.sameMethod "WeatherMast$Sort" "WeatherMast$Sort" "amount" "(J)J", Cond.selects RX0 ⟨"WeatherMast$Sort", "amount", "(J)J"⟩ yX0_amount]
def wsL_read_r4 : List Cond := [Cond.selects RX4 ⟨"WeatherMast$Sort", "amount", "(J)J"⟩ yX4_amount, Cond.instanceMethod yX4_amount, Cond.code yX4_amount cX4_amount 3 (some .long), Cond.methodLink RX4 17 ⟨"WeatherMast$Wholes", "heard", "(J)J"⟩, Cond.sameMethod "WeatherMast$Wholes" "WeatherMast$Sort" "heard" "(J)J", Cond.selects RX4 ⟨"WeatherMast$Wholes", "heard", "(J)J"⟩ yX2_heard, Cond.methodLink RX2 39 ⟨"WeatherMast$Sort", "greater", "(JJ)J"⟩, Cond.sameMethod "WeatherMast$Sort" "WeatherMast$Sort" "greater" "(JJ)J", Cond.selects RX0 ⟨"WeatherMast$Sort", "greater", "(JJ)J"⟩ yX2_greater, Cond.instanceMethod yX2_greater, Cond.code yX2_greater cX2_greater 5 (some .long), Cond.methodLink RX2 29 ⟨"WeatherMast$Sort", "rank", "(J)J"⟩, Cond.sameMethod "WeatherMast$Sort" "WeatherMast$Sort" "rank" "(J)J", Cond.selects RX0 ⟨"WeatherMast$Sort", "rank", "(J)J"⟩ yX0_rank, Cond.instanceMethod yX0_rank, Cond.code yX0_rank cX0_rank 3 (some .long), Cond.selects RX4 ⟨"WeatherMast$Sort", "rank", "(J)J"⟩ yX4_rank, Cond.instanceMethod yX4_rank, Cond.code yX4_rank cX4_rank 3 (some .long), Cond.selects RX4 ⟨"WeatherMast$Sort", "greater", "(JJ)J"⟩ yX2_greater, Cond.methodLink RX2 43 ⟨"WeatherMast$Sort", "lesser", "(JJ)J"⟩, Cond.sameMethod "WeatherMast$Sort" "WeatherMast$Sort" "lesser" "(JJ)J", Cond.selects RX0 ⟨"WeatherMast$Sort", "lesser", "(JJ)J"⟩ yX2_lesser, Cond.instanceMethod yX2_lesser]
def wsL_read_r5 : List Cond := [Cond.code yX2_lesser cX2_lesser 5 (some .long), Cond.selects RX4 ⟨"WeatherMast$Sort", "lesser", "(JJ)J"⟩ yX2_lesser, Cond.methodLink RX2 46 ⟨"WeatherMast$Sort", "afterFurtherStep", "(IJJ)J"⟩, Cond.sameMethod "WeatherMast$Sort" "WeatherMast$Sort" "afterFurtherStep" "(IJJ)J", Cond.selects RX0 ⟨"WeatherMast$Sort", "afterFurtherStep", "(IJJ)J"⟩ yX0_afterFurtherStep, Cond.instanceMethod yX0_afterFurtherStep, Cond.code yX0_afterFurtherStep cX0_afterFurtherStep 6 (some .long), Cond.fieldLink RX0 33 "WeatherMast$Floats" "one" "J", Cond.methodLink RX0 98 yX0_wholeNotBelow, Cond.instanceMethod yX0_wholeNotBelow, Cond.selects RX0 yX0_wholeNotBelow yX0_wholeNotBelow, Cond.code yX0_wholeNotBelow cX0_wholeNotBelow 5 (some .long), Cond.methodLink RX0 101 yX0_wholeNotAbove, Cond.instanceMethod yX0_wholeNotAbove, Cond.selects RX0 yX0_wholeNotAbove yX0_wholeNotAbove, Cond.code yX0_wholeNotAbove cX0_wholeNotAbove 4 (some .long), Cond.methodLink RX0 110 yX0_bitsBehindPoint, Cond.instanceMethod yX0_bitsBehindPoint, Cond.selects RX0 yX0_bitsBehindPoint yX0_bitsBehindPoint, Cond.code yX0_bitsBehindPoint cX0_bitsBehindPoint 4 (some .int), Cond.fieldLink RX0 19 "WeatherMast$Floats" "fractionBits" "I", Cond.fieldLink RX0 23 "WeatherMast$Floats" "bias" "I", Cond.methodLink RX0 104 yX0_withSignOf, Cond.instanceMethod yX0_withSignOf]
def wsL_read_r6 : List Cond := [Cond.selects RX0 yX0_withSignOf yX0_withSignOf, Cond.code yX0_withSignOf cX0_withSignOf 5 (some .long), Cond.methodLink RX0 107 yX0_wholeNearest, Cond.instanceMethod yX0_wholeNearest, Cond.selects RX0 yX0_wholeNearest yX0_wholeNearest, Cond.code yX0_wholeNearest cX0_wholeNearest 11 (some .long), Cond.fieldLink RX0 30 "WeatherMast$Floats" "half" "J", Cond.constantLong RX0 113 (2), Cond.selects RX4 ⟨"WeatherMast$Sort", "afterFurtherStep", "(IJJ)J"⟩ yX4_afterFurtherStep, Cond.instanceMethod yX4_afterFurtherStep, Cond.code yX4_afterFurtherStep cX4_afterFurtherStep 6 (some .long), Cond.selects RX4 ⟨"WeatherMast$Sort", "afterStep", "(IJJ)J"⟩ yX2_afterStep, Cond.methodLink RX5 114 yX1_keep, Cond.instanceMethod yX1_keep, Cond.selects RX1 yX1_keep yX1_keep, Cond.code yX1_keep cX1_keep 4 none, Cond.fieldLink RX1 65 "WeatherMast$Instrument" "least" "J", Cond.fieldLink RX1 72 "WeatherMast$Instrument" "greatest" "J", Cond.fieldLink RX1 78 "WeatherMast$Instrument" "latest" "J", Cond.fieldLink RX1 84 "WeatherMast$Instrument" "swing" "J", Cond.fieldLink RX1 87 "WeatherMast$Instrument" "sum" "J", Cond.fieldLink RX1 25 "WeatherMast$Instrument" "kept" "[J", Cond.fieldLink RX1 97 "WeatherMast$Instrument" "readings" "I", Cond.methodLink RX1 62 yX1_hasRead]
def wsL_read_r7 : List Cond := [Cond.instanceMethod yX1_hasRead, Cond.selects RX1 yX1_hasRead yX1_hasRead, Cond.code yX1_hasRead cX1_hasRead 1 (some .boolean), Cond.methodLink RX1 68 ⟨"WeatherMast$Sort", "lesser", "(JJ)J"⟩, Cond.methodLink RX1 75 ⟨"WeatherMast$Sort", "greater", "(JJ)J"⟩, Cond.methodLink RX1 81 ⟨"WeatherMast$Sort", "apart", "(JJ)J"⟩, Cond.sameMethod "WeatherMast$Sort" "WeatherMast$Sort" "apart" "(JJ)J", Cond.selects RX0 ⟨"WeatherMast$Sort", "apart", "(JJ)J"⟩ yX0_apart, Cond.instanceMethod yX0_apart, Cond.code yX0_apart cX0_apart 6 (some .long), Cond.methodLink RX0 72 yX0_place, Cond.instanceMethod yX0_place, Cond.selects RX0 yX0_place yX0_place, Cond.code yX0_place cX0_place 3 (some .long), Cond.methodLink RX0 75 yX0_addAmounts, Cond.instanceMethod yX0_addAmounts, Cond.selects RX0 yX0_addAmounts yX0_addAmounts, Cond.code yX0_addAmounts cX0_addAmounts 13 (some .long), Cond.methodLink RX0 48 Lib.MathLoose.max_long.x, Cond.static Lib.MathLoose.max_long.x, Cond.initialized "java/lang/Math", Cond.code Lib.MathLoose.max_long.x Lib.MathLoose.max_long.code 4 (some .long), Cond.methodLink RX0 54 Lib.MathLoose.min_long.x, Cond.static Lib.MathLoose.min_long.x]
def wsL_read_r8 : List Cond := [Cond.code Lib.MathLoose.min_long.x Lib.MathLoose.min_long.code 4 (some .long), Cond.fieldLink RX0 26 "WeatherMast$Floats" "leadingOne" "J", Cond.methodLink RX0 57 yX0_exponent, Cond.instanceMethod yX0_exponent, Cond.selects RX0 yX0_exponent yX0_exponent, Cond.code yX0_exponent cX0_exponent 3 (some .int), Cond.methodLink RX0 61 yX0_guardedDigits, Cond.instanceMethod yX0_guardedDigits, Cond.selects RX0 yX0_guardedDigits yX0_guardedDigits, Cond.code yX0_guardedDigits cX0_guardedDigits 3 (some .long), Cond.methodLink RX0 89 yX0_digits, Cond.instanceMethod yX0_digits, Cond.selects RX0 yX0_digits yX0_digits, Cond.code yX0_digits cX0_digits 3 (some .long), Cond.methodLink RX0 64 yX0_shiftedDown, Cond.static yX0_shiftedDown, Cond.code yX0_shiftedDown cX0_shiftedDown 5 (some .long), Cond.methodLink RX0 68 yX0_rounded, Cond.instanceMethod yX0_rounded, Cond.selects RX0 yX0_rounded yX0_rounded, Cond.code yX0_rounded cX0_rounded 9 (some .long), Cond.constantLong RX0 92 (7), Cond.constantLong RX0 94 (4), Cond.methodLink RX0 78 yX0_differenceOfAmounts]
def wsL_read_r9 : List Cond := [Cond.instanceMethod yX0_differenceOfAmounts, Cond.selects RX0 yX0_differenceOfAmounts yX0_differenceOfAmounts, Cond.code yX0_differenceOfAmounts cX0_differenceOfAmounts 14 (some .long), Cond.methodLink RX0 86 Lib.Math.min.name, Cond.static Lib.Math.min.name, Cond.code Lib.Math.min.name Lib.Math.min.code 2 (some .int), Cond.methodLink RX0 81 yJ13_numberOfLeadingZeros_95d88, Cond.static yJ13_numberOfLeadingZeros_95d88, Cond.initialized RJ13, Cond.code yJ13_numberOfLeadingZeros_95d88 cJ13_numberOfLeadingZeros_95d88 3 (some .int), Cond.methodLink RJ13 308 yJ6_numberOfLeadingZeros_0f7a4, Cond.static yJ6_numberOfLeadingZeros_0f7a4, Cond.initialized RJ6, Cond.code yJ6_numberOfLeadingZeros_0f7a4 cJ6_numberOfLeadingZeros_0f7a4 2 (some .int), Cond.constant RJ6 264 (65536), Cond.selects RX4 ⟨"WeatherMast$Sort", "apart", "(JJ)J"⟩ yX4_apart, Cond.instanceMethod yX4_apart, Cond.code yX4_apart cX4_apart 5 (some .long), Cond.methodLink RX4 23 yX4_amount, Cond.selects RX4 yX4_amount yX4_amount, Cond.methodLink RX1 90 ⟨"WeatherMast$Sort", "amount", "(J)J"⟩, Cond.methodLink RX1 94 ⟨"WeatherMast$Sort", "addAmounts", "(JJ)J"⟩, Cond.sameMethod "WeatherMast$Sort" "WeatherMast$Sort" "addAmounts" "(JJ)J", Cond.selects RX0 ⟨"WeatherMast$Sort", "addAmounts", "(JJ)J"⟩ yX0_addAmounts]
def wsL_read_r10 : List Cond := [Cond.selects RX4 ⟨"WeatherMast$Sort", "addAmounts", "(JJ)J"⟩ yX4_addAmounts, Cond.instanceMethod yX4_addAmounts, Cond.code yX4_addAmounts cX4_addAmounts 5 (some .long), Cond.methodLink RX5 127 yX1_isBeyondLimits, Cond.instanceMethod yX1_isBeyondLimits, Cond.selects RX1 yX1_isBeyondLimits yX1_isBeyondLimits, Cond.code yX1_isBeyondLimits cX1_isBeyondLimits 3 (some .boolean), Cond.fieldLink RX1 35 "WeatherMast$Instrument" "low" "J", Cond.fieldLink RX1 41 "WeatherMast$Instrument" "high" "J", Cond.methodLink RX1 100 ⟨"WeatherMast$Sort", "isAbove", "(JJ)Z"⟩, Cond.sameMethod "WeatherMast$Sort" "WeatherMast$Sort" "isAbove" "(JJ)Z", Cond.selects RX0 ⟨"WeatherMast$Sort", "isAbove", "(JJ)Z"⟩ yX2_isAbove, Cond.instanceMethod yX2_isAbove, Cond.code yX2_isAbove cX2_isAbove 5 (some .boolean), Cond.methodLink RX2 33 ⟨"WeatherMast$Sort", "place", "(J)J"⟩, Cond.sameMethod "WeatherMast$Sort" "WeatherMast$Sort" "place" "(J)J", Cond.selects RX0 ⟨"WeatherMast$Sort", "place", "(J)J"⟩ yX0_place, Cond.selects RX4 ⟨"WeatherMast$Sort", "place", "(J)J"⟩ yX4_place, Cond.instanceMethod yX4_place, Cond.code yX4_place cX4_place 3 (some .long), Cond.selects RX4 ⟨"WeatherMast$Sort", "isAbove", "(JJ)Z"⟩ yX2_isAbove]
def wsL_read : List Cond := .codeWith yL_read cL_read 6 (some .int) [(0, 10, 13, 21), (0, 10, 17, 13)] :: ((wsL_read_r1 ++ (wsL_read_r2 ++ (wsL_read_r3 ++ (wsL_read_r4 ++ (wsL_read_r5 ++ (wsL_read_r6 ++ (wsL_read_r7 ++ (wsL_read_r8 ++ (wsL_read_r9 ++ wsL_read_r10))))))))) ++ wsX10 ++ wsX50 ++ wsX00 ++ wsX40 ++ wsX30 ++ (vx_atS RX5 60 "java/lang/IndexOutOfBoundsException" ["java/lang/RuntimeException", "java/lang/Exception"]).filter goodWord ++ (vx_atS RX5 37 "java/lang/IllegalArgumentException" ["java/lang/RuntimeException", "java/lang/Exception"]).filter goodWord)
def wsL_reading_r1 : List Cond := [Cond.classLink RL 21 "java/lang/IndexOutOfBoundsException", Cond.classLink RL 37 "java/util/NoSuchElementException", Cond.methodLink RL 33 yX5_reading, Cond.instanceMethod yX5_reading, Cond.selects RX5 yX5_reading yX5_reading, Cond.initialized RX5, Cond.code yX5_reading cX5_reading 4 (some .long), Cond.classLink RX5 56 "java/lang/IndexOutOfBoundsException", Cond.initialized "java/lang/IndexOutOfBoundsException", Cond.classLink RX5 139 "java/util/NoSuchElementException", Cond.initialized "java/util/NoSuchElementException", Cond.methodLink RX5 52 yX5_findInstrument, Cond.instanceMethod yX5_findInstrument, Cond.selects RX5 yX5_findInstrument yX5_findInstrument, Cond.code yX5_findInstrument cX5_findInstrument 2 (some (.object "WeatherMast$Instrument")), Cond.fieldLink RX5 25 "WeatherMast" "instruments" "[LWeatherMast$Instrument;", Cond.methodLink RX5 136 yX1_isKept, Cond.instanceMethod yX1_isKept, Cond.selects RX1 yX1_isKept yX1_isKept, Cond.initialized RX1, Cond.code yX1_isKept cX1_isKept 2 (some .boolean), Cond.fieldLink RX1 97 "WeatherMast$Instrument" "readings" "I", Cond.methodLink RX5 144 yX1_keptAt, Cond.instanceMethod yX1_keptAt]
def wsL_reading_r2 : List Cond := [Cond.selects RX1 yX1_keptAt yX1_keptAt, Cond.code yX1_keptAt cX1_keptAt 2 (some .long), Cond.fieldLink RX1 25 "WeatherMast$Instrument" "kept" "[J"]
def wsL_reading : List Cond := .codeWith yL_reading cL_reading 5 (some .int) [(0, 9, 12, 21), (0, 9, 16, 37)] :: ((wsL_reading_r1 ++ wsL_reading_r2) ++ wsX50 ++ wsX10 ++ (vx_atS RX5 60 "java/lang/IndexOutOfBoundsException" ["java/lang/RuntimeException", "java/lang/Exception"]).filter goodWord ++ (vx_atS RX5 143 "java/util/NoSuchElementException" ["java/lang/RuntimeException", "java/lang/Exception"]).filter goodWord)
def wsL_tell_r1 : List Cond := [Cond.classLink RL 21 "java/lang/IndexOutOfBoundsException", Cond.classLink RL 13 "java/lang/IllegalArgumentException", Cond.classLink RL 37 "java/util/NoSuchElementException", Cond.methodLink RL 39 yX5_tell, Cond.instanceMethod yX5_tell, Cond.selects RX5 yX5_tell yX5_tell, Cond.initialized RX5, Cond.code yX5_tell cX5_tell 4 (some .long), Cond.classLink RX5 56 "java/lang/IndexOutOfBoundsException", Cond.initialized "java/lang/IndexOutOfBoundsException", Cond.classLink RX5 33 "java/lang/IllegalArgumentException", Cond.initialized "java/lang/IllegalArgumentException", Cond.classLink RX5 139 "java/util/NoSuchElementException", Cond.initialized "java/util/NoSuchElementException", Cond.fieldLink RX5 155 "WeatherMast$Instrument" "least" "J", Cond.fieldLink RX5 159 "WeatherMast$Instrument" "greatest" "J", Cond.fieldLink RX5 162 "WeatherMast$Instrument" "swing" "J", Cond.fieldLink RX5 165 "WeatherMast$Instrument" "sum" "J", Cond.methodLink RX5 52 yX5_findInstrument, Cond.instanceMethod yX5_findInstrument, Cond.selects RX5 yX5_findInstrument yX5_findInstrument, Cond.code yX5_findInstrument cX5_findInstrument 2 (some (.object "WeatherMast$Instrument")), Cond.fieldLink RX5 25 "WeatherMast" "instruments" "[LWeatherMast$Instrument;", Cond.methodLink RX5 150 yX1_hasRead]
def wsL_tell_r2 : List Cond := [Cond.instanceMethod yX1_hasRead, Cond.selects RX1 yX1_hasRead yX1_hasRead, Cond.initialized RX1, Cond.code yX1_hasRead cX1_hasRead 1 (some .boolean), Cond.fieldLink RX1 97 "WeatherMast$Instrument" "readings" "I"]
def wsL_tell : List Cond := .codeWith yL_tell cL_tell 5 (some .int) [(0, 9, 12, 21), (0, 9, 16, 13), (0, 9, 20, 37)] :: ((wsL_tell_r1 ++ wsL_tell_r2) ++ wsX10 ++ wsX50 ++ (vx_atS RX5 60 "java/lang/IndexOutOfBoundsException" ["java/lang/RuntimeException", "java/lang/Exception"]).filter goodWord ++ (vx_atS RX5 37 "java/lang/IllegalArgumentException" ["java/lang/RuntimeException", "java/lang/Exception"]).filter goodWord ++ (vx_atS RX5 143 "java/util/NoSuchElementException" ["java/lang/RuntimeException", "java/lang/Exception"]).filter goodWord)
def wsL_whole_r1 : List Cond := [Cond.classLink RL 21 "java/lang/IndexOutOfBoundsException", Cond.classLink RL 37 "java/util/NoSuchElementException", Cond.methodLink RL 42 yX5_whole, Cond.instanceMethod yX5_whole, Cond.selects RX5 yX5_whole yX5_whole, Cond.initialized RX5, Cond.code yX5_whole cX5_whole 3 (some .int), Cond.classLink RX5 56 "java/lang/IndexOutOfBoundsException", Cond.initialized "java/lang/IndexOutOfBoundsException", Cond.classLink RX5 139 "java/util/NoSuchElementException", Cond.initialized "java/util/NoSuchElementException", Cond.fieldLink RX5 61 "WeatherMast$Instrument" "sort" "LWeatherMast$Sort;", Cond.fieldLink RX5 168 "WeatherMast$Instrument" "latest" "J", Cond.methodLink RX5 52 yX5_findInstrument, Cond.instanceMethod yX5_findInstrument, Cond.selects RX5 yX5_findInstrument yX5_findInstrument, Cond.code yX5_findInstrument cX5_findInstrument 2 (some (.object "WeatherMast$Instrument")), Cond.fieldLink RX5 25 "WeatherMast" "instruments" "[LWeatherMast$Instrument;", Cond.methodLink RX5 150 yX1_hasRead, Cond.instanceMethod yX1_hasRead, Cond.selects RX1 yX1_hasRead yX1_hasRead, Cond.initialized RX1, Cond.code yX1_hasRead cX1_hasRead 1 (some .boolean), Cond.fieldLink RX1 97 "WeatherMast$Instrument" "readings" "I"]
def wsL_whole_r2 : List Cond := [Cond.methodLink RX5 171 ⟨"WeatherMast$Sort", "asInt", "(J)I"⟩, Cond.sameMethod "WeatherMast$Sort" "WeatherMast$Sort" "asInt" "(J)I", Cond.selects RX0 ⟨"WeatherMast$Sort", "asInt", "(J)I"⟩ yX0_asInt, Cond.instanceMethod yX0_asInt, Cond.initialized RX0, Cond.code yX0_asInt cX0_asInt 9 (some .int), Cond.fieldLink RX0 33 "WeatherMast$Floats" "one" "J", Cond.fieldLink RX0 23 "WeatherMast$Floats" "bias" "I", Cond.constant RX0 96 (-2147483648), Cond.constant RX0 97 (2147483647), Cond.fieldLink RX0 19 "WeatherMast$Floats" "fractionBits" "I", Cond.methodLink RX0 39 yX0_amount, Cond.instanceMethod yX0_amount, Cond.selects RX0 yX0_amount yX0_amount, Cond.code yX0_amount cX0_amount 3 (some .long), Cond.fieldLink RX0 43 "WeatherMast$Floats" "signBit" "J", Cond.sameField "WeatherMast$Floats" "WeatherMast$Sort" "signBit" "J", Cond.constantLong RX0 46 (-1), Cond.methodLink RX0 57 yX0_exponent, Cond.instanceMethod yX0_exponent, Cond.selects RX0 yX0_exponent yX0_exponent, Cond.code yX0_exponent cX0_exponent 3 (some .int), Cond.fieldLink RX0 26 "WeatherMast$Floats" "leadingOne" "J", Cond.methodLink RX0 89 yX0_digits]
def wsL_whole_r3 : List Cond := [Cond.instanceMethod yX0_digits, Cond.selects RX0 yX0_digits yX0_digits, Cond.code yX0_digits cX0_digits 3 (some .long), Cond.selects RX4 ⟨"WeatherMast$Sort", "asInt", "(J)I"⟩ yX4_asInt, Cond.instanceMethod yX4_asInt, Cond.initialized RX4, Cond.code yX4_asInt cX4_asInt 3 (some .int), Cond.constantLong RX4 3 (-2147483648), Cond.constantLong RX4 7 (2147483647), Cond.methodLink RX4 26 Lib.MathLoose.min_long.x, Cond.static Lib.MathLoose.min_long.x, Cond.initialized "java/lang/Math", Cond.code Lib.MathLoose.min_long.x Lib.MathLoose.min_long.code 4 (some .long), Cond.methodLink RX4 32 Lib.MathLoose.max_long.x, Cond.static Lib.MathLoose.max_long.x, Cond.code Lib.MathLoose.max_long.x Lib.MathLoose.max_long.code 4 (some .long)]
def wsL_whole : List Cond := .codeWith yL_whole cL_whole 4 (some .int) [(0, 9, 12, 21), (0, 9, 15, 37)] :: ((wsL_whole_r1 ++ (wsL_whole_r2 ++ wsL_whole_r3)) ++ wsX10 ++ wsX50 ++ wsX00 ++ wsX40 ++ (vx_atS RX5 60 "java/lang/IndexOutOfBoundsException" ["java/lang/RuntimeException", "java/lang/Exception"]).filter goodWord ++ (vx_atS RX5 143 "java/util/NoSuchElementException" ["java/lang/RuntimeException", "java/lang/Exception"]).filter goodWord)
def wsL_limits_r1 : List Cond := [Cond.classLink RL 21 "java/lang/IndexOutOfBoundsException", Cond.classLink RL 13 "java/lang/IllegalArgumentException", Cond.methodLink RL 45 yX5_limits, Cond.instanceMethod yX5_limits, Cond.selects RX5 yX5_limits yX5_limits, Cond.initialized RX5, Cond.code yX5_limits cX5_limits 11 (some .boolean), Cond.classLink RX5 56 "java/lang/IndexOutOfBoundsException", Cond.initialized "java/lang/IndexOutOfBoundsException", Cond.classLink RX5 33 "java/lang/IllegalArgumentException", Cond.initialized "java/lang/IllegalArgumentException", Cond.fieldLink RX5 61 "WeatherMast$Instrument" "sort" "LWeatherMast$Sort;", Cond.fieldLink RX5 177 "WeatherMast$Instrument" "low" "J", Cond.fieldLink RX5 180 "WeatherMast$Instrument" "high" "J", Cond.methodLink RX5 52 yX5_findInstrument, Cond.instanceMethod yX5_findInstrument, Cond.selects RX5 yX5_findInstrument yX5_findInstrument, Cond.code yX5_findInstrument cX5_findInstrument 2 (some (.object "WeatherMast$Instrument")), Cond.fieldLink RX5 25 "WeatherMast" "instruments" "[LWeatherMast$Instrument;", Cond.methodLink RX5 71 ⟨"WeatherMast$Sort", "heard", "(J)J"⟩, Cond.sameMethod "WeatherMast$Sort" "WeatherMast$Sort" "heard" "(J)J", Cond.selects RX0 ⟨"WeatherMast$Sort", "heard", "(J)J"⟩ yX2_heard, Cond.instanceMethod yX2_heard, Cond.initialized RX2]
def wsL_limits_r2 : List Cond := [Cond.code yX2_heard cX2_heard 3 (some .long), Cond.fieldLink RX2 9 "WeatherMast$Sort" "narrow" "Z", Cond.selects RX4 ⟨"WeatherMast$Sort", "heard", "(J)J"⟩ yX2_heard, Cond.methodLink RX5 78 ⟨"WeatherMast$Sort", "isNumber", "(J)Z"⟩, Cond.sameMethod "WeatherMast$Sort" "WeatherMast$Sort" "isNumber" "(J)Z", Cond.selects RX0 ⟨"WeatherMast$Sort", "isNumber", "(J)Z"⟩ yX0_isNumber, Cond.instanceMethod yX0_isNumber, Cond.initialized RX0, Cond.code yX0_isNumber cX0_isNumber 3 (some .boolean), Cond.fieldLink RX0 36 "WeatherMast$Floats" "infinity" "J", Cond.methodLink RX0 39 yX0_amount, Cond.instanceMethod yX0_amount, Cond.selects RX0 yX0_amount yX0_amount, Cond.code yX0_amount cX0_amount 3 (some .long), Cond.fieldLink RX0 43 "WeatherMast$Floats" "signBit" "J", Cond.sameField "WeatherMast$Floats" "WeatherMast$Sort" "signBit" "J", Cond.constantLong RX0 46 (-1), Cond.selects RX4 ⟨"WeatherMast$Sort", "isNumber", "(J)Z"⟩ yX4_isNumber, Cond.instanceMethod yX4_isNumber, Cond.initialized RX4, Cond.code yX4_isNumber cX4_isNumber 3 (some .boolean), Cond.methodLink RX5 183 ⟨"WeatherMast$Sort", "isAbove", "(JJ)Z"⟩, Cond.sameMethod "WeatherMast$Sort" "WeatherMast$Sort" "isAbove" "(JJ)Z", Cond.selects RX0 ⟨"WeatherMast$Sort", "isAbove", "(JJ)Z"⟩ yX2_isAbove]
def wsL_limits_r3 : List Cond := [Cond.instanceMethod yX2_isAbove, Cond.code yX2_isAbove cX2_isAbove 5 (some .boolean), Cond.methodLink RX2 33 ⟨"WeatherMast$Sort", "place", "(J)J"⟩, Cond.sameMethod "WeatherMast$Sort" "WeatherMast$Sort" "place" "(J)J", Cond.selects RX0 ⟨"WeatherMast$Sort", "place", "(J)J"⟩ yX0_place, Cond.instanceMethod yX0_place, Cond.code yX0_place cX0_place 3 (some .long), Cond.selects RX4 ⟨"WeatherMast$Sort", "place", "(J)J"⟩ yX4_place, Cond.instanceMethod yX4_place, Cond.code yX4_place cX4_place 3 (some .long), Cond.selects RX4 ⟨"WeatherMast$Sort", "isAbove", "(JJ)Z"⟩ yX2_isAbove]
def wsL_limits : List Cond := .codeWith yL_limits cL_limits 8 (some .int) [(0, 20, 23, 21), (0, 20, 27, 13)] :: ((wsL_limits_r1 ++ (wsL_limits_r2 ++ wsL_limits_r3)) ++ wsX10 ++ wsX50 ++ wsX00 ++ wsX40 ++ (vx_atS RX5 60 "java/lang/IndexOutOfBoundsException" ["java/lang/RuntimeException", "java/lang/Exception"]).filter goodWord ++ (vx_atS RX5 37 "java/lang/IllegalArgumentException" ["java/lang/RuntimeException", "java/lang/Exception"]).filter goodWord)
def wsL_widest_r1 : List Cond := [Cond.classLink RL 13 "java/lang/IllegalArgumentException", Cond.classLink RL 37 "java/util/NoSuchElementException", Cond.methodLink RL 49 yX5_widest, Cond.instanceMethod yX5_widest, Cond.selects RX5 yX5_widest yX5_widest, Cond.initialized RX5, Cond.code yX5_widest cX5_widest 10 (some .long), Cond.classLink RX5 33 "java/lang/IllegalArgumentException", Cond.initialized "java/lang/IllegalArgumentException", Cond.classLink RX5 139 "java/util/NoSuchElementException", Cond.initialized "java/util/NoSuchElementException", Cond.fieldLink RX5 25 "WeatherMast" "instruments" "[LWeatherMast$Instrument;", Cond.fieldLink RX5 104 "WeatherMast$Instrument" "sortNumber" "I", Cond.fieldLink RX5 162 "WeatherMast$Instrument" "swing" "J", Cond.methodLink RX5 29 yX5_findSort, Cond.instanceMethod yX5_findSort, Cond.selects RX5 yX5_findSort yX5_findSort, Cond.code yX5_findSort cX5_findSort 2 (some (.object "WeatherMast$Sort")), Cond.fieldLink RX5 17 "WeatherMast" "sorts" "[LWeatherMast$Sort;", Cond.methodLink RX5 150 yX1_hasRead, Cond.instanceMethod yX1_hasRead, Cond.selects RX1 yX1_hasRead yX1_hasRead, Cond.initialized RX1, Cond.code yX1_hasRead cX1_hasRead 1 (some .boolean)]
def wsL_widest_r2 : List Cond := [Cond.fieldLink RX1 97 "WeatherMast$Instrument" "readings" "I", Cond.methodLink RX5 187 ⟨"WeatherMast$Sort", "greater", "(JJ)J"⟩, Cond.sameMethod "WeatherMast$Sort" "WeatherMast$Sort" "greater" "(JJ)J", Cond.selects RX0 ⟨"WeatherMast$Sort", "greater", "(JJ)J"⟩ yX2_greater, Cond.instanceMethod yX2_greater, Cond.initialized RX2, Cond.code yX2_greater cX2_greater 5 (some .long), Cond.methodLink RX2 29 ⟨"WeatherMast$Sort", "rank", "(J)J"⟩, Cond.sameMethod "WeatherMast$Sort" "WeatherMast$Sort" "rank" "(J)J", Cond.selects RX0 ⟨"WeatherMast$Sort", "rank", "(J)J"⟩ yX0_rank, Cond.instanceMethod yX0_rank, Cond.initialized RX0, Cond.code yX0_rank cX0_rank 3 (some .long), Cond.constantLong RX0 46 (-1), Cond.methodLink RX0 39 yX0_amount, Cond.instanceMethod yX0_amount, Cond.selects RX0 yX0_amount yX0_amount, Cond.code yX0_amount cX0_amount 3 (some .long), Cond.fieldLink RX0 43 "WeatherMast$Floats" "signBit" "J", Cond.sameField "WeatherMast$Floats" "WeatherMast$Sort" "signBit" "J", Cond.selects RX4 ⟨"WeatherMast$Sort", "rank", "(J)J"⟩ yX4_rank, Cond.instanceMethod yX4_rank, Cond.initialized RX4, Cond.code yX4_rank cX4_rank 3 (some .long)]
def wsL_widest_r3 : List Cond := [Cond.selects RX4 ⟨"WeatherMast$Sort", "greater", "(JJ)J"⟩ yX2_greater]
def wsL_widest : List Cond := .codeWith yL_widest cL_widest 4 (some .int) [(0, 8, 11, 13), (0, 8, 14, 37)] :: ((wsL_widest_r1 ++ (wsL_widest_r2 ++ wsL_widest_r3)) ++ wsX50 ++ wsX10 ++ wsX00 ++ wsX40 ++ (vx_atS RX5 37 "java/lang/IllegalArgumentException" ["java/lang/RuntimeException", "java/lang/Exception"]).filter goodWord ++ (vx_atS RX5 143 "java/util/NoSuchElementException" ["java/lang/RuntimeException", "java/lang/Exception"]).filter goodWord)
def wsL_forget_r1 : List Cond := [Cond.classLink RL 21 "java/lang/IndexOutOfBoundsException", Cond.methodLink RL 53 yX5_forget, Cond.instanceMethod yX5_forget, Cond.selects RX5 yX5_forget yX5_forget, Cond.initialized RX5, Cond.code yX5_forget cX5_forget 4 (some .int), Cond.classLink RX5 56 "java/lang/IndexOutOfBoundsException", Cond.initialized "java/lang/IndexOutOfBoundsException", Cond.fieldLink RX5 193 "WeatherMast$Instrument" "readings" "I", Cond.methodLink RX5 52 yX5_findInstrument, Cond.instanceMethod yX5_findInstrument, Cond.selects RX5 yX5_findInstrument yX5_findInstrument, Cond.code yX5_findInstrument cX5_findInstrument 2 (some (.object "WeatherMast$Instrument")), Cond.fieldLink RX5 25 "WeatherMast" "instruments" "[LWeatherMast$Instrument;", Cond.methodLink RX5 196 yX1_loseReadings, Cond.instanceMethod yX1_loseReadings, Cond.selects RX1 yX1_loseReadings yX1_loseReadings, Cond.initialized RX1, Cond.code yX1_loseReadings cX1_loseReadings 1 none, Cond.fieldLink RX1 97 "WeatherMast$Instrument" "readings" "I", Cond.fieldLink RX1 78 "WeatherMast$Instrument" "latest" "J", Cond.fieldLink RX1 65 "WeatherMast$Instrument" "least" "J", Cond.fieldLink RX1 72 "WeatherMast$Instrument" "greatest" "J", Cond.fieldLink RX1 84 "WeatherMast$Instrument" "swing" "J"]
def wsL_forget_r2 : List Cond := [Cond.fieldLink RX1 87 "WeatherMast$Instrument" "sum" "J"]
def wsL_forget : List Cond := .codeWith yL_forget cL_forget 4 (some .int) [(0, 9, 12, 21)] :: ((wsL_forget_r1 ++ wsL_forget_r2) ++ wsX10 ++ wsX50 ++ (vx_atS RX5 60 "java/lang/IndexOutOfBoundsException" ["java/lang/RuntimeException", "java/lang/Exception"]).filter goodWord)
def wsL_alarms : List Cond := .codeWith yL_alarms cL_alarms 4 (some .int) [(0, 9, 12, 21)] :: ([.classLink RL 21 "java/lang/IndexOutOfBoundsException", .methodLink RL 56 yX5_alarms, .instanceMethod yX5_alarms, .selects RX5 yX5_alarms yX5_alarms, .initialized RX5, .code yX5_alarms cX5_alarms 3 (some .int), .classLink RX5 56 "java/lang/IndexOutOfBoundsException", .initialized "java/lang/IndexOutOfBoundsException", .fieldLink RX5 130 "WeatherMast$Instrument" "alarmsGiven" "I", .methodLink RX5 52 yX5_findInstrument, .instanceMethod yX5_findInstrument, .selects RX5 yX5_findInstrument yX5_findInstrument, .code yX5_findInstrument cX5_findInstrument 2 (some (.object "WeatherMast$Instrument")), .fieldLink RX5 25 "WeatherMast" "instruments" "[LWeatherMast$Instrument;"] ++ wsX10 ++ wsX50 ++ (vx_atS RX5 60 "java/lang/IndexOutOfBoundsException" ["java/lang/RuntimeException", "java/lang/Exception"]).filter goodWord)
def wsL_law0_r1 : List Cond := [Cond.classLink RL 8 RX5, Cond.instantiable RX5 6, Cond.initialized RX5, Cond.classLink RL 60 RX6, Cond.instantiable RX6 19, Cond.initialized RX6, Cond.arrayClass .long, Cond.constantLong RL 73 (4294967295), Cond.methodLink RL 59 yX5_init, Cond.instanceMethod yX5_init, Cond.code yX5_init cX5_init 1 none, Cond.methodLink RX5 1 objectInit, Cond.instanceMethod objectInit, Cond.code objectInit ⟨#[0xb1]⟩ 1 none, Cond.classLink RX5 7 RX2, Cond.classLink RX5 9 RX4, Cond.instantiable RX4 4, Cond.initialized RX4, Cond.classLink RX5 14 RX0, Cond.instantiable RX0 10, Cond.initialized RX0, Cond.fieldLink RX5 17 "WeatherMast" "sorts" "[LWeatherMast$Sort;", Cond.classLink RX5 23 RX1, Cond.fieldLink RX5 25 "WeatherMast" "instruments" "[LWeatherMast$Instrument;"]
def wsL_law0_r2 : List Cond := [Cond.methodLink RX5 11 yX4_init, Cond.instanceMethod yX4_init, Cond.code yX4_init cX4_init 2 none, Cond.constantLong RX4 3 (-2147483648), Cond.constantLong RX4 5 (-9223372036854775808), Cond.constantLong RX4 7 (2147483647), Cond.constantLong RX4 9 (9223372036854775807), Cond.methodLink RX4 11 yX2_init, Cond.instanceMethod yX2_init, Cond.initialized RX2, Cond.code yX2_init cX2_init 6 none, Cond.methodLink RX2 3 objectInit, Cond.fieldLink RX2 9 "WeatherMast$Sort" "narrow" "Z", Cond.constantLong RX2 15 (-2147483648), Cond.constantLong RX2 17 (-9223372036854775808), Cond.fieldLink RX2 19 "WeatherMast$Sort" "signBit" "J", Cond.fieldLink RX2 23 "WeatherMast$Sort" "lowest" "J", Cond.fieldLink RX2 26 "WeatherMast$Sort" "highest" "J", Cond.methodLink RX5 16 yX0_init, Cond.instanceMethod yX0_init, Cond.code yX0_init cX0_init 2 none, Cond.constantLong RX0 5 (-8388608), Cond.constantLong RX0 7 (-4503599627370496), Cond.constantLong RX0 9 (2139095040)]
def wsL_law0_r3 : List Cond := [Cond.constantLong RX0 11 (9218868437227405312), Cond.fieldLink RX0 19 "WeatherMast$Floats" "fractionBits" "I", Cond.fieldLink RX0 23 "WeatherMast$Floats" "bias" "I", Cond.fieldLink RX0 26 "WeatherMast$Floats" "leadingOne" "J", Cond.fieldLink RX0 30 "WeatherMast$Floats" "half" "J", Cond.fieldLink RX0 33 "WeatherMast$Floats" "one" "J", Cond.fieldLink RX0 36 "WeatherMast$Floats" "infinity" "J", Cond.methodLink RX0 13 yX2_init, Cond.methodLink RL 62 yX6_init, Cond.instanceMethod yX6_init, Cond.code yX6_init cX6_init 1 none, Cond.methodLink RX6 1 objectInit, Cond.arrayClass .int, Cond.fieldLink RX6 7 "WeatherMastModel" "sorts" "[I", Cond.fieldLink RX6 13 "WeatherMastModel" "chains" "[I", Cond.fieldLink RX6 16 "WeatherMastModel" "steps" "[I", Cond.fieldLink RX6 19 "WeatherMastModel" "sources" "[I", Cond.fieldLink RX6 22 "WeatherMastModel" "told" "[J", Cond.fieldLink RX6 26 "WeatherMastModel" "lows" "[J", Cond.fieldLink RX6 29 "WeatherMastModel" "highs" "[J", Cond.fieldLink RX6 32 "WeatherMastModel" "many" "[I", Cond.fieldLink RX6 35 "WeatherMastModel" "kept" "[J", Cond.fieldLink RX6 38 "WeatherMastModel" "leasts" "[J", Cond.fieldLink RX6 41 "WeatherMastModel" "greatests" "[J"]
def wsL_law0_r4 : List Cond := [Cond.fieldLink RX6 44 "WeatherMastModel" "swings" "[J", Cond.fieldLink RX6 47 "WeatherMastModel" "sums" "[J", Cond.fieldLink RX6 50 "WeatherMastModel" "alarms" "[I", Cond.methodLink RL 63 yL_mount, Cond.static yL_mount, Cond.initialized RL, Cond.codeWith yL_mount cL_mount 4 (some .int) [(0, 9, 12, 13), (0, 9, 15, 15)], Cond.classLink RL 13 "java/lang/IllegalArgumentException", Cond.classLink RL 15 "java/lang/UnsupportedOperationException", Cond.methodLink RL 7 yX5_mount, Cond.instanceMethod yX5_mount, Cond.selects RX5 yX5_mount yX5_mount, Cond.code yX5_mount cX5_mount 4 (some .int), Cond.classLink RX5 33 "java/lang/IllegalArgumentException", Cond.initialized "java/lang/IllegalArgumentException", Cond.classLink RX5 44 "java/lang/UnsupportedOperationException", Cond.initialized "java/lang/UnsupportedOperationException", Cond.fieldLink RX5 40 "WeatherMast" "mounted" "I", Cond.instantiable RX1 14, Cond.initialized RX1, Cond.methodLink RX5 29 yX5_findSort, Cond.instanceMethod yX5_findSort, Cond.selects RX5 yX5_findSort yX5_findSort, Cond.code yX5_findSort cX5_findSort 2 (some (.object "WeatherMast$Sort"))]
def wsL_law0_r5 : List Cond := [Cond.methodLink RX5 49 yX1_init, Cond.instanceMethod yX1_init, Cond.code yX1_init cX1_init 3 none, Cond.methodLink RX1 3 objectInit, Cond.fieldLink RX1 9 "WeatherMast$Instrument" "sortNumber" "I", Cond.fieldLink RX1 15 "WeatherMast$Instrument" "sort" "LWeatherMast$Sort;", Cond.classLink RX1 19 RX3, Cond.fieldLink RX1 21 "WeatherMast$Instrument" "chain" "[LWeatherMast$Step;", Cond.fieldLink RX1 25 "WeatherMast$Instrument" "kept" "[J", Cond.fieldLink RX1 29 "WeatherMast$Sort" "lowest" "J", Cond.fieldLink RX1 35 "WeatherMast$Instrument" "low" "J", Cond.fieldLink RX1 38 "WeatherMast$Sort" "highest" "J", Cond.fieldLink RX1 41 "WeatherMast$Instrument" "high" "J", Cond.methodLink RL 68 yX6_mount, Cond.instanceMethod yX6_mount, Cond.selects RX6 yX6_mount yX6_mount, Cond.code yX6_mount cX6_mount 3 (some .int), Cond.fieldLink RX6 53 "WeatherMastModel" "thrown" "I", Cond.fieldLink RX6 57 "WeatherMastModel" "instruments" "I", Cond.constantLong RX6 164 (-2147483648), Cond.constantLong RX6 62 (-9223372036854775808), Cond.constantLong RX6 166 (2147483647), Cond.constantLong RX6 168 (9223372036854775807), Cond.methodLink RX6 161 yX6_fail]
def wsL_law0_r6 : List Cond := [Cond.instanceMethod yX6_fail, Cond.selects RX6 yX6_fail yX6_fail, Cond.code yX6_fail cX6_fail 2 (some .int), Cond.methodLink RX6 94 yX6_endless, Cond.static yX6_endless, Cond.code yX6_endless cX6_endless 1 (some .long), Cond.constantLong RX6 64 (2139095040), Cond.constantLong RX6 66 (9218868437227405312), Cond.methodLink RX6 114 yX6_signed, Cond.static yX6_signed, Cond.code yX6_signed cX6_signed 4 (some .long), Cond.methodLink RX6 78 yX6_signBit, Cond.static yX6_signBit, Cond.code yX6_signBit cX6_signBit 1 (some .long), Cond.constantLong RX6 60 (2147483648), Cond.methodLink RX6 88 yX6_cut, Cond.static yX6_cut, Cond.code yX6_cut cX6_cut 3 (some .long), Cond.methodLink RL 69 yX6_thrown, Cond.instanceMethod yX6_thrown, Cond.selects RX6 yX6_thrown yX6_thrown, Cond.code yX6_thrown cX6_thrown 1 (some .int), Cond.methodLink RL 75 yL_step, Cond.static yL_step]
def wsL_law0_r7 : List Cond := [Cond.codeWith yL_step cL_step 7 (some .int) [(0, 12, 15, 21), (0, 12, 19, 13), (0, 12, 23, 23)], Cond.classLink RL 21 "java/lang/IndexOutOfBoundsException", Cond.classLink RL 23 "java/lang/IllegalStateException", Cond.methodLink RL 17 yX5_step, Cond.instanceMethod yX5_step, Cond.selects RX5 yX5_step yX5_step, Cond.code yX5_step cX5_step 8 (some .int), Cond.classLink RX5 56 "java/lang/IndexOutOfBoundsException", Cond.initialized "java/lang/IndexOutOfBoundsException", Cond.classLink RX5 88 "java/lang/IllegalStateException", Cond.initialized "java/lang/IllegalStateException", Cond.fieldLink RX5 61 "WeatherMast$Instrument" "sort" "LWeatherMast$Sort;", Cond.classLink RX5 93 RX3, Cond.instantiable RX3 3, Cond.initialized RX3, Cond.methodLink RX5 52 yX5_findInstrument, Cond.instanceMethod yX5_findInstrument, Cond.selects RX5 yX5_findInstrument yX5_findInstrument, Cond.code yX5_findInstrument cX5_findInstrument 2 (some (.object "WeatherMast$Instrument")), Cond.methodLink RX5 65 ⟨"WeatherMast$Sort", "hasStep", "(I)Z"⟩, Cond.sameMethod "WeatherMast$Sort" "WeatherMast$Sort" "hasStep" "(I)Z", Cond.selects RX0 ⟨"WeatherMast$Sort", "hasStep", "(I)Z"⟩ yX0_hasStep, Cond.instanceMethod yX0_hasStep, Cond.code yX0_hasStep cX0_hasStep 2 (some .boolean)]
def wsL_law0_r8 : List Cond := [Cond.selects RX4 ⟨"WeatherMast$Sort", "hasStep", "(I)Z"⟩ yX4_hasStep, Cond.instanceMethod yX4_hasStep, Cond.code yX4_hasStep cX4_hasStep 2 (some .boolean), Cond.methodLink RX5 71 ⟨"WeatherMast$Sort", "heard", "(J)J"⟩, Cond.sameMethod "WeatherMast$Sort" "WeatherMast$Sort" "heard" "(J)J", Cond.selects RX0 ⟨"WeatherMast$Sort", "heard", "(J)J"⟩ yX2_heard, Cond.instanceMethod yX2_heard, Cond.code yX2_heard cX2_heard 3 (some .long), Cond.selects RX4 ⟨"WeatherMast$Sort", "heard", "(J)J"⟩ yX2_heard, Cond.methodLink RX5 75 yX5_takesK, Cond.static yX5_takesK, Cond.code yX5_takesK cX5_takesK 1 (some .boolean), Cond.methodLink RX5 78 ⟨"WeatherMast$Sort", "isNumber", "(J)Z"⟩, Cond.sameMethod "WeatherMast$Sort" "WeatherMast$Sort" "isNumber" "(J)Z", Cond.selects RX0 ⟨"WeatherMast$Sort", "isNumber", "(J)Z"⟩ yX0_isNumber, Cond.instanceMethod yX0_isNumber, Cond.code yX0_isNumber cX0_isNumber 3 (some .boolean), Cond.methodLink RX0 39 yX0_amount, Cond.instanceMethod yX0_amount, Cond.selects RX0 yX0_amount yX0_amount, Cond.code yX0_amount cX0_amount 3 (some .long), Cond.fieldLink RX0 43 "WeatherMast$Floats" "signBit" "J", Cond.sameField "WeatherMast$Floats" "WeatherMast$Sort" "signBit" "J", Cond.constantLong RX0 46 (-1)]
def wsL_law0_r9 : List Cond := [Cond.selects RX4 ⟨"WeatherMast$Sort", "isNumber", "(J)Z"⟩ yX4_isNumber, Cond.instanceMethod yX4_isNumber, Cond.code yX4_isNumber cX4_isNumber 3 (some .boolean), Cond.methodLink RX5 84 yX1_isChainFull, Cond.instanceMethod yX1_isChainFull, Cond.selects RX1 yX1_isChainFull yX1_isChainFull, Cond.code yX1_isChainFull cX1_isChainFull 1 (some .boolean), Cond.fieldLink RX1 44 "WeatherMast$Instrument" "steps" "I", Cond.methodLink RX5 95 yX3_init, Cond.instanceMethod yX3_init, Cond.code yX3_init cX3_init 5 none, Cond.methodLink RX3 1 objectInit, Cond.fieldLink RX3 7 "WeatherMast$Step" "number" "I", Cond.fieldLink RX3 13 "WeatherMast$Step" "told" "J", Cond.fieldLink RX3 17 "WeatherMast$Step" "followed" "LWeatherMast$Instrument;", Cond.methodLink RX5 98 yX1_lengthenChain, Cond.instanceMethod yX1_lengthenChain, Cond.selects RX1 yX1_lengthenChain yX1_lengthenChain, Cond.code yX1_lengthenChain cX1_lengthenChain 2 (some .int), Cond.methodLink RX1 47 yX1_isChainFull, Cond.methodLink RL 78 yX6_step, Cond.instanceMethod yX6_step, Cond.selects RX6 yX6_step yX6_step, Cond.code yX6_step cX6_step 6 (some .int)]
def wsL_law0_r10 : List Cond := [Cond.methodLink RX6 170 yX6_isInstrument, Cond.instanceMethod yX6_isInstrument, Cond.selects RX6 yX6_isInstrument yX6_isInstrument, Cond.code yX6_isInstrument cX6_isInstrument 2 (some .boolean), Cond.methodLink RX6 173 yX6_isStep, Cond.static yX6_isStep, Cond.code yX6_isStep cX6_isStep 2 (some .boolean), Cond.methodLink RX6 84 yX6_isReal, Cond.static yX6_isReal, Cond.code yX6_isReal cX6_isReal 1 (some .boolean), Cond.methodLink RX6 177 yX6_takes, Cond.static yX6_takes, Cond.code yX6_takes cX6_takes 1 (some .boolean), Cond.methodLink RX6 180 yX6_isNone, Cond.static yX6_isNone, Cond.code yX6_isNone cX6_isNone 3 (some .boolean), Cond.methodLink RX6 91 yX6_amountBits, Cond.static yX6_amountBits, Cond.code yX6_amountBits cX6_amountBits 3 (some .long), Cond.constantLong RX6 82 (-1), Cond.methodLink RX6 74 yX6_form, Cond.static yX6_form, Cond.code yX6_form cX6_form 3 (some .long), Cond.constantLong RX6 72 (4294967295)]
def wsL_law0_r11 : List Cond := [Cond.methodLink RX6 183 yX6_link, Cond.instanceMethod yX6_link, Cond.selects RX6 yX6_link yX6_link, Cond.code yX6_link cX6_link 7 (some .int), Cond.methodLink RL 79 yL_follow, Cond.static yL_follow, Cond.codeWith yL_follow cL_follow 6 (some .int) [(0, 12, 15, 21), (0, 12, 19, 13), (0, 12, 23, 23)], Cond.methodLink RL 25 yX5_follow, Cond.instanceMethod yX5_follow, Cond.selects RX5 yX5_follow yX5_follow, Cond.code yX5_follow cX5_follow 6 (some .int), Cond.fieldLink RX5 104 "WeatherMast$Instrument" "sortNumber" "I", Cond.methodLink RL 82 yX6_follow, Cond.instanceMethod yX6_follow, Cond.selects RX6 yX6_follow yX6_follow, Cond.code yX6_follow cX6_follow 4 (some .int), Cond.methodLink RL 83 yL_read, Cond.static yL_read, Cond.codeWith yL_read cL_read 6 (some .int) [(0, 10, 13, 21), (0, 10, 17, 13)], Cond.methodLink RL 29 yX5_read, Cond.instanceMethod yX5_read, Cond.selects RX5 yX5_read yX5_read, Cond.code yX5_read cX5_read 9 (some .long), Cond.fieldLink RX5 118 "WeatherMast" "readingsEver" "I"]
def wsL_law0_r12 : List Cond := [Cond.fieldLink RX5 121 "WeatherMast" "stepsEver" "I", Cond.fieldLink RX5 124 "WeatherMast$Instrument" "steps" "I", Cond.fieldLink RX5 130 "WeatherMast$Instrument" "alarmsGiven" "I", Cond.fieldLink RX5 133 "WeatherMast" "alarmsEver" "I", Cond.methodLink RX5 111 yX1_throughChain, Cond.instanceMethod yX1_throughChain, Cond.selects RX1 yX1_throughChain yX1_throughChain, Cond.code yX1_throughChain cX1_throughChain 9 (some .long), Cond.fieldLink RX1 51 "WeatherMast$Step" "number" "I", Cond.methodLink RX1 54 yX3_currentK, Cond.instanceMethod yX3_currentK, Cond.selects RX3 yX3_currentK yX3_currentK, Cond.code yX3_currentK cX3_currentK 1 (some .long), Cond.fieldLink RX3 21 "WeatherMast$Instrument" "latest" "J", Cond.methodLink RX1 58 ⟨"WeatherMast$Sort", "afterStep", "(IJJ)J"⟩, Cond.sameMethod "WeatherMast$Sort" "WeatherMast$Sort" "afterStep" "(IJJ)J", Cond.selects RX0 ⟨"WeatherMast$Sort", "afterStep", "(IJJ)J"⟩ yX2_afterStep, Cond.instanceMethod yX2_afterStep, Cond.code yX2_afterStep cX2_afterStep 6 (some .long), Cond.methodLink RX2 36 ⟨"WeatherMast$Sort", "amount", "(J)J"⟩, Cond.sameMethod "WeatherMast$Sort" "WeatherMast$Sort" "amount" "(J)J", Cond.selects RX0 ⟨"WeatherMast$Sort", "amount", "(J)J"⟩ yX0_amount, Cond.selects RX4 ⟨"WeatherMast$Sort", "amount", "(J)J"⟩ yX4_amount, Cond.instanceMethod yX4_amount]
def wsL_law0_r13 : List Cond := [Cond.code yX4_amount cX4_amount 3 (some .long), Cond.methodLink RX4 17 ⟨"WeatherMast$Wholes", "heard", "(J)J"⟩, Cond.sameMethod "WeatherMast$Wholes" "WeatherMast$Sort" "heard" "(J)J", Cond.selects RX4 ⟨"WeatherMast$Wholes", "heard", "(J)J"⟩ yX2_heard, Cond.methodLink RX2 39 ⟨"WeatherMast$Sort", "greater", "(JJ)J"⟩, Cond.sameMethod "WeatherMast$Sort" "WeatherMast$Sort" "greater" "(JJ)J", Cond.selects RX0 ⟨"WeatherMast$Sort", "greater", "(JJ)J"⟩ yX2_greater, Cond.instanceMethod yX2_greater, Cond.code yX2_greater cX2_greater 5 (some .long), Cond.methodLink RX2 29 ⟨"WeatherMast$Sort", "rank", "(J)J"⟩, Cond.sameMethod "WeatherMast$Sort" "WeatherMast$Sort" "rank" "(J)J", Cond.selects RX0 ⟨"WeatherMast$Sort", "rank", "(J)J"⟩ yX0_rank, Cond.instanceMethod yX0_rank, Cond.code yX0_rank cX0_rank 3 (some .long), Cond.selects RX4 ⟨"WeatherMast$Sort", "rank", "(J)J"⟩ yX4_rank, Cond.instanceMethod yX4_rank, Cond.code yX4_rank cX4_rank 3 (some .long), Cond.selects RX4 ⟨"WeatherMast$Sort", "greater", "(JJ)J"⟩ yX2_greater, Cond.methodLink RX2 43 ⟨"WeatherMast$Sort", "lesser", "(JJ)J"⟩, Cond.sameMethod "WeatherMast$Sort" "WeatherMast$Sort" "lesser" "(JJ)J", Cond.selects RX0 ⟨"WeatherMast$Sort", "lesser", "(JJ)J"⟩ yX2_lesser, Cond.instanceMethod yX2_lesser, Cond.code yX2_lesser cX2_lesser 5 (some .long), Cond.selects RX4 ⟨"WeatherMast$Sort", "lesser", "(JJ)J"⟩ yX2_lesser]
def wsL_law0_r14 : List Cond := [Cond.methodLink RX2 46 ⟨"WeatherMast$Sort", "afterFurtherStep", "(IJJ)J"⟩, Cond.sameMethod "WeatherMast$Sort" "WeatherMast$Sort" "afterFurtherStep" "(IJJ)J", Cond.selects RX0 ⟨"WeatherMast$Sort", "afterFurtherStep", "(IJJ)J"⟩ yX0_afterFurtherStep, Cond.instanceMethod yX0_afterFurtherStep, Cond.code yX0_afterFurtherStep cX0_afterFurtherStep 6 (some .long), Cond.methodLink RX0 98 yX0_wholeNotBelow, Cond.instanceMethod yX0_wholeNotBelow, Cond.selects RX0 yX0_wholeNotBelow yX0_wholeNotBelow, Cond.code yX0_wholeNotBelow cX0_wholeNotBelow 5 (some .long), Cond.methodLink RX0 101 yX0_wholeNotAbove, Cond.instanceMethod yX0_wholeNotAbove, Cond.selects RX0 yX0_wholeNotAbove yX0_wholeNotAbove, Cond.code yX0_wholeNotAbove cX0_wholeNotAbove 4 (some .long), Cond.methodLink RX0 110 yX0_bitsBehindPoint, Cond.instanceMethod yX0_bitsBehindPoint, Cond.selects RX0 yX0_bitsBehindPoint yX0_bitsBehindPoint, Cond.code yX0_bitsBehindPoint cX0_bitsBehindPoint 4 (some .int), Cond.methodLink RX0 104 yX0_withSignOf, Cond.instanceMethod yX0_withSignOf, Cond.selects RX0 yX0_withSignOf yX0_withSignOf, Cond.code yX0_withSignOf cX0_withSignOf 5 (some .long), Cond.methodLink RX0 107 yX0_wholeNearest, Cond.instanceMethod yX0_wholeNearest, Cond.selects RX0 yX0_wholeNearest yX0_wholeNearest]
def wsL_law0_r15 : List Cond := [Cond.code yX0_wholeNearest cX0_wholeNearest 11 (some .long), Cond.constantLong RX0 113 (2), Cond.selects RX4 ⟨"WeatherMast$Sort", "afterFurtherStep", "(IJJ)J"⟩ yX4_afterFurtherStep, Cond.instanceMethod yX4_afterFurtherStep, Cond.code yX4_afterFurtherStep cX4_afterFurtherStep 6 (some .long), Cond.selects RX4 ⟨"WeatherMast$Sort", "afterStep", "(IJJ)J"⟩ yX2_afterStep, Cond.methodLink RX5 114 yX1_keep, Cond.instanceMethod yX1_keep, Cond.selects RX1 yX1_keep yX1_keep, Cond.code yX1_keep cX1_keep 4 none, Cond.fieldLink RX1 65 "WeatherMast$Instrument" "least" "J", Cond.fieldLink RX1 72 "WeatherMast$Instrument" "greatest" "J", Cond.fieldLink RX1 78 "WeatherMast$Instrument" "latest" "J", Cond.fieldLink RX1 84 "WeatherMast$Instrument" "swing" "J", Cond.fieldLink RX1 87 "WeatherMast$Instrument" "sum" "J", Cond.fieldLink RX1 97 "WeatherMast$Instrument" "readings" "I", Cond.methodLink RX1 62 yX1_hasRead, Cond.instanceMethod yX1_hasRead, Cond.selects RX1 yX1_hasRead yX1_hasRead, Cond.code yX1_hasRead cX1_hasRead 1 (some .boolean), Cond.methodLink RX1 68 ⟨"WeatherMast$Sort", "lesser", "(JJ)J"⟩, Cond.methodLink RX1 75 ⟨"WeatherMast$Sort", "greater", "(JJ)J"⟩, Cond.methodLink RX1 81 ⟨"WeatherMast$Sort", "apart", "(JJ)J"⟩, Cond.sameMethod "WeatherMast$Sort" "WeatherMast$Sort" "apart" "(JJ)J"]
def wsL_law0_r16 : List Cond := [Cond.selects RX0 ⟨"WeatherMast$Sort", "apart", "(JJ)J"⟩ yX0_apart, Cond.instanceMethod yX0_apart, Cond.code yX0_apart cX0_apart 6 (some .long), Cond.methodLink RX0 72 yX0_place, Cond.instanceMethod yX0_place, Cond.selects RX0 yX0_place yX0_place, Cond.code yX0_place cX0_place 3 (some .long), Cond.methodLink RX0 75 yX0_addAmounts, Cond.instanceMethod yX0_addAmounts, Cond.selects RX0 yX0_addAmounts yX0_addAmounts, Cond.code yX0_addAmounts cX0_addAmounts 13 (some .long), Cond.methodLink RX0 48 Lib.MathLoose.max_long.x, Cond.static Lib.MathLoose.max_long.x, Cond.initialized "java/lang/Math", Cond.code Lib.MathLoose.max_long.x Lib.MathLoose.max_long.code 4 (some .long), Cond.methodLink RX0 54 Lib.MathLoose.min_long.x, Cond.static Lib.MathLoose.min_long.x, Cond.code Lib.MathLoose.min_long.x Lib.MathLoose.min_long.code 4 (some .long), Cond.methodLink RX0 57 yX0_exponent, Cond.instanceMethod yX0_exponent, Cond.selects RX0 yX0_exponent yX0_exponent, Cond.code yX0_exponent cX0_exponent 3 (some .int), Cond.methodLink RX0 61 yX0_guardedDigits, Cond.instanceMethod yX0_guardedDigits]
def wsL_law0_r17 : List Cond := [Cond.selects RX0 yX0_guardedDigits yX0_guardedDigits, Cond.code yX0_guardedDigits cX0_guardedDigits 3 (some .long), Cond.methodLink RX0 89 yX0_digits, Cond.instanceMethod yX0_digits, Cond.selects RX0 yX0_digits yX0_digits, Cond.code yX0_digits cX0_digits 3 (some .long), Cond.methodLink RX0 64 yX0_shiftedDown, Cond.static yX0_shiftedDown, Cond.code yX0_shiftedDown cX0_shiftedDown 5 (some .long), Cond.methodLink RX0 68 yX0_rounded, Cond.instanceMethod yX0_rounded, Cond.selects RX0 yX0_rounded yX0_rounded, Cond.code yX0_rounded cX0_rounded 9 (some .long), Cond.constantLong RX0 92 (7), Cond.constantLong RX0 94 (4), Cond.methodLink RX0 78 yX0_differenceOfAmounts, Cond.instanceMethod yX0_differenceOfAmounts, Cond.selects RX0 yX0_differenceOfAmounts yX0_differenceOfAmounts, Cond.code yX0_differenceOfAmounts cX0_differenceOfAmounts 14 (some .long), Cond.methodLink RX0 86 Lib.Math.min.name, Cond.static Lib.Math.min.name, Cond.code Lib.Math.min.name Lib.Math.min.code 2 (some .int), Cond.methodLink RX0 81 yJ13_numberOfLeadingZeros_95d88, Cond.static yJ13_numberOfLeadingZeros_95d88]
def wsL_law0_r18 : List Cond := [Cond.initialized RJ13, Cond.code yJ13_numberOfLeadingZeros_95d88 cJ13_numberOfLeadingZeros_95d88 3 (some .int), Cond.methodLink RJ13 308 yJ6_numberOfLeadingZeros_0f7a4, Cond.static yJ6_numberOfLeadingZeros_0f7a4, Cond.initialized RJ6, Cond.code yJ6_numberOfLeadingZeros_0f7a4 cJ6_numberOfLeadingZeros_0f7a4 2 (some .int), Cond.constant RJ6 264 (65536), Cond.selects RX4 ⟨"WeatherMast$Sort", "apart", "(JJ)J"⟩ yX4_apart, Cond.instanceMethod yX4_apart, Cond.code yX4_apart cX4_apart 5 (some .long), Cond.methodLink RX4 23 yX4_amount, Cond.selects RX4 yX4_amount yX4_amount, Cond.methodLink RX1 90 ⟨"WeatherMast$Sort", "amount", "(J)J"⟩, Cond.methodLink RX1 94 ⟨"WeatherMast$Sort", "addAmounts", "(JJ)J"⟩, Cond.sameMethod "WeatherMast$Sort" "WeatherMast$Sort" "addAmounts" "(JJ)J", Cond.selects RX0 ⟨"WeatherMast$Sort", "addAmounts", "(JJ)J"⟩ yX0_addAmounts, Cond.selects RX4 ⟨"WeatherMast$Sort", "addAmounts", "(JJ)J"⟩ yX4_addAmounts, Cond.instanceMethod yX4_addAmounts, Cond.code yX4_addAmounts cX4_addAmounts 5 (some .long), Cond.methodLink RX5 127 yX1_isBeyondLimits, Cond.instanceMethod yX1_isBeyondLimits, Cond.selects RX1 yX1_isBeyondLimits yX1_isBeyondLimits, Cond.code yX1_isBeyondLimits cX1_isBeyondLimits 3 (some .boolean), Cond.methodLink RX1 100 ⟨"WeatherMast$Sort", "isAbove", "(JJ)Z"⟩]
def wsL_law0_r19 : List Cond := [Cond.sameMethod "WeatherMast$Sort" "WeatherMast$Sort" "isAbove" "(JJ)Z", Cond.selects RX0 ⟨"WeatherMast$Sort", "isAbove", "(JJ)Z"⟩ yX2_isAbove, Cond.instanceMethod yX2_isAbove, Cond.code yX2_isAbove cX2_isAbove 5 (some .boolean), Cond.methodLink RX2 33 ⟨"WeatherMast$Sort", "place", "(J)J"⟩, Cond.sameMethod "WeatherMast$Sort" "WeatherMast$Sort" "place" "(J)J", Cond.selects RX0 ⟨"WeatherMast$Sort", "place", "(J)J"⟩ yX0_place, Cond.selects RX4 ⟨"WeatherMast$Sort", "place", "(J)J"⟩ yX4_place, Cond.instanceMethod yX4_place, Cond.code yX4_place cX4_place 3 (some .long), Cond.selects RX4 ⟨"WeatherMast$Sort", "isAbove", "(JJ)Z"⟩ yX2_isAbove, Cond.methodLink RL 86 yX6_read, Cond.instanceMethod yX6_read, Cond.selects RX6 yX6_read yX6_read, Cond.code yX6_read cX6_read 9 (some .long), Cond.fieldLink RX6 210 "WeatherMastModel" "readings" "I", Cond.fieldLink RX6 213 "WeatherMastModel" "allAlarms" "I", Cond.methodLink RX6 201 yX6_through, Cond.instanceMethod yX6_through, Cond.selects RX6 yX6_through yX6_through, Cond.code yX6_through cX6_through 9 (some .long), Cond.fieldLink RX6 198 "WeatherMastModel" "done" "I", Cond.methodLink RX6 191 yX6_latest, Cond.instanceMethod yX6_latest]
def wsL_law0_r20 : List Cond := [Cond.selects RX6 yX6_latest yX6_latest, Cond.code yX6_latest cX6_latest 2 (some .long), Cond.methodLink RX6 194 yX6_changed, Cond.static yX6_changed, Cond.code yX6_changed cX6_changed 6 (some .long), Cond.methodLink RX6 120 yX6_amount, Cond.static yX6_amount, Cond.code yX6_amount cX6_amount 3 (some .long), Cond.methodLink RX6 123 yX6_greater, Cond.static yX6_greater, Cond.code yX6_greater cX6_greater 5 (some .long), Cond.methodLink RX6 101 yX6_rank, Cond.static yX6_rank, Cond.code yX6_rank cX6_rank 5 (some .long), Cond.methodLink RX6 97 yX6_isMinus, Cond.static yX6_isMinus, Cond.code yX6_isMinus cX6_isMinus 3 (some .boolean), Cond.methodLink RX6 127 yX6_lesser, Cond.static yX6_lesser, Cond.code yX6_lesser cX6_lesser 5 (some .long), Cond.methodLink RX6 111 yX6_one, Cond.static yX6_one, Cond.code yX6_one cX6_one 1 (some .long), Cond.constantLong RX6 68 (1065353216)]
def wsL_law0_r21 : List Cond := [Cond.constantLong RX6 70 (4607182418800017408), Cond.methodLink RX6 130 yX6_toWhole, Cond.static yX6_toWhole, Cond.code yX6_toWhole cX6_toWhole 16 (some .long), Cond.constantLong RX6 118 (2), Cond.methodLink RX6 107 yX6_places, Cond.static yX6_places, Cond.code yX6_places cX6_places 1 (some .int), Cond.methodLink RX6 204 yX6_swing, Cond.static yX6_swing, Cond.code yX6_swing cX6_swing 5 (some .long), Cond.methodLink RX6 104 yX6_height, Cond.static yX6_height, Cond.code yX6_height cX6_height 3 (some .long), Cond.methodLink RX6 146 yX6_single, Cond.static yX6_single, Cond.code yX6_single cX6_single 2 (some .float), Cond.methodLink RX6 134 ⟨"java/lang/Float", "intBitsToFloat", "(I)F"⟩, Cond.native ⟨"java/lang/Float", "intBitsToFloat", "(I)F"⟩, Cond.static ⟨"java/lang/Float", "intBitsToFloat", "(I)F"⟩, Cond.initialized "java/lang/Float", Cond.methodLink RX6 150 yJxf58ca_floatToIntBits_5c35a, Cond.static yJxf58ca_floatToIntBits_5c35a, Cond.initialized RJxf58ca]
def wsL_law0_r22 : List Cond := [Cond.code yJxf58ca_floatToIntBits_5c35a cJxf58ca_floatToIntBits_5c35a 1 (some .int), Cond.methodLink RJxf58ca 74 ⟨"java/lang/Float", "floatToRawIntBits", "(F)I"⟩, Cond.native ⟨"java/lang/Float", "floatToRawIntBits", "(F)I"⟩, Cond.static ⟨"java/lang/Float", "floatToRawIntBits", "(F)I"⟩, Cond.constant RJxf58ca 77 (2143289344), Cond.methodLink RJxf58ca 59 yJxf58ca_isNaN_12338, Cond.static yJxf58ca_isNaN_12338, Cond.code yJxf58ca_isNaN_12338 cJxf58ca_isNaN_12338 1 (some .boolean), Cond.methodLink RX6 154 yX6_real, Cond.static yX6_real, Cond.code yX6_real cX6_real 2 (some .double), Cond.methodLink RX6 140 ⟨"java/lang/Double", "longBitsToDouble", "(J)D"⟩, Cond.native ⟨"java/lang/Double", "longBitsToDouble", "(J)D"⟩, Cond.static ⟨"java/lang/Double", "longBitsToDouble", "(J)D"⟩, Cond.initialized "java/lang/Double", Cond.methodLink RX6 157 yJxe99ae_doubleToLongBits_ccdee, Cond.static yJxe99ae_doubleToLongBits_ccdee, Cond.initialized RJxe99ae, Cond.code yJxe99ae_doubleToLongBits_ccdee cJxe99ae_doubleToLongBits_ccdee 2 (some .long), Cond.methodLink RJxe99ae 134 ⟨"java/lang/Double", "doubleToRawLongBits", "(D)J"⟩, Cond.native ⟨"java/lang/Double", "doubleToRawLongBits", "(D)J"⟩, Cond.static ⟨"java/lang/Double", "doubleToRawLongBits", "(D)J"⟩, Cond.constantLong RJxe99ae 137 (9221120237041090560), Cond.methodLink RJxe99ae 122 yJxe99ae_isNaN_b9ae7]
def wsL_law0_r23 : List Cond := [Cond.static yJxe99ae_isNaN_b9ae7, Cond.code yJxe99ae_isNaN_b9ae7 cJxe99ae_isNaN_b9ae7 2 (some .boolean), Cond.methodLink RX6 207 yX6_sum, Cond.static yX6_sum, Cond.code yX6_sum cX6_sum 5 (some .long), Cond.methodLink RX6 187 yX6_isAbove, Cond.static yX6_isAbove, Cond.code yX6_isAbove cX6_isAbove 5 (some .boolean), Cond.methodLink RL 87 yL_reading, Cond.static yL_reading, Cond.codeWith yL_reading cL_reading 5 (some .int) [(0, 9, 12, 21), (0, 9, 16, 37)], Cond.classLink RL 37 "java/util/NoSuchElementException", Cond.methodLink RL 33 yX5_reading, Cond.instanceMethod yX5_reading, Cond.selects RX5 yX5_reading yX5_reading, Cond.code yX5_reading cX5_reading 4 (some .long), Cond.classLink RX5 139 "java/util/NoSuchElementException", Cond.initialized "java/util/NoSuchElementException", Cond.methodLink RX5 136 yX1_isKept, Cond.instanceMethod yX1_isKept, Cond.selects RX1 yX1_isKept yX1_isKept, Cond.code yX1_isKept cX1_isKept 2 (some .boolean), Cond.methodLink RX5 144 yX1_keptAt, Cond.instanceMethod yX1_keptAt]
def wsL_law0_r24 : List Cond := [Cond.selects RX1 yX1_keptAt yX1_keptAt, Cond.code yX1_keptAt cX1_keptAt 2 (some .long), Cond.methodLink RL 90 yX6_reading, Cond.instanceMethod yX6_reading, Cond.selects RX6 yX6_reading yX6_reading, Cond.code yX6_reading cX6_reading 4 (some .long), Cond.methodLink RL 91 yL_tell, Cond.static yL_tell, Cond.codeWith yL_tell cL_tell 5 (some .int) [(0, 9, 12, 21), (0, 9, 16, 13), (0, 9, 20, 37)], Cond.methodLink RL 39 yX5_tell, Cond.instanceMethod yX5_tell, Cond.selects RX5 yX5_tell yX5_tell, Cond.code yX5_tell cX5_tell 4 (some .long), Cond.fieldLink RX5 155 "WeatherMast$Instrument" "least" "J", Cond.fieldLink RX5 159 "WeatherMast$Instrument" "greatest" "J", Cond.fieldLink RX5 162 "WeatherMast$Instrument" "swing" "J", Cond.fieldLink RX5 165 "WeatherMast$Instrument" "sum" "J", Cond.methodLink RX5 150 yX1_hasRead, Cond.methodLink RL 93 yX6_tell, Cond.instanceMethod yX6_tell, Cond.selects RX6 yX6_tell yX6_tell, Cond.code yX6_tell cX6_tell 3 (some .long), Cond.methodLink RL 94 yL_whole, Cond.static yL_whole]
def wsL_law0_r25 : List Cond := [Cond.codeWith yL_whole cL_whole 4 (some .int) [(0, 9, 12, 21), (0, 9, 15, 37)], Cond.methodLink RL 42 yX5_whole, Cond.instanceMethod yX5_whole, Cond.selects RX5 yX5_whole yX5_whole, Cond.code yX5_whole cX5_whole 3 (some .int), Cond.fieldLink RX5 168 "WeatherMast$Instrument" "latest" "J", Cond.methodLink RX5 171 ⟨"WeatherMast$Sort", "asInt", "(J)I"⟩, Cond.sameMethod "WeatherMast$Sort" "WeatherMast$Sort" "asInt" "(J)I", Cond.selects RX0 ⟨"WeatherMast$Sort", "asInt", "(J)I"⟩ yX0_asInt, Cond.instanceMethod yX0_asInt, Cond.code yX0_asInt cX0_asInt 9 (some .int), Cond.constant RX0 96 (-2147483648), Cond.constant RX0 97 (2147483647), Cond.selects RX4 ⟨"WeatherMast$Sort", "asInt", "(J)I"⟩ yX4_asInt, Cond.instanceMethod yX4_asInt, Cond.code yX4_asInt cX4_asInt 3 (some .int), Cond.methodLink RX4 26 Lib.MathLoose.min_long.x, Cond.methodLink RX4 32 Lib.MathLoose.max_long.x, Cond.methodLink RL 96 yX6_whole, Cond.instanceMethod yX6_whole, Cond.selects RX6 yX6_whole yX6_whole, Cond.code yX6_whole cX6_whole 4 (some .int), Cond.methodLink RL 97 yL_limits, Cond.static yL_limits]
def wsL_law0_r26 : List Cond := [Cond.codeWith yL_limits cL_limits 8 (some .int) [(0, 20, 23, 21), (0, 20, 27, 13)], Cond.methodLink RL 45 yX5_limits, Cond.instanceMethod yX5_limits, Cond.selects RX5 yX5_limits yX5_limits, Cond.code yX5_limits cX5_limits 11 (some .boolean), Cond.fieldLink RX5 177 "WeatherMast$Instrument" "low" "J", Cond.fieldLink RX5 180 "WeatherMast$Instrument" "high" "J", Cond.methodLink RX5 183 ⟨"WeatherMast$Sort", "isAbove", "(JJ)Z"⟩, Cond.methodLink RL 100 yX6_limits, Cond.instanceMethod yX6_limits, Cond.selects RX6 yX6_limits yX6_limits, Cond.code yX6_limits cX6_limits 7 (some .boolean), Cond.methodLink RL 101 yL_widest, Cond.static yL_widest, Cond.codeWith yL_widest cL_widest 4 (some .int) [(0, 8, 11, 13), (0, 8, 14, 37)], Cond.methodLink RL 49 yX5_widest, Cond.instanceMethod yX5_widest, Cond.selects RX5 yX5_widest yX5_widest, Cond.code yX5_widest cX5_widest 10 (some .long), Cond.methodLink RX5 187 ⟨"WeatherMast$Sort", "greater", "(JJ)J"⟩, Cond.methodLink RL 103 yX6_widest, Cond.instanceMethod yX6_widest, Cond.selects RX6 yX6_widest yX6_widest, Cond.code yX6_widest cX6_widest 6 (some .long)]
def wsL_law0_r27 : List Cond := [Cond.methodLink RL 104 yL_forget, Cond.static yL_forget, Cond.codeWith yL_forget cL_forget 4 (some .int) [(0, 9, 12, 21)], Cond.methodLink RL 53 yX5_forget, Cond.instanceMethod yX5_forget, Cond.selects RX5 yX5_forget yX5_forget, Cond.code yX5_forget cX5_forget 4 (some .int), Cond.fieldLink RX5 193 "WeatherMast$Instrument" "readings" "I", Cond.methodLink RX5 196 yX1_loseReadings, Cond.instanceMethod yX1_loseReadings, Cond.selects RX1 yX1_loseReadings yX1_loseReadings, Cond.code yX1_loseReadings cX1_loseReadings 1 none, Cond.methodLink RL 106 yX6_forget, Cond.instanceMethod yX6_forget, Cond.selects RX6 yX6_forget yX6_forget, Cond.code yX6_forget cX6_forget 3 (some .int), Cond.methodLink RL 107 yL_alarms, Cond.static yL_alarms, Cond.codeWith yL_alarms cL_alarms 4 (some .int) [(0, 9, 12, 21)], Cond.methodLink RL 56 yX5_alarms, Cond.instanceMethod yX5_alarms, Cond.selects RX5 yX5_alarms yX5_alarms, Cond.code yX5_alarms cX5_alarms 3 (some .int), Cond.methodLink RL 109 yX6_alarms]
def wsL_law0_r28 : List Cond := [Cond.instanceMethod yX6_alarms, Cond.selects RX6 yX6_alarms yX6_alarms, Cond.code yX6_alarms cX6_alarms 2 (some .int), Cond.methodLink RL 110 yX5_count, Cond.instanceMethod yX5_count, Cond.selects RX5 yX5_count yX5_count, Cond.code yX5_count cX5_count 2 (some .int), Cond.methodLink RL 113 yX6_count, Cond.instanceMethod yX6_count, Cond.selects RX6 yX6_count yX6_count, Cond.code yX6_count cX6_count 2 (some .int)]
def wsL_law0 : List Cond := (wsL_law0_r1 ++ (wsL_law0_r2 ++ (wsL_law0_r3 ++ (wsL_law0_r4 ++ (wsL_law0_r5 ++ (wsL_law0_r6 ++ (wsL_law0_r7 ++ (wsL_law0_r8 ++ (wsL_law0_r9 ++ (wsL_law0_r10 ++ (wsL_law0_r11 ++ (wsL_law0_r12 ++ (wsL_law0_r13 ++ (wsL_law0_r14 ++ (wsL_law0_r15 ++ (wsL_law0_r16 ++ (wsL_law0_r17 ++ (wsL_law0_r18 ++ (wsL_law0_r19 ++ (wsL_law0_r20 ++ (wsL_law0_r21 ++ (wsL_law0_r22 ++ (wsL_law0_r23 ++ (wsL_law0_r24 ++ (wsL_law0_r25 ++ (wsL_law0_r26 ++ (wsL_law0_r27 ++ wsL_law0_r28))))))))))))))))))))))))))) ++ wsX50 ++ wsX60 ++ wsX40 ++ wsX00 ++ wsX10 ++ wsX30 ++ ([] : List Cond)
def wsL_law : List Cond := wsL_law0 ++ (vx_atS RX5 37 "java/lang/IllegalArgumentException" ["java/lang/RuntimeException", "java/lang/Exception"]).filter goodWord ++ (vx_atS RX5 48 "java/lang/UnsupportedOperationException" ["java/lang/RuntimeException", "java/lang/Exception"]).filter goodWord ++ (vx_atS RX5 60 "java/lang/IndexOutOfBoundsException" ["java/lang/RuntimeException", "java/lang/Exception"]).filter goodWord ++ (vx_atS RX5 92 "java/lang/IllegalStateException" ["java/lang/RuntimeException", "java/lang/Exception"]).filter goodWord ++ (vx_atS RX5 143 "java/util/NoSuchElementException" ["java/lang/RuntimeException", "java/lang/Exception"]).filter goodWord
set_option maxRecDepth 20000 in
theorem wsL_law_in0 : ∀ w ∈ wsL_law0, w ∈ lw_tbl := fun w h => (goodIn_p wsL_law0 [43, 46, 53, 60, 85, 695, 147, 151, 241, 763, 767, 772, 777, 780, 784, 759, 309, 313, 335, 338, 345, 348, 354, 358, 362, 367, 388, 404, 790, 794, 797, 800, 803, 806, 809, 812, 818, 412, 822, 421, 426, 430, 436, 443, 453, 459, 462, 468, 474, 478, 482, 486, 490, 494, 498, 502, 506, 514, 518, 522, 525, 528, 532, 536, 540, 543, 547, 553, 563, 556, 559, 566, 575, 579, 585, 592, 842, 846, 850, 853, 856, 859, 835, 838, 862, 865, 870, 873, 877, 832, 880, 886, 889, 896, 902, 905, 912, 829, 600, 604, 624, 920, 631, 924, 641, 647, 652, 928, 661, 826, 670, 932, 679, 683, 916, 690, 936, 138, 940] (by decide +kernel) (by decide +kernel) w h).1
theorem wsL_law_x0 : ∀ w ∈ (vx_atS RX5 37 "java/lang/IllegalArgumentException" ["java/lang/RuntimeException", "java/lang/Exception"]).filter goodWord, w ∈ lw_tbl := by decide +kernel
theorem wsL_law_x1 : ∀ w ∈ (vx_atS RX5 48 "java/lang/UnsupportedOperationException" ["java/lang/RuntimeException", "java/lang/Exception"]).filter goodWord, w ∈ lw_tbl := by decide +kernel
theorem wsL_law_x2 : ∀ w ∈ (vx_atS RX5 60 "java/lang/IndexOutOfBoundsException" ["java/lang/RuntimeException", "java/lang/Exception"]).filter goodWord, w ∈ lw_tbl := by decide +kernel
theorem wsL_law_x3 : ∀ w ∈ (vx_atS RX5 92 "java/lang/IllegalStateException" ["java/lang/RuntimeException", "java/lang/Exception"]).filter goodWord, w ∈ lw_tbl := by decide +kernel
theorem wsL_law_x4 : ∀ w ∈ (vx_atS RX5 143 "java/util/NoSuchElementException" ["java/lang/RuntimeException", "java/lang/Exception"]).filter goodWord, w ∈ lw_tbl := by decide +kernel
theorem wsL_law_in : ∀ w ∈ wsL_law, w ∈ lw_tbl := fun w h => (List.mem_append.mp h).elim (fun h => (List.mem_append.mp h).elim (fun h => (List.mem_append.mp h).elim (fun h => (List.mem_append.mp h).elim (fun h => (List.mem_append.mp h).elim (fun h => wsL_law_in0 w h) (fun h => wsL_law_x0 w h)) (fun h => wsL_law_x1 w h)) (fun h => wsL_law_x2 w h)) (fun h => wsL_law_x3 w h)) (fun h => wsL_law_x4 w h)
theorem inlX0 : ∀ w ∈ wsX00, w ∈ wsL_law := fun _ h => List.mem_append_left _ (List.mem_append_left _ (List.mem_append_left _ (List.mem_append_left _ (List.mem_append_left _ (List.mem_append_left _ (List.mem_append_left _ (List.mem_append_left _ (List.mem_append_right _ h))))))))
theorem inX0 : ∀ w ∈ wsX00, w ∈ lw_tbl := fun w h => wsL_law_in w (inlX0 w h)
theorem inlX1 : ∀ w ∈ wsX10, w ∈ wsL_law := fun _ h => List.mem_append_left _ (List.mem_append_left _ (List.mem_append_left _ (List.mem_append_left _ (List.mem_append_left _ (List.mem_append_left _ (List.mem_append_left _ (List.mem_append_right _ h)))))))
theorem inX1 : ∀ w ∈ wsX10, w ∈ lw_tbl := fun w h => wsL_law_in w (inlX1 w h)
theorem inX2 : ∀ w ∈ wsX20, w ∈ lw_tbl := by decide +kernel
theorem inlX3 : ∀ w ∈ wsX30, w ∈ wsL_law := fun _ h => List.mem_append_left _ (List.mem_append_left _ (List.mem_append_left _ (List.mem_append_left _ (List.mem_append_left _ (List.mem_append_left _ (List.mem_append_right _ h))))))
theorem inX3 : ∀ w ∈ wsX30, w ∈ lw_tbl := fun w h => wsL_law_in w (inlX3 w h)
theorem inlX4 : ∀ w ∈ wsX40, w ∈ wsL_law := fun _ h => List.mem_append_left _ (List.mem_append_left _ (List.mem_append_left _ (List.mem_append_left _ (List.mem_append_left _ (List.mem_append_left _ (List.mem_append_left _ (List.mem_append_left _ (List.mem_append_left _ (List.mem_append_right _ h)))))))))
theorem inX4 : ∀ w ∈ wsX40, w ∈ lw_tbl := fun w h => wsL_law_in w (inlX4 w h)
theorem inlX5 : ∀ w ∈ wsX50, w ∈ wsL_law := fun _ h => List.mem_append_left _ (List.mem_append_left _ (List.mem_append_left _ (List.mem_append_left _ (List.mem_append_left _ (List.mem_append_left _ (List.mem_append_left _ (List.mem_append_left _ (List.mem_append_left _ (List.mem_append_left _ (List.mem_append_left _ (List.mem_append_right _ h)))))))))))
theorem inX5 : ∀ w ∈ wsX50, w ∈ lw_tbl := fun w h => wsL_law_in w (inlX5 w h)
theorem inlX6 : ∀ w ∈ wsX60, w ∈ wsL_law := fun _ h => List.mem_append_left _ (List.mem_append_left _ (List.mem_append_left _ (List.mem_append_left _ (List.mem_append_left _ (List.mem_append_left _ (List.mem_append_left _ (List.mem_append_left _ (List.mem_append_left _ (List.mem_append_left _ (List.mem_append_right _ h))))))))))
theorem inX6 : ∀ w ∈ wsX60, w ∈ lw_tbl := fun w h => wsL_law_in w (inlX6 w h)
theorem inJxe99ae : ∀ w ∈ wsJxe99ae0, w ∈ lw_tbl := by decide +kernel
theorem inJxf58ca : ∀ w ∈ wsJxf58ca0, w ∈ lw_tbl := by decide +kernel
theorem inJ6 : ∀ w ∈ wsJ60, w ∈ lw_tbl := by decide +kernel
theorem inJ13 : ∀ w ∈ wsJ130, w ∈ lw_tbl := by decide +kernel
theorem inJ9 : ∀ w ∈ wsJ90, w ∈ lw_tbl := by decide +kernel
theorem inJ0 : ∀ w ∈ wsJ00, w ∈ lw_tbl := by decide +kernel
set_option maxRecDepth 20000 in
theorem ggX0_init_X2_init : GoodIn wsX0_init wsX2_init := goodIn_r _ [14, 15, 16, 17, 18, 19, 20, 21, 22, 23, 24, 25, 26, 27, 28, 29, 30, 31, 32, 33, 34, 35, 36, 37] (by decide +kernel) (by decide +kernel)
set_option maxRecDepth 20000 in
theorem gX0_init_X2_init : GoodIn wsX0_init (wsX2_init) := ggX0_init_X2_init
set_option maxRecDepth 20000 in
theorem ggX0_isNumber_X0_amount : GoodIn wsX0_isNumber wsX0_amount := goodIn_r _ [6, 7, 8, 9, 10, 11, 12, 13, 14, 15, 16, 17, 18, 19, 20, 21, 22, 23] (by decide +kernel) (by decide +kernel)
set_option maxRecDepth 20000 in
theorem gX0_isNumber_X0_amount : GoodIn wsX0_isNumber (wsV RX0 39 RX0 yX0_amount wsX0_amount) := goodIn_app (goodIn_of _ (by decide +kernel)) ggX0_isNumber_X0_amount
set_option maxRecDepth 20000 in
theorem ggX0_rank_X0_amount : GoodIn wsX0_rank wsX0_amount := goodIn_r _ [6, 7, 8, 1, 9, 10, 11, 12, 13, 14, 15, 16, 17, 18, 19, 20, 21, 22] (by decide +kernel) (by decide +kernel)
set_option maxRecDepth 20000 in
theorem gX0_rank_X0_amount : GoodIn wsX0_rank (wsV RX0 39 RX0 yX0_amount wsX0_amount) := goodIn_app (goodIn_of _ (by decide +kernel)) ggX0_rank_X0_amount
set_option maxRecDepth 20000 in
theorem ggX0_place_X0_amount : GoodIn wsX0_place wsX0_amount := goodIn_r _ [5, 6, 7, 8, 9, 10, 11, 12, 13, 14, 15, 16, 17, 18, 19, 20, 21, 22] (by decide +kernel) (by decide +kernel)
set_option maxRecDepth 20000 in
theorem gX0_place_X0_amount : GoodIn wsX0_place (wsV RX0 39 RX0 yX0_amount wsX0_amount) := goodIn_app (goodIn_of _ (by decide +kernel)) ggX0_place_X0_amount
set_option maxRecDepth 20000 in
theorem ggX0_addAmounts_X0_exponent : GoodIn wsX0_addAmounts wsX0_exponent := goodIn_r _ [14, 9, 15, 34, 35, 36, 37, 38, 39, 40, 41, 42, 43] (by decide +kernel) (by decide +kernel)
set_option maxRecDepth 20000 in
theorem gX0_addAmounts_X0_exponent : GoodIn wsX0_addAmounts (wsV RX0 57 RX0 yX0_exponent wsX0_exponent) := goodIn_app (goodIn_of _ (by decide +kernel)) ggX0_addAmounts_X0_exponent
set_option maxRecDepth 20000 in
theorem ggX0_addAmounts_X0_guardedDigits : GoodIn wsX0_addAmounts wsX0_guardedDigits := goodIn_r _ [19, 20, 21, 22, 13, 23, 9, 34, 35, 36, 37, 38, 39, 40, 41, 42, 43] (by decide +kernel) (by decide +kernel)
set_option maxRecDepth 20000 in
theorem gX0_addAmounts_X0_guardedDigits : GoodIn wsX0_addAmounts (wsV RX0 61 RX0 yX0_guardedDigits wsX0_guardedDigits) := goodIn_app (goodIn_of _ (by decide +kernel)) ggX0_addAmounts_X0_guardedDigits
set_option maxRecDepth 20000 in
theorem ggX0_addAmounts_X0_shiftedDown : GoodIn wsX0_addAmounts wsX0_shiftedDown := goodIn_r _ [26] (by decide +kernel) (by decide +kernel)
set_option maxRecDepth 20000 in
theorem gX0_addAmounts_X0_shiftedDown : GoodIn wsX0_addAmounts (va_wsS RX0 64 yX0_shiftedDown wsX0_shiftedDown) := goodIn_app (goodIn_of _ (by decide +kernel)) ggX0_addAmounts_X0_shiftedDown
set_option maxRecDepth 20000 in
theorem ggX0_addAmounts_X0_rounded : GoodIn wsX0_addAmounts wsX0_rounded := goodIn_r _ [30, 31, 8, 32, 33, 15, 34, 35, 36, 37, 38, 39, 40, 41, 42, 43] (by decide +kernel) (by decide +kernel)
set_option maxRecDepth 20000 in
theorem gX0_addAmounts_X0_rounded : GoodIn wsX0_addAmounts (wsV RX0 68 RX0 yX0_rounded wsX0_rounded) := goodIn_app (goodIn_of _ (by decide +kernel)) ggX0_addAmounts_X0_rounded
set_option maxRecDepth 20000 in
theorem ggX0_apart_X0_place : GoodIn wsX0_apart wsX0_place := goodIn_r _ [5, 6, 7, 8, 4, 9, 10, 11, 12, 65, 66, 67, 68, 69, 70, 71, 72, 73, 74, 75, 76, 77, 78] (by decide +kernel) (by decide +kernel)
set_option maxRecDepth 20000 in
theorem gX0_apart_X0_place : GoodIn wsX0_apart (wsV RX0 72 RX0 yX0_place wsX0_place) := goodIn_app (goodIn_of _ (by decide +kernel)) ggX0_apart_X0_place
set_option maxRecDepth 20000 in
theorem ggX0_apart_X0_amount : GoodIn wsX0_apart wsX0_amount := goodIn_r _ [9, 10, 11, 12, 65, 66, 67, 68, 69, 70, 71, 72, 73, 74, 75, 76, 77, 78] (by decide +kernel) (by decide +kernel)
set_option maxRecDepth 20000 in
theorem gX0_apart_X0_amount : GoodIn wsX0_apart (wsV RX0 39 RX0 yX0_amount wsX0_amount) := goodIn_app (goodIn_of _ (by decide +kernel)) ggX0_apart_X0_amount
set_option maxRecDepth 20000 in
theorem ggX0_apart_X0_addAmounts : GoodIn wsX0_apart wsX0_addAmounts := goodIn_r _ [16, 17, 18, 19, 20, 21, 22, 23, 24, 25, 26, 27, 28, 4, 29, 30, 31, 32, 33, 34, 35, 36, 37, 38, 39, 40, 41, 42, 43, 44, 45, 46, 47, 48, 65, 66, 67, 68, 69, 70, 71, 72, 73, 74] (by decide +kernel) (by decide +kernel)
set_option maxRecDepth 20000 in
theorem gX0_apart_X0_addAmounts : GoodIn wsX0_apart (wsV RX0 75 RX0 yX0_addAmounts wsX0_addAmounts) := goodIn_app (goodIn_of _ (by decide +kernel)) ggX0_apart_X0_addAmounts
set_option maxRecDepth 20000 in
theorem ggX0_apart_X0_differenceOfAmounts : GoodIn wsX0_apart wsX0_differenceOfAmounts := goodIn_r _ [52, 17, 18, 19, 20, 21, 22, 23, 24, 25, 53, 54, 55, 26, 27, 28, 4, 29, 30, 31, 32, 33, 34, 35, 36, 37, 38, 39, 40, 41, 56, 57, 58, 59, 60, 61, 62, 63, 64, 42, 43, 44, 45, 46, 47, 48, 65, 66, 67, 68, 69, 70, 71, 72, 73, 74] (by decide +kernel) (by decide +kernel)
set_option maxRecDepth 20000 in
theorem gX0_apart_X0_differenceOfAmounts : GoodIn wsX0_apart (wsV RX0 78 RX0 yX0_differenceOfAmounts wsX0_differenceOfAmounts) := goodIn_app (goodIn_of _ (by decide +kernel)) ggX0_apart_X0_differenceOfAmounts
set_option maxRecDepth 20000 in
theorem ggX0_differenceOfAmounts_X0_exponent : GoodIn wsX0_differenceOfAmounts wsX0_exponent := goodIn_r _ [17, 9, 18, 46, 47, 48, 49, 50, 51, 52, 53, 54, 55] (by decide +kernel) (by decide +kernel)
set_option maxRecDepth 20000 in
theorem gX0_differenceOfAmounts_X0_exponent : GoodIn wsX0_differenceOfAmounts (wsV RX0 57 RX0 yX0_exponent wsX0_exponent) := goodIn_app (goodIn_of _ (by decide +kernel)) ggX0_differenceOfAmounts_X0_exponent
set_option maxRecDepth 20000 in
theorem ggX0_differenceOfAmounts_X0_guardedDigits : GoodIn wsX0_differenceOfAmounts wsX0_guardedDigits := goodIn_r _ [22, 23, 24, 25, 16, 26, 9, 46, 47, 48, 49, 50, 51, 52, 53, 54, 55] (by decide +kernel) (by decide +kernel)
set_option maxRecDepth 20000 in
theorem gX0_differenceOfAmounts_X0_guardedDigits : GoodIn wsX0_differenceOfAmounts (wsV RX0 61 RX0 yX0_guardedDigits wsX0_guardedDigits) := goodIn_app (goodIn_of _ (by decide +kernel)) ggX0_differenceOfAmounts_X0_guardedDigits
set_option maxRecDepth 20000 in
theorem ggX0_differenceOfAmounts_X0_shiftedDown : GoodIn wsX0_differenceOfAmounts wsX0_shiftedDown := goodIn_r _ [29] (by decide +kernel) (by decide +kernel)
set_option maxRecDepth 20000 in
theorem gX0_differenceOfAmounts_X0_shiftedDown : GoodIn wsX0_differenceOfAmounts (va_wsS RX0 64 yX0_shiftedDown wsX0_shiftedDown) := goodIn_app (goodIn_of _ (by decide +kernel)) ggX0_differenceOfAmounts_X0_shiftedDown
set_option maxRecDepth 20000 in
theorem ggX0_differenceOfAmounts_J13_numberOfLeadingZeros_95d88 : GoodIn wsX0_differenceOfAmounts wsJ13_numberOfLeadingZeros_95d88 := goodIn_r _ [33, 34, 35, 36, 37, 38] (by decide +kernel) (by decide +kernel)
set_option maxRecDepth 20000 in
theorem gX0_differenceOfAmounts_J13_numberOfLeadingZeros_95d88 : GoodIn wsX0_differenceOfAmounts (va_wsS RX0 81 yJ13_numberOfLeadingZeros_95d88 wsJ13_numberOfLeadingZeros_95d88) := goodIn_app (goodIn_of _ (by decide +kernel)) ggX0_differenceOfAmounts_J13_numberOfLeadingZeros_95d88
set_option maxRecDepth 20000 in
theorem ggX0_differenceOfAmounts_X0_rounded : GoodIn wsX0_differenceOfAmounts wsX0_rounded := goodIn_r _ [42, 43, 8, 44, 45, 18, 46, 47, 48, 49, 50, 51, 52, 53, 54, 55] (by decide +kernel) (by decide +kernel)
set_option maxRecDepth 20000 in
theorem gX0_differenceOfAmounts_X0_rounded : GoodIn wsX0_differenceOfAmounts (wsV RX0 68 RX0 yX0_rounded wsX0_rounded) := goodIn_app (goodIn_of _ (by decide +kernel)) ggX0_differenceOfAmounts_X0_rounded
set_option maxRecDepth 20000 in
theorem ggX0_guardedDigits_X0_digits : GoodIn wsX0_guardedDigits wsX0_digits := goodIn_r _ [5, 6, 7, 8, 9, 10, 11, 12, 13, 14, 15, 16] (by decide +kernel) (by decide +kernel)
set_option maxRecDepth 20000 in
theorem gX0_guardedDigits_X0_digits : GoodIn wsX0_guardedDigits (wsV RX0 89 RX0 yX0_digits wsX0_digits) := goodIn_app (goodIn_of _ (by decide +kernel)) ggX0_guardedDigits_X0_digits
set_option maxRecDepth 20000 in
theorem ggX0_asInt_X0_amount : GoodIn wsX0_asInt wsX0_amount := goodIn_r _ [10, 11, 12, 13, 23, 24, 25, 26, 27, 28, 29, 30, 31, 32, 33, 34, 35, 36] (by decide +kernel) (by decide +kernel)
set_option maxRecDepth 20000 in
theorem gX0_asInt_X0_amount : GoodIn wsX0_asInt (wsV RX0 39 RX0 yX0_amount wsX0_amount) := goodIn_app (goodIn_of _ (by decide +kernel)) ggX0_asInt_X0_amount
set_option maxRecDepth 20000 in
theorem ggX0_asInt_X0_exponent : GoodIn wsX0_asInt wsX0_exponent := goodIn_r _ [17, 18, 5, 23, 24, 25, 26, 27, 28, 29, 30, 31, 32] (by decide +kernel) (by decide +kernel)
set_option maxRecDepth 20000 in
theorem gX0_asInt_X0_exponent : GoodIn wsX0_asInt (wsV RX0 57 RX0 yX0_exponent wsX0_exponent) := goodIn_app (goodIn_of _ (by decide +kernel)) ggX0_asInt_X0_exponent
set_option maxRecDepth 20000 in
theorem ggX0_asInt_X0_digits : GoodIn wsX0_asInt wsX0_digits := goodIn_r _ [22, 18, 23, 24, 25, 26, 27, 28, 29, 30, 31, 32] (by decide +kernel) (by decide +kernel)
set_option maxRecDepth 20000 in
theorem gX0_asInt_X0_digits : GoodIn wsX0_asInt (wsV RX0 89 RX0 yX0_digits wsX0_digits) := goodIn_app (goodIn_of _ (by decide +kernel)) ggX0_asInt_X0_digits
set_option maxRecDepth 20000 in
theorem ggX0_afterFurtherStep_X0_amount : GoodIn wsX0_afterFurtherStep wsX0_amount := goodIn_r _ [6, 7, 8, 9, 34, 35, 36, 37, 38, 39, 40, 41, 42, 43, 44, 45, 46, 47] (by decide +kernel) (by decide +kernel)
set_option maxRecDepth 20000 in
theorem gX0_afterFurtherStep_X0_amount : GoodIn wsX0_afterFurtherStep (wsV RX0 39 RX0 yX0_amount wsX0_amount) := goodIn_app (goodIn_of _ (by decide +kernel)) ggX0_afterFurtherStep_X0_amount
set_option maxRecDepth 20000 in
theorem ggX0_afterFurtherStep_X0_wholeNotBelow : GoodIn wsX0_afterFurtherStep wsX0_wholeNotBelow := goodIn_r _ [13, 1, 14, 15, 16, 5, 17, 18, 19, 20, 21, 22, 23, 34, 35, 36, 37, 38, 39, 40, 41, 42, 43] (by decide +kernel) (by decide +kernel)
set_option maxRecDepth 20000 in
theorem gX0_afterFurtherStep_X0_wholeNotBelow : GoodIn wsX0_afterFurtherStep (wsV RX0 98 RX0 yX0_wholeNotBelow wsX0_wholeNotBelow) := goodIn_app (goodIn_of _ (by decide +kernel)) ggX0_afterFurtherStep_X0_wholeNotBelow
set_option maxRecDepth 20000 in
theorem ggX0_afterFurtherStep_X0_wholeNotAbove : GoodIn wsX0_afterFurtherStep wsX0_wholeNotAbove := goodIn_r _ [17, 1, 18, 19, 20, 5, 21, 22, 23, 34, 35, 36, 37, 38, 39, 40, 41, 42, 43] (by decide +kernel) (by decide +kernel)
set_option maxRecDepth 20000 in
theorem gX0_afterFurtherStep_X0_wholeNotAbove : GoodIn wsX0_afterFurtherStep (wsV RX0 101 RX0 yX0_wholeNotAbove wsX0_wholeNotAbove) := goodIn_app (goodIn_of _ (by decide +kernel)) ggX0_afterFurtherStep_X0_wholeNotAbove
set_option maxRecDepth 20000 in
theorem ggX0_afterFurtherStep_X0_withSignOf : GoodIn wsX0_afterFurtherStep wsX0_withSignOf := goodIn_r _ [27, 7, 8, 34, 35, 36, 37, 38, 39, 40, 41, 42, 43, 44, 45, 46, 47] (by decide +kernel) (by decide +kernel)
set_option maxRecDepth 20000 in
theorem gX0_afterFurtherStep_X0_withSignOf : GoodIn wsX0_afterFurtherStep (wsV RX0 104 RX0 yX0_withSignOf wsX0_withSignOf) := goodIn_app (goodIn_of _ (by decide +kernel)) ggX0_afterFurtherStep_X0_withSignOf
set_option maxRecDepth 20000 in
theorem ggX0_afterFurtherStep_X0_wholeNearest : GoodIn wsX0_afterFurtherStep wsX0_wholeNearest := goodIn_r _ [31, 1, 32, 33, 18, 19, 20, 5, 21, 22, 23, 34, 35, 36, 37, 38, 39, 40, 41, 42, 43] (by decide +kernel) (by decide +kernel)
set_option maxRecDepth 20000 in
theorem gX0_afterFurtherStep_X0_wholeNearest : GoodIn wsX0_afterFurtherStep (wsV RX0 107 RX0 yX0_wholeNearest wsX0_wholeNearest) := goodIn_app (goodIn_of _ (by decide +kernel)) ggX0_afterFurtherStep_X0_wholeNearest
set_option maxRecDepth 20000 in
theorem ggX0_wholeNotAbove_X0_bitsBehindPoint : GoodIn wsX0_wholeNotAbove wsX0_bitsBehindPoint := goodIn_r _ [6, 7, 8, 9, 10, 11, 12, 13, 14, 15, 16, 17, 18] (by decide +kernel) (by decide +kernel)
set_option maxRecDepth 20000 in
theorem gX0_wholeNotAbove_X0_bitsBehindPoint : GoodIn wsX0_wholeNotAbove (wsV RX0 110 RX0 yX0_bitsBehindPoint wsX0_bitsBehindPoint) := goodIn_app (goodIn_of _ (by decide +kernel)) ggX0_wholeNotAbove_X0_bitsBehindPoint
set_option maxRecDepth 20000 in
theorem ggX0_wholeNotBelow_X0_wholeNotAbove : GoodIn wsX0_wholeNotBelow wsX0_wholeNotAbove := goodIn_r _ [6, 1, 7, 8, 9, 5, 10, 11, 12, 13, 14, 15, 16, 17, 18, 19, 20, 21, 22] (by decide +kernel) (by decide +kernel)
set_option maxRecDepth 20000 in
theorem gX0_wholeNotBelow_X0_wholeNotAbove : GoodIn wsX0_wholeNotBelow (wsV RX0 101 RX0 yX0_wholeNotAbove wsX0_wholeNotAbove) := goodIn_app (goodIn_of _ (by decide +kernel)) ggX0_wholeNotBelow_X0_wholeNotAbove
set_option maxRecDepth 20000 in
theorem ggX0_wholeNotBelow_X0_bitsBehindPoint : GoodIn wsX0_wholeNotBelow wsX0_bitsBehindPoint := goodIn_r _ [10, 11, 12, 13, 14, 15, 16, 17, 18, 19, 20, 21, 22] (by decide +kernel) (by decide +kernel)
set_option maxRecDepth 20000 in
theorem gX0_wholeNotBelow_X0_bitsBehindPoint : GoodIn wsX0_wholeNotBelow (wsV RX0 110 RX0 yX0_bitsBehindPoint wsX0_bitsBehindPoint) := goodIn_app (goodIn_of _ (by decide +kernel)) ggX0_wholeNotBelow_X0_bitsBehindPoint
set_option maxRecDepth 20000 in
theorem ggX0_wholeNearest_X0_bitsBehindPoint : GoodIn wsX0_wholeNearest wsX0_bitsBehindPoint := goodIn_r _ [8, 9, 10, 11, 12, 13, 14, 15, 16, 17, 18, 19, 20] (by decide +kernel) (by decide +kernel)
set_option maxRecDepth 20000 in
theorem gX0_wholeNearest_X0_bitsBehindPoint : GoodIn wsX0_wholeNearest (wsV RX0 110 RX0 yX0_bitsBehindPoint wsX0_bitsBehindPoint) := goodIn_app (goodIn_of _ (by decide +kernel)) ggX0_wholeNearest_X0_bitsBehindPoint
set_option maxRecDepth 20000 in
theorem ggX1_lengthenChain_X1_isChainFull : GoodIn wsX1_lengthenChain wsX1_isChainFull := goodIn_r _ [7, 2, 1, 8, 9, 10, 11, 12, 13, 14, 15, 16, 17, 18, 19, 20, 21] (by decide +kernel) (by decide +kernel)
set_option maxRecDepth 20000 in
theorem gX1_lengthenChain_X1_isChainFull : GoodIn wsX1_lengthenChain (wsV RX1 47 RX1 yX1_isChainFull wsX1_isChainFull) := goodIn_app (goodIn_of _ (by decide +kernel)) ggX1_lengthenChain_X1_isChainFull
set_option maxRecDepth 20000 in
theorem ggX1_throughChain_X3_currentK : GoodIn wsX1_throughChain wsX3_currentK := goodIn_r _ [8, 9, 10, 11, 107, 108, 109, 93, 94, 95, 96, 97, 98, 99, 100, 101, 102, 103, 104, 105, 106] (by decide +kernel) (by decide +kernel)
set_option maxRecDepth 20000 in
theorem gX1_throughChain_X3_currentK : GoodIn wsX1_throughChain (wsV RX1 54 RX3 yX3_currentK wsX3_currentK) := goodIn_app (goodIn_of _ (by decide +kernel)) ggX1_throughChain_X3_currentK
set_option maxRecDepth 20000 in
theorem ggX1_throughChain_X2_afterStep : GoodIn wsX1_throughChain wsX2_afterStep := goodIn_r _ [17, 18, 19, 20, 21, 22, 23, 24, 25, 26, 27, 28, 29, 30, 31, 32, 33, 34, 16, 35, 36, 37, 38, 39, 40, 41, 42, 43, 44, 45, 46, 47, 48, 49, 50, 51, 52, 53, 54, 55, 56, 57, 58, 59, 60, 61, 62, 63, 64, 65, 66, 67, 68, 69, 70, 71, 72, 73, 74, 75, 76, 77, 78, 79, 80, 81, 82, 83, 84, 85, 86, 87, 88, 89, 90, 91, 110, 111, 112, 113, 114, 115, 116, 117, 118, 119, 120, 121, 122, 123] (by decide +kernel) (by decide +kernel)
set_option maxRecDepth 20000 in
theorem gX1_throughChain_X2_afterStep_u58X0 : GoodIn wsX1_throughChain (va_wsU RX1 58 RX0 "WeatherMast$Sort" ⟨"WeatherMast$Sort", "afterStep", "(IJJ)J"⟩ yX2_afterStep wsX2_afterStep) := goodIn_app (goodIn_of _ (by decide +kernel)) ggX1_throughChain_X2_afterStep
set_option maxRecDepth 20000 in
theorem gX1_throughChain_X2_afterStep_u58X4 : GoodIn wsX1_throughChain (va_wsU RX1 58 RX4 "WeatherMast$Sort" ⟨"WeatherMast$Sort", "afterStep", "(IJJ)J"⟩ yX2_afterStep wsX2_afterStep) := goodIn_app (goodIn_of _ (by decide +kernel)) ggX1_throughChain_X2_afterStep
set_option maxRecDepth 20000 in
theorem ggX1_keep_X1_hasRead : GoodIn wsX1_keep wsX1_hasRead := goodIn_r _ [13, 8, 128, 129, 130, 131, 132, 133, 134, 135, 136, 137, 138, 139, 140, 141] (by decide +kernel) (by decide +kernel)
set_option maxRecDepth 20000 in
theorem gX1_keep_X1_hasRead : GoodIn wsX1_keep (wsV RX1 62 RX1 yX1_hasRead wsX1_hasRead) := goodIn_app (goodIn_of _ (by decide +kernel)) ggX1_keep_X1_hasRead
set_option maxRecDepth 20000 in
theorem ggX1_keep_X2_lesser : GoodIn wsX1_keep wsX2_lesser := goodIn_r _ [19, 20, 21, 22, 23, 24, 25, 26, 27, 28, 29, 30, 31, 32, 33, 34, 35, 36, 142, 143, 144, 145, 146, 147, 148, 149, 150, 151, 152, 153, 154, 155] (by decide +kernel) (by decide +kernel)
set_option maxRecDepth 20000 in
theorem gX1_keep_X2_lesser_u68X0 : GoodIn wsX1_keep (va_wsU RX1 68 RX0 "WeatherMast$Sort" ⟨"WeatherMast$Sort", "lesser", "(JJ)J"⟩ yX2_lesser wsX2_lesser) := goodIn_app (goodIn_of _ (by decide +kernel)) ggX1_keep_X2_lesser
set_option maxRecDepth 20000 in
theorem gX1_keep_X2_lesser_u68X4 : GoodIn wsX1_keep (va_wsU RX1 68 RX4 "WeatherMast$Sort" ⟨"WeatherMast$Sort", "lesser", "(JJ)J"⟩ yX2_lesser wsX2_lesser) := goodIn_app (goodIn_of _ (by decide +kernel)) ggX1_keep_X2_lesser
set_option maxRecDepth 20000 in
theorem ggX1_keep_X2_greater : GoodIn wsX1_keep wsX2_greater := goodIn_r _ [42, 20, 21, 22, 23, 24, 25, 26, 27, 28, 29, 30, 31, 32, 33, 34, 35, 36, 142, 143, 144, 145, 146, 147, 148, 149, 150, 151, 152, 153, 154, 155] (by decide +kernel) (by decide +kernel)
set_option maxRecDepth 20000 in
theorem gX1_keep_X2_greater_u75X0 : GoodIn wsX1_keep (va_wsU RX1 75 RX0 "WeatherMast$Sort" ⟨"WeatherMast$Sort", "greater", "(JJ)J"⟩ yX2_greater wsX2_greater) := goodIn_app (goodIn_of _ (by decide +kernel)) ggX1_keep_X2_greater
set_option maxRecDepth 20000 in
theorem gX1_keep_X2_greater_u75X4 : GoodIn wsX1_keep (va_wsU RX1 75 RX4 "WeatherMast$Sort" ⟨"WeatherMast$Sort", "greater", "(JJ)J"⟩ yX2_greater wsX2_greater) := goodIn_app (goodIn_of _ (by decide +kernel)) ggX1_keep_X2_greater
set_option maxRecDepth 20000 in
theorem ggX1_keep_X0_apart : GoodIn wsX1_keep wsX0_apart := goodIn_r _ [48, 49, 50, 51, 24, 52, 27, 28, 29, 30, 31, 32, 26, 53, 54, 55, 56, 57, 58, 59, 60, 61, 62, 63, 64, 65, 66, 67, 68, 69, 70, 71, 72, 73, 74, 75, 76, 77, 78, 79, 80, 81, 82, 83, 84, 85, 86, 87, 88, 89, 90, 91, 92, 93, 94, 95, 96, 97, 98, 99, 100, 101, 102, 103, 104, 142, 143, 144, 145, 146, 147, 148, 149, 150, 151, 152, 153, 154, 155] (by decide +kernel) (by decide +kernel)
set_option maxRecDepth 20000 in
theorem gX1_keep_X0_apart_u81X0 : GoodIn wsX1_keep (va_wsU RX1 81 RX0 "WeatherMast$Sort" ⟨"WeatherMast$Sort", "apart", "(JJ)J"⟩ yX0_apart wsX0_apart) := goodIn_app (goodIn_of _ (by decide +kernel)) ggX1_keep_X0_apart
set_option maxRecDepth 20000 in
theorem ggX1_keep_X4_apart : GoodIn wsX1_keep wsX4_apart := goodIn_r _ [107, 108, 109, 110, 111, 18, 112, 113, 114, 115, 116, 35, 117, 142, 143, 144, 145, 146, 147, 148, 149, 150, 151, 152, 153, 154, 155] (by decide +kernel) (by decide +kernel)
set_option maxRecDepth 20000 in
theorem gX1_keep_X4_apart_u81X4 : GoodIn wsX1_keep (va_wsU RX1 81 RX4 "WeatherMast$Sort" ⟨"WeatherMast$Sort", "apart", "(JJ)J"⟩ yX4_apart wsX4_apart) := goodIn_app (goodIn_of _ (by decide +kernel)) ggX1_keep_X4_apart
set_option maxRecDepth 20000 in
theorem ggX1_keep_X0_amount : GoodIn wsX1_keep wsX0_amount := goodIn_r _ [30, 31, 32, 26, 142, 143, 144, 145, 146, 147, 148, 149, 150, 151, 152, 153, 154, 155] (by decide +kernel) (by decide +kernel)
set_option maxRecDepth 20000 in
theorem gX1_keep_X0_amount_u90X0 : GoodIn wsX1_keep (va_wsU RX1 90 RX0 "WeatherMast$Sort" ⟨"WeatherMast$Sort", "amount", "(J)J"⟩ yX0_amount wsX0_amount) := goodIn_app (goodIn_of _ (by decide +kernel)) ggX1_keep_X0_amount
set_option maxRecDepth 20000 in
theorem ggX1_keep_X4_amount : GoodIn wsX1_keep wsX4_amount := goodIn_r _ [117, 108, 109, 110, 111, 18, 112, 113, 142, 143, 144, 145, 146, 147, 148, 149, 150, 151, 152, 153, 154, 155] (by decide +kernel) (by decide +kernel)
set_option maxRecDepth 20000 in
theorem gX1_keep_X4_amount_u90X4 : GoodIn wsX1_keep (va_wsU RX1 90 RX4 "WeatherMast$Sort" ⟨"WeatherMast$Sort", "amount", "(J)J"⟩ yX4_amount wsX4_amount) := goodIn_app (goodIn_of _ (by decide +kernel)) ggX1_keep_X4_amount
set_option maxRecDepth 20000 in
theorem ggX1_keep_X0_addAmounts : GoodIn wsX1_keep wsX0_addAmounts := goodIn_r _ [56, 57, 58, 59, 60, 61, 62, 63, 64, 65, 66, 67, 68, 24, 69, 70, 71, 72, 73, 74, 75, 76, 77, 78, 79, 80, 81, 82, 83, 84, 85, 86, 87, 88, 142, 143, 144, 145, 146, 147, 148, 149, 150, 151] (by decide +kernel) (by decide +kernel)
set_option maxRecDepth 20000 in
theorem gX1_keep_X0_addAmounts_u94X0 : GoodIn wsX1_keep (va_wsU RX1 94 RX0 "WeatherMast$Sort" ⟨"WeatherMast$Sort", "addAmounts", "(JJ)J"⟩ yX0_addAmounts wsX0_addAmounts) := goodIn_app (goodIn_of _ (by decide +kernel)) ggX1_keep_X0_addAmounts
set_option maxRecDepth 20000 in
theorem ggX1_keep_X4_addAmounts : GoodIn wsX1_keep wsX4_addAmounts := goodIn_r _ [127, 108, 109, 110, 111, 18, 112, 113, 142, 143, 144, 145, 146, 147, 148, 149, 150, 151, 152, 153, 154, 155] (by decide +kernel) (by decide +kernel)
set_option maxRecDepth 20000 in
theorem gX1_keep_X4_addAmounts_u94X4 : GoodIn wsX1_keep (va_wsU RX1 94 RX4 "WeatherMast$Sort" ⟨"WeatherMast$Sort", "addAmounts", "(JJ)J"⟩ yX4_addAmounts wsX4_addAmounts) := goodIn_app (goodIn_of _ (by decide +kernel)) ggX1_keep_X4_addAmounts
set_option maxRecDepth 20000 in
theorem ggX1_isBeyondLimits_X2_isAbove : GoodIn wsX1_isBeyondLimits wsX2_isAbove := goodIn_r _ [9, 10, 11, 12, 13, 14, 15, 16, 17, 18, 19, 20, 21, 22, 23, 24, 25, 26, 42, 43, 44, 45, 46, 47, 48, 49, 50, 51, 52, 53, 54, 55] (by decide +kernel) (by decide +kernel)
set_option maxRecDepth 20000 in
theorem gX1_isBeyondLimits_X2_isAbove_u100X0 : GoodIn wsX1_isBeyondLimits (va_wsU RX1 100 RX0 "WeatherMast$Sort" ⟨"WeatherMast$Sort", "isAbove", "(JJ)Z"⟩ yX2_isAbove wsX2_isAbove) := goodIn_app (goodIn_of _ (by decide +kernel)) ggX1_isBeyondLimits_X2_isAbove
set_option maxRecDepth 20000 in
theorem gX1_isBeyondLimits_X2_isAbove_u100X4 : GoodIn wsX1_isBeyondLimits (va_wsU RX1 100 RX4 "WeatherMast$Sort" ⟨"WeatherMast$Sort", "isAbove", "(JJ)Z"⟩ yX2_isAbove wsX2_isAbove) := goodIn_app (goodIn_of _ (by decide +kernel)) ggX1_isBeyondLimits_X2_isAbove
set_option maxRecDepth 20000 in
theorem ggX2_greater_X0_rank : GoodIn wsX2_greater wsX0_rank := goodIn_r _ [6, 7, 8, 9, 10, 5, 11, 12, 13, 18, 19, 20, 21, 22, 23, 24, 25, 26, 27, 28, 29, 30, 31] (by decide +kernel) (by decide +kernel)
set_option maxRecDepth 20000 in
theorem gX2_greater_X0_rank_u29X0 : GoodIn wsX2_greater (va_wsU RX2 29 RX0 "WeatherMast$Sort" ⟨"WeatherMast$Sort", "rank", "(J)J"⟩ yX0_rank wsX0_rank) := goodIn_app (goodIn_of _ (by decide +kernel)) ggX2_greater_X0_rank
set_option maxRecDepth 20000 in
theorem ggX2_greater_X4_rank : GoodIn wsX2_greater wsX4_rank := goodIn_r _ [17] (by decide +kernel) (by decide +kernel)
set_option maxRecDepth 20000 in
theorem gX2_greater_X4_rank_u29X4 : GoodIn wsX2_greater (va_wsU RX2 29 RX4 "WeatherMast$Sort" ⟨"WeatherMast$Sort", "rank", "(J)J"⟩ yX4_rank wsX4_rank) := goodIn_app (goodIn_of _ (by decide +kernel)) ggX2_greater_X4_rank
set_option maxRecDepth 20000 in
theorem ggX2_lesser_X0_rank : GoodIn wsX2_lesser wsX0_rank := goodIn_r _ [6, 7, 8, 9, 10, 5, 11, 12, 13, 18, 19, 20, 21, 22, 23, 24, 25, 26, 27, 28, 29, 30, 31] (by decide +kernel) (by decide +kernel)
set_option maxRecDepth 20000 in
theorem gX2_lesser_X0_rank_u29X0 : GoodIn wsX2_lesser (va_wsU RX2 29 RX0 "WeatherMast$Sort" ⟨"WeatherMast$Sort", "rank", "(J)J"⟩ yX0_rank wsX0_rank) := goodIn_app (goodIn_of _ (by decide +kernel)) ggX2_lesser_X0_rank
set_option maxRecDepth 20000 in
theorem ggX2_lesser_X4_rank : GoodIn wsX2_lesser wsX4_rank := goodIn_r _ [17] (by decide +kernel) (by decide +kernel)
set_option maxRecDepth 20000 in
theorem gX2_lesser_X4_rank_u29X4 : GoodIn wsX2_lesser (va_wsU RX2 29 RX4 "WeatherMast$Sort" ⟨"WeatherMast$Sort", "rank", "(J)J"⟩ yX4_rank wsX4_rank) := goodIn_app (goodIn_of _ (by decide +kernel)) ggX2_lesser_X4_rank
set_option maxRecDepth 20000 in
theorem ggX2_isAbove_X0_place : GoodIn wsX2_isAbove wsX0_place := goodIn_r _ [6, 7, 8, 9, 5, 10, 11, 12, 13, 18, 19, 20, 21, 22, 23, 24, 25, 26, 27, 28, 29, 30, 31] (by decide +kernel) (by decide +kernel)
set_option maxRecDepth 20000 in
theorem gX2_isAbove_X0_place_u33X0 : GoodIn wsX2_isAbove (va_wsU RX2 33 RX0 "WeatherMast$Sort" ⟨"WeatherMast$Sort", "place", "(J)J"⟩ yX0_place wsX0_place) := goodIn_app (goodIn_of _ (by decide +kernel)) ggX2_isAbove_X0_place
set_option maxRecDepth 20000 in
theorem ggX2_isAbove_X4_place : GoodIn wsX2_isAbove wsX4_place := goodIn_r _ [17] (by decide +kernel) (by decide +kernel)
set_option maxRecDepth 20000 in
theorem gX2_isAbove_X4_place_u33X4 : GoodIn wsX2_isAbove (va_wsU RX2 33 RX4 "WeatherMast$Sort" ⟨"WeatherMast$Sort", "place", "(J)J"⟩ yX4_place wsX4_place) := goodIn_app (goodIn_of _ (by decide +kernel)) ggX2_isAbove_X4_place
set_option maxRecDepth 20000 in
theorem ggX2_afterStep_X0_amount : GoodIn wsX2_afterStep wsX0_amount := goodIn_r _ [6, 7, 8, 9, 76, 77, 78, 79, 80, 81, 82, 83, 84, 85, 86, 87, 88, 89] (by decide +kernel) (by decide +kernel)
set_option maxRecDepth 20000 in
theorem gX2_afterStep_X0_amount_u36X0 : GoodIn wsX2_afterStep (va_wsU RX2 36 RX0 "WeatherMast$Sort" ⟨"WeatherMast$Sort", "amount", "(J)J"⟩ yX0_amount wsX0_amount) := goodIn_app (goodIn_of _ (by decide +kernel)) ggX2_afterStep_X0_amount
set_option maxRecDepth 20000 in
theorem ggX2_afterStep_X4_amount : GoodIn wsX2_afterStep wsX4_amount := goodIn_r _ [13, 14, 15, 16, 17, 18, 19, 20, 76, 77, 78, 79, 80, 81, 82, 83, 84, 85, 86, 87, 88, 89] (by decide +kernel) (by decide +kernel)
set_option maxRecDepth 20000 in
theorem gX2_afterStep_X4_amount_u36X4 : GoodIn wsX2_afterStep (va_wsU RX2 36 RX4 "WeatherMast$Sort" ⟨"WeatherMast$Sort", "amount", "(J)J"⟩ yX4_amount wsX4_amount) := goodIn_app (goodIn_of _ (by decide +kernel)) ggX2_afterStep_X4_amount
set_option maxRecDepth 20000 in
theorem ggX2_afterStep_X2_greater : GoodIn wsX2_afterStep wsX2_greater := goodIn_r _ [25, 26, 27, 28, 29, 5, 30, 9, 31, 4, 32, 6, 7, 8, 33, 34, 12, 35, 76, 77, 78, 79, 80, 81, 82, 83, 84, 85, 86, 87, 88, 89] (by decide +kernel) (by decide +kernel)
set_option maxRecDepth 20000 in
theorem gX2_afterStep_X2_greater_u39X0 : GoodIn wsX2_afterStep (va_wsU RX2 39 RX0 "WeatherMast$Sort" ⟨"WeatherMast$Sort", "greater", "(JJ)J"⟩ yX2_greater wsX2_greater) := goodIn_app (goodIn_of _ (by decide +kernel)) ggX2_afterStep_X2_greater
set_option maxRecDepth 20000 in
theorem gX2_afterStep_X2_greater_u39X4 : GoodIn wsX2_afterStep (va_wsU RX2 39 RX4 "WeatherMast$Sort" ⟨"WeatherMast$Sort", "greater", "(JJ)J"⟩ yX2_greater wsX2_greater) := goodIn_app (goodIn_of _ (by decide +kernel)) ggX2_afterStep_X2_greater
set_option maxRecDepth 20000 in
theorem ggX2_afterStep_X2_lesser : GoodIn wsX2_afterStep wsX2_lesser := goodIn_r _ [41, 26, 27, 28, 29, 5, 30, 9, 31, 4, 32, 6, 7, 8, 33, 34, 12, 35, 76, 77, 78, 79, 80, 81, 82, 83, 84, 85, 86, 87, 88, 89] (by decide +kernel) (by decide +kernel)
set_option maxRecDepth 20000 in
theorem gX2_afterStep_X2_lesser_u43X0 : GoodIn wsX2_afterStep (va_wsU RX2 43 RX0 "WeatherMast$Sort" ⟨"WeatherMast$Sort", "lesser", "(JJ)J"⟩ yX2_lesser wsX2_lesser) := goodIn_app (goodIn_of _ (by decide +kernel)) ggX2_afterStep_X2_lesser
set_option maxRecDepth 20000 in
theorem gX2_afterStep_X2_lesser_u43X4 : GoodIn wsX2_afterStep (va_wsU RX2 43 RX4 "WeatherMast$Sort" ⟨"WeatherMast$Sort", "lesser", "(JJ)J"⟩ yX2_lesser wsX2_lesser) := goodIn_app (goodIn_of _ (by decide +kernel)) ggX2_afterStep_X2_lesser
set_option maxRecDepth 20000 in
theorem ggX2_afterStep_X0_afterFurtherStep : GoodIn wsX2_afterStep wsX0_afterFurtherStep := goodIn_r _ [47, 48, 31, 4, 32, 5, 6, 7, 8, 9, 49, 50, 51, 52, 53, 54, 55, 56, 57, 58, 59, 60, 61, 62, 63, 64, 65, 66, 67, 68, 69, 70, 71, 72, 76, 77, 78, 79, 80, 81, 82, 83, 84, 85, 86, 87, 88, 89] (by decide +kernel) (by decide +kernel)
set_option maxRecDepth 20000 in
theorem gX2_afterStep_X0_afterFurtherStep_u46X0 : GoodIn wsX2_afterStep (va_wsU RX2 46 RX0 "WeatherMast$Sort" ⟨"WeatherMast$Sort", "afterFurtherStep", "(IJJ)J"⟩ yX0_afterFurtherStep wsX0_afterFurtherStep) := goodIn_app (goodIn_of _ (by decide +kernel)) ggX2_afterStep_X0_afterFurtherStep
set_option maxRecDepth 20000 in
theorem ggX2_afterStep_X4_afterFurtherStep : GoodIn wsX2_afterStep wsX4_afterFurtherStep := goodIn_r _ [75] (by decide +kernel) (by decide +kernel)
set_option maxRecDepth 20000 in
theorem gX2_afterStep_X4_afterFurtherStep_u46X4 : GoodIn wsX2_afterStep (va_wsU RX2 46 RX4 "WeatherMast$Sort" ⟨"WeatherMast$Sort", "afterFurtherStep", "(IJJ)J"⟩ yX4_afterFurtherStep wsX4_afterFurtherStep) := goodIn_app (goodIn_of _ (by decide +kernel)) ggX2_afterStep_X4_afterFurtherStep
set_option maxRecDepth 20000 in
theorem ggX4_init_X2_init : GoodIn wsX4_init wsX2_init := goodIn_r _ [8, 9, 10, 11, 12, 13, 14, 15, 16, 17, 18, 19, 20, 21, 22, 23, 24, 25, 26, 27, 28, 29, 30, 31] (by decide +kernel) (by decide +kernel)
set_option maxRecDepth 20000 in
theorem gX4_init_X2_init : GoodIn wsX4_init (wsX2_init) := ggX4_init_X2_init
set_option maxRecDepth 20000 in
theorem ggX4_amount_X2_heard : GoodIn wsX4_amount wsX2_heard := goodIn_r _ [6, 7, 8, 9, 10, 11, 12, 13, 14, 15, 16, 17, 18, 19, 20, 21] (by decide +kernel) (by decide +kernel)
set_option maxRecDepth 20000 in
theorem gX4_amount_X2_heard_u17X4 : GoodIn wsX4_amount (va_wsU RX4 17 RX4 "WeatherMast$Sort" ⟨"WeatherMast$Wholes", "heard", "(J)J"⟩ yX2_heard wsX2_heard) := goodIn_app (goodIn_of _ (by decide +kernel)) ggX4_amount_X2_heard
set_option maxRecDepth 20000 in
theorem ggX4_addAmounts_X2_heard : GoodIn wsX4_addAmounts wsX2_heard := goodIn_r _ [6, 7, 8, 9, 10, 11, 12, 13, 14, 15, 16, 17, 18, 19, 20, 21] (by decide +kernel) (by decide +kernel)
set_option maxRecDepth 20000 in
theorem gX4_addAmounts_X2_heard_u17X4 : GoodIn wsX4_addAmounts (va_wsU RX4 17 RX4 "WeatherMast$Sort" ⟨"WeatherMast$Wholes", "heard", "(J)J"⟩ yX2_heard wsX2_heard) := goodIn_app (goodIn_of _ (by decide +kernel)) ggX4_addAmounts_X2_heard
set_option maxRecDepth 20000 in
theorem ggX4_apart_X2_heard : GoodIn wsX4_apart wsX2_heard := goodIn_r _ [6, 7, 13, 14, 15, 16, 17, 18, 19, 20, 21, 22, 23, 24, 25, 26] (by decide +kernel) (by decide +kernel)
set_option maxRecDepth 20000 in
theorem gX4_apart_X2_heard_u17X4 : GoodIn wsX4_apart (va_wsU RX4 17 RX4 "WeatherMast$Sort" ⟨"WeatherMast$Wholes", "heard", "(J)J"⟩ yX2_heard wsX2_heard) := goodIn_app (goodIn_of _ (by decide +kernel)) ggX4_apart_X2_heard
set_option maxRecDepth 20000 in
theorem ggX4_apart_X4_amount : GoodIn wsX4_apart wsX4_amount := goodIn_r _ [12, 1, 2, 3, 4, 5, 6, 7, 13, 14, 15, 16, 17, 18, 19, 20, 21, 22, 23, 24, 25, 26] (by decide +kernel) (by decide +kernel)
set_option maxRecDepth 20000 in
theorem gX4_apart_X4_amount : GoodIn wsX4_apart (wsV RX4 23 RX4 yX4_amount wsX4_amount) := goodIn_app (goodIn_of _ (by decide +kernel)) ggX4_apart_X4_amount
set_option maxRecDepth 20000 in
theorem ggX5_init_X4_init : GoodIn wsX5_init wsX4_init := goodIn_r _ [16, 17, 18, 19, 20, 21, 22, 23, 24, 25, 2, 3, 26, 27, 28, 29, 30, 31, 50, 51, 52, 53, 54, 55, 56, 57, 58, 59, 46, 47, 48, 49] (by decide +kernel) (by decide +kernel)
set_option maxRecDepth 20000 in
theorem gX5_init_X4_init : GoodIn wsX5_init (wsX4_init) := ggX5_init_X4_init
set_option maxRecDepth 20000 in
theorem ggX5_init_X0_init : GoodIn wsX5_init wsX0_init := goodIn_r _ [34, 35, 36, 37, 38, 39, 40, 41, 42, 43, 44, 45, 22, 23, 24, 25, 2, 3, 26, 27, 28, 29, 30, 31, 50, 51, 52, 53, 54, 55, 56, 57, 58, 59, 46, 47, 48, 49] (by decide +kernel) (by decide +kernel)
set_option maxRecDepth 20000 in
theorem gX5_init_X0_init : GoodIn wsX5_init (wsX0_init) := ggX5_init_X0_init
set_option maxRecDepth 20000 in
theorem ggX5_mount_X5_findSort : GoodIn wsX5_mount wsX5_findSort := goodIn_r _ [14, 15, 32, 33, 34, 35, 36, 37] (by decide +kernel) (by decide +kernel)
set_option maxRecDepth 20000 in
theorem gX5_mount_X5_findSort : GoodIn wsX5_mount (wsV RX5 29 RX5 yX5_findSort wsX5_findSort) := goodIn_app (goodIn_of _ (by decide +kernel)) ggX5_mount_X5_findSort
set_option maxRecDepth 20000 in
theorem ggX5_mount_X1_init : GoodIn wsX5_mount wsX1_init := goodIn_r _ [18, 19, 20, 21, 22, 23, 24, 25, 26, 27, 28, 29, 30, 31, 38, 39, 40, 41, 42, 43, 44, 45, 46, 47, 48, 49, 50, 51, 52, 53, 54, 55, 56, 57, 58, 59, 60, 61, 62, 63, 64, 65] (by decide +kernel) (by decide +kernel)
set_option maxRecDepth 20000 in
theorem gX5_mount_X1_init : GoodIn wsX5_mount (wsX1_init) := ggX5_mount_X1_init
set_option maxRecDepth 20000 in
theorem ggX5_step_X5_findInstrument : GoodIn wsX5_step wsX5_findInstrument := goodIn_r _ [15, 16, 92, 93, 94, 95, 96, 97] (by decide +kernel) (by decide +kernel)
set_option maxRecDepth 20000 in
theorem gX5_step_X5_findInstrument : GoodIn wsX5_step (wsV RX5 52 RX5 yX5_findInstrument wsX5_findInstrument) := goodIn_app (goodIn_of _ (by decide +kernel)) ggX5_step_X5_findInstrument
set_option maxRecDepth 20000 in
theorem ggX5_step_X0_hasStep : GoodIn wsX5_step wsX0_hasStep := goodIn_r _ [22] (by decide +kernel) (by decide +kernel)
set_option maxRecDepth 20000 in
theorem gX5_step_X0_hasStep_u65X0 : GoodIn wsX5_step (va_wsU RX5 65 RX0 "WeatherMast$Sort" ⟨"WeatherMast$Sort", "hasStep", "(I)Z"⟩ yX0_hasStep wsX0_hasStep) := goodIn_app (goodIn_of _ (by decide +kernel)) ggX5_step_X0_hasStep
set_option maxRecDepth 20000 in
theorem ggX5_step_X4_hasStep : GoodIn wsX5_step wsX4_hasStep := goodIn_r _ [26] (by decide +kernel) (by decide +kernel)
set_option maxRecDepth 20000 in
theorem gX5_step_X4_hasStep_u65X4 : GoodIn wsX5_step (va_wsU RX5 65 RX4 "WeatherMast$Sort" ⟨"WeatherMast$Sort", "hasStep", "(I)Z"⟩ yX4_hasStep wsX4_hasStep) := goodIn_app (goodIn_of _ (by decide +kernel)) ggX5_step_X4_hasStep
set_option maxRecDepth 20000 in
theorem ggX5_step_X2_heard : GoodIn wsX5_step wsX2_heard := goodIn_r _ [32, 33, 98, 99, 100, 101, 102, 103, 104, 105, 106, 107, 108, 109, 110, 111] (by decide +kernel) (by decide +kernel)
set_option maxRecDepth 20000 in
theorem gX5_step_X2_heard_u71X0 : GoodIn wsX5_step (va_wsU RX5 71 RX0 "WeatherMast$Sort" ⟨"WeatherMast$Sort", "heard", "(J)J"⟩ yX2_heard wsX2_heard) := goodIn_app (goodIn_of _ (by decide +kernel)) ggX5_step_X2_heard
set_option maxRecDepth 20000 in
theorem gX5_step_X2_heard_u71X4 : GoodIn wsX5_step (va_wsU RX5 71 RX4 "WeatherMast$Sort" ⟨"WeatherMast$Sort", "heard", "(J)J"⟩ yX2_heard wsX2_heard) := goodIn_app (goodIn_of _ (by decide +kernel)) ggX5_step_X2_heard
set_option maxRecDepth 20000 in
theorem ggX5_step_X5_takesK : GoodIn wsX5_step wsX5_takesK := goodIn_r _ [37] (by decide +kernel) (by decide +kernel)
set_option maxRecDepth 20000 in
theorem gX5_step_X5_takesK : GoodIn wsX5_step (va_wsS RX5 75 yX5_takesK wsX5_takesK) := goodIn_app (goodIn_of _ (by decide +kernel)) ggX5_step_X5_takesK
set_option maxRecDepth 20000 in
theorem ggX5_step_X0_isNumber : GoodIn wsX5_step wsX0_isNumber := goodIn_r _ [42, 43, 44, 45, 46, 21, 47, 48, 49, 50, 98, 99, 100, 101, 102, 103, 104, 105, 106, 107, 108, 109, 110, 111] (by decide +kernel) (by decide +kernel)
set_option maxRecDepth 20000 in
theorem gX5_step_X0_isNumber_u78X0 : GoodIn wsX5_step (va_wsU RX5 78 RX0 "WeatherMast$Sort" ⟨"WeatherMast$Sort", "isNumber", "(J)Z"⟩ yX0_isNumber wsX0_isNumber) := goodIn_app (goodIn_of _ (by decide +kernel)) ggX5_step_X0_isNumber
set_option maxRecDepth 20000 in
theorem ggX5_step_X4_isNumber : GoodIn wsX5_step wsX4_isNumber := goodIn_r _ [53] (by decide +kernel) (by decide +kernel)
set_option maxRecDepth 20000 in
theorem gX5_step_X4_isNumber_u78X4 : GoodIn wsX5_step (va_wsU RX5 78 RX4 "WeatherMast$Sort" ⟨"WeatherMast$Sort", "isNumber", "(J)Z"⟩ yX4_isNumber wsX4_isNumber) := goodIn_app (goodIn_of _ (by decide +kernel)) ggX5_step_X4_isNumber
set_option maxRecDepth 20000 in
theorem ggX5_step_X1_isChainFull : GoodIn wsX5_step wsX1_isChainFull := goodIn_r _ [58, 59, 60, 75, 76, 77, 78, 79, 80, 81, 82, 83, 84, 85, 86, 87, 88] (by decide +kernel) (by decide +kernel)
set_option maxRecDepth 20000 in
theorem gX5_step_X1_isChainFull : GoodIn wsX5_step (wsV RX5 84 RX1 yX1_isChainFull wsX1_isChainFull) := goodIn_app (goodIn_of _ (by decide +kernel)) ggX5_step_X1_isChainFull
set_option maxRecDepth 20000 in
theorem ggX5_step_X3_init : GoodIn wsX5_step wsX3_init := goodIn_r _ [63, 64, 65, 66, 67, 68, 69, 89, 90, 91] (by decide +kernel) (by decide +kernel)
set_option maxRecDepth 20000 in
theorem gX5_step_X3_init : GoodIn wsX5_step (wsX3_init) := ggX5_step_X3_init
set_option maxRecDepth 20000 in
theorem ggX5_step_X1_lengthenChain : GoodIn wsX5_step wsX1_lengthenChain := goodIn_r _ [73, 60, 59, 74, 55, 56, 57, 58, 75, 76, 77, 78, 79, 80, 81, 82, 83, 84, 85, 86, 87, 88] (by decide +kernel) (by decide +kernel)
set_option maxRecDepth 20000 in
theorem gX5_step_X1_lengthenChain : GoodIn wsX5_step (wsV RX5 98 RX1 yX1_lengthenChain wsX1_lengthenChain) := goodIn_app (goodIn_of _ (by decide +kernel)) ggX5_step_X1_lengthenChain
set_option maxRecDepth 20000 in
theorem ggX5_follow_X5_findInstrument : GoodIn wsX5_follow wsX5_findInstrument := goodIn_r _ [16, 17, 69, 70, 71, 72, 73, 74] (by decide +kernel) (by decide +kernel)
set_option maxRecDepth 20000 in
theorem gX5_follow_X5_findInstrument : GoodIn wsX5_follow (wsV RX5 52 RX5 yX5_findInstrument wsX5_findInstrument) := goodIn_app (goodIn_of _ (by decide +kernel)) ggX5_follow_X5_findInstrument
set_option maxRecDepth 20000 in
theorem ggX5_follow_X0_hasStep : GoodIn wsX5_follow wsX0_hasStep := goodIn_r _ [23] (by decide +kernel) (by decide +kernel)
set_option maxRecDepth 20000 in
theorem gX5_follow_X0_hasStep_u65X0 : GoodIn wsX5_follow (va_wsU RX5 65 RX0 "WeatherMast$Sort" ⟨"WeatherMast$Sort", "hasStep", "(I)Z"⟩ yX0_hasStep wsX0_hasStep) := goodIn_app (goodIn_of _ (by decide +kernel)) ggX5_follow_X0_hasStep
set_option maxRecDepth 20000 in
theorem ggX5_follow_X4_hasStep : GoodIn wsX5_follow wsX4_hasStep := goodIn_r _ [27] (by decide +kernel) (by decide +kernel)
set_option maxRecDepth 20000 in
theorem gX5_follow_X4_hasStep_u65X4 : GoodIn wsX5_follow (va_wsU RX5 65 RX4 "WeatherMast$Sort" ⟨"WeatherMast$Sort", "hasStep", "(I)Z"⟩ yX4_hasStep wsX4_hasStep) := goodIn_app (goodIn_of _ (by decide +kernel)) ggX5_follow_X4_hasStep
set_option maxRecDepth 20000 in
theorem ggX5_follow_X5_takesK : GoodIn wsX5_follow wsX5_takesK := goodIn_r _ [30] (by decide +kernel) (by decide +kernel)
set_option maxRecDepth 20000 in
theorem gX5_follow_X5_takesK : GoodIn wsX5_follow (va_wsS RX5 75 yX5_takesK wsX5_takesK) := goodIn_app (goodIn_of _ (by decide +kernel)) ggX5_follow_X5_takesK
set_option maxRecDepth 20000 in
theorem ggX5_follow_X1_isChainFull : GoodIn wsX5_follow wsX1_isChainFull := goodIn_r _ [35, 36, 37, 52, 53, 54, 55, 56, 57, 58, 59, 60, 61, 62, 63, 64, 65] (by decide +kernel) (by decide +kernel)
set_option maxRecDepth 20000 in
theorem gX5_follow_X1_isChainFull : GoodIn wsX5_follow (wsV RX5 84 RX1 yX1_isChainFull wsX1_isChainFull) := goodIn_app (goodIn_of _ (by decide +kernel)) ggX5_follow_X1_isChainFull
set_option maxRecDepth 20000 in
theorem ggX5_follow_X3_init : GoodIn wsX5_follow wsX3_init := goodIn_r _ [40, 41, 42, 43, 44, 45, 46, 66, 67, 68] (by decide +kernel) (by decide +kernel)
set_option maxRecDepth 20000 in
theorem gX5_follow_X3_init : GoodIn wsX5_follow (wsX3_init) := ggX5_follow_X3_init
set_option maxRecDepth 20000 in
theorem ggX5_follow_X1_lengthenChain : GoodIn wsX5_follow wsX1_lengthenChain := goodIn_r _ [50, 37, 36, 51, 32, 33, 34, 35, 52, 53, 54, 55, 56, 57, 58, 59, 60, 61, 62, 63, 64, 65] (by decide +kernel) (by decide +kernel)
set_option maxRecDepth 20000 in
theorem gX5_follow_X1_lengthenChain : GoodIn wsX5_follow (wsV RX5 98 RX1 yX1_lengthenChain wsX1_lengthenChain) := goodIn_app (goodIn_of _ (by decide +kernel)) ggX5_follow_X1_lengthenChain
set_option maxRecDepth 20000 in
theorem ggX5_read_X5_findInstrument : GoodIn wsX5_read wsX5_findInstrument := goodIn_r _ [15, 16, 246, 247, 248, 249, 250, 251] (by decide +kernel) (by decide +kernel)
set_option maxRecDepth 20000 in
theorem gX5_read_X5_findInstrument : GoodIn wsX5_read (wsV RX5 52 RX5 yX5_findInstrument wsX5_findInstrument) := goodIn_app (goodIn_of _ (by decide +kernel)) ggX5_read_X5_findInstrument
set_option maxRecDepth 20000 in
theorem ggX5_read_X2_heard : GoodIn wsX5_read wsX2_heard := goodIn_r _ [22, 23, 252, 253, 254, 255, 256, 257, 258, 259, 260, 261, 262, 263, 264, 265] (by decide +kernel) (by decide +kernel)
set_option maxRecDepth 20000 in
theorem gX5_read_X2_heard_u71X0 : GoodIn wsX5_read (va_wsU RX5 71 RX0 "WeatherMast$Sort" ⟨"WeatherMast$Sort", "heard", "(J)J"⟩ yX2_heard wsX2_heard) := goodIn_app (goodIn_of _ (by decide +kernel)) ggX5_read_X2_heard
set_option maxRecDepth 20000 in
theorem gX5_read_X2_heard_u71X4 : GoodIn wsX5_read (va_wsU RX5 71 RX4 "WeatherMast$Sort" ⟨"WeatherMast$Sort", "heard", "(J)J"⟩ yX2_heard wsX2_heard) := goodIn_app (goodIn_of _ (by decide +kernel)) ggX5_read_X2_heard
set_option maxRecDepth 20000 in
theorem ggX5_read_X0_isNumber : GoodIn wsX5_read wsX0_isNumber := goodIn_r _ [30, 31, 32, 33, 34, 29, 35, 36, 37, 38, 252, 253, 254, 255, 256, 257, 258, 259, 260, 261, 262, 263, 264, 265] (by decide +kernel) (by decide +kernel)
set_option maxRecDepth 20000 in
theorem gX5_read_X0_isNumber_u78X0 : GoodIn wsX5_read (va_wsU RX5 78 RX0 "WeatherMast$Sort" ⟨"WeatherMast$Sort", "isNumber", "(J)Z"⟩ yX0_isNumber wsX0_isNumber) := goodIn_app (goodIn_of _ (by decide +kernel)) ggX5_read_X0_isNumber
set_option maxRecDepth 20000 in
theorem ggX5_read_X4_isNumber : GoodIn wsX5_read wsX4_isNumber := goodIn_r _ [42] (by decide +kernel) (by decide +kernel)
set_option maxRecDepth 20000 in
theorem gX5_read_X4_isNumber_u78X4 : GoodIn wsX5_read (va_wsU RX5 78 RX4 "WeatherMast$Sort" ⟨"WeatherMast$Sort", "isNumber", "(J)Z"⟩ yX4_isNumber wsX4_isNumber) := goodIn_app (goodIn_of _ (by decide +kernel)) ggX5_read_X4_isNumber
set_option maxRecDepth 20000 in
theorem ggX5_read_X1_throughChain : GoodIn wsX5_read wsX1_throughChain := goodIn_r _ [47, 48, 49, 50, 51, 52, 53, 54, 55, 56, 57, 58, 59, 60, 61, 62, 21, 63, 64, 65, 66, 33, 29, 35, 36, 37, 38, 67, 68, 41, 69, 70, 71, 72, 20, 22, 23, 73, 74, 75, 76, 77, 78, 79, 80, 81, 82, 32, 34, 83, 84, 85, 86, 87, 88, 89, 90, 91, 92, 93, 94, 95, 96, 97, 98, 99, 100, 101, 102, 103, 104, 105, 106, 107, 108, 109, 110, 111, 112, 113, 114, 115, 116, 117, 118, 119, 120, 121, 122, 123, 124, 125, 126, 232, 233, 234, 235, 236, 237, 238, 239, 240, 241, 242, 243, 244, 245, 266, 267, 268, 252, 253, 254, 255, 256, 257, 258, 259, 260, 261, 262, 263, 264, 265] (by decide +kernel) (by decide +kernel)
set_option maxRecDepth 20000 in
theorem gX5_read_X1_throughChain : GoodIn wsX5_read (wsV RX5 111 RX1 yX1_throughChain wsX1_throughChain) := goodIn_app (goodIn_of _ (by decide +kernel)) ggX5_read_X1_throughChain
set_option maxRecDepth 20000 in
theorem ggX5_read_X1_keep : GoodIn wsX5_read wsX1_keep := goodIn_r _ [130, 49, 131, 132, 133, 134, 135, 136, 137, 138, 139, 140, 46, 141, 142, 88, 89, 90, 21, 91, 78, 79, 80, 81, 29, 82, 38, 32, 33, 34, 35, 36, 37, 83, 84, 41, 85, 92, 143, 74, 75, 76, 77, 86, 144, 145, 146, 147, 148, 149, 150, 151, 152, 153, 154, 155, 156, 157, 158, 159, 160, 161, 162, 163, 31, 164, 165, 166, 167, 168, 111, 169, 170, 171, 172, 173, 174, 175, 176, 177, 178, 179, 180, 181, 182, 183, 112, 184, 185, 186, 187, 188, 189, 190, 191, 192, 193, 194, 195, 196, 197, 198, 199, 200, 201, 202, 203, 204, 70, 71, 72, 20, 22, 23, 205, 68, 206, 69, 207, 65, 66, 67, 208, 209, 210, 211, 212, 213, 232, 233, 234, 235, 236, 237, 238, 239, 240, 241, 242, 243, 244, 245, 252, 253, 254, 255, 256, 257, 258, 259, 260, 261, 262, 263, 264, 265] (by decide +kernel) (by decide +kernel)
set_option maxRecDepth 20000 in
theorem gX5_read_X1_keep : GoodIn wsX5_read (wsV RX5 114 RX1 yX1_keep wsX1_keep) := goodIn_app (goodIn_of _ (by decide +kernel)) ggX5_read_X1_keep
set_option maxRecDepth 20000 in
theorem ggX5_read_X1_isBeyondLimits : GoodIn wsX5_read wsX1_isBeyondLimits := goodIn_r _ [217, 49, 218, 219, 220, 221, 222, 223, 21, 224, 225, 226, 227, 150, 29, 152, 32, 33, 34, 35, 36, 37, 38, 228, 229, 41, 230, 231, 232, 233, 234, 235, 236, 237, 238, 239, 240, 241, 242, 243, 244, 245, 252, 253, 254, 255, 256, 257, 258, 259, 260, 261, 262, 263, 264, 265] (by decide +kernel) (by decide +kernel)
set_option maxRecDepth 20000 in
theorem gX5_read_X1_isBeyondLimits : GoodIn wsX5_read (wsV RX5 127 RX1 yX1_isBeyondLimits wsX1_isBeyondLimits) := goodIn_app (goodIn_of _ (by decide +kernel)) ggX5_read_X1_isBeyondLimits
set_option maxRecDepth 20000 in
theorem ggX5_reading_X5_findInstrument : GoodIn wsX5_reading wsX5_findInstrument := goodIn_r _ [9, 10, 22, 23, 24, 25, 26, 27] (by decide +kernel) (by decide +kernel)
set_option maxRecDepth 20000 in
theorem gX5_reading_X5_findInstrument : GoodIn wsX5_reading (wsV RX5 52 RX5 yX5_findInstrument wsX5_findInstrument) := goodIn_app (goodIn_of _ (by decide +kernel)) ggX5_reading_X5_findInstrument
set_option maxRecDepth 20000 in
theorem ggX5_reading_X1_isKept : GoodIn wsX5_reading wsX1_isKept := goodIn_r _ [15, 16, 28, 29, 30, 31, 32, 33, 34, 35, 36, 37, 38, 39, 40, 41] (by decide +kernel) (by decide +kernel)
set_option maxRecDepth 20000 in
theorem gX5_reading_X1_isKept : GoodIn wsX5_reading (wsV RX5 136 RX1 yX1_isKept wsX1_isKept) := goodIn_app (goodIn_of _ (by decide +kernel)) ggX5_reading_X1_isKept
set_option maxRecDepth 20000 in
theorem ggX5_reading_X1_keptAt : GoodIn wsX5_reading wsX1_keptAt := goodIn_r _ [20, 21, 16, 28, 29, 30, 31, 32, 33, 34, 35, 36, 37, 38, 39, 40, 41] (by decide +kernel) (by decide +kernel)
set_option maxRecDepth 20000 in
theorem gX5_reading_X1_keptAt : GoodIn wsX5_reading (wsV RX5 144 RX1 yX1_keptAt wsX1_keptAt) := goodIn_app (goodIn_of _ (by decide +kernel)) ggX5_reading_X1_keptAt
set_option maxRecDepth 20000 in
theorem ggX5_tell_X5_findInstrument : GoodIn wsX5_tell wsX5_findInstrument := goodIn_r _ [15, 16, 37, 38, 39, 40, 41, 42] (by decide +kernel) (by decide +kernel)
set_option maxRecDepth 20000 in
theorem gX5_tell_X5_findInstrument : GoodIn wsX5_tell (wsV RX5 52 RX5 yX5_findInstrument wsX5_findInstrument) := goodIn_app (goodIn_of _ (by decide +kernel)) ggX5_tell_X5_findInstrument
set_option maxRecDepth 20000 in
theorem ggX5_tell_X1_hasRead : GoodIn wsX5_tell wsX1_hasRead := goodIn_r _ [21, 22, 23, 24, 25, 26, 27, 28, 29, 30, 31, 32, 33, 34, 35, 36] (by decide +kernel) (by decide +kernel)
set_option maxRecDepth 20000 in
theorem gX5_tell_X1_hasRead : GoodIn wsX5_tell (wsV RX5 150 RX1 yX1_hasRead wsX1_hasRead) := goodIn_app (goodIn_of _ (by decide +kernel)) ggX5_tell_X1_hasRead
set_option maxRecDepth 20000 in
theorem ggX5_whole_X5_findInstrument : GoodIn wsX5_whole wsX5_findInstrument := goodIn_r _ [11, 12, 73, 74, 75, 76, 77, 78] (by decide +kernel) (by decide +kernel)
set_option maxRecDepth 20000 in
theorem gX5_whole_X5_findInstrument : GoodIn wsX5_whole (wsV RX5 52 RX5 yX5_findInstrument wsX5_findInstrument) := goodIn_app (goodIn_of _ (by decide +kernel)) ggX5_whole_X5_findInstrument
set_option maxRecDepth 20000 in
theorem ggX5_whole_X1_hasRead : GoodIn wsX5_whole wsX1_hasRead := goodIn_r _ [17, 18, 59, 60, 61, 62, 63, 64, 65, 66, 67, 68, 69, 70, 71, 72] (by decide +kernel) (by decide +kernel)
set_option maxRecDepth 20000 in
theorem gX5_whole_X1_hasRead : GoodIn wsX5_whole (wsV RX5 150 RX1 yX1_hasRead wsX1_hasRead) := goodIn_app (goodIn_of _ (by decide +kernel)) ggX5_whole_X1_hasRead
set_option maxRecDepth 20000 in
theorem ggX5_whole_X0_asInt : GoodIn wsX5_whole wsX0_asInt := goodIn_r _ [24, 25, 26, 27, 28, 29, 30, 31, 32, 23, 33, 34, 35, 36, 37, 38, 39, 40, 41, 42, 43, 44, 45, 79, 80, 81, 82, 83, 84, 85, 86, 87, 88, 89, 90, 91, 92] (by decide +kernel) (by decide +kernel)
set_option maxRecDepth 20000 in
theorem gX5_whole_X0_asInt_u171X0 : GoodIn wsX5_whole (va_wsU RX5 171 RX0 "WeatherMast$Sort" ⟨"WeatherMast$Sort", "asInt", "(J)I"⟩ yX0_asInt wsX0_asInt) := goodIn_app (goodIn_of _ (by decide +kernel)) ggX5_whole_X0_asInt
set_option maxRecDepth 20000 in
theorem ggX5_whole_X4_asInt : GoodIn wsX5_whole wsX4_asInt := goodIn_r _ [49, 50, 51, 52, 53, 54, 55, 56, 57, 58] (by decide +kernel) (by decide +kernel)
set_option maxRecDepth 20000 in
theorem gX5_whole_X4_asInt_u171X4 : GoodIn wsX5_whole (va_wsU RX5 171 RX4 "WeatherMast$Sort" ⟨"WeatherMast$Sort", "asInt", "(J)I"⟩ yX4_asInt wsX4_asInt) := goodIn_app (goodIn_of _ (by decide +kernel)) ggX5_whole_X4_asInt
set_option maxRecDepth 20000 in
theorem ggX5_limits_X5_findInstrument : GoodIn wsX5_limits wsX5_findInstrument := goodIn_r _ [12, 13, 68, 69, 70, 71, 72, 73] (by decide +kernel) (by decide +kernel)
set_option maxRecDepth 20000 in
theorem gX5_limits_X5_findInstrument : GoodIn wsX5_limits (wsV RX5 52 RX5 yX5_findInstrument wsX5_findInstrument) := goodIn_app (goodIn_of _ (by decide +kernel)) ggX5_limits_X5_findInstrument
set_option maxRecDepth 20000 in
theorem ggX5_limits_X2_heard : GoodIn wsX5_limits wsX2_heard := goodIn_r _ [19, 20, 74, 75, 76, 77, 78, 79, 80, 81, 82, 83, 84, 85, 86, 87] (by decide +kernel) (by decide +kernel)
set_option maxRecDepth 20000 in
theorem gX5_limits_X2_heard_u71X0 : GoodIn wsX5_limits (va_wsU RX5 71 RX0 "WeatherMast$Sort" ⟨"WeatherMast$Sort", "heard", "(J)J"⟩ yX2_heard wsX2_heard) := goodIn_app (goodIn_of _ (by decide +kernel)) ggX5_limits_X2_heard
set_option maxRecDepth 20000 in
theorem gX5_limits_X2_heard_u71X4 : GoodIn wsX5_limits (va_wsU RX5 71 RX4 "WeatherMast$Sort" ⟨"WeatherMast$Sort", "heard", "(J)J"⟩ yX2_heard wsX2_heard) := goodIn_app (goodIn_of _ (by decide +kernel)) ggX5_limits_X2_heard
set_option maxRecDepth 20000 in
theorem ggX5_limits_X0_isNumber : GoodIn wsX5_limits wsX0_isNumber := goodIn_r _ [27, 28, 29, 30, 31, 26, 32, 33, 34, 35, 74, 75, 76, 77, 78, 79, 80, 81, 82, 83, 84, 85, 86, 87] (by decide +kernel) (by decide +kernel)
set_option maxRecDepth 20000 in
theorem gX5_limits_X0_isNumber_u78X0 : GoodIn wsX5_limits (va_wsU RX5 78 RX0 "WeatherMast$Sort" ⟨"WeatherMast$Sort", "isNumber", "(J)Z"⟩ yX0_isNumber wsX0_isNumber) := goodIn_app (goodIn_of _ (by decide +kernel)) ggX5_limits_X0_isNumber
set_option maxRecDepth 20000 in
theorem ggX5_limits_X4_isNumber : GoodIn wsX5_limits wsX4_isNumber := goodIn_r _ [39] (by decide +kernel) (by decide +kernel)
set_option maxRecDepth 20000 in
theorem gX5_limits_X4_isNumber_u78X4 : GoodIn wsX5_limits (va_wsU RX5 78 RX4 "WeatherMast$Sort" ⟨"WeatherMast$Sort", "isNumber", "(J)Z"⟩ yX4_isNumber wsX4_isNumber) := goodIn_app (goodIn_of _ (by decide +kernel)) ggX5_limits_X4_isNumber
set_option maxRecDepth 20000 in
theorem ggX5_limits_X2_isAbove : GoodIn wsX5_limits wsX2_isAbove := goodIn_r _ [44, 45, 46, 47, 48, 26, 49, 29, 30, 31, 32, 33, 34, 35, 50, 51, 38, 52, 74, 75, 76, 77, 78, 79, 80, 81, 82, 83, 84, 85, 86, 87] (by decide +kernel) (by decide +kernel)
set_option maxRecDepth 20000 in
theorem gX5_limits_X2_isAbove_u183X0 : GoodIn wsX5_limits (va_wsU RX5 183 RX0 "WeatherMast$Sort" ⟨"WeatherMast$Sort", "isAbove", "(JJ)Z"⟩ yX2_isAbove wsX2_isAbove) := goodIn_app (goodIn_of _ (by decide +kernel)) ggX5_limits_X2_isAbove
set_option maxRecDepth 20000 in
theorem gX5_limits_X2_isAbove_u183X4 : GoodIn wsX5_limits (va_wsU RX5 183 RX4 "WeatherMast$Sort" ⟨"WeatherMast$Sort", "isAbove", "(JJ)Z"⟩ yX2_isAbove wsX2_isAbove) := goodIn_app (goodIn_of _ (by decide +kernel)) ggX5_limits_X2_isAbove
set_option maxRecDepth 20000 in
theorem ggX5_widest_X5_findSort : GoodIn wsX5_widest wsX5_findSort := goodIn_r _ [12, 13, 44, 45, 46, 47, 48, 49] (by decide +kernel) (by decide +kernel)
set_option maxRecDepth 20000 in
theorem gX5_widest_X5_findSort : GoodIn wsX5_widest (wsV RX5 29 RX5 yX5_findSort wsX5_findSort) := goodIn_app (goodIn_of _ (by decide +kernel)) ggX5_widest_X5_findSort
set_option maxRecDepth 20000 in
theorem ggX5_widest_X1_hasRead : GoodIn wsX5_widest wsX1_hasRead := goodIn_r _ [18, 19, 50, 51, 52, 53, 54, 55, 56, 57, 58, 59, 60, 61, 62, 63] (by decide +kernel) (by decide +kernel)
set_option maxRecDepth 20000 in
theorem gX5_widest_X1_hasRead : GoodIn wsX5_widest (wsV RX5 150 RX1 yX1_hasRead wsX1_hasRead) := goodIn_app (goodIn_of _ (by decide +kernel)) ggX5_widest_X1_hasRead
set_option maxRecDepth 20000 in
theorem ggX5_widest_X2_greater : GoodIn wsX5_widest wsX2_greater := goodIn_r _ [25, 26, 27, 28, 29, 30, 31, 32, 33, 34, 35, 36, 37, 38, 39, 40, 41, 42, 64, 65, 66, 67, 68, 69, 70, 71, 72, 73, 74, 75, 76, 77] (by decide +kernel) (by decide +kernel)
set_option maxRecDepth 20000 in
theorem gX5_widest_X2_greater_u187X0 : GoodIn wsX5_widest (va_wsU RX5 187 RX0 "WeatherMast$Sort" ⟨"WeatherMast$Sort", "greater", "(JJ)J"⟩ yX2_greater wsX2_greater) := goodIn_app (goodIn_of _ (by decide +kernel)) ggX5_widest_X2_greater
set_option maxRecDepth 20000 in
theorem gX5_widest_X2_greater_u187X4 : GoodIn wsX5_widest (va_wsU RX5 187 RX4 "WeatherMast$Sort" ⟨"WeatherMast$Sort", "greater", "(JJ)J"⟩ yX2_greater wsX2_greater) := goodIn_app (goodIn_of _ (by decide +kernel)) ggX5_widest_X2_greater
set_option maxRecDepth 20000 in
theorem ggX5_forget_X5_findInstrument : GoodIn wsX5_forget wsX5_findInstrument := goodIn_r _ [8, 9, 35, 36, 37, 38, 39, 40] (by decide +kernel) (by decide +kernel)
set_option maxRecDepth 20000 in
theorem gX5_forget_X5_findInstrument : GoodIn wsX5_forget (wsV RX5 52 RX5 yX5_findInstrument wsX5_findInstrument) := goodIn_app (goodIn_of _ (by decide +kernel)) ggX5_forget_X5_findInstrument
set_option maxRecDepth 20000 in
theorem ggX5_forget_X1_loseReadings : GoodIn wsX5_forget wsX1_loseReadings := goodIn_r _ [14, 15, 16, 17, 18, 19, 20, 21, 22, 23, 24, 25, 26, 27, 28, 29, 30, 31, 32, 33, 34] (by decide +kernel) (by decide +kernel)
set_option maxRecDepth 20000 in
theorem gX5_forget_X1_loseReadings : GoodIn wsX5_forget (wsV RX5 196 RX1 yX1_loseReadings wsX1_loseReadings) := goodIn_app (goodIn_of _ (by decide +kernel)) ggX5_forget_X1_loseReadings
set_option maxRecDepth 20000 in
theorem ggX5_alarms_X5_findInstrument : GoodIn wsX5_alarms wsX5_findInstrument := goodIn_r _ [8, 9, 24, 25, 26, 27, 28, 29] (by decide +kernel) (by decide +kernel)
set_option maxRecDepth 20000 in
theorem gX5_alarms_X5_findInstrument : GoodIn wsX5_alarms (wsV RX5 52 RX5 yX5_findInstrument wsX5_findInstrument) := goodIn_app (goodIn_of _ (by decide +kernel)) ggX5_alarms_X5_findInstrument
set_option maxRecDepth 20000 in
theorem ggX6_amountBits_X6_form : GoodIn wsX6_amountBits wsX6_form := goodIn_r _ [5, 6] (by decide +kernel) (by decide +kernel)
set_option maxRecDepth 20000 in
theorem gX6_amountBits_X6_form : GoodIn wsX6_amountBits (va_wsS RX6 74 yX6_form wsX6_form) := goodIn_app (goodIn_of _ (by decide +kernel)) ggX6_amountBits_X6_form
set_option maxRecDepth 20000 in
theorem ggX6_amountBits_X6_signBit : GoodIn wsX6_amountBits wsX6_signBit := goodIn_r _ [9, 10, 11] (by decide +kernel) (by decide +kernel)
set_option maxRecDepth 20000 in
theorem gX6_amountBits_X6_signBit : GoodIn wsX6_amountBits (va_wsS RX6 78 yX6_signBit wsX6_signBit) := goodIn_app (goodIn_of _ (by decide +kernel)) ggX6_amountBits_X6_signBit
set_option maxRecDepth 20000 in
theorem ggX6_isNone_X6_isReal : GoodIn wsX6_isNone wsX6_isReal := goodIn_r _ [4] (by decide +kernel) (by decide +kernel)
set_option maxRecDepth 20000 in
theorem gX6_isNone_X6_isReal : GoodIn wsX6_isNone (va_wsS RX6 84 yX6_isReal wsX6_isReal) := goodIn_app (goodIn_of _ (by decide +kernel)) ggX6_isNone_X6_isReal
set_option maxRecDepth 20000 in
theorem ggX6_isNone_X6_cut : GoodIn wsX6_isNone wsX6_cut := goodIn_r _ [7] (by decide +kernel) (by decide +kernel)
set_option maxRecDepth 20000 in
theorem gX6_isNone_X6_cut : GoodIn wsX6_isNone (va_wsS RX6 88 yX6_cut wsX6_cut) := goodIn_app (goodIn_of _ (by decide +kernel)) ggX6_isNone_X6_cut
set_option maxRecDepth 20000 in
theorem ggX6_isNone_X6_amountBits : GoodIn wsX6_isNone wsX6_amountBits := goodIn_r _ [10, 11, 12, 13, 3, 14, 15, 16, 17, 18, 19, 20] (by decide +kernel) (by decide +kernel)
set_option maxRecDepth 20000 in
theorem gX6_isNone_X6_amountBits : GoodIn wsX6_isNone (va_wsS RX6 91 yX6_amountBits wsX6_amountBits) := goodIn_app (goodIn_of _ (by decide +kernel)) ggX6_isNone_X6_amountBits
set_option maxRecDepth 20000 in
theorem ggX6_isNone_X6_endless : GoodIn wsX6_isNone wsX6_endless := goodIn_r _ [23, 24, 25] (by decide +kernel) (by decide +kernel)
set_option maxRecDepth 20000 in
theorem gX6_isNone_X6_endless : GoodIn wsX6_isNone (va_wsS RX6 94 yX6_endless wsX6_endless) := goodIn_app (goodIn_of _ (by decide +kernel)) ggX6_isNone_X6_endless
set_option maxRecDepth 20000 in
theorem ggX6_rank_X6_isReal : GoodIn wsX6_rank wsX6_isReal := goodIn_r _ [5] (by decide +kernel) (by decide +kernel)
set_option maxRecDepth 20000 in
theorem gX6_rank_X6_isReal : GoodIn wsX6_rank (va_wsS RX6 84 yX6_isReal wsX6_isReal) := goodIn_app (goodIn_of _ (by decide +kernel)) ggX6_rank_X6_isReal
set_option maxRecDepth 20000 in
theorem ggX6_rank_X6_amountBits : GoodIn wsX6_rank wsX6_amountBits := goodIn_r _ [8, 1, 9, 10, 4, 11, 12, 13, 14, 15, 16, 17] (by decide +kernel) (by decide +kernel)
set_option maxRecDepth 20000 in
theorem gX6_rank_X6_amountBits : GoodIn wsX6_rank (va_wsS RX6 91 yX6_amountBits wsX6_amountBits) := goodIn_app (goodIn_of _ (by decide +kernel)) ggX6_rank_X6_amountBits
set_option maxRecDepth 20000 in
theorem ggX6_rank_X6_isMinus : GoodIn wsX6_rank wsX6_isMinus := goodIn_r _ [20] (by decide +kernel) (by decide +kernel)
set_option maxRecDepth 20000 in
theorem gX6_rank_X6_isMinus : GoodIn wsX6_rank (va_wsS RX6 97 yX6_isMinus wsX6_isMinus) := goodIn_app (goodIn_of _ (by decide +kernel)) ggX6_rank_X6_isMinus
set_option maxRecDepth 20000 in
theorem ggX6_height_X6_isReal : GoodIn wsX6_height wsX6_isReal := goodIn_r _ [4] (by decide +kernel) (by decide +kernel)
set_option maxRecDepth 20000 in
theorem gX6_height_X6_isReal : GoodIn wsX6_height (va_wsS RX6 84 yX6_isReal wsX6_isReal) := goodIn_app (goodIn_of _ (by decide +kernel)) ggX6_height_X6_isReal
set_option maxRecDepth 20000 in
theorem ggX6_height_X6_amountBits : GoodIn wsX6_height wsX6_amountBits := goodIn_r _ [7, 8, 9, 10, 3, 11, 12, 13, 14, 15, 16, 17] (by decide +kernel) (by decide +kernel)
set_option maxRecDepth 20000 in
theorem gX6_height_X6_amountBits : GoodIn wsX6_height (va_wsS RX6 91 yX6_amountBits wsX6_amountBits) := goodIn_app (goodIn_of _ (by decide +kernel)) ggX6_height_X6_amountBits
set_option maxRecDepth 20000 in
theorem ggX6_height_X6_rank : GoodIn wsX6_height wsX6_rank := goodIn_r _ [20, 8, 1, 2, 3, 4, 5, 6, 7, 9, 10, 11, 12, 13, 14, 15, 16, 17, 21, 22, 23] (by decide +kernel) (by decide +kernel)
set_option maxRecDepth 20000 in
theorem gX6_height_X6_rank : GoodIn wsX6_height (va_wsS RX6 101 yX6_rank wsX6_rank) := goodIn_app (goodIn_of _ (by decide +kernel)) ggX6_height_X6_rank
set_option maxRecDepth 20000 in
theorem ggX6_greater_X6_rank : GoodIn wsX6_greater wsX6_rank := goodIn_r _ [4, 5, 6, 7, 3, 8, 9, 10, 11, 12, 13, 14, 15, 16, 17, 18, 19, 20, 21, 22, 23] (by decide +kernel) (by decide +kernel)
set_option maxRecDepth 20000 in
theorem gX6_greater_X6_rank : GoodIn wsX6_greater (va_wsS RX6 101 yX6_rank wsX6_rank) := goodIn_app (goodIn_of _ (by decide +kernel)) ggX6_greater_X6_rank
set_option maxRecDepth 20000 in
theorem ggX6_lesser_X6_rank : GoodIn wsX6_lesser wsX6_rank := goodIn_r _ [4, 5, 6, 7, 3, 8, 9, 10, 11, 12, 13, 14, 15, 16, 17, 18, 19, 20, 21, 22, 23] (by decide +kernel) (by decide +kernel)
set_option maxRecDepth 20000 in
theorem gX6_lesser_X6_rank : GoodIn wsX6_lesser (va_wsS RX6 101 yX6_rank wsX6_rank) := goodIn_app (goodIn_of _ (by decide +kernel)) ggX6_lesser_X6_rank
set_option maxRecDepth 20000 in
theorem ggX6_isAbove_X6_height : GoodIn wsX6_isAbove wsX6_height := goodIn_r _ [4, 5, 6, 3, 7, 8, 9, 10, 11, 12, 13, 14, 15, 16, 17, 18, 19, 20, 21, 22, 23, 24, 25, 26] (by decide +kernel) (by decide +kernel)
set_option maxRecDepth 20000 in
theorem gX6_isAbove_X6_height : GoodIn wsX6_isAbove (va_wsS RX6 104 yX6_height wsX6_height) := goodIn_app (goodIn_of _ (by decide +kernel)) ggX6_isAbove_X6_height
set_option maxRecDepth 20000 in
theorem ggX6_amount_X6_isReal : GoodIn wsX6_amount wsX6_isReal := goodIn_r _ [4] (by decide +kernel) (by decide +kernel)
set_option maxRecDepth 20000 in
theorem gX6_amount_X6_isReal : GoodIn wsX6_amount (va_wsS RX6 84 yX6_isReal wsX6_isReal) := goodIn_app (goodIn_of _ (by decide +kernel)) ggX6_amount_X6_isReal
set_option maxRecDepth 20000 in
theorem ggX6_amount_X6_amountBits : GoodIn wsX6_amount wsX6_amountBits := goodIn_r _ [7, 8, 9, 10, 3, 11, 12, 13, 14, 15, 16, 17] (by decide +kernel) (by decide +kernel)
set_option maxRecDepth 20000 in
theorem gX6_amount_X6_amountBits : GoodIn wsX6_amount (va_wsS RX6 91 yX6_amountBits wsX6_amountBits) := goodIn_app (goodIn_of _ (by decide +kernel)) ggX6_amount_X6_amountBits
set_option maxRecDepth 20000 in
theorem ggX6_amount_X6_cut : GoodIn wsX6_amount wsX6_cut := goodIn_r _ [20] (by decide +kernel) (by decide +kernel)
set_option maxRecDepth 20000 in
theorem gX6_amount_X6_cut : GoodIn wsX6_amount (va_wsS RX6 88 yX6_cut wsX6_cut) := goodIn_app (goodIn_of _ (by decide +kernel)) ggX6_amount_X6_cut
set_option maxRecDepth 20000 in
theorem ggX6_signed_X6_signBit : GoodIn wsX6_signed wsX6_signBit := goodIn_r _ [4, 5, 6] (by decide +kernel) (by decide +kernel)
set_option maxRecDepth 20000 in
theorem gX6_signed_X6_signBit : GoodIn wsX6_signed (va_wsS RX6 78 yX6_signBit wsX6_signBit) := goodIn_app (goodIn_of _ (by decide +kernel)) ggX6_signed_X6_signBit
set_option maxRecDepth 20000 in
theorem ggX6_signed_X6_cut : GoodIn wsX6_signed wsX6_cut := goodIn_r _ [9] (by decide +kernel) (by decide +kernel)
set_option maxRecDepth 20000 in
theorem gX6_signed_X6_cut : GoodIn wsX6_signed (va_wsS RX6 88 yX6_cut wsX6_cut) := goodIn_app (goodIn_of _ (by decide +kernel)) ggX6_signed_X6_cut
set_option maxRecDepth 20000 in
theorem ggX6_toWhole_X6_isMinus : GoodIn wsX6_toWhole wsX6_isMinus := goodIn_r _ [5] (by decide +kernel) (by decide +kernel)
set_option maxRecDepth 20000 in
theorem gX6_toWhole_X6_isMinus : GoodIn wsX6_toWhole (va_wsS RX6 97 yX6_isMinus wsX6_isMinus) := goodIn_app (goodIn_of _ (by decide +kernel)) ggX6_toWhole_X6_isMinus
set_option maxRecDepth 20000 in
theorem ggX6_toWhole_X6_amountBits : GoodIn wsX6_toWhole wsX6_amountBits := goodIn_r _ [8, 9, 10, 11, 4, 12, 13, 14, 15, 16, 17, 18] (by decide +kernel) (by decide +kernel)
set_option maxRecDepth 20000 in
theorem gX6_toWhole_X6_amountBits : GoodIn wsX6_toWhole (va_wsS RX6 91 yX6_amountBits wsX6_amountBits) := goodIn_app (goodIn_of _ (by decide +kernel)) ggX6_toWhole_X6_amountBits
set_option maxRecDepth 20000 in
theorem ggX6_toWhole_X6_places : GoodIn wsX6_toWhole wsX6_places := goodIn_r _ [21] (by decide +kernel) (by decide +kernel)
set_option maxRecDepth 20000 in
theorem gX6_toWhole_X6_places : GoodIn wsX6_toWhole (va_wsS RX6 107 yX6_places wsX6_places) := goodIn_app (goodIn_of _ (by decide +kernel)) ggX6_toWhole_X6_places
set_option maxRecDepth 20000 in
theorem ggX6_toWhole_X6_one : GoodIn wsX6_toWhole wsX6_one := goodIn_r _ [24, 25, 26] (by decide +kernel) (by decide +kernel)
set_option maxRecDepth 20000 in
theorem gX6_toWhole_X6_one : GoodIn wsX6_toWhole (va_wsS RX6 111 yX6_one wsX6_one) := goodIn_app (goodIn_of _ (by decide +kernel)) ggX6_toWhole_X6_one
set_option maxRecDepth 20000 in
theorem ggX6_toWhole_X6_signed : GoodIn wsX6_toWhole wsX6_signed := goodIn_r _ [29, 14, 15, 4, 16, 17, 18, 30, 31, 32] (by decide +kernel) (by decide +kernel)
set_option maxRecDepth 20000 in
theorem gX6_toWhole_X6_signed : GoodIn wsX6_toWhole (va_wsS RX6 114 yX6_signed wsX6_signed) := goodIn_app (goodIn_of _ (by decide +kernel)) ggX6_toWhole_X6_signed
set_option maxRecDepth 20000 in
theorem ggX6_changed_X6_amount : GoodIn wsX6_changed wsX6_amount := goodIn_r _ [4, 5, 6, 3, 7, 8, 9, 10, 11, 12, 13, 14, 15, 16, 17, 18, 19, 20, 21, 22, 23] (by decide +kernel) (by decide +kernel)
set_option maxRecDepth 20000 in
theorem gX6_changed_X6_amount : GoodIn wsX6_changed (va_wsS RX6 120 yX6_amount wsX6_amount) := goodIn_app (goodIn_of _ (by decide +kernel)) ggX6_changed_X6_amount
set_option maxRecDepth 20000 in
theorem ggX6_changed_X6_greater : GoodIn wsX6_changed wsX6_greater := goodIn_r _ [26, 27, 28, 3, 29, 11, 5, 6, 7, 8, 9, 10, 12, 13, 14, 15, 16, 17, 18, 19, 20, 30, 31, 32] (by decide +kernel) (by decide +kernel)
set_option maxRecDepth 20000 in
theorem gX6_changed_X6_greater : GoodIn wsX6_changed (va_wsS RX6 123 yX6_greater wsX6_greater) := goodIn_app (goodIn_of _ (by decide +kernel)) ggX6_changed_X6_greater
set_option maxRecDepth 20000 in
theorem ggX6_changed_X6_lesser : GoodIn wsX6_changed wsX6_lesser := goodIn_r _ [35, 27, 28, 3, 29, 11, 5, 6, 7, 8, 9, 10, 12, 13, 14, 15, 16, 17, 18, 19, 20, 30, 31, 32] (by decide +kernel) (by decide +kernel)
set_option maxRecDepth 20000 in
theorem gX6_changed_X6_lesser : GoodIn wsX6_changed (va_wsS RX6 127 yX6_lesser wsX6_lesser) := goodIn_app (goodIn_of _ (by decide +kernel)) ggX6_changed_X6_lesser
set_option maxRecDepth 20000 in
theorem ggX6_changed_X6_amountBits : GoodIn wsX6_changed wsX6_amountBits := goodIn_r _ [10, 11, 12, 13, 3, 14, 15, 16, 17, 18, 19, 20] (by decide +kernel) (by decide +kernel)
set_option maxRecDepth 20000 in
theorem gX6_changed_X6_amountBits : GoodIn wsX6_changed (va_wsS RX6 91 yX6_amountBits wsX6_amountBits) := goodIn_app (goodIn_of _ (by decide +kernel)) ggX6_changed_X6_amountBits
set_option maxRecDepth 20000 in
theorem ggX6_changed_X6_one : GoodIn wsX6_changed wsX6_one := goodIn_r _ [38, 39, 40] (by decide +kernel) (by decide +kernel)
set_option maxRecDepth 20000 in
theorem gX6_changed_X6_one : GoodIn wsX6_changed (va_wsS RX6 111 yX6_one wsX6_one) := goodIn_app (goodIn_of _ (by decide +kernel)) ggX6_changed_X6_one
set_option maxRecDepth 20000 in
theorem ggX6_changed_X6_isMinus : GoodIn wsX6_changed wsX6_isMinus := goodIn_r _ [32] (by decide +kernel) (by decide +kernel)
set_option maxRecDepth 20000 in
theorem gX6_changed_X6_isMinus : GoodIn wsX6_changed (va_wsS RX6 97 yX6_isMinus wsX6_isMinus) := goodIn_app (goodIn_of _ (by decide +kernel)) ggX6_changed_X6_isMinus
set_option maxRecDepth 20000 in
theorem ggX6_changed_X6_signed : GoodIn wsX6_changed wsX6_signed := goodIn_r _ [43, 16, 17, 3, 18, 19, 20, 21, 22, 23] (by decide +kernel) (by decide +kernel)
set_option maxRecDepth 20000 in
theorem gX6_changed_X6_signed : GoodIn wsX6_changed (va_wsS RX6 114 yX6_signed wsX6_signed) := goodIn_app (goodIn_of _ (by decide +kernel)) ggX6_changed_X6_signed
set_option maxRecDepth 20000 in
theorem ggX6_changed_X6_toWhole : GoodIn wsX6_changed wsX6_toWhole := goodIn_r _ [46, 47, 30, 31, 3, 32, 8, 9, 10, 11, 12, 13, 14, 15, 16, 17, 18, 19, 20, 48, 49, 50, 36, 37, 38, 39, 40, 41, 42, 43, 21, 22, 23] (by decide +kernel) (by decide +kernel)
set_option maxRecDepth 20000 in
theorem gX6_changed_X6_toWhole : GoodIn wsX6_changed (va_wsS RX6 130 yX6_toWhole wsX6_toWhole) := goodIn_app (goodIn_of _ (by decide +kernel)) ggX6_changed_X6_toWhole
set_option maxRecDepth 20000 in
theorem ggX6_isStep_X6_isReal : GoodIn wsX6_isStep wsX6_isReal := goodIn_r _ [4] (by decide +kernel) (by decide +kernel)
set_option maxRecDepth 20000 in
theorem gX6_isStep_X6_isReal : GoodIn wsX6_isStep (va_wsS RX6 84 yX6_isReal wsX6_isReal) := goodIn_app (goodIn_of _ (by decide +kernel)) ggX6_isStep_X6_isReal
set_option maxRecDepth 20000 in
theorem ggX6_swing_X6_height : GoodIn wsX6_swing wsX6_height := goodIn_r _ [4, 5, 6, 3, 7, 8, 9, 10, 11, 12, 13, 14, 15, 16, 17, 18, 19, 20, 21, 22, 23, 24, 25, 26] (by decide +kernel) (by decide +kernel)
set_option maxRecDepth 20000 in
theorem gX6_swing_X6_height : GoodIn wsX6_swing (va_wsS RX6 104 yX6_height wsX6_height) := goodIn_app (goodIn_of _ (by decide +kernel)) ggX6_swing_X6_height
set_option maxRecDepth 20000 in
theorem ggX6_swing_X6_single : GoodIn wsX6_swing wsX6_single := goodIn_r _ [29, 30, 31, 32, 33] (by decide +kernel) (by decide +kernel)
set_option maxRecDepth 20000 in
theorem gX6_swing_X6_single : GoodIn wsX6_swing (va_wsS RX6 146 yX6_single wsX6_single) := goodIn_app (goodIn_of _ (by decide +kernel)) ggX6_swing_X6_single
set_option maxRecDepth 20000 in
theorem ggX6_swing_Jxf58ca_floatToIntBits_5c35a : GoodIn wsX6_swing wsJxf58ca_floatToIntBits_5c35a := goodIn_r _ [37, 38, 39, 40, 33, 41, 42, 43, 36, 44] (by decide +kernel) (by decide +kernel)
set_option maxRecDepth 20000 in
theorem gX6_swing_Jxf58ca_floatToIntBits_5c35a : GoodIn wsX6_swing (va_wsS RX6 150 yJxf58ca_floatToIntBits_5c35a wsJxf58ca_floatToIntBits_5c35a) := goodIn_app (goodIn_of _ (by decide +kernel)) ggX6_swing_Jxf58ca_floatToIntBits_5c35a
set_option maxRecDepth 20000 in
theorem ggX6_swing_X6_amount : GoodIn wsX6_swing wsX6_amount := goodIn_r _ [47, 5, 6, 3, 7, 8, 9, 10, 11, 12, 13, 14, 15, 16, 17, 18, 19, 20, 48, 49, 50] (by decide +kernel) (by decide +kernel)
set_option maxRecDepth 20000 in
theorem gX6_swing_X6_amount : GoodIn wsX6_swing (va_wsS RX6 120 yX6_amount wsX6_amount) := goodIn_app (goodIn_of _ (by decide +kernel)) ggX6_swing_X6_amount
set_option maxRecDepth 20000 in
theorem ggX6_swing_X6_real : GoodIn wsX6_swing wsX6_real := goodIn_r _ [53, 54, 55, 56, 57] (by decide +kernel) (by decide +kernel)
set_option maxRecDepth 20000 in
theorem gX6_swing_X6_real : GoodIn wsX6_swing (va_wsS RX6 154 yX6_real wsX6_real) := goodIn_app (goodIn_of _ (by decide +kernel)) ggX6_swing_X6_real
set_option maxRecDepth 20000 in
theorem ggX6_swing_Jxe99ae_doubleToLongBits_ccdee : GoodIn wsX6_swing wsJxe99ae_doubleToLongBits_ccdee := goodIn_r _ [61, 62, 63, 64, 57, 65, 66, 67, 60, 68] (by decide +kernel) (by decide +kernel)
set_option maxRecDepth 20000 in
theorem gX6_swing_Jxe99ae_doubleToLongBits_ccdee : GoodIn wsX6_swing (va_wsS RX6 157 yJxe99ae_doubleToLongBits_ccdee wsJxe99ae_doubleToLongBits_ccdee) := goodIn_app (goodIn_of _ (by decide +kernel)) ggX6_swing_Jxe99ae_doubleToLongBits_ccdee
set_option maxRecDepth 20000 in
theorem ggX6_swing_X6_cut : GoodIn wsX6_swing wsX6_cut := goodIn_r _ [50] (by decide +kernel) (by decide +kernel)
set_option maxRecDepth 20000 in
theorem gX6_swing_X6_cut : GoodIn wsX6_swing (va_wsS RX6 88 yX6_cut wsX6_cut) := goodIn_app (goodIn_of _ (by decide +kernel)) ggX6_swing_X6_cut
set_option maxRecDepth 20000 in
theorem ggX6_sum_X6_single : GoodIn wsX6_sum wsX6_single := goodIn_r _ [4, 5, 6, 7, 8] (by decide +kernel) (by decide +kernel)
set_option maxRecDepth 20000 in
theorem gX6_sum_X6_single : GoodIn wsX6_sum (va_wsS RX6 146 yX6_single wsX6_single) := goodIn_app (goodIn_of _ (by decide +kernel)) ggX6_sum_X6_single
set_option maxRecDepth 20000 in
theorem ggX6_sum_Jxf58ca_floatToIntBits_5c35a : GoodIn wsX6_sum wsJxf58ca_floatToIntBits_5c35a := goodIn_r _ [12, 13, 14, 15, 8, 16, 17, 18, 11, 19] (by decide +kernel) (by decide +kernel)
set_option maxRecDepth 20000 in
theorem gX6_sum_Jxf58ca_floatToIntBits_5c35a : GoodIn wsX6_sum (va_wsS RX6 150 yJxf58ca_floatToIntBits_5c35a wsJxf58ca_floatToIntBits_5c35a) := goodIn_app (goodIn_of _ (by decide +kernel)) ggX6_sum_Jxf58ca_floatToIntBits_5c35a
set_option maxRecDepth 20000 in
theorem ggX6_sum_X6_real : GoodIn wsX6_sum wsX6_real := goodIn_r _ [22, 23, 24, 25, 26] (by decide +kernel) (by decide +kernel)
set_option maxRecDepth 20000 in
theorem gX6_sum_X6_real : GoodIn wsX6_sum (va_wsS RX6 154 yX6_real wsX6_real) := goodIn_app (goodIn_of _ (by decide +kernel)) ggX6_sum_X6_real
set_option maxRecDepth 20000 in
theorem ggX6_sum_Jxe99ae_doubleToLongBits_ccdee : GoodIn wsX6_sum wsJxe99ae_doubleToLongBits_ccdee := goodIn_r _ [30, 31, 32, 33, 26, 34, 35, 36, 29, 37] (by decide +kernel) (by decide +kernel)
set_option maxRecDepth 20000 in
theorem gX6_sum_Jxe99ae_doubleToLongBits_ccdee : GoodIn wsX6_sum (va_wsS RX6 157 yJxe99ae_doubleToLongBits_ccdee wsJxe99ae_doubleToLongBits_ccdee) := goodIn_app (goodIn_of _ (by decide +kernel)) ggX6_sum_Jxe99ae_doubleToLongBits_ccdee
set_option maxRecDepth 20000 in
theorem ggX6_sum_X6_cut : GoodIn wsX6_sum wsX6_cut := goodIn_r _ [40] (by decide +kernel) (by decide +kernel)
set_option maxRecDepth 20000 in
theorem gX6_sum_X6_cut : GoodIn wsX6_sum (va_wsS RX6 88 yX6_cut wsX6_cut) := goodIn_app (goodIn_of _ (by decide +kernel)) ggX6_sum_X6_cut
set_option maxRecDepth 20000 in
theorem ggX6_mount_X6_fail : GoodIn wsX6_mount wsX6_fail := goodIn_r _ [14, 1, 30, 31, 32, 33, 34, 35, 36, 37, 38, 39, 40, 41, 42, 43, 44, 45, 46, 47, 48] (by decide +kernel) (by decide +kernel)
set_option maxRecDepth 20000 in
theorem gX6_mount_X6_fail : GoodIn wsX6_mount (wsV RX6 161 RX6 yX6_fail wsX6_fail) := goodIn_app (goodIn_of _ (by decide +kernel)) ggX6_mount_X6_fail
set_option maxRecDepth 20000 in
theorem ggX6_mount_X6_endless : GoodIn wsX6_mount wsX6_endless := goodIn_r _ [17, 18, 19] (by decide +kernel) (by decide +kernel)
set_option maxRecDepth 20000 in
theorem gX6_mount_X6_endless : GoodIn wsX6_mount (va_wsS RX6 94 yX6_endless wsX6_endless) := goodIn_app (goodIn_of _ (by decide +kernel)) ggX6_mount_X6_endless
set_option maxRecDepth 20000 in
theorem ggX6_mount_X6_signed : GoodIn wsX6_mount wsX6_signed := goodIn_r _ [22, 23, 24, 13, 25, 26, 6, 27, 28, 29] (by decide +kernel) (by decide +kernel)
set_option maxRecDepth 20000 in
theorem gX6_mount_X6_signed : GoodIn wsX6_mount (va_wsS RX6 114 yX6_signed wsX6_signed) := goodIn_app (goodIn_of _ (by decide +kernel)) ggX6_mount_X6_signed
set_option maxRecDepth 20000 in
theorem ggX6_link_X6_fail : GoodIn wsX6_link wsX6_fail := goodIn_r _ [9, 10, 11, 12, 13, 14, 15, 16, 17, 18, 19, 20, 21, 22, 23, 24, 25, 26, 27, 28, 29] (by decide +kernel) (by decide +kernel)
set_option maxRecDepth 20000 in
theorem gX6_link_X6_fail : GoodIn wsX6_link (wsV RX6 161 RX6 yX6_fail wsX6_fail) := goodIn_app (goodIn_of _ (by decide +kernel)) ggX6_link_X6_fail
set_option maxRecDepth 20000 in
theorem ggX6_step_X6_isInstrument : GoodIn wsX6_step wsX6_isInstrument := goodIn_r _ [7, 8, 54, 55, 56, 57, 58, 59, 60, 61, 62, 63, 64, 65, 66, 67, 68, 69, 70, 71, 72] (by decide +kernel) (by decide +kernel)
set_option maxRecDepth 20000 in
theorem gX6_step_X6_isInstrument : GoodIn wsX6_step (wsV RX6 170 RX6 yX6_isInstrument wsX6_isInstrument) := goodIn_app (goodIn_of _ (by decide +kernel)) ggX6_step_X6_isInstrument
set_option maxRecDepth 20000 in
theorem ggX6_step_X6_fail : GoodIn wsX6_step wsX6_fail := goodIn_r _ [12, 1, 54, 55, 56, 57, 58, 59, 60, 61, 62, 63, 64, 65, 66, 67, 68, 69, 70, 71, 72] (by decide +kernel) (by decide +kernel)
set_option maxRecDepth 20000 in
theorem gX6_step_X6_fail : GoodIn wsX6_step (wsV RX6 161 RX6 yX6_fail wsX6_fail) := goodIn_app (goodIn_of _ (by decide +kernel)) ggX6_step_X6_fail
set_option maxRecDepth 20000 in
theorem ggX6_step_X6_isStep : GoodIn wsX6_step wsX6_isStep := goodIn_r _ [15, 16, 17, 6, 18] (by decide +kernel) (by decide +kernel)
set_option maxRecDepth 20000 in
theorem gX6_step_X6_isStep : GoodIn wsX6_step (va_wsS RX6 173 yX6_isStep wsX6_isStep) := goodIn_app (goodIn_of _ (by decide +kernel)) ggX6_step_X6_isStep
set_option maxRecDepth 20000 in
theorem ggX6_step_X6_takes : GoodIn wsX6_step wsX6_takes := goodIn_r _ [21] (by decide +kernel) (by decide +kernel)
set_option maxRecDepth 20000 in
theorem gX6_step_X6_takes : GoodIn wsX6_step (va_wsS RX6 177 yX6_takes wsX6_takes) := goodIn_app (goodIn_of _ (by decide +kernel)) ggX6_step_X6_takes
set_option maxRecDepth 20000 in
theorem ggX6_step_X6_isNone : GoodIn wsX6_step wsX6_isNone := goodIn_r _ [24, 16, 17, 6, 18, 25, 26, 27, 28, 29, 30, 31, 32, 33, 34, 35, 36, 37, 38, 39, 40, 41, 42, 43, 44, 45] (by decide +kernel) (by decide +kernel)
set_option maxRecDepth 20000 in
theorem gX6_step_X6_isNone : GoodIn wsX6_step (va_wsS RX6 180 yX6_isNone wsX6_isNone) := goodIn_app (goodIn_of _ (by decide +kernel)) ggX6_step_X6_isNone
set_option maxRecDepth 20000 in
theorem ggX6_step_X6_cut : GoodIn wsX6_step wsX6_cut := goodIn_r _ [27] (by decide +kernel) (by decide +kernel)
set_option maxRecDepth 20000 in
theorem gX6_step_X6_cut : GoodIn wsX6_step (va_wsS RX6 88 yX6_cut wsX6_cut) := goodIn_app (goodIn_of _ (by decide +kernel)) ggX6_step_X6_cut
set_option maxRecDepth 20000 in
theorem ggX6_step_X6_link : GoodIn wsX6_step wsX6_link := goodIn_r _ [49, 50, 51, 52, 53, 9, 10, 11, 6, 12, 1, 54, 55, 56, 57, 58, 59, 60, 61, 62, 63, 64, 65, 66, 67, 68, 69, 70, 71, 72] (by decide +kernel) (by decide +kernel)
set_option maxRecDepth 20000 in
theorem gX6_step_X6_link : GoodIn wsX6_step (wsV RX6 183 RX6 yX6_link wsX6_link) := goodIn_app (goodIn_of _ (by decide +kernel)) ggX6_step_X6_link
set_option maxRecDepth 20000 in
theorem ggX6_follow_X6_isInstrument : GoodIn wsX6_follow wsX6_isInstrument := goodIn_r _ [7, 8, 30, 31, 32, 33, 34, 35, 36, 37, 38, 39, 40, 41, 42, 43, 44, 45, 46, 47, 48] (by decide +kernel) (by decide +kernel)
set_option maxRecDepth 20000 in
theorem gX6_follow_X6_isInstrument : GoodIn wsX6_follow (wsV RX6 170 RX6 yX6_isInstrument wsX6_isInstrument) := goodIn_app (goodIn_of _ (by decide +kernel)) ggX6_follow_X6_isInstrument
set_option maxRecDepth 20000 in
theorem ggX6_follow_X6_fail : GoodIn wsX6_follow wsX6_fail := goodIn_r _ [12, 1, 30, 31, 32, 33, 34, 35, 36, 37, 38, 39, 40, 41, 42, 43, 44, 45, 46, 47, 48] (by decide +kernel) (by decide +kernel)
set_option maxRecDepth 20000 in
theorem gX6_follow_X6_fail : GoodIn wsX6_follow (wsV RX6 161 RX6 yX6_fail wsX6_fail) := goodIn_app (goodIn_of _ (by decide +kernel)) ggX6_follow_X6_fail
set_option maxRecDepth 20000 in
theorem ggX6_follow_X6_isStep : GoodIn wsX6_follow wsX6_isStep := goodIn_r _ [15, 16, 17, 6, 18] (by decide +kernel) (by decide +kernel)
set_option maxRecDepth 20000 in
theorem gX6_follow_X6_isStep : GoodIn wsX6_follow (va_wsS RX6 173 yX6_isStep wsX6_isStep) := goodIn_app (goodIn_of _ (by decide +kernel)) ggX6_follow_X6_isStep
set_option maxRecDepth 20000 in
theorem ggX6_follow_X6_takes : GoodIn wsX6_follow wsX6_takes := goodIn_r _ [21] (by decide +kernel) (by decide +kernel)
set_option maxRecDepth 20000 in
theorem gX6_follow_X6_takes : GoodIn wsX6_follow (va_wsS RX6 177 yX6_takes wsX6_takes) := goodIn_app (goodIn_of _ (by decide +kernel)) ggX6_follow_X6_takes
set_option maxRecDepth 20000 in
theorem ggX6_follow_X6_link : GoodIn wsX6_follow wsX6_link := goodIn_r _ [25, 26, 27, 28, 29, 9, 10, 11, 6, 12, 1, 30, 31, 32, 33, 34, 35, 36, 37, 38, 39, 40, 41, 42, 43, 44, 45, 46, 47, 48] (by decide +kernel) (by decide +kernel)
set_option maxRecDepth 20000 in
theorem gX6_follow_X6_link : GoodIn wsX6_follow (wsV RX6 183 RX6 yX6_link wsX6_link) := goodIn_app (goodIn_of _ (by decide +kernel)) ggX6_follow_X6_link
set_option maxRecDepth 20000 in
theorem ggX6_limits_X6_isInstrument : GoodIn wsX6_limits wsX6_isInstrument := goodIn_r _ [9, 10, 54, 55, 56, 57, 58, 59, 60, 61, 62, 63, 64, 65, 66, 67, 68, 69, 70, 71, 72] (by decide +kernel) (by decide +kernel)
set_option maxRecDepth 20000 in
theorem gX6_limits_X6_isInstrument : GoodIn wsX6_limits (wsV RX6 170 RX6 yX6_isInstrument wsX6_isInstrument) := goodIn_app (goodIn_of _ (by decide +kernel)) ggX6_limits_X6_isInstrument
set_option maxRecDepth 20000 in
theorem ggX6_limits_X6_fail : GoodIn wsX6_limits wsX6_fail := goodIn_r _ [14, 1, 54, 55, 56, 57, 58, 59, 60, 61, 62, 63, 64, 65, 66, 67, 68, 69, 70, 71, 72] (by decide +kernel) (by decide +kernel)
set_option maxRecDepth 20000 in
theorem gX6_limits_X6_fail : GoodIn wsX6_limits (wsV RX6 161 RX6 yX6_fail wsX6_fail) := goodIn_app (goodIn_of _ (by decide +kernel)) ggX6_limits_X6_fail
set_option maxRecDepth 20000 in
theorem ggX6_limits_X6_isNone : GoodIn wsX6_limits wsX6_isNone := goodIn_r _ [17, 18, 19, 8, 20, 21, 22, 23, 24, 25, 26, 27, 28, 29, 30, 31, 32, 33, 34, 35, 36, 37, 38, 39, 40, 41] (by decide +kernel) (by decide +kernel)
set_option maxRecDepth 20000 in
theorem gX6_limits_X6_isNone : GoodIn wsX6_limits (va_wsS RX6 180 yX6_isNone wsX6_isNone) := goodIn_app (goodIn_of _ (by decide +kernel)) ggX6_limits_X6_isNone
set_option maxRecDepth 20000 in
theorem ggX6_limits_X6_cut : GoodIn wsX6_limits wsX6_cut := goodIn_r _ [23] (by decide +kernel) (by decide +kernel)
set_option maxRecDepth 20000 in
theorem gX6_limits_X6_cut : GoodIn wsX6_limits (va_wsS RX6 88 yX6_cut wsX6_cut) := goodIn_app (goodIn_of _ (by decide +kernel)) ggX6_limits_X6_cut
set_option maxRecDepth 20000 in
theorem ggX6_limits_X6_isAbove : GoodIn wsX6_limits wsX6_isAbove := goodIn_r _ [44, 45, 46, 8, 47, 18, 19, 20, 24, 25, 26, 27, 28, 29, 30, 31, 32, 33, 34, 35, 36, 48, 49, 50, 51, 52, 53] (by decide +kernel) (by decide +kernel)
set_option maxRecDepth 20000 in
theorem gX6_limits_X6_isAbove : GoodIn wsX6_limits (va_wsS RX6 187 yX6_isAbove wsX6_isAbove) := goodIn_app (goodIn_of _ (by decide +kernel)) ggX6_limits_X6_isAbove
set_option maxRecDepth 20000 in
theorem ggX6_through_X6_latest : GoodIn wsX6_through wsX6_latest := goodIn_r _ [11, 12, 13, 66, 67, 68, 69, 70, 71, 72, 73, 74, 75, 76, 77, 78, 79, 80, 81, 82, 83, 84] (by decide +kernel) (by decide +kernel)
set_option maxRecDepth 20000 in
theorem gX6_through_X6_latest : GoodIn wsX6_through (wsV RX6 191 RX6 yX6_latest wsX6_latest) := goodIn_app (goodIn_of _ (by decide +kernel)) ggX6_through_X6_latest
set_option maxRecDepth 20000 in
theorem ggX6_through_X6_changed : GoodIn wsX6_through wsX6_changed := goodIn_r _ [16, 17, 18, 10, 19, 20, 21, 22, 23, 24, 25, 26, 27, 28, 29, 30, 31, 32, 33, 34, 35, 36, 37, 38, 39, 40, 41, 42, 43, 44, 45, 46, 47, 48, 49, 50, 51, 52, 53, 54, 55, 56, 57, 58, 59, 60, 61, 62, 63, 64, 65] (by decide +kernel) (by decide +kernel)
set_option maxRecDepth 20000 in
theorem gX6_through_X6_changed : GoodIn wsX6_through (va_wsS RX6 194 yX6_changed wsX6_changed) := goodIn_app (goodIn_of _ (by decide +kernel)) ggX6_through_X6_changed
set_option maxRecDepth 20000 in
theorem ggX6_read_X6_isInstrument : GoodIn wsX6_read wsX6_isInstrument := goodIn_r _ [18, 19, 145, 146, 147, 148, 149, 150, 151, 152, 153, 154, 155, 156, 157, 158, 159, 160, 161, 162, 163] (by decide +kernel) (by decide +kernel)
set_option maxRecDepth 20000 in
theorem gX6_read_X6_isInstrument : GoodIn wsX6_read (wsV RX6 170 RX6 yX6_isInstrument wsX6_isInstrument) := goodIn_app (goodIn_of _ (by decide +kernel)) ggX6_read_X6_isInstrument
set_option maxRecDepth 20000 in
theorem ggX6_read_X6_fail : GoodIn wsX6_read wsX6_fail := goodIn_r _ [23, 1, 145, 146, 147, 148, 149, 150, 151, 152, 153, 154, 155, 156, 157, 158, 159, 160, 161, 162, 163] (by decide +kernel) (by decide +kernel)
set_option maxRecDepth 20000 in
theorem gX6_read_X6_fail : GoodIn wsX6_read (wsV RX6 161 RX6 yX6_fail wsX6_fail) := goodIn_app (goodIn_of _ (by decide +kernel)) ggX6_read_X6_fail
set_option maxRecDepth 20000 in
theorem ggX6_read_X6_isNone : GoodIn wsX6_read wsX6_isNone := goodIn_r _ [26, 27, 28, 17, 29, 30, 31, 32, 33, 34, 35, 36, 37, 38, 39, 40, 41, 42, 43, 44, 45, 46, 47, 48, 49, 50] (by decide +kernel) (by decide +kernel)
set_option maxRecDepth 20000 in
theorem gX6_read_X6_isNone : GoodIn wsX6_read (va_wsS RX6 180 yX6_isNone wsX6_isNone) := goodIn_app (goodIn_of _ (by decide +kernel)) ggX6_read_X6_isNone
set_option maxRecDepth 20000 in
theorem ggX6_read_X6_cut : GoodIn wsX6_read wsX6_cut := goodIn_r _ [32] (by decide +kernel) (by decide +kernel)
set_option maxRecDepth 20000 in
theorem gX6_read_X6_cut : GoodIn wsX6_read (va_wsS RX6 88 yX6_cut wsX6_cut) := goodIn_app (goodIn_of _ (by decide +kernel)) ggX6_read_X6_cut
set_option maxRecDepth 20000 in
theorem ggX6_read_X6_through : GoodIn wsX6_read wsX6_through := goodIn_r _ [54, 55, 56, 57, 2, 58, 59, 60, 61, 62, 17, 63, 3, 8, 64, 65, 66, 67, 68, 69, 27, 28, 29, 33, 34, 35, 36, 37, 38, 39, 40, 41, 42, 43, 44, 45, 30, 31, 32, 70, 71, 72, 73, 74, 75, 76, 77, 78, 79, 80, 81, 82, 83, 84, 85, 86, 87, 88, 89, 90, 91, 92, 93, 94, 95, 96, 145, 146, 147, 148, 149, 150, 151, 152, 153, 154, 155, 156, 157, 158, 159, 160, 161, 162, 163] (by decide +kernel) (by decide +kernel)
set_option maxRecDepth 20000 in
theorem gX6_read_X6_through : GoodIn wsX6_read (wsV RX6 201 RX6 yX6_through wsX6_through) := goodIn_app (goodIn_of _ (by decide +kernel)) ggX6_read_X6_through
set_option maxRecDepth 20000 in
theorem ggX6_read_X6_latest : GoodIn wsX6_read wsX6_latest := goodIn_r _ [63, 3, 8, 145, 146, 147, 148, 149, 150, 151, 152, 153, 154, 155, 156, 157, 158, 159, 160, 161, 162, 163] (by decide +kernel) (by decide +kernel)
set_option maxRecDepth 20000 in
theorem gX6_read_X6_latest : GoodIn wsX6_read (wsV RX6 191 RX6 yX6_latest wsX6_latest) := goodIn_app (goodIn_of _ (by decide +kernel)) ggX6_read_X6_latest
set_option maxRecDepth 20000 in
theorem ggX6_read_X6_swing : GoodIn wsX6_read wsX6_swing := goodIn_r _ [99, 100, 101, 17, 102, 27, 28, 29, 33, 34, 35, 36, 37, 38, 39, 40, 41, 42, 43, 44, 45, 73, 74, 75, 76, 77, 78, 103, 104, 105, 106, 107, 108, 109, 110, 111, 112, 113, 114, 115, 116, 117, 118, 119, 120, 67, 68, 69, 30, 31, 32, 121, 122, 123, 124, 125, 126, 127, 128, 129, 130, 131, 132, 133, 134, 135, 136, 137, 138] (by decide +kernel) (by decide +kernel)
set_option maxRecDepth 20000 in
theorem gX6_read_X6_swing : GoodIn wsX6_read (va_wsS RX6 204 yX6_swing wsX6_swing) := goodIn_app (goodIn_of _ (by decide +kernel)) ggX6_read_X6_swing
set_option maxRecDepth 20000 in
theorem ggX6_read_X6_lesser : GoodIn wsX6_read wsX6_lesser := goodIn_r _ [81, 73, 74, 17, 75, 36, 27, 28, 29, 33, 34, 35, 37, 38, 39, 40, 41, 42, 43, 44, 45, 76, 77, 78] (by decide +kernel) (by decide +kernel)
set_option maxRecDepth 20000 in
theorem gX6_read_X6_lesser : GoodIn wsX6_read (va_wsS RX6 127 yX6_lesser wsX6_lesser) := goodIn_app (goodIn_of _ (by decide +kernel)) ggX6_read_X6_lesser
set_option maxRecDepth 20000 in
theorem ggX6_read_X6_greater : GoodIn wsX6_read wsX6_greater := goodIn_r _ [72, 73, 74, 17, 75, 36, 27, 28, 29, 33, 34, 35, 37, 38, 39, 40, 41, 42, 43, 44, 45, 76, 77, 78] (by decide +kernel) (by decide +kernel)
set_option maxRecDepth 20000 in
theorem gX6_read_X6_greater : GoodIn wsX6_read (va_wsS RX6 123 yX6_greater wsX6_greater) := goodIn_app (goodIn_of _ (by decide +kernel)) ggX6_read_X6_greater
set_option maxRecDepth 20000 in
theorem ggX6_read_X6_amount : GoodIn wsX6_read wsX6_amount := goodIn_r _ [69, 27, 28, 17, 29, 33, 34, 35, 36, 37, 38, 39, 40, 41, 42, 43, 44, 45, 30, 31, 32] (by decide +kernel) (by decide +kernel)
set_option maxRecDepth 20000 in
theorem gX6_read_X6_amount : GoodIn wsX6_read (va_wsS RX6 120 yX6_amount wsX6_amount) := goodIn_app (goodIn_of _ (by decide +kernel)) ggX6_read_X6_amount
set_option maxRecDepth 20000 in
theorem ggX6_read_X6_sum : GoodIn wsX6_read wsX6_sum := goodIn_r _ [141, 103, 104, 17, 105, 106, 107, 108, 109, 110, 111, 112, 113, 114, 115, 116, 117, 118, 119, 120, 121, 122, 123, 124, 125, 126, 127, 128, 129, 130, 131, 132, 133, 134, 135, 136, 137, 138, 30, 31, 32] (by decide +kernel) (by decide +kernel)
set_option maxRecDepth 20000 in
theorem gX6_read_X6_sum : GoodIn wsX6_read (va_wsS RX6 207 yX6_sum wsX6_sum) := goodIn_app (goodIn_of _ (by decide +kernel)) ggX6_read_X6_sum
set_option maxRecDepth 20000 in
theorem ggX6_read_X6_isAbove : GoodIn wsX6_read wsX6_isAbove := goodIn_r _ [144, 100, 101, 17, 102, 27, 28, 29, 33, 34, 35, 36, 37, 38, 39, 40, 41, 42, 43, 44, 45, 73, 74, 75, 76, 77, 78] (by decide +kernel) (by decide +kernel)
set_option maxRecDepth 20000 in
theorem gX6_read_X6_isAbove : GoodIn wsX6_read (va_wsS RX6 187 yX6_isAbove wsX6_isAbove) := goodIn_app (goodIn_of _ (by decide +kernel)) ggX6_read_X6_isAbove
set_option maxRecDepth 20000 in
theorem ggX6_forget_X6_isInstrument : GoodIn wsX6_forget wsX6_isInstrument := goodIn_r _ [7, 8, 13, 14, 15, 16, 17, 18, 19, 20, 21, 22, 23, 24, 25, 26, 27, 28, 29, 30, 31] (by decide +kernel) (by decide +kernel)
set_option maxRecDepth 20000 in
theorem gX6_forget_X6_isInstrument : GoodIn wsX6_forget (wsV RX6 170 RX6 yX6_isInstrument wsX6_isInstrument) := goodIn_app (goodIn_of _ (by decide +kernel)) ggX6_forget_X6_isInstrument
set_option maxRecDepth 20000 in
theorem ggX6_forget_X6_fail : GoodIn wsX6_forget wsX6_fail := goodIn_r _ [12, 1, 13, 14, 15, 16, 17, 18, 19, 20, 21, 22, 23, 24, 25, 26, 27, 28, 29, 30, 31] (by decide +kernel) (by decide +kernel)
set_option maxRecDepth 20000 in
theorem gX6_forget_X6_fail : GoodIn wsX6_forget (wsV RX6 161 RX6 yX6_fail wsX6_fail) := goodIn_app (goodIn_of _ (by decide +kernel)) ggX6_forget_X6_fail
set_option maxRecDepth 20000 in
theorem ggX6_reading_X6_isInstrument : GoodIn wsX6_reading wsX6_isInstrument := goodIn_r _ [8, 9, 14, 15, 16, 17, 18, 19, 20, 21, 22, 23, 24, 25, 26, 27, 28, 29, 30, 31, 32] (by decide +kernel) (by decide +kernel)
set_option maxRecDepth 20000 in
theorem gX6_reading_X6_isInstrument : GoodIn wsX6_reading (wsV RX6 170 RX6 yX6_isInstrument wsX6_isInstrument) := goodIn_app (goodIn_of _ (by decide +kernel)) ggX6_reading_X6_isInstrument
set_option maxRecDepth 20000 in
theorem ggX6_reading_X6_fail : GoodIn wsX6_reading wsX6_fail := goodIn_r _ [13, 1, 14, 15, 16, 17, 18, 19, 20, 21, 22, 23, 24, 25, 26, 27, 28, 29, 30, 31, 32] (by decide +kernel) (by decide +kernel)
set_option maxRecDepth 20000 in
theorem gX6_reading_X6_fail : GoodIn wsX6_reading (wsV RX6 161 RX6 yX6_fail wsX6_fail) := goodIn_app (goodIn_of _ (by decide +kernel)) ggX6_reading_X6_fail
set_option maxRecDepth 20000 in
theorem ggX6_tell_X6_isInstrument : GoodIn wsX6_tell wsX6_isInstrument := goodIn_r _ [11, 12, 17, 18, 19, 20, 21, 22, 23, 24, 25, 26, 27, 28, 29, 30, 31, 32, 33, 34, 35] (by decide +kernel) (by decide +kernel)
set_option maxRecDepth 20000 in
theorem gX6_tell_X6_isInstrument : GoodIn wsX6_tell (wsV RX6 170 RX6 yX6_isInstrument wsX6_isInstrument) := goodIn_app (goodIn_of _ (by decide +kernel)) ggX6_tell_X6_isInstrument
set_option maxRecDepth 20000 in
theorem ggX6_tell_X6_fail : GoodIn wsX6_tell wsX6_fail := goodIn_r _ [16, 1, 17, 18, 19, 20, 21, 22, 23, 24, 25, 26, 27, 28, 29, 30, 31, 32, 33, 34, 35] (by decide +kernel) (by decide +kernel)
set_option maxRecDepth 20000 in
theorem gX6_tell_X6_fail : GoodIn wsX6_tell (wsV RX6 161 RX6 yX6_fail wsX6_fail) := goodIn_app (goodIn_of _ (by decide +kernel)) ggX6_tell_X6_fail
set_option maxRecDepth 20000 in
theorem ggX6_whole_X6_isInstrument : GoodIn wsX6_whole wsX6_isInstrument := goodIn_r _ [10, 11, 35, 36, 37, 38, 39, 40, 41, 42, 43, 44, 45, 46, 47, 48, 49, 50, 51, 52, 53] (by decide +kernel) (by decide +kernel)
set_option maxRecDepth 20000 in
theorem gX6_whole_X6_isInstrument : GoodIn wsX6_whole (wsV RX6 170 RX6 yX6_isInstrument wsX6_isInstrument) := goodIn_app (goodIn_of _ (by decide +kernel)) ggX6_whole_X6_isInstrument
set_option maxRecDepth 20000 in
theorem ggX6_whole_X6_fail : GoodIn wsX6_whole wsX6_fail := goodIn_r _ [15, 1, 35, 36, 37, 38, 39, 40, 41, 42, 43, 44, 45, 46, 47, 48, 49, 50, 51, 52, 53] (by decide +kernel) (by decide +kernel)
set_option maxRecDepth 20000 in
theorem gX6_whole_X6_fail : GoodIn wsX6_whole (wsV RX6 161 RX6 yX6_fail wsX6_fail) := goodIn_app (goodIn_of _ (by decide +kernel)) ggX6_whole_X6_fail
set_option maxRecDepth 20000 in
theorem ggX6_whole_X6_latest : GoodIn wsX6_whole wsX6_latest := goodIn_r _ [19, 2, 20, 35, 36, 37, 38, 39, 40, 41, 42, 43, 44, 45, 46, 47, 48, 49, 50, 51, 52, 53] (by decide +kernel) (by decide +kernel)
set_option maxRecDepth 20000 in
theorem gX6_whole_X6_latest : GoodIn wsX6_whole (wsV RX6 191 RX6 yX6_latest wsX6_latest) := goodIn_app (goodIn_of _ (by decide +kernel)) ggX6_whole_X6_latest
set_option maxRecDepth 20000 in
theorem ggX6_whole_X6_single : GoodIn wsX6_whole wsX6_single := goodIn_r _ [23, 24, 25, 26, 27] (by decide +kernel) (by decide +kernel)
set_option maxRecDepth 20000 in
theorem gX6_whole_X6_single : GoodIn wsX6_whole (va_wsS RX6 146 yX6_single wsX6_single) := goodIn_app (goodIn_of _ (by decide +kernel)) ggX6_whole_X6_single
set_option maxRecDepth 20000 in
theorem ggX6_whole_X6_real : GoodIn wsX6_whole wsX6_real := goodIn_r _ [30, 31, 32, 33, 34] (by decide +kernel) (by decide +kernel)
set_option maxRecDepth 20000 in
theorem gX6_whole_X6_real : GoodIn wsX6_whole (va_wsS RX6 154 yX6_real wsX6_real) := goodIn_app (goodIn_of _ (by decide +kernel)) ggX6_whole_X6_real
set_option maxRecDepth 20000 in
theorem ggX6_widest_X6_fail : GoodIn wsX6_widest wsX6_fail := goodIn_r _ [10, 1, 36, 37, 38, 39, 40, 41, 42, 43, 44, 45, 46, 47, 48, 49, 50, 51, 52, 53, 54] (by decide +kernel) (by decide +kernel)
set_option maxRecDepth 20000 in
theorem gX6_widest_X6_fail : GoodIn wsX6_widest (wsV RX6 161 RX6 yX6_fail wsX6_fail) := goodIn_app (goodIn_of _ (by decide +kernel)) ggX6_widest_X6_fail
set_option maxRecDepth 20000 in
theorem ggX6_widest_X6_greater : GoodIn wsX6_widest wsX6_greater := goodIn_r _ [13, 14, 15, 9, 16, 17, 18, 19, 20, 21, 22, 23, 24, 25, 26, 27, 28, 29, 30, 31, 32, 33, 34, 35] (by decide +kernel) (by decide +kernel)
set_option maxRecDepth 20000 in
theorem gX6_widest_X6_greater : GoodIn wsX6_widest (va_wsS RX6 123 yX6_greater wsX6_greater) := goodIn_app (goodIn_of _ (by decide +kernel)) ggX6_widest_X6_greater
set_option maxRecDepth 20000 in
theorem ggX6_alarms_X6_isInstrument : GoodIn wsX6_alarms wsX6_isInstrument := goodIn_r _ [7, 8, 13, 14, 15, 16, 17, 18, 19, 20, 21, 22, 23, 24, 25, 26, 27, 28, 29, 30, 31] (by decide +kernel) (by decide +kernel)
set_option maxRecDepth 20000 in
theorem gX6_alarms_X6_isInstrument : GoodIn wsX6_alarms (wsV RX6 170 RX6 yX6_isInstrument wsX6_isInstrument) := goodIn_app (goodIn_of _ (by decide +kernel)) ggX6_alarms_X6_isInstrument
set_option maxRecDepth 20000 in
theorem ggX6_alarms_X6_fail : GoodIn wsX6_alarms wsX6_fail := goodIn_r _ [12, 1, 13, 14, 15, 16, 17, 18, 19, 20, 21, 22, 23, 24, 25, 26, 27, 28, 29, 30, 31] (by decide +kernel) (by decide +kernel)
set_option maxRecDepth 20000 in
theorem gX6_alarms_X6_fail : GoodIn wsX6_alarms (wsV RX6 161 RX6 yX6_fail wsX6_fail) := goodIn_app (goodIn_of _ (by decide +kernel)) ggX6_alarms_X6_fail
set_option maxRecDepth 20000 in
theorem ggJxe99ae_doubleToLongBits_ccdee_Jxe99ae_isNaN_b9ae7 : GoodIn wsJxe99ae_doubleToLongBits_ccdee wsJxe99ae_isNaN_b9ae7 := goodIn_r _ [9] (by decide +kernel) (by decide +kernel)
set_option maxRecDepth 20000 in
theorem gJxe99ae_doubleToLongBits_ccdee_Jxe99ae_isNaN_b9ae7 : GoodIn wsJxe99ae_doubleToLongBits_ccdee (va_wsS RJxe99ae 122 yJxe99ae_isNaN_b9ae7 wsJxe99ae_isNaN_b9ae7) := goodIn_app (goodIn_of _ (by decide +kernel)) ggJxe99ae_doubleToLongBits_ccdee_Jxe99ae_isNaN_b9ae7
set_option maxRecDepth 20000 in
theorem ggJxf58ca_floatToIntBits_5c35a_Jxf58ca_isNaN_12338 : GoodIn wsJxf58ca_floatToIntBits_5c35a wsJxf58ca_isNaN_12338 := goodIn_r _ [9] (by decide +kernel) (by decide +kernel)
set_option maxRecDepth 20000 in
theorem gJxf58ca_floatToIntBits_5c35a_Jxf58ca_isNaN_12338 : GoodIn wsJxf58ca_floatToIntBits_5c35a (va_wsS RJxf58ca 59 yJxf58ca_isNaN_12338 wsJxf58ca_isNaN_12338) := goodIn_app (goodIn_of _ (by decide +kernel)) ggJxf58ca_floatToIntBits_5c35a_Jxf58ca_isNaN_12338
set_option maxRecDepth 20000 in
theorem ggJ13_numberOfLeadingZeros_95d88_J6_numberOfLeadingZeros_0f7a4 : GoodIn wsJ13_numberOfLeadingZeros_95d88 wsJ6_numberOfLeadingZeros_0f7a4 := goodIn_r _ [4, 5] (by decide +kernel) (by decide +kernel)
set_option maxRecDepth 20000 in
theorem gJ13_numberOfLeadingZeros_95d88_J6_numberOfLeadingZeros_0f7a4 : GoodIn wsJ13_numberOfLeadingZeros_95d88 (va_wsS RJ13 308 yJ6_numberOfLeadingZeros_0f7a4 wsJ6_numberOfLeadingZeros_0f7a4) := goodIn_app (goodIn_of _ (by decide +kernel)) ggJ13_numberOfLeadingZeros_95d88_J6_numberOfLeadingZeros_0f7a4
set_option maxRecDepth 20000 in
theorem ggL_mount_X5_mount : GoodIn wsL_mount wsX5_mount := goodIn_ca (goodIn_ca (goodIn_r _ [7, 8, 9, 10, 11, 12, 13, 14, 15, 16, 17, 18, 19, 6, 20, 21, 22, 23, 24, 25, 26, 27, 28, 29, 30, 31, 32, 33, 34, 35, 36, 37, 38, 39, 40, 41, 42, 43, 44, 45, 46, 47, 48, 49, 50, 51, 52, 53, 54, 55, 56, 57, 58, 59, 60, 61, 62, 63, 64, 65, 66, 67, 68, 69, 70, 71] (by decide +kernel) (by decide +kernel)) (goodIn_sub (fun _ h => List.mem_cons_of_mem _ (List.mem_append_left _ (List.mem_append_right _ h))) (by decide +kernel))) (goodIn_sub (fun _ h => List.mem_cons_of_mem _ (List.mem_append_right _ h)) (by decide +kernel))
set_option maxRecDepth 20000 in
theorem gL_mount_X5_mount : GoodIn wsL_mount (wsV RL 7 RX5 yX5_mount wsX5_mount) := goodIn_app (goodIn_of _ (by decide +kernel)) ggL_mount_X5_mount
set_option maxRecDepth 20000 in
theorem ggL_step_X5_step : GoodIn wsL_step wsX5_step := goodIn_ca (goodIn_ca (goodIn_ca (goodIn_r _ [8, 9, 10, 11, 12, 13, 14, 15, 16, 17, 18, 19, 20, 21, 7, 22, 23, 24, 25, 26, 27, 28, 29, 30, 31, 32, 33, 34, 35, 36, 37, 38, 39, 40, 41, 42, 43, 44, 45, 46, 47, 48, 49, 50, 51, 52, 53, 54, 55, 56, 57, 58, 59, 60, 61, 62, 63, 64, 65, 66, 67, 68, 69, 70, 71, 72, 73, 74, 75, 76, 77, 78, 79, 80, 81, 82, 83, 84, 85, 86, 87, 88, 89, 90, 91, 92, 93, 94, 95, 96, 97, 98, 99, 100, 101, 102, 103, 104, 105, 106, 107, 108, 109, 110, 111, 112, 113, 114, 115, 116, 117, 118] (by decide +kernel) (by decide +kernel)) (goodIn_sub (fun _ h => List.mem_cons_of_mem _ (List.mem_append_left _ (List.mem_append_left _ (List.mem_append_right _ h)))) (by decide +kernel))) (goodIn_sub (fun _ h => List.mem_cons_of_mem _ (List.mem_append_left _ (List.mem_append_right _ h))) (by decide +kernel))) (goodIn_sub (fun _ h => List.mem_cons_of_mem _ (List.mem_append_right _ h)) (by decide +kernel))
set_option maxRecDepth 20000 in
theorem gL_step_X5_step : GoodIn wsL_step (wsV RL 17 RX5 yX5_step wsX5_step) := goodIn_app (goodIn_of _ (by decide +kernel)) ggL_step_X5_step
set_option maxRecDepth 20000 in
theorem ggL_follow_X5_follow : GoodIn wsL_follow wsX5_follow := goodIn_ca (goodIn_ca (goodIn_ca (goodIn_r _ [8, 9, 10, 11, 12, 13, 14, 15, 16, 17, 18, 19, 20, 21, 22, 7, 23, 24, 25, 26, 27, 28, 29, 30, 31, 32, 33, 34, 35, 36, 37, 38, 39, 40, 41, 42, 43, 44, 45, 46, 47, 48, 49, 50, 51, 52, 53, 54, 55, 56, 57, 58, 59, 60, 61, 62, 63, 64, 65, 66, 67, 68, 69, 70, 71, 72, 73, 74, 75, 76, 77, 78, 79, 80, 81] (by decide +kernel) (by decide +kernel)) (goodIn_sub (fun _ h => List.mem_cons_of_mem _ (List.mem_append_left _ (List.mem_append_left _ (List.mem_append_right _ h)))) (by decide +kernel))) (goodIn_sub (fun _ h => List.mem_cons_of_mem _ (List.mem_append_left _ (List.mem_append_right _ h))) (by decide +kernel))) (goodIn_sub (fun _ h => List.mem_cons_of_mem _ (List.mem_append_right _ h)) (by decide +kernel))
set_option maxRecDepth 20000 in
theorem gL_follow_X5_follow : GoodIn wsL_follow (wsV RL 25 RX5 yX5_follow wsX5_follow) := goodIn_app (goodIn_of _ (by decide +kernel)) ggL_follow_X5_follow
set_option maxRecDepth 20000 in
theorem ggL_read_X5_read : GoodIn wsL_read wsX5_read := goodIn_ca (goodIn_ca (goodIn_r _ [7, 8, 9, 10, 11, 12, 13, 14, 15, 16, 17, 18, 19, 20, 6, 21, 22, 23, 24, 25, 26, 27, 28, 29, 30, 31, 32, 33, 34, 35, 36, 37, 38, 39, 40, 41, 42, 43, 44, 45, 46, 47, 48, 49, 50, 51, 52, 53, 54, 55, 56, 57, 58, 59, 60, 61, 62, 63, 64, 65, 66, 67, 68, 69, 70, 71, 72, 73, 74, 75, 76, 77, 78, 79, 80, 81, 82, 83, 84, 85, 86, 87, 88, 89, 90, 91, 92, 93, 94, 95, 96, 97, 98, 99, 100, 101, 102, 103, 104, 105, 106, 107, 108, 109, 110, 111, 112, 113, 114, 115, 116, 117, 118, 119, 120, 121, 122, 123, 124, 125, 126, 127, 128, 129, 130, 131, 132, 133, 134, 135, 136, 137, 138, 139, 140, 141, 142, 143, 144, 145, 146, 147, 148, 149, 150, 151, 152, 153, 154, 155, 156, 157, 158, 159, 160, 161, 162, 163, 164, 165, 166, 167, 168, 169, 170, 171, 172, 173, 174, 175, 176, 177, 178, 179, 180, 181, 182, 183, 184, 185, 186, 187, 188, 189, 190, 191, 192, 193, 194, 195, 196, 197, 198, 199, 200, 201, 202, 203, 204, 205, 206, 207, 208, 209, 210, 211, 212, 213, 214, 215, 216, 217, 218, 219, 220, 221, 222, 223, 224, 225, 226, 227, 228, 229, 230, 231, 232, 233, 234, 235, 236, 237, 238, 239, 240, 241, 242, 243, 244, 245, 246, 247, 248, 249, 250, 251, 252, 253, 254, 255, 256, 257, 258, 259, 260, 261, 262, 263, 264, 265, 266, 267, 268, 269, 270, 271, 272, 273, 274] (by decide +kernel) (by decide +kernel)) (goodIn_sub (fun _ h => List.mem_cons_of_mem _ (List.mem_append_left _ (List.mem_append_right _ h))) (by decide +kernel))) (goodIn_sub (fun _ h => List.mem_cons_of_mem _ (List.mem_append_right _ h)) (by decide +kernel))
set_option maxRecDepth 20000 in
theorem gL_read_X5_read : GoodIn wsL_read (wsV RL 29 RX5 yX5_read wsX5_read) := goodIn_app (goodIn_of _ (by decide +kernel)) ggL_read_X5_read
set_option maxRecDepth 20000 in
theorem ggL_reading_X5_reading : GoodIn wsL_reading wsX5_reading := goodIn_ca (goodIn_ca (goodIn_r _ [7, 8, 9, 10, 11, 12, 13, 14, 6, 15, 16, 17, 18, 19, 20, 21, 22, 23, 24, 25, 26, 27, 28, 29, 30, 31, 32, 33, 34, 35, 36, 37, 38, 39, 40, 41, 42, 43, 44, 45, 46, 47] (by decide +kernel) (by decide +kernel)) (goodIn_sub (fun _ h => List.mem_cons_of_mem _ (List.mem_append_left _ (List.mem_append_right _ h))) (by decide +kernel))) (goodIn_sub (fun _ h => List.mem_cons_of_mem _ (List.mem_append_right _ h)) (by decide +kernel))
set_option maxRecDepth 20000 in
theorem gL_reading_X5_reading : GoodIn wsL_reading (wsV RL 33 RX5 yX5_reading wsX5_reading) := goodIn_app (goodIn_of _ (by decide +kernel)) ggL_reading_X5_reading
set_option maxRecDepth 20000 in
theorem ggL_tell_X5_tell : GoodIn wsL_tell wsX5_tell := goodIn_ca (goodIn_ca (goodIn_ca (goodIn_r _ [8, 9, 10, 11, 12, 13, 14, 15, 16, 17, 18, 19, 20, 21, 7, 22, 23, 24, 25, 26, 27, 28, 29, 30, 31, 32, 33, 34, 35, 36, 37, 38, 39, 40, 41, 42, 43, 44, 45, 46, 47, 48, 49] (by decide +kernel) (by decide +kernel)) (goodIn_sub (fun _ h => List.mem_cons_of_mem _ (List.mem_append_left _ (List.mem_append_left _ (List.mem_append_right _ h)))) (by decide +kernel))) (goodIn_sub (fun _ h => List.mem_cons_of_mem _ (List.mem_append_left _ (List.mem_append_right _ h))) (by decide +kernel))) (goodIn_sub (fun _ h => List.mem_cons_of_mem _ (List.mem_append_right _ h)) (by decide +kernel))
set_option maxRecDepth 20000 in
theorem gL_tell_X5_tell : GoodIn wsL_tell (wsV RL 39 RX5 yX5_tell wsX5_tell) := goodIn_app (goodIn_of _ (by decide +kernel)) ggL_tell_X5_tell
set_option maxRecDepth 20000 in
theorem ggL_whole_X5_whole : GoodIn wsL_whole wsX5_whole := goodIn_ca (goodIn_ca (goodIn_r _ [7, 8, 9, 10, 11, 12, 13, 14, 15, 16, 6, 17, 18, 19, 20, 21, 22, 23, 24, 25, 26, 27, 28, 29, 30, 31, 32, 33, 34, 35, 36, 37, 38, 39, 40, 41, 42, 43, 44, 45, 46, 47, 48, 49, 50, 51, 52, 53, 54, 55, 56, 57, 58, 59, 60, 61, 62, 63, 64, 65, 66, 67, 68, 69, 70, 71, 72, 73, 74, 75, 76, 77, 78, 79, 80, 81, 82, 83, 84, 85, 86, 87, 88, 89, 90, 91, 92, 93, 94, 95, 96, 97, 98] (by decide +kernel) (by decide +kernel)) (goodIn_sub (fun _ h => List.mem_cons_of_mem _ (List.mem_append_left _ (List.mem_append_right _ h))) (by decide +kernel))) (goodIn_sub (fun _ h => List.mem_cons_of_mem _ (List.mem_append_right _ h)) (by decide +kernel))
set_option maxRecDepth 20000 in
theorem gL_whole_X5_whole : GoodIn wsL_whole (wsV RL 42 RX5 yX5_whole wsX5_whole) := goodIn_app (goodIn_of _ (by decide +kernel)) ggL_whole_X5_whole
set_option maxRecDepth 20000 in
theorem ggL_limits_X5_limits : GoodIn wsL_limits wsX5_limits := goodIn_ca (goodIn_ca (goodIn_r _ [7, 8, 9, 10, 11, 12, 13, 14, 15, 16, 17, 6, 18, 19, 20, 21, 22, 23, 24, 25, 26, 27, 28, 29, 30, 31, 32, 33, 34, 35, 36, 37, 38, 39, 40, 41, 42, 43, 44, 45, 46, 47, 48, 49, 50, 51, 52, 53, 54, 55, 56, 57, 58, 59, 60, 61, 62, 63, 64, 65, 66, 67, 68, 69, 70, 71, 72, 73, 74, 75, 76, 77, 78, 79, 80, 81, 82, 83, 84, 85, 86, 87, 88, 89, 90, 91, 92, 93] (by decide +kernel) (by decide +kernel)) (goodIn_sub (fun _ h => List.mem_cons_of_mem _ (List.mem_append_left _ (List.mem_append_right _ h))) (by decide +kernel))) (goodIn_sub (fun _ h => List.mem_cons_of_mem _ (List.mem_append_right _ h)) (by decide +kernel))
set_option maxRecDepth 20000 in
theorem gL_limits_X5_limits : GoodIn wsL_limits (wsV RL 45 RX5 yX5_limits wsX5_limits) := goodIn_app (goodIn_of _ (by decide +kernel)) ggL_limits_X5_limits
set_option maxRecDepth 20000 in
theorem ggL_widest_X5_widest : GoodIn wsL_widest wsX5_widest := goodIn_ca (goodIn_ca (goodIn_r _ [7, 8, 9, 10, 11, 12, 13, 14, 15, 16, 17, 6, 18, 19, 20, 21, 22, 23, 24, 25, 26, 27, 28, 29, 30, 31, 32, 33, 34, 35, 36, 37, 38, 39, 40, 41, 42, 43, 44, 45, 46, 47, 48, 49, 50, 51, 52, 53, 54, 55, 56, 57, 58, 59, 60, 61, 62, 63, 64, 65, 66, 67, 68, 69, 70, 71, 72, 73, 74, 75, 76, 77, 78, 79, 80, 81, 82, 83] (by decide +kernel) (by decide +kernel)) (goodIn_sub (fun _ h => List.mem_cons_of_mem _ (List.mem_append_left _ (List.mem_append_right _ h))) (by decide +kernel))) (goodIn_sub (fun _ h => List.mem_cons_of_mem _ (List.mem_append_right _ h)) (by decide +kernel))
set_option maxRecDepth 20000 in
theorem gL_widest_X5_widest : GoodIn wsL_widest (wsV RL 49 RX5 yX5_widest wsX5_widest) := goodIn_app (goodIn_of _ (by decide +kernel)) ggL_widest_X5_widest
set_option maxRecDepth 20000 in
theorem ggL_forget_X5_forget : GoodIn wsL_forget wsX5_forget := goodIn_ca (goodIn_r _ [6, 7, 8, 9, 10, 11, 12, 5, 13, 14, 15, 16, 17, 18, 19, 20, 21, 22, 23, 24, 25, 26, 27, 28, 29, 30, 31, 32, 33, 34, 35, 36, 37, 38, 39, 40, 41, 42, 43, 44, 45] (by decide +kernel) (by decide +kernel)) (goodIn_sub (fun _ h => List.mem_cons_of_mem _ (List.mem_append_right _ h)) (by decide +kernel))
set_option maxRecDepth 20000 in
theorem gL_forget_X5_forget : GoodIn wsL_forget (wsV RL 53 RX5 yX5_forget wsX5_forget) := goodIn_app (goodIn_of _ (by decide +kernel)) ggL_forget_X5_forget
set_option maxRecDepth 20000 in
theorem ggL_alarms_X5_alarms : GoodIn wsL_alarms wsX5_alarms := goodIn_ca (goodIn_r _ [6, 7, 8, 9, 10, 11, 12, 5, 13, 14, 15, 16, 17, 18, 19, 20, 21, 22, 23, 24, 25, 26, 27, 28, 29, 30, 31, 32, 33, 34] (by decide +kernel) (by decide +kernel)) (goodIn_sub (fun _ h => List.mem_cons_of_mem _ (List.mem_append_right _ h)) (by decide +kernel))
set_option maxRecDepth 20000 in
theorem gL_alarms_X5_alarms : GoodIn wsL_alarms (wsV RL 56 RX5 yX5_alarms wsX5_alarms) := goodIn_app (goodIn_of _ (by decide +kernel)) ggL_alarms_X5_alarms
set_option maxRecDepth 20000 in
theorem ggL_law_X5_init : GoodIn wsL_law wsX5_init := goodIn_r _ [10, 11, 12, 13, 14, 15, 16, 17, 18, 19, 20, 21, 22, 23, 24, 25, 26, 27, 28, 29, 30, 31, 32, 33, 34, 35, 36, 37, 38, 39, 40, 41, 42, 43, 44, 45, 46, 47, 48, 49, 50, 51, 52, 53, 54, 55, 684, 685, 686, 687, 688, 689, 690, 691, 692, 693, 694, 695, 696, 697, 659, 660, 661, 662, 663, 664] (by decide +kernel) (by decide +kernel)
set_option maxRecDepth 20000 in
theorem gL_law_X5_init : GoodIn wsL_law (wsX5_init) := ggL_law_X5_init
set_option maxRecDepth 20000 in
theorem ggL_law_X6_init : GoodIn wsL_law wsX6_init := goodIn_r _ [58, 59, 12, 13, 60, 61, 62, 63, 64, 6, 65, 66, 67, 68, 69, 70, 71, 72, 73, 74, 665, 666, 667, 668, 669, 670, 671, 672, 673, 674, 675, 676, 677, 678, 679, 680, 681, 682, 683] (by decide +kernel) (by decide +kernel)
set_option maxRecDepth 20000 in
theorem gL_law_X6_init : GoodIn wsL_law (wsX6_init) := ggL_law_X6_init
set_option maxRecDepth 20000 in
theorem ggL_law_L_mount : GoodIn wsL_law wsL_mount := goodIn_ca (goodIn_ca (goodIn_r _ [78, 79, 80, 81, 82, 83, 2, 84, 85, 86, 87, 88, 89, 23, 22, 90, 91, 92, 93, 94, 95, 21, 96, 97, 98, 99, 12, 13, 100, 101, 102, 103, 6, 104, 105, 106, 107, 108, 659, 660, 661, 662, 663, 664, 698, 699, 700, 701, 702, 703, 704, 705, 706, 707, 708, 709, 710, 711, 688, 689, 690, 691, 692, 693, 694, 695, 696, 697, 684, 685, 686, 687] (by decide +kernel) (by decide +kernel)) (goodIn_sub (fun _ h => List.mem_append_left _ (List.mem_append_left _ (List.mem_append_left _ (List.mem_append_left _ (List.mem_append_right _ h))))) (by decide +kernel))) (goodIn_sub (fun _ h => List.mem_append_left _ (List.mem_append_left _ (List.mem_append_left _ (List.mem_append_right _ h)))) (by decide +kernel))
set_option maxRecDepth 20000 in
theorem gL_law_L_mount : GoodIn wsL_law (va_wsS RL 63 yL_mount wsL_mount) := goodIn_app (goodIn_of _ (by decide +kernel)) ggL_law_L_mount
set_option maxRecDepth 20000 in
theorem ggL_law_X6_mount : GoodIn wsL_law wsX6_mount := goodIn_r _ [112, 113, 114, 61, 66, 115, 116, 67, 117, 118, 119, 120, 121, 5, 122, 123, 124, 125, 126, 127, 128, 129, 130, 131, 132, 133, 134, 135, 136, 137, 665, 666, 667, 668, 669, 670, 671, 672, 673, 674, 675, 676, 677, 678, 679, 680, 681, 682, 683] (by decide +kernel) (by decide +kernel)
set_option maxRecDepth 20000 in
theorem gL_law_X6_mount : GoodIn wsL_law (wsV RL 68 RX6 yX6_mount wsX6_mount) := goodIn_app (goodIn_of _ (by decide +kernel)) ggL_law_X6_mount
set_option maxRecDepth 20000 in
theorem ggL_law_X6_thrown : GoodIn wsL_law wsX6_thrown := goodIn_r _ [141, 113, 665, 666, 667, 668, 669, 670, 671, 672, 673, 674, 675, 676, 677, 678, 679, 680, 681, 682, 683] (by decide +kernel) (by decide +kernel)
set_option maxRecDepth 20000 in
theorem gL_law_X6_thrown : GoodIn wsL_law (wsV RL 69 RX6 yX6_thrown wsX6_thrown) := goodIn_app (goodIn_of _ (by decide +kernel)) ggL_law_X6_thrown
set_option maxRecDepth 20000 in
theorem ggL_law_L_step : GoodIn wsL_law wsL_step := goodIn_ca (goodIn_ca (goodIn_ca (goodIn_r _ [144, 145, 79, 146, 147, 148, 149, 2, 150, 151, 152, 85, 86, 153, 154, 155, 156, 157, 158, 159, 160, 161, 162, 23, 163, 164, 165, 166, 20, 167, 168, 169, 17, 170, 171, 172, 173, 174, 33, 175, 36, 176, 177, 178, 179, 180, 181, 182, 183, 184, 54, 185, 186, 187, 188, 189, 190, 191, 192, 193, 194, 195, 196, 197, 91, 198, 199, 103, 200, 201, 202, 203, 12, 13, 204, 205, 206, 207, 208, 209, 210, 211, 698, 699, 700, 701, 702, 703, 704, 705, 706, 707, 708, 709, 710, 711, 712, 713, 714, 659, 660, 661, 662, 663, 664, 688, 689, 690, 691, 692, 693, 694, 695, 696, 697, 684, 685, 686, 687] (by decide +kernel) (by decide +kernel)) (goodIn_sub (fun _ h => List.mem_append_left _ (List.mem_append_left _ (List.mem_append_right _ h))) (by decide +kernel))) (goodIn_sub (fun _ h => List.mem_append_left _ (List.mem_append_left _ (List.mem_append_left _ (List.mem_append_left _ (List.mem_append_right _ h))))) (by decide +kernel))) (goodIn_sub (fun _ h => List.mem_append_left _ (List.mem_append_right _ h)) (by decide +kernel))
set_option maxRecDepth 20000 in
theorem gL_law_L_step : GoodIn wsL_law (va_wsS RL 75 yL_step wsL_step) := goodIn_app (goodIn_of _ (by decide +kernel)) ggL_law_L_step
set_option maxRecDepth 20000 in
theorem ggL_law_X6_step : GoodIn wsL_law wsX6_step := goodIn_r _ [215, 113, 61, 216, 217, 218, 5, 219, 114, 119, 120, 121, 122, 220, 221, 222, 223, 224, 225, 226, 227, 228, 229, 230, 231, 135, 136, 137, 232, 233, 234, 235, 236, 237, 238, 239, 131, 132, 133, 134, 116, 123, 124, 125, 126, 127, 240, 241, 242, 243, 62, 63, 65, 64, 665, 666, 667, 668, 669, 670, 671, 672, 673, 674, 675, 676, 677, 678, 679, 680, 681, 682, 683] (by decide +kernel) (by decide +kernel)
set_option maxRecDepth 20000 in
theorem gL_law_X6_step : GoodIn wsL_law (wsV RL 78 RX6 yX6_step wsX6_step) := goodIn_app (goodIn_of _ (by decide +kernel)) ggL_law_X6_step
set_option maxRecDepth 20000 in
theorem ggL_law_L_follow : GoodIn wsL_law wsL_follow := goodIn_ca (goodIn_ca (goodIn_ca (goodIn_r _ [246, 145, 79, 146, 247, 248, 249, 2, 250, 151, 152, 85, 86, 153, 154, 155, 251, 156, 157, 158, 159, 160, 161, 162, 23, 163, 164, 165, 166, 20, 167, 168, 169, 17, 170, 177, 178, 179, 195, 196, 197, 91, 198, 199, 103, 200, 201, 202, 203, 12, 13, 204, 205, 206, 207, 208, 209, 210, 211, 698, 699, 700, 701, 702, 703, 704, 705, 706, 707, 708, 709, 710, 711, 712, 713, 714, 659, 660, 661, 662, 663, 664] (by decide +kernel) (by decide +kernel)) (goodIn_sub (fun _ h => List.mem_append_left _ (List.mem_append_left _ (List.mem_append_right _ h))) (by decide +kernel))) (goodIn_sub (fun _ h => List.mem_append_left _ (List.mem_append_left _ (List.mem_append_left _ (List.mem_append_left _ (List.mem_append_right _ h))))) (by decide +kernel))) (goodIn_sub (fun _ h => List.mem_append_left _ (List.mem_append_right _ h)) (by decide +kernel))
set_option maxRecDepth 20000 in
theorem gL_law_L_follow : GoodIn wsL_law (va_wsS RL 79 yL_follow wsL_follow) := goodIn_app (goodIn_of _ (by decide +kernel)) ggL_law_L_follow
set_option maxRecDepth 20000 in
theorem ggL_law_X6_follow : GoodIn wsL_law wsX6_follow := goodIn_r _ [255, 113, 61, 216, 217, 218, 5, 219, 114, 119, 120, 121, 122, 220, 221, 222, 223, 224, 225, 226, 227, 228, 240, 241, 242, 243, 62, 63, 65, 64, 665, 666, 667, 668, 669, 670, 671, 672, 673, 674, 675, 676, 677, 678, 679, 680, 681, 682, 683] (by decide +kernel) (by decide +kernel)
set_option maxRecDepth 20000 in
theorem gL_law_X6_follow : GoodIn wsL_law (wsV RL 82 RX6 yX6_follow wsX6_follow) := goodIn_app (goodIn_of _ (by decide +kernel)) ggL_law_X6_follow
set_option maxRecDepth 20000 in
theorem ggL_law_L_read : GoodIn wsL_law wsL_read := goodIn_ca (goodIn_ca (goodIn_r _ [258, 145, 79, 259, 260, 261, 2, 262, 151, 152, 85, 86, 155, 263, 264, 265, 266, 267, 159, 160, 161, 162, 23, 171, 172, 173, 174, 33, 175, 36, 176, 180, 181, 182, 183, 20, 184, 54, 185, 186, 187, 188, 189, 190, 191, 192, 193, 17, 194, 268, 269, 270, 91, 271, 103, 101, 272, 273, 274, 275, 158, 276, 206, 205, 277, 278, 279, 280, 281, 282, 283, 284, 285, 286, 287, 288, 289, 290, 291, 292, 293, 294, 295, 296, 297, 298, 299, 300, 301, 302, 303, 304, 305, 306, 307, 308, 309, 310, 311, 312, 313, 314, 315, 316, 53, 317, 318, 319, 320, 321, 322, 323, 324, 325, 326, 327, 328, 49, 50, 329, 330, 331, 332, 333, 334, 335, 336, 52, 337, 338, 339, 340, 341, 342, 343, 344, 345, 346, 347, 348, 349, 350, 104, 351, 352, 353, 354, 355, 356, 357, 358, 359, 360, 361, 362, 363, 364, 365, 366, 367, 368, 369, 370, 371, 372, 373, 374, 375, 376, 377, 51, 378, 379, 380, 381, 382, 383, 384, 385, 386, 387, 388, 389, 390, 391, 392, 393, 394, 395, 396, 397, 398, 399, 400, 401, 402, 403, 404, 405, 406, 407, 408, 409, 410, 411, 412, 413, 414, 415, 416, 417, 418, 419, 420, 421, 422, 423, 424, 425, 426, 427, 428, 429, 430, 106, 108, 431, 432, 433, 434, 435, 436, 437, 438, 439, 440, 441, 442, 698, 699, 700, 701, 702, 703, 704, 705, 706, 707, 708, 709, 710, 711, 659, 660, 661, 662, 663, 664, 688, 689, 690, 691, 692, 693, 694, 695, 696, 697, 684, 685, 686, 687, 712, 713, 714] (by decide +kernel) (by decide +kernel)) (goodIn_sub (fun _ h => List.mem_append_left _ (List.mem_append_left _ (List.mem_append_right _ h))) (by decide +kernel))) (goodIn_sub (fun _ h => List.mem_append_left _ (List.mem_append_left _ (List.mem_append_left _ (List.mem_append_left _ (List.mem_append_right _ h))))) (by decide +kernel))
set_option maxRecDepth 20000 in
theorem gL_law_L_read : GoodIn wsL_law (va_wsS RL 83 yL_read wsL_read) := goodIn_app (goodIn_of _ (by decide +kernel)) ggL_law_L_read
set_option maxRecDepth 20000 in
theorem ggL_law_X6_read : GoodIn wsL_law wsX6_read := goodIn_r _ [446, 113, 61, 68, 72, 70, 71, 73, 69, 447, 66, 67, 74, 448, 216, 217, 218, 5, 219, 114, 119, 120, 121, 122, 229, 230, 231, 223, 224, 225, 135, 136, 137, 232, 233, 234, 235, 236, 237, 238, 239, 131, 132, 133, 134, 116, 123, 124, 125, 126, 127, 449, 450, 451, 452, 62, 64, 65, 63, 453, 454, 455, 456, 457, 458, 459, 460, 461, 462, 463, 464, 465, 466, 467, 468, 469, 470, 471, 472, 473, 474, 475, 476, 477, 478, 479, 480, 128, 129, 130, 481, 482, 483, 484, 485, 486, 487, 488, 489, 490, 491, 492, 493, 494, 495, 496, 497, 498, 499, 500, 501, 502, 503, 504, 505, 506, 507, 508, 509, 510, 511, 512, 513, 514, 515, 516, 517, 518, 519, 520, 521, 522, 523, 524, 525, 526, 527, 528, 529, 530, 531, 532, 533, 534, 535, 665, 666, 667, 668, 669, 670, 671, 672, 673, 674, 675, 676, 677, 678, 679, 680, 681, 682, 683] (by decide +kernel) (by decide +kernel)
set_option maxRecDepth 20000 in
theorem gL_law_X6_read : GoodIn wsL_law (wsV RL 86 RX6 yX6_read wsX6_read) := goodIn_app (goodIn_of _ (by decide +kernel)) ggL_law_X6_read
set_option maxRecDepth 20000 in
theorem ggL_law_L_reading : GoodIn wsL_law wsL_reading := goodIn_ca (goodIn_ca (goodIn_r _ [538, 145, 539, 540, 541, 542, 2, 543, 151, 152, 544, 545, 159, 160, 161, 162, 23, 546, 547, 548, 91, 549, 351, 550, 551, 552, 553, 104, 659, 660, 661, 662, 663, 664, 698, 699, 700, 701, 702, 703, 704, 705, 706, 707, 708, 709, 710, 711] (by decide +kernel) (by decide +kernel)) (goodIn_sub (fun _ h => List.mem_append_left _ (List.mem_append_left _ (List.mem_append_right _ h))) (by decide +kernel))) (goodIn_sub (fun _ h => List.mem_append_right _ h) (by decide +kernel))
set_option maxRecDepth 20000 in
theorem gL_law_L_reading : GoodIn wsL_law (va_wsS RL 87 yL_reading wsL_reading) := goodIn_app (goodIn_of _ (by decide +kernel)) ggL_law_L_reading
set_option maxRecDepth 20000 in
theorem ggL_law_X6_reading : GoodIn wsL_law wsX6_reading := goodIn_r _ [557, 113, 68, 69, 216, 217, 218, 5, 219, 114, 119, 120, 121, 122, 665, 666, 667, 668, 669, 670, 671, 672, 673, 674, 675, 676, 677, 678, 679, 680, 681, 682, 683] (by decide +kernel) (by decide +kernel)
set_option maxRecDepth 20000 in
theorem gL_law_X6_reading : GoodIn wsL_law (wsV RL 90 RX6 yX6_reading wsX6_reading) := goodIn_app (goodIn_of _ (by decide +kernel)) ggL_law_X6_reading
set_option maxRecDepth 20000 in
theorem ggL_law_L_tell : GoodIn wsL_law wsL_tell := goodIn_ca (goodIn_ca (goodIn_ca (goodIn_r _ [560, 145, 79, 539, 561, 562, 563, 2, 564, 151, 152, 85, 86, 544, 545, 565, 566, 567, 568, 159, 160, 161, 162, 23, 569, 353, 354, 91, 355, 351, 698, 699, 700, 701, 702, 703, 704, 705, 706, 707, 708, 709, 710, 711, 659, 660, 661, 662, 663, 664] (by decide +kernel) (by decide +kernel)) (goodIn_sub (fun _ h => List.mem_append_left _ (List.mem_append_left _ (List.mem_append_right _ h))) (by decide +kernel))) (goodIn_sub (fun _ h => List.mem_append_left _ (List.mem_append_left _ (List.mem_append_left _ (List.mem_append_left _ (List.mem_append_right _ h))))) (by decide +kernel))) (goodIn_sub (fun _ h => List.mem_append_right _ h) (by decide +kernel))
set_option maxRecDepth 20000 in
theorem gL_law_L_tell : GoodIn wsL_law (va_wsS RL 91 yL_tell wsL_tell) := goodIn_app (goodIn_of _ (by decide +kernel)) ggL_law_L_tell
set_option maxRecDepth 20000 in
theorem ggL_law_X6_tell : GoodIn wsL_law wsX6_tell := goodIn_r _ [573, 113, 68, 70, 71, 72, 73, 216, 217, 218, 5, 219, 114, 119, 120, 121, 122, 665, 666, 667, 668, 669, 670, 671, 672, 673, 674, 675, 676, 677, 678, 679, 680, 681, 682, 683] (by decide +kernel) (by decide +kernel)
set_option maxRecDepth 20000 in
theorem gL_law_X6_tell : GoodIn wsL_law (wsV RL 93 RX6 yX6_tell wsX6_tell) := goodIn_app (goodIn_of _ (by decide +kernel)) ggL_law_X6_tell
set_option maxRecDepth 20000 in
theorem ggL_law_L_whole : GoodIn wsL_law wsL_whole := goodIn_ca (goodIn_ca (goodIn_r _ [576, 145, 539, 577, 578, 579, 2, 580, 151, 152, 544, 545, 155, 581, 159, 160, 161, 162, 23, 569, 353, 354, 91, 355, 351, 582, 583, 584, 585, 20, 586, 53, 50, 587, 588, 49, 185, 186, 187, 188, 189, 190, 191, 378, 379, 380, 381, 51, 386, 387, 388, 389, 589, 590, 17, 591, 27, 29, 592, 376, 373, 377, 593, 372, 374, 698, 699, 700, 701, 702, 703, 704, 705, 706, 707, 708, 709, 710, 711, 659, 660, 661, 662, 663, 664, 688, 689, 690, 691, 692, 693, 694, 695, 696, 697, 684, 685, 686, 687] (by decide +kernel) (by decide +kernel)) (goodIn_sub (fun _ h => List.mem_append_left _ (List.mem_append_left _ (List.mem_append_right _ h))) (by decide +kernel))) (goodIn_sub (fun _ h => List.mem_append_right _ h) (by decide +kernel))
set_option maxRecDepth 20000 in
theorem gL_law_L_whole : GoodIn wsL_law (va_wsS RL 94 yL_whole wsL_whole) := goodIn_app (goodIn_of _ (by decide +kernel)) ggL_law_L_whole
set_option maxRecDepth 20000 in
theorem ggL_law_X6_whole : GoodIn wsL_law wsX6_whole := goodIn_r _ [597, 113, 68, 61, 115, 117, 216, 217, 218, 5, 219, 114, 119, 120, 121, 122, 454, 455, 456, 457, 69, 494, 495, 496, 497, 498, 499, 500, 512, 513, 514, 515, 516, 517, 518, 665, 666, 667, 668, 669, 670, 671, 672, 673, 674, 675, 676, 677, 678, 679, 680, 681, 682, 683] (by decide +kernel) (by decide +kernel)
set_option maxRecDepth 20000 in
theorem gL_law_X6_whole : GoodIn wsL_law (wsV RL 96 RX6 yX6_whole wsX6_whole) := goodIn_app (goodIn_of _ (by decide +kernel)) ggL_law_X6_whole
set_option maxRecDepth 20000 in
theorem ggL_law_L_limits : GoodIn wsL_law wsL_limits := goodIn_ca (goodIn_ca (goodIn_r _ [600, 145, 79, 601, 602, 603, 2, 604, 151, 152, 85, 86, 155, 605, 606, 159, 160, 161, 162, 23, 171, 172, 173, 174, 33, 175, 36, 176, 180, 181, 182, 183, 20, 184, 54, 185, 186, 187, 188, 189, 190, 191, 192, 193, 17, 194, 607, 432, 433, 434, 435, 436, 437, 438, 364, 366, 439, 440, 441, 442, 698, 699, 700, 701, 702, 703, 704, 705, 706, 707, 708, 709, 710, 711, 659, 660, 661, 662, 663, 664, 688, 689, 690, 691, 692, 693, 694, 695, 696, 697, 684, 685, 686, 687] (by decide +kernel) (by decide +kernel)) (goodIn_sub (fun _ h => List.mem_append_left _ (List.mem_append_left _ (List.mem_append_right _ h))) (by decide +kernel))) (goodIn_sub (fun _ h => List.mem_append_left _ (List.mem_append_left _ (List.mem_append_left _ (List.mem_append_left _ (List.mem_append_right _ h))))) (by decide +kernel))
set_option maxRecDepth 20000 in
theorem gL_law_L_limits : GoodIn wsL_law (va_wsS RL 97 yL_limits wsL_limits) := goodIn_app (goodIn_of _ (by decide +kernel)) ggL_law_L_limits
set_option maxRecDepth 20000 in
theorem ggL_law_X6_limits : GoodIn wsL_law wsX6_limits := goodIn_r _ [611, 113, 61, 66, 67, 216, 217, 218, 5, 219, 114, 119, 120, 121, 122, 229, 230, 231, 223, 224, 225, 135, 136, 137, 232, 233, 234, 235, 236, 237, 238, 239, 131, 132, 133, 134, 116, 123, 124, 125, 126, 127, 533, 534, 535, 491, 492, 493, 467, 468, 469, 470, 471, 472, 665, 666, 667, 668, 669, 670, 671, 672, 673, 674, 675, 676, 677, 678, 679, 680, 681, 682, 683] (by decide +kernel) (by decide +kernel)
set_option maxRecDepth 20000 in
theorem gL_law_X6_limits : GoodIn wsL_law (wsV RL 100 RX6 yX6_limits wsX6_limits) := goodIn_app (goodIn_of _ (by decide +kernel)) ggL_law_X6_limits
set_option maxRecDepth 20000 in
theorem ggL_law_L_widest : GoodIn wsL_law wsL_widest := goodIn_ca (goodIn_ca (goodIn_r _ [614, 79, 539, 615, 616, 617, 2, 618, 85, 86, 544, 545, 23, 251, 567, 92, 93, 94, 95, 21, 569, 353, 354, 91, 355, 351, 619, 293, 294, 295, 33, 296, 297, 298, 299, 300, 20, 301, 191, 185, 186, 187, 188, 189, 190, 302, 303, 17, 304, 305, 659, 660, 661, 662, 663, 664, 698, 699, 700, 701, 702, 703, 704, 705, 706, 707, 708, 709, 710, 711, 688, 689, 690, 691, 692, 693, 694, 695, 696, 697, 684, 685, 686, 687] (by decide +kernel) (by decide +kernel)) (goodIn_sub (fun _ h => List.mem_append_left _ (List.mem_append_left _ (List.mem_append_left _ (List.mem_append_left _ (List.mem_append_right _ h))))) (by decide +kernel))) (goodIn_sub (fun _ h => List.mem_append_right _ h) (by decide +kernel))
set_option maxRecDepth 20000 in
theorem gL_law_L_widest : GoodIn wsL_law (va_wsS RL 101 yL_widest wsL_widest) := goodIn_app (goodIn_of _ (by decide +kernel)) ggL_law_L_widest
set_option maxRecDepth 20000 in
theorem ggL_law_X6_widest : GoodIn wsL_law wsX6_widest := goodIn_r _ [623, 113, 114, 61, 68, 72, 119, 120, 121, 5, 122, 464, 465, 466, 467, 468, 469, 235, 223, 224, 225, 232, 233, 234, 236, 237, 238, 239, 131, 132, 133, 134, 116, 470, 471, 472, 665, 666, 667, 668, 669, 670, 671, 672, 673, 674, 675, 676, 677, 678, 679, 680, 681, 682, 683] (by decide +kernel) (by decide +kernel)
set_option maxRecDepth 20000 in
theorem gL_law_X6_widest : GoodIn wsL_law (wsV RL 103 RX6 yX6_widest wsX6_widest) := goodIn_app (goodIn_of _ (by decide +kernel)) ggL_law_X6_widest
set_option maxRecDepth 20000 in
theorem ggL_law_L_forget : GoodIn wsL_law wsL_forget := goodIn_ca (goodIn_r _ [626, 145, 627, 628, 629, 2, 630, 151, 152, 631, 159, 160, 161, 162, 23, 632, 633, 634, 91, 635, 351, 348, 346, 347, 349, 350, 698, 699, 700, 701, 702, 703, 704, 705, 706, 707, 708, 709, 710, 711, 659, 660, 661, 662, 663, 664] (by decide +kernel) (by decide +kernel)) (goodIn_sub (fun _ h => List.mem_append_left _ (List.mem_append_left _ (List.mem_append_right _ h))) (by decide +kernel))
set_option maxRecDepth 20000 in
theorem gL_law_L_forget : GoodIn wsL_law (va_wsS RL 104 yL_forget wsL_forget) := goodIn_app (goodIn_of _ (by decide +kernel)) ggL_law_L_forget
set_option maxRecDepth 20000 in
theorem ggL_law_X6_forget : GoodIn wsL_law wsX6_forget := goodIn_r _ [639, 113, 68, 216, 217, 218, 5, 219, 114, 119, 120, 121, 122, 665, 666, 667, 668, 669, 670, 671, 672, 673, 674, 675, 676, 677, 678, 679, 680, 681, 682, 683] (by decide +kernel) (by decide +kernel)
set_option maxRecDepth 20000 in
theorem gL_law_X6_forget : GoodIn wsL_law (wsV RL 106 RX6 yX6_forget wsX6_forget) := goodIn_app (goodIn_of _ (by decide +kernel)) ggL_law_X6_forget
set_option maxRecDepth 20000 in
theorem ggL_law_L_alarms : GoodIn wsL_law wsL_alarms := goodIn_ca (goodIn_r _ [642, 145, 643, 644, 645, 2, 646, 151, 152, 266, 159, 160, 161, 162, 23, 698, 699, 700, 701, 702, 703, 704, 705, 706, 707, 708, 709, 710, 711, 659, 660, 661, 662, 663, 664] (by decide +kernel) (by decide +kernel)) (goodIn_sub (fun _ h => List.mem_append_left _ (List.mem_append_left _ (List.mem_append_right _ h))) (by decide +kernel))
set_option maxRecDepth 20000 in
theorem gL_law_L_alarms : GoodIn wsL_law (va_wsS RL 107 yL_alarms wsL_alarms) := goodIn_app (goodIn_of _ (by decide +kernel)) ggL_law_L_alarms
set_option maxRecDepth 20000 in
theorem ggL_law_X6_alarms : GoodIn wsL_law wsX6_alarms := goodIn_r _ [650, 113, 74, 216, 217, 218, 5, 219, 114, 119, 120, 121, 122, 665, 666, 667, 668, 669, 670, 671, 672, 673, 674, 675, 676, 677, 678, 679, 680, 681, 682, 683] (by decide +kernel) (by decide +kernel)
set_option maxRecDepth 20000 in
theorem gL_law_X6_alarms : GoodIn wsL_law (wsV RL 109 RX6 yX6_alarms wsX6_alarms) := goodIn_app (goodIn_of _ (by decide +kernel)) ggL_law_X6_alarms
set_option maxRecDepth 20000 in
theorem ggL_law_X5_count : GoodIn wsL_law wsX5_count := goodIn_r _ [654, 89, 263, 267, 264, 659, 660, 661, 662, 663, 664] (by decide +kernel) (by decide +kernel)
set_option maxRecDepth 20000 in
theorem gL_law_X5_count : GoodIn wsL_law (wsV RL 110 RX5 yX5_count wsX5_count) := goodIn_app (goodIn_of _ (by decide +kernel)) ggL_law_X5_count
set_option maxRecDepth 20000 in
theorem ggL_law_X6_count : GoodIn wsL_law wsX6_count := goodIn_r _ [658, 113, 114, 447, 448, 453, 665, 666, 667, 668, 669, 670, 671, 672, 673, 674, 675, 676, 677, 678, 679, 680, 681, 682, 683] (by decide +kernel) (by decide +kernel)
set_option maxRecDepth 20000 in
theorem gL_law_X6_count : GoodIn wsL_law (wsV RL 113 RX6 yX6_count wsX6_count) := goodIn_app (goodIn_of _ (by decide +kernel)) ggL_law_X6_count
abbrev vwCl : List vw_C := [(RX0, TX0, 10), (RX1, TX1, 14), (RX3, TX3, 3), (RX4, TX4, 4), (RX5, TX5, 6), (RX6, TX6, 19)]
