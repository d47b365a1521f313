def RX0 : String := "Heliographs$Chain"
def TX0 : u_T := fun k => match k with
  | 0 => ("Heliographs$Chain", "plan", "LHeliographs$Plan;", false)
  | 1 => ("Heliographs$Chain", "minute", "I", false)
  | 2 => ("Heliographs$Chain", "shut", "I", false)
  | 3 => ("Heliographs$Chain", "mirrors", "[I", true)
  | 4 => ("Heliographs$Chain", "place", "[I", true)
  | 5 => ("Heliographs$Chain", "goal", "[I", true)
  | 6 => ("Heliographs$Chain", "state", "[I", true)
  | 7 => ("Heliographs$Chain", "left", "[I", true)
  | 8 => ("Heliographs$Chain", "came", "[I", true)
  | 9 => ("Heliographs$Chain", "over", "[I", true)
  | 10 => ("Heliographs$Chain", "breaks", "[I", true)
  | 11 => ("Heliographs$Chain", "crossed", "[I", true)
  | 12 => ("Heliographs$Chain", "flashedOver", "[I", true)
  | 13 => ("Heliographs$Chain", "lost", "I", false)
  | 14 => ("Heliographs$Chain", "lit", "[Z", true)
  | _ => ("Heliographs$Chain", "reach", "[I", true)
def tyX0 : Nat → FieldType := fun k => match k with
  | 0 => .object "Heliographs$Plan"
  | 1 => .int
  | 2 => .int
  | 3 => .array .int
  | 4 => .array .int
  | 5 => .array .int
  | 6 => .array .int
  | 7 => .array .int
  | 8 => .array .int
  | 9 => .array .int
  | 10 => .array .int
  | 11 => .array .int
  | 12 => .array .int
  | 13 => .int
  | 14 => .array .boolean
  | _ => .array .int
theorem nmX0 : ∀ a, a < 16 → ∀ b, b < 16 → a ≠ b → (TX0 a).2.1 ≠ (TX0 b).2.1 := by decide +kernel
theorem tyX0_ok : ∀ k, k < 16 → parseFieldDescriptor (TX0 k).2.2.1 = some (tyX0 k) := by decide +kernel
abbrev cX0_init : ByteArray := prog_2_method_1_code
def yX0_init : MethodName := ⟨RX0, "<init>", "(LHeliographs$Plan;)V"⟩
abbrev cX0_begin : ByteArray := prog_2_method_2_code
def yX0_begin : MethodName := ⟨RX0, "begin", "(LHeliographs$Plan;)V"⟩
abbrev cX0_copy : ByteArray := prog_2_method_3_code
def yX0_copy : MethodName := ⟨RX0, "copy", "(LHeliographs$Chain;)V"⟩
abbrev cX0_copyRow : ByteArray := prog_2_method_4_code
def yX0_copyRow : MethodName := ⟨RX0, "copyRow", "([I[I)V"⟩
abbrev cX0_run : ByteArray := prog_2_method_5_code
def yX0_run : MethodName := ⟨RX0, "run", "(I)V"⟩
abbrev cX0_look : ByteArray := prog_2_method_6_code
def yX0_look : MethodName := ⟨RX0, "look", "()V"⟩
abbrev cX0_flashWord : ByteArray := prog_2_method_7_code
def yX0_flashWord : MethodName := ⟨RX0, "flashWord", "(I)V"⟩
abbrev cX0_arrive : ByteArray := prog_2_method_8_code
def yX0_arrive : MethodName := ⟨RX0, "arrive", "(II)V"⟩
abbrev cX0_letWait : ByteArray := prog_2_method_9_code
def yX0_letWait : MethodName := ⟨RX0, "letWait", "(I)V"⟩
abbrev cX0_breakOff : ByteArray := prog_2_method_10_code
def yX0_breakOff : MethodName := ⟨RX0, "breakOff", "(I)V"⟩
abbrev cX0_sendOff : ByteArray := prog_2_method_11_code
def yX0_sendOff : MethodName := ⟨RX0, "sendOff", "(I)V"⟩
abbrev cX0_farOfWay : ByteArray := prog_2_method_12_code
def yX0_farOfWay : MethodName := ⟨RX0, "farOfWay", "(II)I"⟩
abbrev cX0_firstPassOfWay : ByteArray := prog_2_method_13_code
def yX0_firstPassOfWay : MethodName := ⟨RX0, "firstPassOfWay", "(II)I"⟩
abbrev cX0_measure : ByteArray := prog_2_method_14_code
def yX0_measure : MethodName := ⟨RX0, "measure", "(I)V"⟩
abbrev cX0_shorten : ByteArray := prog_2_method_15_code
def yX0_shorten : MethodName := ⟨RX0, "shorten", "(III)Z"⟩
abbrev cX0_isPassable : ByteArray := prog_2_method_16_code
def yX0_isPassable : MethodName := ⟨RX0, "isPassable", "(II)Z"⟩
abbrev cX0_isLit : ByteArray := prog_2_method_17_code
def yX0_isLit : MethodName := ⟨RX0, "isLit", "(I)Z"⟩
abbrev cX0_isCarried : ByteArray := prog_2_method_18_code
def yX0_isCarried : MethodName := ⟨RX0, "isCarried", "(I)Z"⟩
abbrev cX0_leftOf : ByteArray := prog_2_method_19_code
def yX0_leftOf : MethodName := ⟨RX0, "leftOf", "(I)I"⟩
abbrev cX0_breaksOf : ByteArray := prog_2_method_20_code
def yX0_breaksOf : MethodName := ⟨RX0, "breaksOf", "(I)I"⟩
abbrev cX0_freeMirrors : ByteArray := prog_2_method_21_code
def yX0_freeMirrors : MethodName := ⟨RX0, "freeMirrors", "(I)I"⟩
abbrev cX0_messagesAt : ByteArray := prog_2_method_22_code
def yX0_messagesAt : MethodName := ⟨RX0, "messagesAt", "(II)I"⟩
abbrev cX0_messagesIn : ByteArray := prog_2_method_23_code
def yX0_messagesIn : MethodName := ⟨RX0, "messagesIn", "(I)I"⟩
abbrev cX0_messageOver : ByteArray := prog_2_method_24_code
def yX0_messageOver : MethodName := ⟨RX0, "messageOver", "(I)I"⟩
abbrev cX0_breaksInAll : ByteArray := prog_2_method_25_code
def yX0_breaksInAll : MethodName := ⟨RX0, "breaksInAll", "()I"⟩
abbrev cX0_sunnyPeaks : ByteArray := prog_2_method_26_code
def yX0_sunnyPeaks : MethodName := ⟨RX0, "sunnyPeaks", "()I"⟩
abbrev cX0_openPasses : ByteArray := prog_2_method_27_code
def yX0_openPasses : MethodName := ⟨RX0, "openPasses", "()I"⟩
abbrev cX0_passesOf : ByteArray := prog_2_method_28_code
def yX0_passesOf : MethodName := ⟨RX0, "passesOf", "(I)I"⟩
abbrev cX0_openPassesOf : ByteArray := prog_2_method_29_code
def yX0_openPassesOf : MethodName := ⟨RX0, "openPassesOf", "(I)I"⟩
abbrev cX0_tally : ByteArray := prog_2_method_30_code
def yX0_tally : MethodName := ⟨RX0, "tally", "(I)I"⟩
abbrev cX0_peakTold : ByteArray := prog_2_method_31_code
def yX0_peakTold : MethodName := ⟨RX0, "peakTold", "(II)I"⟩
abbrev cX0_passTold : ByteArray := prog_2_method_32_code
def yX0_passTold : MethodName := ⟨RX0, "passTold", "(II)I"⟩
abbrev cX0_messageTold : ByteArray := prog_2_method_33_code
def yX0_messageTold : MethodName := ⟨RX0, "messageTold", "(II)I"⟩
def RX1 : String := "Heliographs$Kind"
def TX1 : u_T := fun k => match k with
  | _ => ("", "", "", false)
def tyX1 : Nat → FieldType := fun k => match k with
  | _ => .int
theorem nmX1 : ∀ a, a < 0 → ∀ b, b < 0 → a ≠ b → (TX1 a).2.1 ≠ (TX1 b).2.1 := by decide +kernel
theorem tyX1_ok : ∀ k, k < 0 → parseFieldDescriptor (TX1 k).2.2.1 = some (tyX1 k) := by decide +kernel
def RX2 : String := "Heliographs$Orders"
def TX2 : u_T := fun k => match k with
  | 0 => ("Heliographs$Orders", "count", "I", false)
  | 1 => ("Heliographs$Orders", "messages", "[I", true)
  | 2 => ("Heliographs$Orders", "ends", "[I", true)
  | 3 => ("Heliographs$Orders", "ops", "[I", true)
  | 4 => ("Heliographs$Orders", "operands", "[I", true)
  | 5 => ("Heliographs$Orders", "length", "I", false)
  | 6 => ("Heliographs$Orders", "stack", "[I", true)
  | _ => ("Heliographs$Orders", "top", "I", false)
def tyX2 : Nat → FieldType := fun k => match k with
  | 0 => .int
  | 1 => .array .int
  | 2 => .array .int
  | 3 => .array .int
  | 4 => .array .int
  | 5 => .int
  | 6 => .array .int
  | _ => .int
theorem nmX2 : ∀ a, a < 8 → ∀ b, b < 8 → a ≠ b → (TX2 a).2.1 ≠ (TX2 b).2.1 := by decide +kernel
theorem tyX2_ok : ∀ k, k < 8 → parseFieldDescriptor (TX2 k).2.2.1 = some (tyX2 k) := by decide +kernel
abbrev cX2_init : ByteArray := prog_4_method_1_code
def yX2_init : MethodName := ⟨RX2, "<init>", "()V"⟩
abbrev cX2_clear : ByteArray := prog_4_method_2_code
def yX2_clear : MethodName := ⟨RX2, "clear", "()V"⟩
abbrev cX2_append : ByteArray := prog_4_method_3_code
def yX2_append : MethodName := ⟨RX2, "append", "(II)V"⟩
abbrev cX2_close : ByteArray := prog_4_method_4_code
def yX2_close : MethodName := ⟨RX2, "close", "(I)V"⟩
abbrev cX2_isHeld : ByteArray := prog_4_method_5_code
def yX2_isHeld : MethodName := ⟨RX2, "isHeld", "(ILHeliographs$Chain;)Z"⟩
abbrev cX2_isTrue : ByteArray := prog_4_method_6_code
def yX2_isTrue : MethodName := ⟨RX2, "isTrue", "(IILHeliographs$Chain;)Z"⟩
abbrev cX2_apply : ByteArray := prog_4_method_7_code
def yX2_apply : MethodName := ⟨RX2, "apply", "(IILHeliographs$Chain;)V"⟩
abbrev cX2_joined : ByteArray := prog_4_method_8_code
def yX2_joined : MethodName := ⟨RX2, "joined", "(III)I"⟩
abbrev cX2_push : ByteArray := prog_4_method_9_code
def yX2_push : MethodName := ⟨RX2, "push", "(I)V"⟩
abbrev cX2_pop : ByteArray := prog_4_method_10_code
def yX2_pop : MethodName := ⟨RX2, "pop", "()I"⟩
def RX3 : String := "Heliographs$Plan"
def TX3 : u_T := fun k => match k with
  | 0 => ("Heliographs$Plan", "peaks", "I", false)
  | 1 => ("Heliographs$Plan", "passes", "I", false)
  | 2 => ("Heliographs$Plan", "clouds", "I", false)
  | 3 => ("Heliographs$Plan", "messages", "I", false)
  | 4 => ("Heliographs$Plan", "from", "[I", true)
  | 5 => ("Heliographs$Plan", "to", "[I", true)
  | 6 => ("Heliographs$Plan", "mirrors", "[I", true)
  | 7 => ("Heliographs$Plan", "onePeak", "[I", true)
  | 8 => ("Heliographs$Plan", "otherPeak", "[I", true)
  | 9 => ("Heliographs$Plan", "far", "[I", true)
  | 10 => ("Heliographs$Plan", "words", "[I", true)
  | 11 => ("Heliographs$Plan", "at", "[I", true)
  | 12 => ("Heliographs$Plan", "goal", "[I", true)
  | 13 => ("Heliographs$Plan", "due", "[I", true)
  | 14 => ("Heliographs$Plan", "orders", "LHeliographs$Orders;", true)
  | 15 => ("Heliographs$Plan", "cloudPass", "[I", true)
  | 16 => ("Heliographs$Plan", "cloudEvery", "[I", true)
  | 17 => ("Heliographs$Plan", "cloudLasts", "[I", true)
  | _ => ("Heliographs$Plan", "cloudFrom", "[I", true)
def tyX3 : Nat → FieldType := fun k => match k with
  | 0 => .int
  | 1 => .int
  | 2 => .int
  | 3 => .int
  | 4 => .array .int
  | 5 => .array .int
  | 6 => .array .int
  | 7 => .array .int
  | 8 => .array .int
  | 9 => .array .int
  | 10 => .array .int
  | 11 => .array .int
  | 12 => .array .int
  | 13 => .array .int
  | 14 => .object "Heliographs$Orders"
  | 15 => .array .int
  | 16 => .array .int
  | 17 => .array .int
  | _ => .array .int
theorem nmX3 : ∀ a, a < 19 → ∀ b, b < 19 → a ≠ b → (TX3 a).2.1 ≠ (TX3 b).2.1 := by decide +kernel
theorem tyX3_ok : ∀ k, k < 19 → parseFieldDescriptor (TX3 k).2.2.1 = some (tyX3 k) := by decide +kernel
abbrev cX3_init : ByteArray := prog_5_method_1_code
def yX3_init : MethodName := ⟨RX3, "<init>", "()V"⟩
abbrev cX3_clear : ByteArray := prog_5_method_2_code
def yX3_clear : MethodName := ⟨RX3, "clear", "()V"⟩
abbrev cX3_addPeak : ByteArray := prog_5_method_3_code
def yX3_addPeak : MethodName := ⟨RX3, "addPeak", "(III)V"⟩
abbrev cX3_addPass : ByteArray := prog_5_method_4_code
def yX3_addPass : MethodName := ⟨RX3, "addPass", "(III)V"⟩
abbrev cX3_addCloud : ByteArray := prog_5_method_5_code
def yX3_addCloud : MethodName := ⟨RX3, "addCloud", "(IIII)V"⟩
abbrev cX3_addMessage : ByteArray := prog_5_method_6_code
def yX3_addMessage : MethodName := ⟨RX3, "addMessage", "(IIII)V"⟩
abbrev cX3_hasPeak : ByteArray := prog_5_method_7_code
def yX3_hasPeak : MethodName := ⟨RX3, "hasPeak", "(I)Z"⟩
abbrev cX3_hasPass : ByteArray := prog_5_method_8_code
def yX3_hasPass : MethodName := ⟨RX3, "hasPass", "(I)Z"⟩
abbrev cX3_hasMessage : ByteArray := prog_5_method_9_code
def yX3_hasMessage : MethodName := ⟨RX3, "hasMessage", "(I)Z"⟩
abbrev cX3_isSunny : ByteArray := prog_5_method_10_code
def yX3_isSunny : MethodName := ⟨RX3, "isSunny", "(II)Z"⟩
abbrev cX3_isCloudy : ByteArray := prog_5_method_11_code
def yX3_isCloudy : MethodName := ⟨RX3, "isCloudy", "(II)Z"⟩
abbrev cX3_cloudsOver : ByteArray := prog_5_method_12_code
def yX3_cloudsOver : MethodName := ⟨RX3, "cloudsOver", "(I)I"⟩
abbrev cX3_isEnd : ByteArray := prog_5_method_13_code
def yX3_isEnd : MethodName := ⟨RX3, "isEnd", "(II)Z"⟩
abbrev cX3_across : ByteArray := prog_5_method_14_code
def yX3_across : MethodName := ⟨RX3, "across", "(II)I"⟩
def RX4 : String := "Heliographs$Reader"
def TX4 : u_T := fun k => match k with
  | 0 => ("Heliographs$Reader", "peakNames", "[J", true)
  | 1 => ("Heliographs$Reader", "passNames", "[J", true)
  | 2 => ("Heliographs$Reader", "messageNames", "[J", true)
  | 3 => ("Heliographs$Reader", "tokens", "LHeliographs$Tokens;", true)
  | 4 => ("Heliographs$Reader", "plan", "LHeliographs$Plan;", false)
  | 5 => ("Heliographs$Reader", "fault", "I", false)
  | _ => ("Heliographs$Reader", "faultAt", "I", false)
def tyX4 : Nat → FieldType := fun k => match k with
  | 0 => .array .long
  | 1 => .array .long
  | 2 => .array .long
  | 3 => .object "Heliographs$Tokens"
  | 4 => .object "Heliographs$Plan"
  | 5 => .int
  | _ => .int
theorem nmX4 : ∀ a, a < 7 → ∀ b, b < 7 → a ≠ b → (TX4 a).2.1 ≠ (TX4 b).2.1 := by decide +kernel
theorem tyX4_ok : ∀ k, k < 7 → parseFieldDescriptor (TX4 k).2.2.1 = some (tyX4 k) := by decide +kernel
abbrev cX4_init : ByteArray := prog_6_method_1_code
def yX4_init : MethodName := ⟨RX4, "<init>", "(LHeliographs$Tokens;LHeliographs$Plan;)V"⟩
abbrev cX4_read : ByteArray := prog_6_method_2_code
def yX4_read : MethodName := ⟨RX4, "read", "(LHeliographs$Plan;)I"⟩
abbrev cX4_readPeak : ByteArray := prog_6_method_3_code
def yX4_readPeak : MethodName := ⟨RX4, "readPeak", "()V"⟩
abbrev cX4_readPass : ByteArray := prog_6_method_4_code
def yX4_readPass : MethodName := ⟨RX4, "readPass", "()V"⟩
abbrev cX4_readCloud : ByteArray := prog_6_method_5_code
def yX4_readCloud : MethodName := ⟨RX4, "readCloud", "()V"⟩
abbrev cX4_readMessage : ByteArray := prog_6_method_6_code
def yX4_readMessage : MethodName := ⟨RX4, "readMessage", "()V"⟩
abbrev cX4_readHold : ByteArray := prog_6_method_7_code
def yX4_readHold : MethodName := ⟨RX4, "readHold", "()V"⟩
abbrev cX4_readTest : ByteArray := prog_6_method_8_code
def yX4_readTest : MethodName := ⟨RX4, "readTest", "(I)V"⟩
abbrev cX4_readBoth : ByteArray := prog_6_method_9_code
def yX4_readBoth : MethodName := ⟨RX4, "readBoth", "(I)V"⟩
abbrev cX4_readSingle : ByteArray := prog_6_method_10_code
def yX4_readSingle : MethodName := ⟨RX4, "readSingle", "(I)V"⟩
abbrev cX4_comparisonOf : ByteArray := prog_6_method_11_code
def yX4_comparisonOf : MethodName := ⟨RX4, "comparisonOf", "(LHeliographs$Kind;)I"⟩
abbrev cX4_readSum : ByteArray := prog_6_method_12_code
def yX4_readSum : MethodName := ⟨RX4, "readSum", "(I)V"⟩
abbrev cX4_readProduct : ByteArray := prog_6_method_13_code
def yX4_readProduct : MethodName := ⟨RX4, "readProduct", "(I)V"⟩
abbrev cX4_readValue : ByteArray := prog_6_method_14_code
def yX4_readValue : MethodName := ⟨RX4, "readValue", "(I)V"⟩
abbrev cX4_readTwoSums : ByteArray := prog_6_method_15_code
def yX4_readTwoSums : MethodName := ⟨RX4, "readTwoSums", "(II)V"⟩
abbrev cX4_goDeeper : ByteArray := prog_6_method_16_code
def yX4_goDeeper : MethodName := ⟨RX4, "goDeeper", "(LHeliographs$Kind;I)Z"⟩
abbrev cX4_newName : ByteArray := prog_6_method_17_code
def yX4_newName : MethodName := ⟨RX4, "newName", "([JI)J"⟩
abbrev cX4_oldName : ByteArray := prog_6_method_18_code
def yX4_oldName : MethodName := ⟨RX4, "oldName", "([JI)I"⟩
abbrev cX4_otherPeak : ByteArray := prog_6_method_19_code
def yX4_otherPeak : MethodName := ⟨RX4, "otherPeak", "(I)I"⟩
abbrev cX4_find : ByteArray := prog_6_method_20_code
def yX4_find : MethodName := ⟨RX4, "find", "([JIJ)I"⟩
abbrev cX4_number : ByteArray := prog_6_method_21_code
def yX4_number : MethodName := ⟨RX4, "number", "(II)I"⟩
abbrev cX4_emit : ByteArray := prog_6_method_22_code
def yX4_emit : MethodName := ⟨RX4, "emit", "(II)V"⟩
abbrev cX4_accept : ByteArray := prog_6_method_23_code
def yX4_accept : MethodName := ⟨RX4, "accept", "(LHeliographs$Kind;)Z"⟩
abbrev cX4_expect : ByteArray := prog_6_method_24_code
def yX4_expect : MethodName := ⟨RX4, "expect", "(LHeliographs$Kind;)V"⟩
abbrev cX4_fail : ByteArray := prog_6_method_25_code
def yX4_fail : MethodName := ⟨RX4, "fail", "()V"⟩
abbrev cX4_complain : ByteArray := prog_6_method_26_code
def yX4_complain : MethodName := ⟨RX4, "complain", "(I)V"⟩
def RX5 : String := "Heliographs$Tape"
def TX5 : u_T := fun k => match k with
  | 0 => ("Heliographs$Tape", "bytes", "[I", true)
  | _ => ("Heliographs$Tape", "length", "I", false)
def tyX5 : Nat → FieldType := fun k => match k with
  | 0 => .array .int
  | _ => .int
theorem nmX5 : ∀ a, a < 2 → ∀ b, b < 2 → a ≠ b → (TX5 a).2.1 ≠ (TX5 b).2.1 := by decide +kernel
theorem tyX5_ok : ∀ k, k < 2 → parseFieldDescriptor (TX5 k).2.2.1 = some (tyX5 k) := by decide +kernel
abbrev cX5_init : ByteArray := prog_7_method_1_code
def yX5_init : MethodName := ⟨RX5, "<init>", "()V"⟩
abbrev cX5_append : ByteArray := prog_7_method_2_code
def yX5_append : MethodName := ⟨RX5, "append", "(I)V"⟩
abbrev cX5_byteAt : ByteArray := prog_7_method_3_code
def yX5_byteAt : MethodName := ⟨RX5, "byteAt", "(I)I"⟩
abbrev cX5_reads : ByteArray := prog_7_method_4_code
def yX5_reads : MethodName := ⟨RX5, "reads", "(Ljava/lang/String;II)Z"⟩
def RX6 : String := "Heliographs$Tokens"
def TX6 : u_T := fun k => match k with
  | 0 => ("Heliographs$Tokens", "kinds", "[LHeliographs$Kind;", true)
  | 1 => ("Heliographs$Tokens", "starts", "[I", true)
  | 2 => ("Heliographs$Tokens", "values", "[J", true)
  | 3 => ("Heliographs$Tokens", "count", "I", false)
  | 4 => ("Heliographs$Tokens", "at", "I", false)
  | 5 => ("Heliographs$Tokens", "next", "I", false)
  | _ => ("Heliographs$Tokens", "value", "J", false)
def tyX6 : Nat → FieldType := fun k => match k with
  | 0 => .array (.object "Heliographs$Kind")
  | 1 => .array .int
  | 2 => .array .long
  | 3 => .int
  | 4 => .int
  | 5 => .int
  | _ => .long
theorem nmX6 : ∀ a, a < 7 → ∀ b, b < 7 → a ≠ b → (TX6 a).2.1 ≠ (TX6 b).2.1 := by decide +kernel
theorem tyX6_ok : ∀ k, k < 7 → parseFieldDescriptor (TX6 k).2.2.1 = some (tyX6 k) := by decide +kernel
abbrev cX6_init : ByteArray := prog_8_method_1_code
def yX6_init : MethodName := ⟨RX6, "<init>", "()V"⟩
abbrev cX6_scan : ByteArray := prog_8_method_2_code
def yX6_scan : MethodName := ⟨RX6, "scan", "(LHeliographs$Tape;)V"⟩
abbrev cX6_kind : ByteArray := prog_8_method_3_code
def yX6_kind : MethodName := ⟨RX6, "kind", "()LHeliographs$Kind;"⟩
abbrev cX6_start : ByteArray := prog_8_method_4_code
def yX6_start : MethodName := ⟨RX6, "start", "()I"⟩
abbrev cX6_value : ByteArray := prog_8_method_5_code
def yX6_value : MethodName := ⟨RX6, "value", "()J"⟩
abbrev cX6_advance : ByteArray := prog_8_method_6_code
def yX6_advance : MethodName := ⟨RX6, "advance", "()V"⟩
abbrev cX6_giveUp : ByteArray := prog_8_method_7_code
def yX6_giveUp : MethodName := ⟨RX6, "giveUp", "()V"⟩
abbrev cX6_skipBlanks : ByteArray := prog_8_method_8_code
def yX6_skipBlanks : MethodName := ⟨RX6, "skipBlanks", "(LHeliographs$Tape;)V"⟩
abbrev cX6_scanToken : ByteArray := prog_8_method_9_code
def yX6_scanToken : MethodName := ⟨RX6, "scanToken", "(LHeliographs$Tape;)Z"⟩
abbrev cX6_scanWord : ByteArray := prog_8_method_10_code
def yX6_scanWord : MethodName := ⟨RX6, "scanWord", "(LHeliographs$Tape;)LHeliographs$Kind;"⟩
abbrev cX6_scanNumber : ByteArray := prog_8_method_11_code
def yX6_scanNumber : MethodName := ⟨RX6, "scanNumber", "(LHeliographs$Tape;)LHeliographs$Kind;"⟩
abbrev cX6_scanSymbol : ByteArray := prog_8_method_12_code
def yX6_scanSymbol : MethodName := ⟨RX6, "scanSymbol", "(LHeliographs$Tape;)LHeliographs$Kind;"⟩
abbrev cX6_kindOf : ByteArray := prog_8_method_13_code
def yX6_kindOf : MethodName := ⟨RX6, "kindOf", "(LHeliographs$Tape;II)LHeliographs$Kind;"⟩
abbrev cX6_keep : ByteArray := prog_8_method_14_code
def yX6_keep : MethodName := ⟨RX6, "keep", "(LHeliographs$Kind;I)V"⟩
abbrev cX6_isLetter : ByteArray := prog_8_method_15_code
def yX6_isLetter : MethodName := ⟨RX6, "isLetter", "(I)Z"⟩
abbrev cX6_isDigit : ByteArray := prog_8_method_16_code
def yX6_isDigit : MethodName := ⟨RX6, "isDigit", "(I)Z"⟩
def RX7 : String := "Heliographs"
def TX7 : u_T := fun k => match k with
  | 0 => ("Heliographs", "tape", "LHeliographs$Tape;", true)
  | 1 => ("Heliographs", "tokens", "LHeliographs$Tokens;", true)
  | 2 => ("Heliographs", "reader", "LHeliographs$Reader;", true)
  | 3 => ("Heliographs", "now", "LHeliographs$Chain;", true)
  | 4 => ("Heliographs", "trial", "LHeliographs$Chain;", true)
  | 5 => ("Heliographs", "spare", "LHeliographs$Plan;", false)
  | _ => ("Heliographs", "faultAt", "I", false)
def tyX7 : Nat → FieldType := fun k => match k with
  | 0 => .object "Heliographs$Tape"
  | 1 => .object "Heliographs$Tokens"
  | 2 => .object "Heliographs$Reader"
  | 3 => .object "Heliographs$Chain"
  | 4 => .object "Heliographs$Chain"
  | 5 => .object "Heliographs$Plan"
  | _ => .int
theorem nmX7 : ∀ a, a < 7 → ∀ b, b < 7 → a ≠ b → (TX7 a).2.1 ≠ (TX7 b).2.1 := by decide +kernel
theorem tyX7_ok : ∀ k, k < 7 → parseFieldDescriptor (TX7 k).2.2.1 = some (tyX7 k) := by decide +kernel
abbrev cX7_init : ByteArray := prog_1_method_1_code
def yX7_init : MethodName := ⟨RX7, "<init>", "()V"⟩
abbrev cX7_feed : ByteArray := prog_1_method_2_code
def yX7_feed : MethodName := ⟨RX7, "feed", "(IIIII)I"⟩
abbrev cX7_trim : ByteArray := prog_1_method_3_code
def yX7_trim : MethodName := ⟨RX7, "trim", "(I)I"⟩
abbrev cX7_teach : ByteArray := prog_1_method_4_code
def yX7_teach : MethodName := ⟨RX7, "teach", "()I"⟩
abbrev cX7_count : ByteArray := prog_1_method_6_code
def yX7_count : MethodName := ⟨RX7, "count", "(I)I"⟩
abbrev cX7_peak : ByteArray := prog_1_method_7_code
def yX7_peak : MethodName := ⟨RX7, "peak", "(II)I"⟩
abbrev cX7_pass : ByteArray := prog_1_method_8_code
def yX7_pass : MethodName := ⟨RX7, "pass", "(II)I"⟩
abbrev cX7_message : ByteArray := prog_1_method_9_code
def yX7_message : MethodName := ⟨RX7, "message", "(II)I"⟩
abbrev cX7_hasSun : ByteArray := prog_1_method_10_code
def yX7_hasSun : MethodName := ⟨RX7, "hasSun", "(II)Z"⟩
abbrev cX7_isOpen : ByteArray := prog_1_method_11_code
def yX7_isOpen : MethodName := ⟨RX7, "isOpen", "(II)Z"⟩
abbrev cX7_way : ByteArray := prog_1_method_12_code
def yX7_way : MethodName := ⟨RX7, "way", "(II)I"⟩
abbrev cX7_first : ByteArray := prog_1_method_13_code
def yX7_first : MethodName := ⟨RX7, "first", "(II)I"⟩
abbrev cX7_mirror : ByteArray := prog_1_method_14_code
def yX7_mirror : MethodName := ⟨RX7, "mirror", "(IZ)I"⟩
abbrev cX7_stop : ByteArray := prog_1_method_15_code
def yX7_stop : MethodName := ⟨RX7, "stop", "(I)I"⟩
abbrev cX7_forward : ByteArray := prog_1_method_16_code
def yX7_forward : MethodName := ⟨RX7, "forward", "(II)I"⟩
abbrev cX7_go : ByteArray := prog_1_method_17_code
def yX7_go : MethodName := ⟨RX7, "go", "(I)I"⟩
abbrev cX7_until : ByteArray := prog_1_method_18_code
def yX7_until : MethodName := ⟨RX7, "until", "(I)I"⟩
abbrev cX7_opens : ByteArray := prog_1_method_19_code
def yX7_opens : MethodName := ⟨RX7, "opens", "(I)I"⟩
abbrev cX7_foresee : ByteArray := prog_1_method_20_code
def yX7_foresee : MethodName := ⟨RX7, "foresee", "(II)I"⟩
abbrev cX7_missed : ByteArray := prog_1_method_21_code
def yX7_missed : MethodName := ⟨RX7, "missed", "(I)I"⟩
abbrev cX7_advise : ByteArray := prog_1_method_22_code
def yX7_advise : MethodName := ⟨RX7, "advise", "(I)I"⟩
abbrev cX7_mean : ByteArray := prog_1_method_23_code
def yX7_mean : MethodName := ⟨RX7, "mean", "()D"⟩
abbrev cX7_digest : ByteArray := prog_1_method_24_code
def yX7_digest : MethodName := ⟨RX7, "digest", "()J"⟩
abbrev cX7_countTold : ByteArray := prog_1_method_25_code
def yX7_countTold : MethodName := ⟨RX7, "countTold", "(I)I"⟩
def RX8 : String := "HeliographsLaw$Sim"
def TX8 : u_T := fun k => match k with
  | 0 => ("HeliographsLaw$Sim", "minute", "I", false)
  | 1 => ("HeliographsLaw$Sim", "lost", "I", false)
  | 2 => ("HeliographsLaw$Sim", "shut", "I", false)
  | 3 => ("HeliographsLaw$Sim", "peaks", "[[I", false)
  | 4 => ("HeliographsLaw$Sim", "passes", "[[I", false)
  | 5 => ("HeliographsLaw$Sim", "clouds", "[[I", false)
  | 6 => ("HeliographsLaw$Sim", "messages", "[[I", false)
  | _ => ("HeliographsLaw$Sim", "holds", "[[I", false)
def tyX8 : Nat → FieldType := fun k => match k with
  | 0 => .int
  | 1 => .int
  | 2 => .int
  | 3 => .array (.array .int)
  | 4 => .array (.array .int)
  | 5 => .array (.array .int)
  | 6 => .array (.array .int)
  | _ => .array (.array .int)
theorem nmX8 : ∀ a, a < 8 → ∀ b, b < 8 → a ≠ b → (TX8 a).2.1 ≠ (TX8 b).2.1 := by decide +kernel
theorem tyX8_ok : ∀ k, k < 8 → parseFieldDescriptor (TX8 k).2.2.1 = some (tyX8 k) := by decide +kernel
abbrev cX8_init : ByteArray := prog_10_method_1_code
def yX8_init : MethodName := ⟨RX8, "<init>", "()V"⟩
abbrev cX8_hasSun : ByteArray := prog_10_method_2_code
def yX8_hasSun : MethodName := ⟨RX8, "hasSun", "(II)Z"⟩
abbrev cX8_isOpen : ByteArray := prog_10_method_3_code
def yX8_isOpen : MethodName := ⟨RX8, "isOpen", "(II)Z"⟩
abbrev cX8_isOpen_ : ByteArray := prog_10_method_4_code
def yX8_isOpen_ : MethodName := ⟨RX8, "isOpen", "(I)Z"⟩
abbrev cX8_queue : ByteArray := prog_10_method_5_code
def yX8_queue : MethodName := ⟨RX8, "queue", "(I)I"⟩
abbrev cX8_busy : ByteArray := prog_10_method_6_code
def yX8_busy : MethodName := ⟨RX8, "busy", "(I)I"⟩
abbrev cX8_over : ByteArray := prog_10_method_7_code
def yX8_over : MethodName := ⟨RX8, "over", "(I)I"⟩
abbrev cX8_ways : ByteArray := prog_10_method_8_code
def yX8_ways : MethodName := ⟨RX8, "ways", "()[[I"⟩
abbrev cX8_first : ByteArray := prog_10_method_9_code
def yX8_first : MethodName := ⟨RX8, "first", "([[III)I"⟩
abbrev cX8_holds : ByteArray := prog_10_method_10_code
def yX8_holds : MethodName := ⟨RX8, "holds", "([I)Z"⟩
abbrev cX8_isHeld : ByteArray := prog_10_method_11_code
def yX8_isHeld : MethodName := ⟨RX8, "isHeld", "(I)Z"⟩
abbrev cX8_breakOff : ByteArray := prog_10_method_12_code
def yX8_breakOff : MethodName := ⟨RX8, "breakOff", "([I)V"⟩
abbrev cX8_pass : ByteArray := prog_10_method_13_code
def yX8_pass : MethodName := ⟨RX8, "pass", "()I"⟩
abbrev cX8_go : ByteArray := prog_10_method_14_code
def yX8_go : MethodName := ⟨RX8, "go", "(I)I"⟩
abbrev cX8_counts : ByteArray := prog_10_method_17_code
def yX8_counts : MethodName := ⟨RX8, "counts", "()[I"⟩
abbrev cX8_isSame : ByteArray := prog_10_method_18_code
def yX8_isSame : MethodName := ⟨RX8, "isSame", "(LHeliographs;)Z"⟩
def RX9 : String := "HeliographsModel$Sheet"
def TX9 : u_T := fun k => match k with
  | _ => ("", "", "", false)
def tyX9 : Nat → FieldType := fun k => match k with
  | _ => .int
theorem nmX9 : ∀ a, a < 0 → ∀ b, b < 0 → a ≠ b → (TX9 a).2.1 ≠ (TX9 b).2.1 := by decide +kernel
theorem tyX9_ok : ∀ k, k < 0 → parseFieldDescriptor (TX9 k).2.2.1 = some (tyX9 k) := by decide +kernel
def RX10 : String := "HeliographsModel$State"
def TX10 : u_T := fun k => match k with
  | _ => ("", "", "", false)
def tyX10 : Nat → FieldType := fun k => match k with
  | _ => .int
theorem nmX10 : ∀ a, a < 0 → ∀ b, b < 0 → a ≠ b → (TX10 a).2.1 ≠ (TX10 b).2.1 := by decide +kernel
theorem tyX10_ok : ∀ k, k < 0 → parseFieldDescriptor (TX10 k).2.2.1 = some (tyX10 k) := by decide +kernel
def RX11 : String := "HeliographsModel"
def TX11 : u_T := fun k => match k with
  | _ => ("", "", "", false)
def tyX11 : Nat → FieldType := fun k => match k with
  | _ => .int
theorem nmX11 : ∀ a, a < 0 → ∀ b, b < 0 → a ≠ b → (TX11 a).2.1 ≠ (TX11 b).2.1 := by decide +kernel
theorem tyX11_ok : ∀ k, k < 0 → parseFieldDescriptor (TX11 k).2.2.1 = some (tyX11 k) := by decide +kernel
def RJ5 : String := "java/lang/AbstractStringBuilder"
def TJ5 : u_T := fun k => match k with
  | _ => ("", "", "", false)
def tyJ5 : Nat → FieldType := fun k => match k with
  | _ => .int
theorem nmJ5 : ∀ a, a < 0 → ∀ b, b < 0 → a ≠ b → (TJ5 a).2.1 ≠ (TJ5 b).2.1 := by decide +kernel
theorem tyJ5_ok : ∀ k, k < 0 → parseFieldDescriptor (TJ5 k).2.2.1 = some (tyJ5 k) := by decide +kernel
abbrev cJ5_init_d00df : ByteArray := prog_14_method_2_code
def yJ5_init_d00df : MethodName := ⟨RJ5, "<init>", "(I)V"⟩
abbrev cJ5_length_8abf5 : ByteArray := prog_14_method_6_code
def yJ5_length_8abf5 : MethodName := ⟨RJ5, "length", "()I"⟩
abbrev cJ5_ensureCapacityInternal_d00df : ByteArray := prog_14_method_9_code
def yJ5_ensureCapacityInternal_d00df : MethodName := ⟨RJ5, "ensureCapacityInternal", "(I)V"⟩
abbrev cJ5_newCapacity_0f7a4 : ByteArray := prog_14_method_10_code
def yJ5_newCapacity_0f7a4 : MethodName := ⟨RJ5, "newCapacity", "(I)I"⟩
abbrev cJ5_inflate_da8c8 : ByteArray := prog_14_method_11_code
def yJ5_inflate_da8c8 : MethodName := ⟨RJ5, "inflate", "()V"⟩
abbrev cJ5_append_cf1ce : ByteArray := prog_14_method_22_code
def yJ5_append_cf1ce : MethodName := ⟨RJ5, "append", "(Ljava/lang/String;)Ljava/lang/AbstractStringBuilder;"⟩
abbrev cJ5_appendNull_278bc : ByteArray := prog_14_method_26_code
def yJ5_appendNull_278bc : MethodName := ⟨RJ5, "appendNull", "()Ljava/lang/AbstractStringBuilder;"⟩
abbrev cJ5_append_c97b9 : ByteArray := prog_14_method_32_code
def yJ5_append_c97b9 : MethodName := ⟨RJ5, "append", "(I)Ljava/lang/AbstractStringBuilder;"⟩
abbrev cJ5_getValue_6d5f1 : ByteArray := prog_14_method_64_code
def yJ5_getValue_6d5f1 : MethodName := ⟨RJ5, "getValue", "()[B"⟩
abbrev cJ5_isLatin1_aae02 : ByteArray := prog_14_method_68_code
def yJ5_isLatin1_aae02 : MethodName := ⟨RJ5, "isLatin1", "()Z"⟩
abbrev cJ5_inflateIfNeededFor_a7421 : ByteArray := prog_14_method_71_code
def yJ5_inflateIfNeededFor_a7421 : MethodName := ⟨RJ5, "inflateIfNeededFor", "(Ljava/lang/String;)V"⟩
abbrev cJ5_putStringAt_47b60 : ByteArray := prog_14_method_73_code
def yJ5_putStringAt_47b60 : MethodName := ⟨RJ5, "putStringAt", "(ILjava/lang/String;)V"⟩
def RJx8e188 : String := "java/lang/Cloneable"
def TJx8e188 : u_T := fun k => match k with
  | _ => ("", "", "", false)
def tyJx8e188 : Nat → FieldType := fun k => match k with
  | _ => .int
theorem nmJx8e188 : ∀ a, a < 0 → ∀ b, b < 0 → a ≠ b → (TJx8e188 a).2.1 ≠ (TJx8e188 b).2.1 := by decide +kernel
theorem tyJx8e188_ok : ∀ k, k < 0 → parseFieldDescriptor (TJx8e188 k).2.2.1 = some (tyJx8e188 k) := by decide +kernel
def RJx29ce0 : String := "java/lang/Enum"
def TJx29ce0 : u_T := fun k => match k with
  | _ => ("", "", "", false)
def tyJx29ce0 : Nat → FieldType := fun k => match k with
  | _ => .int
theorem nmJx29ce0 : ∀ a, a < 0 → ∀ b, b < 0 → a ≠ b → (TJx29ce0 a).2.1 ≠ (TJx29ce0 b).2.1 := by decide +kernel
theorem tyJx29ce0_ok : ∀ k, k < 0 → parseFieldDescriptor (TJx29ce0 k).2.2.1 = some (tyJx29ce0 k) := by decide +kernel
def RJ6 : String := "java/lang/Integer"
def TJ6 : u_T := fun k => match k with
  | _ => ("", "", "", false)
def tyJ6 : Nat → FieldType := fun k => match k with
  | _ => .int
theorem nmJ6 : ∀ a, a < 0 → ∀ b, b < 0 → a ≠ b → (TJ6 a).2.1 ≠ (TJ6 b).2.1 := by decide +kernel
theorem tyJ6_ok : ∀ k, k < 0 → parseFieldDescriptor (TJ6 k).2.2.1 = some (tyJ6 k) := by decide +kernel
abbrev cJ6_getChars_ba4f3 : ByteArray := prog_21_method_12_code
def yJ6_getChars_ba4f3 : MethodName := ⟨RJ6, "getChars", "(II[B)I"⟩
abbrev cJ6_stringSize_0f7a4 : ByteArray := prog_21_method_13_code
def yJ6_stringSize_0f7a4 : MethodName := ⟨RJ6, "stringSize", "(I)I"⟩
def RJ9 : String := "java/lang/Math"
def TJ9 : u_T := fun k => match k with
  | _ => ("", "", "", false)
def tyJ9 : Nat → FieldType := fun k => match k with
  | _ => .int
theorem nmJ9 : ∀ a, a < 0 → ∀ b, b < 0 → a ≠ b → (TJ9 a).2.1 ≠ (TJ9 b).2.1 := by decide +kernel
theorem tyJ9_ok : ∀ k, k < 0 → parseFieldDescriptor (TJ9 k).2.2.1 = some (tyJ9 k) := by decide +kernel
abbrev cJ9_max_7cf53 : ByteArray := prog_22_method_65_code
def yJ9_max_7cf53 : MethodName := ⟨RJ9, "max", "(II)I"⟩
abbrev cJ9_min_7cf53 : ByteArray := prog_22_method_69_code
def yJ9_min_7cf53 : MethodName := ⟨RJ9, "min", "(II)I"⟩
def RJ0 : String := "java/lang/String"
def TJ0 : u_T := fun k => match k with
  | 0 => ("java/lang/String", "value", "[B", true)
  | 1 => ("java/lang/String", "coder", "B", true)
  | 2 => ("java/lang/String", "hash", "I", false)
  | _ => ("java/lang/String", "hashIsZero", "Z", false)
def tyJ0 : Nat → FieldType := fun k => match k with
  | 0 => .array .byte
  | 1 => .byte
  | 2 => .int
  | _ => .boolean
theorem nmJ0 : ∀ a, a < 4 → ∀ b, b < 4 → a ≠ b → (TJ0 a).2.1 ≠ (TJ0 b).2.1 := by decide +kernel
theorem tyJ0_ok : ∀ k, k < 4 → parseFieldDescriptor (TJ0 k).2.2.1 = some (tyJ0 k) := by decide +kernel
abbrev cJ0_init_81219 : ByteArray := prog_24_method_53_code
def yJ0_init_81219 : MethodName := ⟨RJ0, "<init>", "(Ljava/lang/StringBuilder;)V"⟩
abbrev cJ0_length_8abf5 : ByteArray := prog_24_method_54_code
def yJ0_length_8abf5 : MethodName := ⟨RJ0, "length", "()I"⟩
abbrev cJ0_charAt_5068e : ByteArray := prog_24_method_56_code
def yJ0_charAt_5068e : MethodName := ⟨RJ0, "charAt", "(I)C"⟩
abbrev cJ0_getBytes_840e7 : ByteArray := prog_24_method_147_code
def yJ0_getBytes_840e7 : MethodName := ⟨RJ0, "getBytes", "([BIB)V"⟩
abbrev cJ0_init_db425 : ByteArray := prog_24_method_150_code
def yJ0_init_db425 : MethodName := ⟨RJ0, "<init>", "(Ljava/lang/AbstractStringBuilder;Ljava/lang/Void;)V"⟩
abbrev cJ0_coder_7d493 : ByteArray := prog_24_method_152_code
def yJ0_coder_7d493 : MethodName := ⟨RJ0, "coder", "()B"⟩
abbrev cJ0_isLatin1_aae02 : ByteArray := prog_24_method_154_code
def yJ0_isLatin1_aae02 : MethodName := ⟨RJ0, "isLatin1", "()Z"⟩
abbrev cJ0_checkIndex_df160 : ByteArray := prog_24_method_155_code
def yJ0_checkIndex_df160 : MethodName := ⟨RJ0, "checkIndex", "(II)V"⟩
abbrev cJ0_checkBoundsOffCount_cabcc : ByteArray := prog_24_method_157_code
def yJ0_checkBoundsOffCount_cabcc : MethodName := ⟨RJ0, "checkBoundsOffCount", "(III)I"⟩
abbrev cJ0_checkBoundsBeginEnd_23922 : ByteArray := prog_24_method_158_code
def yJ0_checkBoundsBeginEnd_23922 : MethodName := ⟨RJ0, "checkBoundsBeginEnd", "(III)V"⟩
def RJ4 : String := "java/lang/StringBuilder"
def TJ4 : u_T := fun k => match k with
  | 0 => ("java/lang/AbstractStringBuilder", "value", "[B", false)
  | 1 => ("java/lang/AbstractStringBuilder", "coder", "B", false)
  | 2 => ("java/lang/AbstractStringBuilder", "maybeLatin1", "Z", false)
  | _ => ("java/lang/AbstractStringBuilder", "count", "I", false)
def tyJ4 : Nat → FieldType := fun k => match k with
  | 0 => .array .byte
  | 1 => .byte
  | 2 => .boolean
  | _ => .int
theorem nmJ4 : ∀ a, a < 4 → ∀ b, b < 4 → a ≠ b → (TJ4 a).2.1 ≠ (TJ4 b).2.1 := by decide +kernel
theorem tyJ4_ok : ∀ k, k < 4 → parseFieldDescriptor (TJ4 k).2.2.1 = some (tyJ4 k) := by decide +kernel
abbrev cJ4_init_da8c8 : ByteArray := prog_25_method_1_code
def yJ4_init_da8c8 : MethodName := ⟨RJ4, "<init>", "()V"⟩
abbrev cJ4_append_15ec4 : ByteArray := prog_25_method_7_code
def yJ4_append_15ec4 : MethodName := ⟨RJ4, "append", "(Ljava/lang/String;)Ljava/lang/StringBuilder;"⟩
abbrev cJ4_append_bf812 : ByteArray := prog_25_method_15_code
def yJ4_append_bf812 : MethodName := ⟨RJ4, "append", "(I)Ljava/lang/StringBuilder;"⟩
abbrev cJ4_toString_0e30d : ByteArray := prog_25_method_42_code
def yJ4_toString_0e30d : MethodName := ⟨RJ4, "toString", "()Ljava/lang/String;"⟩
abbrev cJ4_length_8abf5 : ByteArray := prog_25_method_93_code
def yJ4_length_8abf5 : MethodName := ⟨RJ4, "length", "()I"⟩
def RJ1 : String := "java/lang/StringLatin1"
def TJ1 : u_T := fun k => match k with
  | _ => ("", "", "", false)
def tyJ1 : Nat → FieldType := fun k => match k with
  | _ => .int
theorem nmJ1 : ∀ a, a < 0 → ∀ b, b < 0 → a ≠ b → (TJ1 a).2.1 ≠ (TJ1 b).2.1 := by decide +kernel
theorem tyJ1_ok : ∀ k, k < 0 → parseFieldDescriptor (TJ1 k).2.2.1 = some (tyJ1 k) := by decide +kernel
abbrev cJ1_charAt_3b067 : ByteArray := prog_26_method_2_code
def yJ1_charAt_3b067 : MethodName := ⟨RJ1, "charAt", "([BI)C"⟩
abbrev cJ1_inflate_0e8fd : ByteArray := prog_26_method_50_code
def yJ1_inflate_0e8fd : MethodName := ⟨RJ1, "inflate", "([BI[BII)V"⟩
def RJ2 : String := "java/lang/StringUTF16"
def TJ2 : u_T := fun k => match k with
  | _ => ("", "", "", false)
def tyJ2 : Nat → FieldType := fun k => match k with
  | _ => .int
theorem nmJ2 : ∀ a, a < 0 → ∀ b, b < 0 → a ≠ b → (TJ2 a).2.1 ≠ (TJ2 b).2.1 := by decide +kernel
theorem tyJ2_ok : ∀ k, k < 0 → parseFieldDescriptor (TJ2 k).2.2.1 = some (tyJ2 k) := by decide +kernel
abbrev cJ2_newBytesFor_77867 : ByteArray := prog_27_method_2_code
def yJ2_newBytesFor_77867 : MethodName := ⟨RJ2, "newBytesFor", "(I)[B"⟩
abbrev cJ2_newBytesLength_0f7a4 : ByteArray := prog_27_method_3_code
def yJ2_newBytesLength_0f7a4 : MethodName := ⟨RJ2, "newBytesLength", "(I)I"⟩
abbrev cJ2_putChar_b72d1 : ByteArray := prog_27_method_4_code
def yJ2_putChar_b72d1 : MethodName := ⟨RJ2, "putChar", "([BII)V"⟩
abbrev cJ2_getChar_3b067 : ByteArray := prog_27_method_5_code
def yJ2_getChar_3b067 : MethodName := ⟨RJ2, "getChar", "([BI)C"⟩
abbrev cJ2_length_9d52b : ByteArray := prog_27_method_6_code
def yJ2_length_9d52b : MethodName := ⟨RJ2, "length", "([B)I"⟩
abbrev cJ2_coderFromArrayLen_85cad : ByteArray := prog_27_method_15_code
def yJ2_coderFromArrayLen_85cad : MethodName := ⟨RJ2, "coderFromArrayLen", "([BI)B"⟩
abbrev cJ2_compress_39247 : ByteArray := prog_27_method_17_code
def yJ2_compress_39247 : MethodName := ⟨RJ2, "compress", "([BII)[B"⟩
abbrev cJ2_compress_5af95 : ByteArray := prog_27_method_22_code
def yJ2_compress_5af95 : MethodName := ⟨RJ2, "compress", "([BI[BII)I"⟩
abbrev cJ2_getChars_46870 : ByteArray := prog_27_method_77_code
def yJ2_getChars_46870 : MethodName := ⟨RJ2, "getChars", "(III[B)I"⟩
abbrev cJ2_putCharsAt_cd4e5 : ByteArray := prog_27_method_81_code
def yJ2_putCharsAt_cd4e5 : MethodName := ⟨RJ2, "putCharsAt", "([BICCCC)I"⟩
abbrev cJ2_charAt_3b067 : ByteArray := prog_27_method_83_code
def yJ2_charAt_3b067 : MethodName := ⟨RJ2, "charAt", "([BI)C"⟩
abbrev cJ2_inflate_0e8fd : ByteArray := prog_27_method_86_code
def yJ2_inflate_0e8fd : MethodName := ⟨RJ2, "inflate", "([BI[BII)V"⟩
abbrev cJ2_getChars_ba4f3 : ByteArray := prog_27_method_89_code
def yJ2_getChars_ba4f3 : MethodName := ⟨RJ2, "getChars", "(II[B)I"⟩
abbrev cJ2_checkIndex_2214a : ByteArray := prog_27_method_91_code
def yJ2_checkIndex_2214a : MethodName := ⟨RJ2, "checkIndex", "(I[B)V"⟩
abbrev cJ2_checkBoundsBeginEnd_d044e : ByteArray := prog_27_method_93_code
def yJ2_checkBoundsBeginEnd_d044e : MethodName := ⟨RJ2, "checkBoundsBeginEnd", "(II[B)V"⟩
abbrev cJ2_checkBoundsOffCount_d044e : ByteArray := prog_27_method_94_code
def yJ2_checkBoundsOffCount_d044e : MethodName := ⟨RJ2, "checkBoundsOffCount", "(II[B)V"⟩
def RJ10 : String := "java/lang/System"
def TJ10 : u_T := fun k => match k with
  | _ => ("", "", "", false)
def tyJ10 : Nat → FieldType := fun k => match k with
  | _ => .int
theorem nmJ10 : ∀ a, a < 0 → ∀ b, b < 0 → a ≠ b → (TJ10 a).2.1 ≠ (TJ10 b).2.1 := by decide +kernel
theorem tyJ10_ok : ∀ k, k < 0 → parseFieldDescriptor (TJ10 k).2.2.1 = some (tyJ10 k) := by decide +kernel
def RJ7 : String := "java/util/Arrays"
def TJ7 : u_T := fun k => match k with
  | _ => ("", "", "", false)
def tyJ7 : Nat → FieldType := fun k => match k with
  | _ => .int
theorem nmJ7 : ∀ a, a < 0 → ∀ b, b < 0 → a ≠ b → (TJ7 a).2.1 ≠ (TJ7 b).2.1 := by decide +kernel
theorem tyJ7_ok : ∀ k, k < 0 → parseFieldDescriptor (TJ7 k).2.2.1 = some (tyJ7 k) := by decide +kernel
abbrev cJ7_copyOf_9075b : ByteArray := prog_30_method_121_code
def yJ7_copyOf_9075b : MethodName := ⟨RJ7, "copyOf", "([BI)[B"⟩
abbrev cJ7_checkLength_df160 : ByteArray := prog_30_method_131_code
def yJ7_checkLength_df160 : MethodName := ⟨RJ7, "checkLength", "(II)V"⟩
abbrev cJ7_copyOfRange_39247 : ByteArray := prog_30_method_132_code
def yJ7_copyOfRange_39247 : MethodName := ⟨RJ7, "copyOfRange", "([BII)[B"⟩
abbrev cJ7_copyOfRangeByte_39247 : ByteArray := prog_30_method_133_code
def yJ7_copyOfRangeByte_39247 : MethodName := ⟨RJ7, "copyOfRangeByte", "([BII)[B"⟩
def RJ8 : String := "jdk/internal/util/ArraysSupport"
def TJ8 : u_T := fun k => match k with
  | _ => ("", "", "", false)
def tyJ8 : Nat → FieldType := fun k => match k with
  | _ => .int
theorem nmJ8 : ∀ a, a < 0 → ∀ b, b < 0 → a ≠ b → (TJ8 a).2.1 ≠ (TJ8 b).2.1 := by decide +kernel
theorem tyJ8_ok : ∀ k, k < 0 → parseFieldDescriptor (TJ8 k).2.2.1 = some (tyJ8 k) := by decide +kernel
abbrev cJ8_newLength_cabcc : ByteArray := prog_31_method_27_code
def yJ8_newLength_cabcc : MethodName := ⟨RJ8, "newLength", "(III)I"⟩
abbrev cJ8_hugeLength_7cf53 : ByteArray := prog_31_method_28_code
def yJ8_hugeLength_7cf53 : MethodName := ⟨RJ8, "hugeLength", "(II)I"⟩
def RJ3 : String := "jdk/internal/util/Preconditions"
def TJ3 : u_T := fun k => match k with
  | _ => ("", "", "", false)
def tyJ3 : Nat → FieldType := fun k => match k with
  | _ => .int
theorem nmJ3 : ∀ a, a < 0 → ∀ b, b < 0 → a ≠ b → (TJ3 a).2.1 ≠ (TJ3 b).2.1 := by decide +kernel
theorem tyJ3_ok : ∀ k, k < 0 → parseFieldDescriptor (TJ3 k).2.2.1 = some (tyJ3 k) := by decide +kernel
abbrev cJ3_checkIndex_8e157 : ByteArray := prog_32_method_11_code
def yJ3_checkIndex_8e157 : MethodName := ⟨RJ3, "checkIndex", "(IILjava/util/function/BiFunction;)I"⟩
abbrev cJ3_checkFromToIndex_8c36e : ByteArray := prog_32_method_12_code
def yJ3_checkFromToIndex_8c36e : MethodName := ⟨RJ3, "checkFromToIndex", "(IIILjava/util/function/BiFunction;)I"⟩
abbrev cJ3_checkFromIndexSize_8c36e : ByteArray := prog_32_method_13_code
def yJ3_checkFromIndexSize_8c36e : MethodName := ⟨RJ3, "checkFromIndexSize", "(IIILjava/util/function/BiFunction;)I"⟩
def RL : String := "HeliographsLaw"
abbrev cL_below : ByteArray := method_2_code
def yL_below : MethodName := ⟨RL, "below", "(II)I"⟩
abbrev cL_cell : ByteArray := method_3_code
def yL_cell : MethodName := ⟨RL, "cell", "([II)I"⟩
abbrev cL_taught : ByteArray := method_4_code
def yL_taught : MethodName := ⟨RL, "taught", "(LHeliographs;Ljava/lang/String;)I"⟩
abbrev cL_test : ByteArray := method_5_code
def yL_test : MethodName := ⟨RL, "test", "([I)Ljava/lang/String;"⟩
abbrev cL_list : ByteArray := method_6_code
def yL_list : MethodName := ⟨RL, "list", "([ILjava/lang/StringBuilder;)LHeliographsLaw$Sim;"⟩
abbrev cL_gone : ByteArray := method_7_code
def yL_gone : MethodName := ⟨RL, "gone", "(LHeliographs;LHeliographsLaw$Sim;I)Z"⟩
abbrev cL_act : ByteArray := method_8_code
def yL_act : MethodName := ⟨RL, "act", "(LHeliographs;LHeliographsLaw$Sim;I)Z"⟩
abbrev cL_law : ByteArray := code
def yL_law : MethodName := ⟨RL, "law", "([I)Z"⟩
