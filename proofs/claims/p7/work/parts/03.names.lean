/-! written by program (wip/gen) -/
def RX0 : String := "StreamEnd$Due"
def TX0 : u_T := fun k => match k with
  | 0 => ("StreamEnd$Due", "reset", "Z", false)
  | 1 => ("StreamEnd$Due", "resetFlags", "I", false)
  | 2 => ("StreamEnd$Due", "resetNumber", "I", false)
  | 3 => ("StreamEnd$Due", "resetThanked", "I", false)
  | 4 => ("StreamEnd$Due", "open", "Z", false)
  | 5 => ("StreamEnd$Due", "openWasSent", "Z", false)
  | 6 => ("StreamEnd$Due", "again", "Z", false)
  | 7 => ("StreamEnd$Due", "probe", "Z", false)
  | _ => ("StreamEnd$Due", "thanks", "Z", false)
def tyX0 : Nat → FieldType := fun k => match k with
  | 0 => .boolean
  | 1 => .int
  | 2 => .int
  | 3 => .int
  | 4 => .boolean
  | 5 => .boolean
  | 6 => .boolean
  | 7 => .boolean
  | _ => .boolean
set_option maxRecDepth 20000 in
theorem nmX0 : ∀ a, a < 9 → ∀ b, b < 9 → a ≠ b → (TX0 a).2.1 ≠ (TX0 b).2.1 := by decide +kernel
theorem tyX0_ok : ∀ k, k < 9 → parseFieldDescriptor (TX0 k).2.2.1 = some (tyX0 k) := by decide +kernel
def RX1 : String := "StreamEnd$Incoming"
def TX1 : u_T := fun k => match k with
  | 0 => ("StreamEnd$Incoming", "row", "[I", true)
  | 1 => ("StreamEnd$Incoming", "opened", "Z", false)
  | 2 => ("StreamEnd$Incoming", "expected", "I", false)
  | 3 => ("StreamEnd$Incoming", "readable", "I", false)
  | 4 => ("StreamEnd$Incoming", "readNumber", "I", false)
  | 5 => ("StreamEnd$Incoming", "lastKnown", "Z", false)
  | 6 => ("StreamEnd$Incoming", "lastNumber", "I", false)
  | _ => ("StreamEnd$Incoming", "over", "Z", false)
def tyX1 : Nat → FieldType := fun k => match k with
  | 0 => .array .int
  | 1 => .boolean
  | 2 => .int
  | 3 => .int
  | 4 => .int
  | 5 => .boolean
  | 6 => .int
  | _ => .boolean
set_option maxRecDepth 20000 in
theorem nmX1 : ∀ a, a < 8 → ∀ b, b < 8 → a ≠ b → (TX1 a).2.1 ≠ (TX1 b).2.1 := by decide +kernel
theorem tyX1_ok : ∀ k, k < 8 → parseFieldDescriptor (TX1 k).2.2.1 = some (tyX1 k) := by decide +kernel
def RX2 : String := "StreamEnd$Outgoing"
def TX2 : u_T := fun k => match k with
  | 0 => ("StreamEnd$Outgoing", "row", "[B", true)
  | 1 => ("StreamEnd$Outgoing", "start", "I", false)
  | 2 => ("StreamEnd$Outgoing", "count", "I", false)
  | 3 => ("StreamEnd$Outgoing", "sent", "I", false)
  | 4 => ("StreamEnd$Outgoing", "first", "I", false)
  | 5 => ("StreamEnd$Outgoing", "oldest", "I", false)
  | 6 => ("StreamEnd$Outgoing", "next", "I", false)
  | 7 => ("StreamEnd$Outgoing", "closed", "Z", false)
  | 8 => ("StreamEnd$Outgoing", "lastSent", "Z", false)
  | 9 => ("StreamEnd$Outgoing", "piece", "I", false)
  | 10 => ("StreamEnd$Outgoing", "window", "I", false)
  | 11 => ("StreamEnd$Outgoing", "windowNumber", "I", false)
  | _ => ("StreamEnd$Outgoing", "windowThanked", "I", false)
def tyX2 : Nat → FieldType := fun k => match k with
  | 0 => .array .byte
  | 1 => .int
  | 2 => .int
  | 3 => .int
  | 4 => .int
  | 5 => .int
  | 6 => .int
  | 7 => .boolean
  | 8 => .boolean
  | 9 => .int
  | 10 => .int
  | 11 => .int
  | _ => .int
set_option maxRecDepth 20000 in
theorem nmX2 : ∀ a, a < 13 → ∀ b, b < 13 → a ≠ b → (TX2 a).2.1 ≠ (TX2 b).2.1 := by decide +kernel
theorem tyX2_ok : ∀ k, k < 13 → parseFieldDescriptor (TX2 k).2.2.1 = some (tyX2 k) := by decide +kernel
def RX3 : String := "StreamEnd$Segment"
def TX3 : u_T := fun k => match k with
  | 0 => ("StreamEnd$Segment", "bytes", "[B", true)
  | 1 => ("StreamEnd$Segment", "count", "I", false)
  | 2 => ("StreamEnd$Segment", "flags", "I", false)
  | 3 => ("StreamEnd$Segment", "number", "I", false)
  | 4 => ("StreamEnd$Segment", "thanked", "I", false)
  | 5 => ("StreamEnd$Segment", "window", "I", false)
  | _ => ("StreamEnd$Segment", "largest", "I", false)
def tyX3 : Nat → FieldType := fun k => match k with
  | 0 => .array .byte
  | 1 => .int
  | 2 => .int
  | 3 => .int
  | 4 => .int
  | 5 => .int
  | _ => .int
set_option maxRecDepth 20000 in
theorem nmX3 : ∀ a, a < 7 → ∀ b, b < 7 → a ≠ b → (TX3 a).2.1 ≠ (TX3 b).2.1 := by decide +kernel
theorem tyX3_ok : ∀ k, k < 7 → parseFieldDescriptor (TX3 k).2.2.1 = some (tyX3 k) := by decide +kernel
def RX4 : String := "StreamEnd$Watch"
def TX4 : u_T := fun k => match k with
  | 0 => ("StreamEnd$Watch", "time", "I", false)
  | 1 => ("StreamEnd$Watch", "alarmOn", "Z", false)
  | 2 => ("StreamEnd$Watch", "alarmAt", "I", false)
  | 3 => ("StreamEnd$Watch", "tries", "I", false)
  | 4 => ("StreamEnd$Watch", "wait", "I", false)
  | 5 => ("StreamEnd$Watch", "everMeasured", "Z", false)
  | 6 => ("StreamEnd$Watch", "smooth", "I", false)
  | 7 => ("StreamEnd$Watch", "spread", "I", false)
  | 8 => ("StreamEnd$Watch", "measuring", "Z", false)
  | 9 => ("StreamEnd$Watch", "measureNumber", "I", false)
  | _ => ("StreamEnd$Watch", "measureStart", "I", false)
def tyX4 : Nat → FieldType := fun k => match k with
  | 0 => .int
  | 1 => .boolean
  | 2 => .int
  | 3 => .int
  | 4 => .int
  | 5 => .boolean
  | 6 => .int
  | 7 => .int
  | 8 => .boolean
  | 9 => .int
  | _ => .int
set_option maxRecDepth 20000 in
theorem nmX4 : ∀ a, a < 11 → ∀ b, b < 11 → a ≠ b → (TX4 a).2.1 ≠ (TX4 b).2.1 := by decide +kernel
theorem tyX4_ok : ∀ k, k < 11 → parseFieldDescriptor (TX4 k).2.2.1 = some (tyX4 k) := by decide +kernel
def RX5 : String := "StreamEnd"
def TX5 : u_T := fun k => match k with
  | 0 => ("StreamEnd", "largest", "I", true)
  | 1 => ("StreamEnd", "quiet", "I", true)
  | 2 => ("StreamEnd", "out", "LStreamEnd$Outgoing;", true)
  | 3 => ("StreamEnd", "in", "LStreamEnd$Incoming;", true)
  | 4 => ("StreamEnd", "watch", "LStreamEnd$Watch;", true)
  | 5 => ("StreamEnd", "due", "LStreamEnd$Due;", true)
  | 6 => ("StreamEnd", "arriving", "LStreamEnd$Segment;", true)
  | 7 => ("StreamEnd", "made", "LStreamEnd$Segment;", true)
  | 8 => ("StreamEnd", "anyMade", "Z", false)
  | 9 => ("StreamEnd", "state", "I", false)
  | 10 => ("StreamEnd", "beganListening", "Z", false)
  | _ => ("StreamEnd", "quietEnd", "I", false)
def tyX5 : Nat → FieldType := fun k => match k with
  | 0 => .int
  | 1 => .int
  | 2 => .object "StreamEnd$Outgoing"
  | 3 => .object "StreamEnd$Incoming"
  | 4 => .object "StreamEnd$Watch"
  | 5 => .object "StreamEnd$Due"
  | 6 => .object "StreamEnd$Segment"
  | 7 => .object "StreamEnd$Segment"
  | 8 => .boolean
  | 9 => .int
  | 10 => .boolean
  | _ => .int
set_option maxRecDepth 20000 in
theorem nmX5 : ∀ a, a < 12 → ∀ b, b < 12 → a ≠ b → (TX5 a).2.1 ≠ (TX5 b).2.1 := by decide +kernel
theorem tyX5_ok : ∀ k, k < 12 → parseFieldDescriptor (TX5 k).2.2.1 = some (tyX5 k) := by decide +kernel
def RX6 : String := "StreamEndModel"
def TX6 : u_T := fun k => match k with
  | 0 => ("StreamEndModel", "ownLargest", "I", true)
  | 1 => ("StreamEndModel", "quietTime", "I", true)
  | 2 => ("StreamEndModel", "code", "I", false)
  | 3 => ("StreamEndModel", "time", "I", false)
  | 4 => ("StreamEndModel", "state", "I", false)
  | 5 => ("StreamEndModel", "listened", "Z", false)
  | 6 => ("StreamEndModel", "closed", "Z", false)
  | 7 => ("StreamEndModel", "heard", "Z", false)
  | 8 => ("StreamEndModel", "first", "I", false)
  | 9 => ("StreamEndModel", "oldest", "I", false)
  | 10 => ("StreamEndModel", "next", "I", false)
  | 11 => ("StreamEndModel", "piece", "I", false)
  | 12 => ("StreamEndModel", "out", "[I", true)
  | 13 => ("StreamEndModel", "outCount", "I", false)
  | 14 => ("StreamEndModel", "outAt", "I", false)
  | 15 => ("StreamEndModel", "window", "I", false)
  | 16 => ("StreamEndModel", "toldNumber", "I", false)
  | 17 => ("StreamEndModel", "toldThanked", "I", false)
  | 18 => ("StreamEndModel", "in", "[I", true)
  | 19 => ("StreamEndModel", "came", "[Z", true)
  | 20 => ("StreamEndModel", "have", "I", false)
  | 21 => ("StreamEndModel", "expected", "I", false)
  | 22 => ("StreamEndModel", "lastKnown", "Z", false)
  | 23 => ("StreamEndModel", "lastAt", "I", false)
  | 24 => ("StreamEndModel", "over", "Z", false)
  | 25 => ("StreamEndModel", "reset", "Z", false)
  | 26 => ("StreamEndModel", "resetFlags", "I", false)
  | 27 => ("StreamEndModel", "resetNumber", "I", false)
  | 28 => ("StreamEndModel", "resetThanked", "I", false)
  | 29 => ("StreamEndModel", "open", "Z", false)
  | 30 => ("StreamEndModel", "opened", "Z", false)
  | 31 => ("StreamEndModel", "again", "Z", false)
  | 32 => ("StreamEndModel", "probe", "Z", false)
  | 33 => ("StreamEndModel", "thank", "Z", false)
  | 34 => ("StreamEndModel", "alarm", "I", false)
  | 35 => ("StreamEndModel", "wait", "I", false)
  | 36 => ("StreamEndModel", "tries", "I", false)
  | 37 => ("StreamEndModel", "measures", "Z", false)
  | 38 => ("StreamEndModel", "measured", "I", false)
  | 39 => ("StreamEndModel", "measuredAt", "I", false)
  | 40 => ("StreamEndModel", "known", "Z", false)
  | 41 => ("StreamEndModel", "smooth", "I", false)
  | 42 => ("StreamEndModel", "spread", "I", false)
  | 43 => ("StreamEndModel", "quietUntil", "I", false)
  | 44 => ("StreamEndModel", "fed", "[I", true)
  | 45 => ("StreamEndModel", "fedCount", "I", false)
  | 46 => ("StreamEndModel", "made", "Z", false)
  | 47 => ("StreamEndModel", "figures", "[I", true)
  | 48 => ("StreamEndModel", "bytes", "[I", true)
  | _ => ("StreamEndModel", "byteCount", "I", false)
def tyX6 : Nat → FieldType := fun k => match k with
  | 0 => .int
  | 1 => .int
  | 2 => .int
  | 3 => .int
  | 4 => .int
  | 5 => .boolean
  | 6 => .boolean
  | 7 => .boolean
  | 8 => .int
  | 9 => .int
  | 10 => .int
  | 11 => .int
  | 12 => .array .int
  | 13 => .int
  | 14 => .int
  | 15 => .int
  | 16 => .int
  | 17 => .int
  | 18 => .array .int
  | 19 => .array .boolean
  | 20 => .int
  | 21 => .int
  | 22 => .boolean
  | 23 => .int
  | 24 => .boolean
  | 25 => .boolean
  | 26 => .int
  | 27 => .int
  | 28 => .int
  | 29 => .boolean
  | 30 => .boolean
  | 31 => .boolean
  | 32 => .boolean
  | 33 => .boolean
  | 34 => .int
  | 35 => .int
  | 36 => .int
  | 37 => .boolean
  | 38 => .int
  | 39 => .int
  | 40 => .boolean
  | 41 => .int
  | 42 => .int
  | 43 => .int
  | 44 => .array .int
  | 45 => .int
  | 46 => .boolean
  | 47 => .array .int
  | 48 => .array .int
  | _ => .int
set_option maxRecDepth 20000 in
theorem nmX6 : ∀ a, a < 50 → ∀ b, b < 50 → a ≠ b → (TX6 a).2.1 ≠ (TX6 b).2.1 := by decide +kernel
theorem tyX6_ok : ∀ k, k < 50 → parseFieldDescriptor (TX6 k).2.2.1 = some (tyX6 k) := by decide +kernel
def RXA : String := "java/util/Arrays"
def RXL : String := "StreamEndLaw"
abbrev cX5_init : ByteArray := prog_1_method_1_code
def yX5_init : MethodName := ⟨RX5, "<init>", "(II)V"⟩
abbrev cX2_init : ByteArray := prog_4_method_1_code
def yX2_init : MethodName := ⟨RX2, "<init>", "(I)V"⟩
abbrev cX1_init : ByteArray := prog_3_method_1_code
def yX1_init : MethodName := ⟨RX1, "<init>", "()V"⟩
abbrev cXA_fill : ByteArray := prog_17_method_103_code
def yXA_fill : MethodName := ⟨RXA, "fill", "([II)V"⟩
abbrev cX4_init : ByteArray := prog_6_method_1_code
def yX4_init : MethodName := ⟨RX4, "<init>", "()V"⟩
abbrev cX0_init : ByteArray := prog_2_method_1_code
def yX0_init : MethodName := ⟨RX0, "<init>", "()V"⟩
abbrev cX3_init : ByteArray := prog_5_method_1_code
def yX3_init : MethodName := ⟨RX3, "<init>", "()V"⟩
abbrev cX5_next : ByteArray := prog_1_method_8_code
def yX5_next : MethodName := ⟨RX5, "next", "()Z"⟩
abbrev cX5_makeReset : ByteArray := prog_1_method_31_code
def yX5_makeReset : MethodName := ⟨RX5, "makeReset", "()V"⟩
abbrev cX3_headIs : ByteArray := prog_5_method_2_code
def yX3_headIs : MethodName := ⟨RX3, "headIs", "(IIIII)V"⟩
abbrev cX3_has : ByteArray := prog_5_method_3_code
def yX3_has : MethodName := ⟨RX3, "has", "(I)Z"⟩
abbrev cX5_makeOpen : ByteArray := prog_1_method_32_code
def yX5_makeOpen : MethodName := ⟨RX5, "makeOpen", "()V"⟩
abbrev cX5_make : ByteArray := prog_1_method_36_code
def yX5_make : MethodName := ⟨RX5, "make", "(IIII)V"⟩
abbrev cX1_room : ByteArray := prog_3_method_4_code
def yX1_room : MethodName := ⟨RX1, "room", "()I"⟩
abbrev cX2_copyTo : ByteArray := prog_4_method_13_code
def yX2_copyTo : MethodName := ⟨RX2, "copyTo", "(LStreamEnd$Segment;II)V"⟩
abbrev cX3_append : ByteArray := prog_5_method_5_code
def yX3_append : MethodName := ⟨RX3, "append", "(B)V"⟩
abbrev cX4_measure : ByteArray := prog_6_method_7_code
def yX4_measure : MethodName := ⟨RX4, "measure", "(I)V"⟩
abbrev cX4_setAlarmIfOff : ByteArray := prog_6_method_4_code
def yX4_setAlarmIfOff : MethodName := ⟨RX4, "setAlarmIfOff", "()V"⟩
abbrev cX4_setAlarm : ByteArray := prog_6_method_3_code
def yX4_setAlarm : MethodName := ⟨RX4, "setAlarm", "()V"⟩
abbrev cX5_makeAgain : ByteArray := prog_1_method_33_code
def yX5_makeAgain : MethodName := ⟨RX5, "makeAgain", "()V"⟩
abbrev cX5_maySendNew : ByteArray := prog_1_method_21_code
def yX5_maySendNew : MethodName := ⟨RX5, "maySendNew", "()Z"⟩
abbrev cX2_maySend : ByteArray := prog_4_method_12_code
def yX2_maySend : MethodName := ⟨RX2, "maySend", "()Z"⟩
abbrev cX2_newBytes : ByteArray := prog_4_method_10_code
def yX2_newBytes : MethodName := ⟨RX2, "newBytes", "()I"⟩
abbrev cX2_unsent : ByteArray := prog_4_method_5_code
def yX2_unsent : MethodName := ⟨RX2, "unsent", "()I"⟩
abbrev cX2_allowed : ByteArray := prog_4_method_9_code
def yX2_allowed : MethodName := ⟨RX2, "allowed", "()I"⟩
abbrev cX2_newHasLast : ByteArray := prog_4_method_11_code
def yX2_newHasLast : MethodName := ⟨RX2, "newHasLast", "()Z"⟩
abbrev cX5_makeNew : ByteArray := prog_1_method_35_code
def yX5_makeNew : MethodName := ⟨RX5, "makeNew", "(IZ)V"⟩
abbrev cX2_wasSent : ByteArray := prog_4_method_14_code
def yX2_wasSent : MethodName := ⟨RX2, "wasSent", "(IZ)V"⟩
abbrev cX5_makeProbe : ByteArray := prog_1_method_34_code
def yX5_makeProbe : MethodName := ⟨RX5, "makeProbe", "()V"⟩
abbrev cX5_state : ByteArray := prog_1_method_13_code
def yX5_state : MethodName := ⟨RX5, "state", "()I"⟩
abbrev cXL_cell : ByteArray := method_2_code
def yXL_cell : MethodName := ⟨RXL, "cell", "([II)I"⟩
abbrev cXL_begin : ByteArray := method_3_code
def yXL_begin : MethodName := ⟨RXL, "begin", "(LStreamEnd;IZ)I"⟩
abbrev cX5_begin : ByteArray := prog_1_method_2_code
def yX5_begin : MethodName := ⟨RX5, "begin", "(IZ)V"⟩
abbrev cX5_isEnded : ByteArray := prog_1_method_20_code
def yX5_isEnded : MethodName := ⟨RX5, "isEnded", "()Z"⟩
abbrev cX5_startStream : ByteArray := prog_1_method_23_code
def yX5_startStream : MethodName := ⟨RX5, "startStream", "(IZ)V"⟩
abbrev cX2_restart : ByteArray := prog_4_method_2_code
def yX2_restart : MethodName := ⟨RX2, "restart", "(II)V"⟩
abbrev cX2_windowIs : ByteArray := prog_4_method_16_code
def yX2_windowIs : MethodName := ⟨RX2, "windowIs", "(III)V"⟩
abbrev cX1_restart : ByteArray := prog_3_method_2_code
def yX1_restart : MethodName := ⟨RX1, "restart", "()V"⟩
abbrev cX4_restart : ByteArray := prog_6_method_2_code
def yX4_restart : MethodName := ⟨RX4, "restart", "()V"⟩
abbrev cX0_restart : ByteArray := prog_2_method_2_code
def yX0_restart : MethodName := ⟨RX0, "restart", "()V"⟩
abbrev cX0_dropStream : ByteArray := prog_2_method_3_code
def yX0_dropStream : MethodName := ⟨RX0, "dropStream", "()V"⟩
abbrev cX5_openIsDue : ByteArray := prog_1_method_24_code
def yX5_openIsDue : MethodName := ⟨RX5, "openIsDue", "()V"⟩
abbrev cXL_write : ByteArray := method_4_code
def yXL_write : MethodName := ⟨RXL, "write", "(LStreamEnd;JI[J)I"⟩
abbrev cX5_write : ByteArray := prog_1_method_3_code
def yX5_write : MethodName := ⟨RX5, "write", "(JI)I"⟩
abbrev cX5_isHandful : ByteArray := prog_1_method_15_code
def yX5_isHandful : MethodName := ⟨RX5, "isHandful", "(I)Z"⟩
abbrev cX2_space : ByteArray := prog_4_method_3_code
def yX2_space : MethodName := ⟨RX2, "space", "()I"⟩
abbrev cX5_byteOf : ByteArray := prog_1_method_17_code
def yX5_byteOf : MethodName := ⟨RX5, "byteOf", "(JII)B"⟩
abbrev cX2_append : ByteArray := prog_4_method_4_code
def yX2_append : MethodName := ⟨RX2, "append", "(B)V"⟩
abbrev cX5_watchClosedWindow : ByteArray := prog_1_method_30_code
def yX5_watchClosedWindow : MethodName := ⟨RX5, "watchClosedWindow", "()V"⟩
abbrev cX2_hasUnthanked : ByteArray := prog_4_method_7_code
def yX2_hasUnthanked : MethodName := ⟨RX2, "hasUnthanked", "()Z"⟩
abbrev cX2_hasNew : ByteArray := prog_4_method_6_code
def yX2_hasNew : MethodName := ⟨RX2, "hasNew", "()Z"⟩
abbrev cXL_read : ByteArray := method_5_code
def yXL_read : MethodName := ⟨RXL, "read", "(LStreamEnd;[J)I"⟩
abbrev cX5_read : ByteArray := prog_1_method_4_code
def yX5_read : MethodName := ⟨RX5, "read", "()I"⟩
abbrev cX5_readByte : ByteArray := prog_1_method_27_code
def yX5_readByte : MethodName := ⟨RX5, "readByte", "()I"⟩
abbrev cX1_takeByte : ByteArray := prog_3_method_10_code
def yX1_takeByte : MethodName := ⟨RX1, "takeByte", "()I"⟩
abbrev cX5_mayTakeBytes : ByteArray := prog_1_method_22_code
def yX5_mayTakeBytes : MethodName := ⟨RX5, "mayTakeBytes", "()Z"⟩
abbrev cXL_close : ByteArray := method_6_code
def yXL_close : MethodName := ⟨RXL, "close", "(LStreamEnd;)I"⟩
abbrev cX5_close : ByteArray := prog_1_method_5_code
def yX5_close : MethodName := ⟨RX5, "close", "()V"⟩
abbrev cX5_halt : ByteArray := prog_1_method_25_code
def yX5_halt : MethodName := ⟨RX5, "halt", "(I)V"⟩
abbrev cX5_beginQuiet : ByteArray := prog_1_method_26_code
def yX5_beginQuiet : MethodName := ⟨RX5, "beginQuiet", "()V"⟩
abbrev cXL_abort : ByteArray := method_7_code
def yXL_abort : MethodName := ⟨RXL, "abort", "(LStreamEnd;)I"⟩
abbrev cX5_abort : ByteArray := prog_1_method_6_code
def yX5_abort : MethodName := ⟨RX5, "abort", "()V"⟩
abbrev cX0_resetIs : ByteArray := prog_2_method_4_code
def yX0_resetIs : MethodName := ⟨RX0, "resetIs", "(III)V"⟩
abbrev cXL_run : ByteArray := method_8_code
def yXL_run : MethodName := ⟨RXL, "run", "(LStreamEnd;I[J)I"⟩
abbrev cX5_run : ByteArray := prog_1_method_7_code
def yX5_run : MethodName := ⟨RX5, "run", "(I)I"⟩
abbrev cX4_ticksToAlarm : ByteArray := prog_6_method_5_code
def yX4_ticksToAlarm : MethodName := ⟨RX4, "ticksToAlarm", "()I"⟩
abbrev cX5_takeEvents : ByteArray := prog_1_method_28_code
def yX5_takeEvents : MethodName := ⟨RX5, "takeEvents", "()V"⟩
abbrev cX5_takeAlarm : ByteArray := prog_1_method_29_code
def yX5_takeAlarm : MethodName := ⟨RX5, "takeAlarm", "()V"⟩
abbrev cX4_doubleWait : ByteArray := prog_6_method_6_code
def yX4_doubleWait : MethodName := ⟨RX4, "doubleWait", "()V"⟩
abbrev cXL_segment : ByteArray := method_9_code
def yXL_segment : MethodName := ⟨RXL, "segment", "(LStreamEnd;I[J)I"⟩
abbrev cX5_segment : ByteArray := prog_1_method_9_code
def yX5_segment : MethodName := ⟨RX5, "segment", "(I)I"⟩
abbrev cXL_byteAt : ByteArray := method_10_code
def yXL_byteAt : MethodName := ⟨RXL, "byteAt", "(LStreamEnd;I[J)I"⟩
abbrev cX5_byteAt : ByteArray := prog_1_method_10_code
def yX5_byteAt : MethodName := ⟨RX5, "byteAt", "(I)I"⟩
abbrev cXL_feed : ByteArray := method_11_code
def yXL_feed : MethodName := ⟨RXL, "feed", "(LStreamEnd;JI[J)I"⟩
abbrev cX5_feed : ByteArray := prog_1_method_11_code
def yX5_feed : MethodName := ⟨RX5, "feed", "(JI)I"⟩
abbrev cXL_arrive : ByteArray := method_12_code
def yXL_arrive : MethodName := ⟨RXL, "arrive", "(LStreamEnd;IIIII[J)I"⟩
abbrev cX5_arrive : ByteArray := prog_1_method_12_code
def yX5_arrive : MethodName := ⟨RX5, "arrive", "(IIIII)I"⟩
abbrev cX5_isWidth : ByteArray := prog_1_method_16_code
def yX5_isWidth : MethodName := ⟨RX5, "isWidth", "(I)Z"⟩
abbrev cX5_takeSegment : ByteArray := prog_1_method_37_code
def yX5_takeSegment : MethodName := ⟨RX5, "takeSegment", "()V"⟩
abbrev cX5_answerWithReset : ByteArray := prog_1_method_38_code
def yX5_answerWithReset : MethodName := ⟨RX5, "answerWithReset", "()V"⟩
abbrev cX3_size : ByteArray := prog_5_method_4_code
def yX3_size : MethodName := ⟨RX3, "size", "()I"⟩
abbrev cX5_takeWhenListening : ByteArray := prog_1_method_39_code
def yX5_takeWhenListening : MethodName := ⟨RX5, "takeWhenListening", "()V"⟩
abbrev cX5_takeOpen : ByteArray := prog_1_method_41_code
def yX5_takeOpen : MethodName := ⟨RX5, "takeOpen", "()V"⟩
abbrev cX1_open : ByteArray := prog_3_method_3_code
def yX1_open : MethodName := ⟨RX1, "open", "(I)V"⟩
abbrev cX5_takeWhenAsking : ByteArray := prog_1_method_40_code
def yX5_takeWhenAsking : MethodName := ⟨RX5, "takeWhenAsking", "()V"⟩
abbrev cX5_takeThanked : ByteArray := prog_1_method_45_code
def yX5_takeThanked : MethodName := ⟨RX5, "takeThanked", "()V"⟩
abbrev cX2_thank : ByteArray := prog_4_method_15_code
def yX2_thank : MethodName := ⟨RX2, "thank", "(I)V"⟩
abbrev cX4_endMeasure : ByteArray := prog_6_method_8_code
def yX4_endMeasure : MethodName := ⟨RX4, "endMeasure", "(I)V"⟩
abbrev cX5_isNotBehind : ByteArray := prog_1_method_19_code
def yX5_isNotBehind : MethodName := ⟨RX5, "isNotBehind", "(II)Z"⟩
abbrev cX4_learn : ByteArray := prog_6_method_9_code
def yX4_learn : MethodName := ⟨RX4, "learn", "(I)V"⟩
abbrev cX1_fits : ByteArray := prog_3_method_5_code
def yX1_fits : MethodName := ⟨RX1, "fits", "(II)Z"⟩
abbrev cX5_takeMisfit : ByteArray := prog_1_method_42_code
def yX5_takeMisfit : MethodName := ⟨RX5, "takeMisfit", "()V"⟩
abbrev cX5_takeReset : ByteArray := prog_1_method_43_code
def yX5_takeReset : MethodName := ⟨RX5, "takeReset", "()V"⟩
abbrev cX5_takeInStream : ByteArray := prog_1_method_44_code
def yX5_takeInStream : MethodName := ⟨RX5, "takeInStream", "()V"⟩
abbrev cX5_isBefore : ByteArray := prog_1_method_18_code
def yX5_isBefore : MethodName := ⟨RX5, "isBefore", "(II)Z"⟩
abbrev cX5_takeWindow : ByteArray := prog_1_method_46_code
def yX5_takeWindow : MethodName := ⟨RX5, "takeWindow", "()V"⟩
abbrev cX2_windowIsOlderThan : ByteArray := prog_4_method_17_code
def yX2_windowIsOlderThan : MethodName := ⟨RX2, "windowIsOlderThan", "(LStreamEnd$Segment;)Z"⟩
abbrev cX2_lastIsThanked : ByteArray := prog_4_method_8_code
def yX2_lastIsThanked : MethodName := ⟨RX2, "lastIsThanked", "()Z"⟩
abbrev cX5_leave : ByteArray := prog_1_method_47_code
def yX5_leave : MethodName := ⟨RX5, "leave", "()V"⟩
abbrev cX5_takeBytes : ByteArray := prog_1_method_48_code
def yX5_takeBytes : MethodName := ⟨RX5, "takeBytes", "()V"⟩
abbrev cX1_store : ByteArray := prog_3_method_6_code
def yX1_store : MethodName := ⟨RX1, "store", "(LStreamEnd$Segment;)V"⟩
abbrev cX1_noteLast : ByteArray := prog_3_method_7_code
def yX1_noteLast : MethodName := ⟨RX1, "noteLast", "(I)V"⟩
abbrev cX1_goOn : ByteArray := prog_3_method_8_code
def yX1_goOn : MethodName := ⟨RX1, "goOn", "()V"⟩
abbrev cX1_isAtLast : ByteArray := prog_3_method_9_code
def yX1_isAtLast : MethodName := ⟨RX1, "isAtLast", "()Z"⟩
abbrev cX5_peerLeaves : ByteArray := prog_1_method_49_code
def yX5_peerLeaves : MethodName := ⟨RX5, "peerLeaves", "()V"⟩
abbrev cXL_figure : ByteArray := method_13_code
def yXL_figure : MethodName := ⟨RXL, "figure", "(LStreamEnd;I[J)I"⟩
abbrev cX5_figure : ByteArray := prog_1_method_14_code
def yX5_figure : MethodName := ⟨RX5, "figure", "(I)I"⟩
abbrev cX6_init : ByteArray := prog_8_method_1_code
def yX6_init : MethodName := ⟨RX6, "<init>", "(II)V"⟩
abbrev cX6_thrown : ByteArray := prog_8_method_2_code
def yX6_thrown : MethodName := ⟨RX6, "thrown", "()I"⟩
abbrev cX6_begin : ByteArray := prog_8_method_6_code
def yX6_begin : MethodName := ⟨RX6, "begin", "(IZ)V"⟩
abbrev cX6_clear : ByteArray := prog_8_method_3_code
def yX6_clear : MethodName := ⟨RX6, "clear", "(I)V"⟩
abbrev cX6_quiesce : ByteArray := prog_8_method_4_code
def yX6_quiesce : MethodName := ⟨RX6, "quiesce", "()V"⟩
abbrev cX6_write : ByteArray := prog_8_method_7_code
def yX6_write : MethodName := ⟨RX6, "write", "(JI)I"⟩
abbrev cX6_watch : ByteArray := prog_8_method_16_code
def yX6_watch : MethodName := ⟨RX6, "watch", "()V"⟩
abbrev cX6_sends : ByteArray := prog_8_method_13_code
def yX6_sends : MethodName := ⟨RX6, "sends", "()Z"⟩
abbrev cX6_unsent : ByteArray := prog_8_method_14_code
def yX6_unsent : MethodName := ⟨RX6, "unsent", "()I"⟩
abbrev cX6_owesLast : ByteArray := prog_8_method_15_code
def yX6_owesLast : MethodName := ⟨RX6, "owesLast", "()Z"⟩
abbrev cX6_read : ByteArray := prog_8_method_10_code
def yX6_read : MethodName := ⟨RX6, "read", "()I"⟩
abbrev cX6_isShort : ByteArray := prog_8_method_9_code
def yX6_isShort : MethodName := ⟨RX6, "isShort", "()Z"⟩
abbrev cX6_room : ByteArray := prog_8_method_8_code
def yX6_room : MethodName := ⟨RX6, "room", "()I"⟩
abbrev cX6_close : ByteArray := prog_8_method_11_code
def yX6_close : MethodName := ⟨RX6, "close", "()V"⟩
abbrev cX6_becomes : ByteArray := prog_8_method_5_code
def yX6_becomes : MethodName := ⟨RX6, "becomes", "(I)V"⟩
abbrev cX6_abort : ByteArray := prog_8_method_12_code
def yX6_abort : MethodName := ⟨RX6, "abort", "()V"⟩
abbrev cX6_run : ByteArray := prog_8_method_18_code
def yX6_run : MethodName := ⟨RX6, "run", "(I)I"⟩
abbrev cX6_ring : ByteArray := prog_8_method_17_code
def yX6_ring : MethodName := ⟨RX6, "ring", "()V"⟩
abbrev cX6_feed : ByteArray := prog_8_method_20_code
def yX6_feed : MethodName := ⟨RX6, "feed", "(JI)I"⟩
abbrev cX6_arrive : ByteArray := prog_8_method_34_code
def yX6_arrive : MethodName := ⟨RX6, "arrive", "(IIIII)I"⟩
abbrev cX6_resets : ByteArray := prog_8_method_22_code
def yX6_resets : MethodName := ⟨RX6, "resets", "(III)V"⟩
abbrev cX6_has : ByteArray := prog_8_method_21_code
def yX6_has : MethodName := ⟨RX6, "has", "(II)Z"⟩
abbrev cX6_size : ByteArray := prog_8_method_23_code
def yX6_size : MethodName := ⟨RX6, "size", "(I)I"⟩
abbrev cX6_toListening : ByteArray := prog_8_method_25_code
def yX6_toListening : MethodName := ⟨RX6, "toListening", "(IIIII)V"⟩
abbrev cX6_greet : ByteArray := prog_8_method_24_code
def yX6_greet : MethodName := ⟨RX6, "greet", "(IIIII)V"⟩
abbrev cX6_toAsking : ByteArray := prog_8_method_26_code
def yX6_toAsking : MethodName := ⟨RX6, "toAsking", "(IIIII)V"⟩
abbrev cX6_thanked : ByteArray := prog_8_method_27_code
def yX6_thanked : MethodName := ⟨RX6, "thanked", "(I)V"⟩
abbrev cX6_learn : ByteArray := prog_8_method_19_code
def yX6_learn : MethodName := ⟨RX6, "learn", "(I)V"⟩
abbrev cX6_toOthers : ByteArray := prog_8_method_30_code
def yX6_toOthers : MethodName := ⟨RX6, "toOthers", "(IIII)V"⟩
abbrev cX6_fits : ByteArray := prog_8_method_29_code
def yX6_fits : MethodName := ⟨RX6, "fits", "(II)Z"⟩
abbrev cX6_hitByReset : ByteArray := prog_8_method_31_code
def yX6_hitByReset : MethodName := ⟨RX6, "hitByReset", "(Z)V"⟩
abbrev cX6_tell : ByteArray := prog_8_method_28_code
def yX6_tell : MethodName := ⟨RX6, "tell", "(III)V"⟩
abbrev cX6_wasLast : ByteArray := prog_8_method_32_code
def yX6_wasLast : MethodName := ⟨RX6, "wasLast", "()Z"⟩
abbrev cX6_take : ByteArray := prog_8_method_33_code
def yX6_take : MethodName := ⟨RX6, "take", "(II)V"⟩
abbrev cX6_next : ByteArray := prog_8_method_42_code
def yX6_next : MethodName := ⟨RX6, "next", "()Z"⟩
abbrev cX6_make : ByteArray := prog_8_method_35_code
def yX6_make : MethodName := ⟨RX6, "make", "(IIIII)V"⟩
abbrev cX6_sendOpen : ByteArray := prog_8_method_38_code
def yX6_sendOpen : MethodName := ⟨RX6, "sendOpen", "()V"⟩
abbrev cX6_tellBytes : ByteArray := prog_8_method_36_code
def yX6_tellBytes : MethodName := ⟨RX6, "tellBytes", "(III)V"⟩
abbrev cX6_sent : ByteArray := prog_8_method_37_code
def yX6_sent : MethodName := ⟨RX6, "sent", "(IZ)V"⟩
abbrev cX6_sendAgain : ByteArray := prog_8_method_39_code
def yX6_sendAgain : MethodName := ⟨RX6, "sendAgain", "()V"⟩
abbrev cX6_sendFresh : ByteArray := prog_8_method_41_code
def yX6_sendFresh : MethodName := ⟨RX6, "sendFresh", "()Z"⟩
abbrev cX6_sendNew : ByteArray := prog_8_method_40_code
def yX6_sendNew : MethodName := ⟨RX6, "sendNew", "(IZ)V"⟩
abbrev cX6_segment : ByteArray := prog_8_method_43_code
def yX6_segment : MethodName := ⟨RX6, "segment", "(I)I"⟩
abbrev cX6_byteAt : ByteArray := prog_8_method_44_code
def yX6_byteAt : MethodName := ⟨RX6, "byteAt", "(I)I"⟩
abbrev cX6_state : ByteArray := prog_8_method_45_code
def yX6_state : MethodName := ⟨RX6, "state", "()I"⟩
abbrev cX6_figure : ByteArray := prog_8_method_46_code
def yX6_figure : MethodName := ⟨RX6, "figure", "(I)I"⟩
abbrev se_cl : List vw_C := [(RX0, TX0, 9), (RX1, TX1, 8), (RX2, TX2, 13), (RX3, TX3, 7), (RX4, TX4, 11), (RX5, TX5, 12), (RX6, TX6, 50)]
theorem qX5_f60 : (Jvm.Cond.fieldLink "StreamEnd" (60 : Nat) "StreamEnd" "state" "I") ∈ se_all := se_in 260 (by decide +kernel) (by decide +kernel)
theorem qX2_f56 : (Jvm.Cond.fieldLink "StreamEnd$Outgoing" (56 : Nat) "StreamEnd$Outgoing" "window" "I") ∈ se_all := se_in 48 (by decide +kernel) (by decide +kernel)
theorem qX2_f84 : (Jvm.Cond.fieldLink "StreamEnd$Outgoing" (84 : Nat) "StreamEnd$Outgoing" "windowNumber" "I") ∈ se_all := se_in 50 (by decide +kernel) (by decide +kernel)
theorem qX2_f87 : (Jvm.Cond.fieldLink "StreamEnd$Outgoing" (87 : Nat) "StreamEnd$Outgoing" "windowThanked" "I") ∈ se_all := se_in 51 (by decide +kernel) (by decide +kernel)
theorem qX2_f19 : (Jvm.Cond.fieldLink "StreamEnd$Outgoing" (19 : Nat) "StreamEnd$Outgoing" "start" "I") ∈ se_all := se_in 31 (by decide +kernel) (by decide +kernel)
theorem qX2_f22 : (Jvm.Cond.fieldLink "StreamEnd$Outgoing" (22 : Nat) "StreamEnd$Outgoing" "count" "I") ∈ se_all := se_in 32 (by decide +kernel) (by decide +kernel)
theorem qX2_f25 : (Jvm.Cond.fieldLink "StreamEnd$Outgoing" (25 : Nat) "StreamEnd$Outgoing" "sent" "I") ∈ se_all := se_in 34 (by decide +kernel) (by decide +kernel)
theorem qX2_f28 : (Jvm.Cond.fieldLink "StreamEnd$Outgoing" (28 : Nat) "StreamEnd$Outgoing" "first" "I") ∈ se_all := se_in 36 (by decide +kernel) (by decide +kernel)
theorem qX2_f31 : (Jvm.Cond.fieldLink "StreamEnd$Outgoing" (31 : Nat) "StreamEnd$Outgoing" "oldest" "I") ∈ se_all := se_in 38 (by decide +kernel) (by decide +kernel)
theorem qX2_f34 : (Jvm.Cond.fieldLink "StreamEnd$Outgoing" (34 : Nat) "StreamEnd$Outgoing" "next" "I") ∈ se_all := se_in 40 (by decide +kernel) (by decide +kernel)
theorem qX2_f37 : (Jvm.Cond.fieldLink "StreamEnd$Outgoing" (37 : Nat) "StreamEnd$Outgoing" "closed" "Z") ∈ se_all := se_in 42 (by decide +kernel) (by decide +kernel)
theorem qX2_f41 : (Jvm.Cond.fieldLink "StreamEnd$Outgoing" (41 : Nat) "StreamEnd$Outgoing" "lastSent" "Z") ∈ se_all := se_in 44 (by decide +kernel) (by decide +kernel)
theorem qX2_f15 : (Jvm.Cond.fieldLink "StreamEnd$Outgoing" (15 : Nat) "StreamEnd$Outgoing" "piece" "I") ∈ se_all := se_in 46 (by decide +kernel) (by decide +kernel)
theorem q_ini_StreamEnd_Outgoing : (Jvm.Cond.initialized "StreamEnd$Outgoing") ∈ se_all := se_in 2 (by decide +kernel) (by decide +kernel)
theorem q_code_X2_windowIs : (Jvm.Cond.code ({ cls := "StreamEnd$Outgoing", name := "windowIs", desc := "(III)V" } : Jvm.MethodName) prog_4_method_16_code (4 : Nat) (Option.none : Option Jvm.ClassFile.FieldType)) ∈ se_all := se_in 483 (by decide +kernel) (by decide +kernel)
theorem q_instanceMethod_X2_windowIs : (Jvm.Cond.instanceMethod ({ cls := "StreamEnd$Outgoing", name := "windowIs", desc := "(III)V" } : Jvm.MethodName)) ∈ se_all := se_in 482 (by decide +kernel) (by decide +kernel)
theorem qX2_m44 : (Jvm.Cond.methodLink "StreamEnd$Outgoing" (44 : Nat) ({ cls := "StreamEnd$Outgoing", name := "windowIs", desc := "(III)V" } : Jvm.MethodName)) ∈ se_all := se_in 480 (by decide +kernel) (by decide +kernel)
theorem qX1_f9 : (Jvm.Cond.fieldLink "StreamEnd$Incoming" (9 : Nat) "StreamEnd$Incoming" "row" "[I") ∈ se_all := se_in 89 (by decide +kernel) (by decide +kernel)
theorem q_ini_java_util_Arrays : (Jvm.Cond.initialized "java/util/Arrays") ∈ se_all := se_in 4 (by decide +kernel) (by decide +kernel)
theorem q_code_XA_fill : (Jvm.Cond.code ({ cls := "java/util/Arrays", name := "fill", desc := "([II)V" } : Jvm.MethodName) prog_17_method_103_code (4 : Nat) (Option.none : Option Jvm.ClassFile.FieldType)) ∈ se_all := se_in 88 (by decide +kernel) (by decide +kernel)
theorem q_static_XA_fill : (Jvm.Cond.static ({ cls := "java/util/Arrays", name := "fill", desc := "([II)V" } : Jvm.MethodName)) ∈ se_all := se_in 87 (by decide +kernel) (by decide +kernel)
theorem qX1_m15 : (Jvm.Cond.methodLink "StreamEnd$Incoming" (15 : Nat) ({ cls := "java/util/Arrays", name := "fill", desc := "([II)V" } : Jvm.MethodName)) ∈ se_all := se_in 86 (by decide +kernel) (by decide +kernel)
theorem qX1_f21 : (Jvm.Cond.fieldLink "StreamEnd$Incoming" (21 : Nat) "StreamEnd$Incoming" "opened" "Z") ∈ se_all := se_in 90 (by decide +kernel) (by decide +kernel)
theorem qX1_f25 : (Jvm.Cond.fieldLink "StreamEnd$Incoming" (25 : Nat) "StreamEnd$Incoming" "expected" "I") ∈ se_all := se_in 92 (by decide +kernel) (by decide +kernel)
theorem qX1_f29 : (Jvm.Cond.fieldLink "StreamEnd$Incoming" (29 : Nat) "StreamEnd$Incoming" "readable" "I") ∈ se_all := se_in 94 (by decide +kernel) (by decide +kernel)
theorem qX1_f32 : (Jvm.Cond.fieldLink "StreamEnd$Incoming" (32 : Nat) "StreamEnd$Incoming" "readNumber" "I") ∈ se_all := se_in 96 (by decide +kernel) (by decide +kernel)
theorem qX1_f35 : (Jvm.Cond.fieldLink "StreamEnd$Incoming" (35 : Nat) "StreamEnd$Incoming" "lastKnown" "Z") ∈ se_all := se_in 97 (by decide +kernel) (by decide +kernel)
theorem qX1_f38 : (Jvm.Cond.fieldLink "StreamEnd$Incoming" (38 : Nat) "StreamEnd$Incoming" "lastNumber" "I") ∈ se_all := se_in 98 (by decide +kernel) (by decide +kernel)
theorem qX1_f41 : (Jvm.Cond.fieldLink "StreamEnd$Incoming" (41 : Nat) "StreamEnd$Incoming" "over" "Z") ∈ se_all := se_in 99 (by decide +kernel) (by decide +kernel)
theorem qX4_f13 : (Jvm.Cond.fieldLink "StreamEnd$Watch" (13 : Nat) "StreamEnd$Watch" "alarmOn" "Z") ∈ se_all := se_in 127 (by decide +kernel) (by decide +kernel)
theorem qX4_f17 : (Jvm.Cond.fieldLink "StreamEnd$Watch" (17 : Nat) "StreamEnd$Watch" "alarmAt" "I") ∈ se_all := se_in 129 (by decide +kernel) (by decide +kernel)
theorem qX4_f20 : (Jvm.Cond.fieldLink "StreamEnd$Watch" (20 : Nat) "StreamEnd$Watch" "tries" "I") ∈ se_all := se_in 131 (by decide +kernel) (by decide +kernel)
theorem qX4_f9 : (Jvm.Cond.fieldLink "StreamEnd$Watch" (9 : Nat) "StreamEnd$Watch" "wait" "I") ∈ se_all := se_in 133 (by decide +kernel) (by decide +kernel)
theorem qX4_f23 : (Jvm.Cond.fieldLink "StreamEnd$Watch" (23 : Nat) "StreamEnd$Watch" "everMeasured" "Z") ∈ se_all := se_in 135 (by decide +kernel) (by decide +kernel)
theorem qX4_f26 : (Jvm.Cond.fieldLink "StreamEnd$Watch" (26 : Nat) "StreamEnd$Watch" "smooth" "I") ∈ se_all := se_in 136 (by decide +kernel) (by decide +kernel)
theorem qX4_f29 : (Jvm.Cond.fieldLink "StreamEnd$Watch" (29 : Nat) "StreamEnd$Watch" "spread" "I") ∈ se_all := se_in 138 (by decide +kernel) (by decide +kernel)
theorem qX4_f32 : (Jvm.Cond.fieldLink "StreamEnd$Watch" (32 : Nat) "StreamEnd$Watch" "measuring" "Z") ∈ se_all := se_in 140 (by decide +kernel) (by decide +kernel)
theorem qX4_f35 : (Jvm.Cond.fieldLink "StreamEnd$Watch" (35 : Nat) "StreamEnd$Watch" "measureNumber" "I") ∈ se_all := se_in 142 (by decide +kernel) (by decide +kernel)
theorem qX4_f38 : (Jvm.Cond.fieldLink "StreamEnd$Watch" (38 : Nat) "StreamEnd$Watch" "measureStart" "I") ∈ se_all := se_in 143 (by decide +kernel) (by decide +kernel)
theorem qX0_f19 : (Jvm.Cond.fieldLink "StreamEnd$Due" (19 : Nat) "StreamEnd$Due" "open" "Z") ∈ se_all := se_in 181 (by decide +kernel) (by decide +kernel)
theorem qX0_f22 : (Jvm.Cond.fieldLink "StreamEnd$Due" (22 : Nat) "StreamEnd$Due" "again" "Z") ∈ se_all := se_in 185 (by decide +kernel) (by decide +kernel)
theorem qX0_f25 : (Jvm.Cond.fieldLink "StreamEnd$Due" (25 : Nat) "StreamEnd$Due" "probe" "Z") ∈ se_all := se_in 187 (by decide +kernel) (by decide +kernel)
theorem q_ini_StreamEnd_Due : (Jvm.Cond.initialized "StreamEnd$Due") ∈ se_all := se_in 6 (by decide +kernel) (by decide +kernel)
theorem q_code_X0_dropStream : (Jvm.Cond.code ({ cls := "StreamEnd$Due", name := "dropStream", desc := "()V" } : Jvm.MethodName) prog_2_method_3_code (1 : Nat) (Option.none : Option Jvm.ClassFile.FieldType)) ∈ se_all := se_in 499 (by decide +kernel) (by decide +kernel)
theorem q_instanceMethod_X0_dropStream : (Jvm.Cond.instanceMethod ({ cls := "StreamEnd$Due", name := "dropStream", desc := "()V" } : Jvm.MethodName)) ∈ se_all := se_in 498 (by decide +kernel) (by decide +kernel)
theorem qX0_m7 : (Jvm.Cond.methodLink "StreamEnd$Due" (7 : Nat) ({ cls := "StreamEnd$Due", name := "dropStream", desc := "()V" } : Jvm.MethodName)) ∈ se_all := se_in 496 (by decide +kernel) (by decide +kernel)
theorem qX0_f12 : (Jvm.Cond.fieldLink "StreamEnd$Due" (12 : Nat) "StreamEnd$Due" "openWasSent" "Z") ∈ se_all := se_in 183 (by decide +kernel) (by decide +kernel)
theorem qX0_f16 : (Jvm.Cond.fieldLink "StreamEnd$Due" (16 : Nat) "StreamEnd$Due" "thanks" "Z") ∈ se_all := se_in 189 (by decide +kernel) (by decide +kernel)
theorem qX5_f21 : (Jvm.Cond.fieldLink "StreamEnd" (21 : Nat) "StreamEnd" "out" "LStreamEnd$Outgoing;") ∈ se_all := se_in 253 (by decide +kernel) (by decide +kernel)
theorem qX5_f42 : (Jvm.Cond.fieldLink "StreamEnd" (42 : Nat) "StreamEnd" "due" "LStreamEnd$Due;") ∈ se_all := se_in 256 (by decide +kernel) (by decide +kernel)
theorem qX5_f9 : (Jvm.Cond.fieldLink "StreamEnd" (9 : Nat) "StreamEnd" "largest" "I") ∈ se_all := se_in 251 (by decide +kernel) (by decide +kernel)
theorem q_code_X2_restart : (Jvm.Cond.code ({ cls := "StreamEnd$Outgoing", name := "restart", desc := "(II)V" } : Jvm.MethodName) prog_4_method_2_code (3 : Nat) (Option.none : Option Jvm.ClassFile.FieldType)) ∈ se_all := se_in 479 (by decide +kernel) (by decide +kernel)
theorem q_instanceMethod_X2_restart : (Jvm.Cond.instanceMethod ({ cls := "StreamEnd$Outgoing", name := "restart", desc := "(II)V" } : Jvm.MethodName)) ∈ se_all := se_in 478 (by decide +kernel) (by decide +kernel)
theorem qX5_f28 : (Jvm.Cond.fieldLink "StreamEnd" (28 : Nat) "StreamEnd" "in" "LStreamEnd$Incoming;") ∈ se_all := se_in 254 (by decide +kernel) (by decide +kernel)
theorem q_ini_StreamEnd_Incoming : (Jvm.Cond.initialized "StreamEnd$Incoming") ∈ se_all := se_in 3 (by decide +kernel) (by decide +kernel)
theorem q_code_X1_restart : (Jvm.Cond.code ({ cls := "StreamEnd$Incoming", name := "restart", desc := "()V" } : Jvm.MethodName) prog_3_method_2_code (1 : Nat) (Option.none : Option Jvm.ClassFile.FieldType)) ∈ se_all := se_in 487 (by decide +kernel) (by decide +kernel)
theorem q_instanceMethod_X1_restart : (Jvm.Cond.instanceMethod ({ cls := "StreamEnd$Incoming", name := "restart", desc := "()V" } : Jvm.MethodName)) ∈ se_all := se_in 486 (by decide +kernel) (by decide +kernel)
theorem qX5_f35 : (Jvm.Cond.fieldLink "StreamEnd" (35 : Nat) "StreamEnd" "watch" "LStreamEnd$Watch;") ∈ se_all := se_in 255 (by decide +kernel) (by decide +kernel)
theorem q_ini_StreamEnd_Watch : (Jvm.Cond.initialized "StreamEnd$Watch") ∈ se_all := se_in 5 (by decide +kernel) (by decide +kernel)
theorem q_code_X4_restart : (Jvm.Cond.code ({ cls := "StreamEnd$Watch", name := "restart", desc := "()V" } : Jvm.MethodName) prog_6_method_2_code (1 : Nat) (Option.none : Option Jvm.ClassFile.FieldType)) ∈ se_all := se_in 491 (by decide +kernel) (by decide +kernel)
theorem q_instanceMethod_X4_restart : (Jvm.Cond.instanceMethod ({ cls := "StreamEnd$Watch", name := "restart", desc := "()V" } : Jvm.MethodName)) ∈ se_all := se_in 490 (by decide +kernel) (by decide +kernel)
theorem q_code_X0_restart : (Jvm.Cond.code ({ cls := "StreamEnd$Due", name := "restart", desc := "()V" } : Jvm.MethodName) prog_2_method_2_code (1 : Nat) (Option.none : Option Jvm.ClassFile.FieldType)) ∈ se_all := se_in 495 (by decide +kernel) (by decide +kernel)
theorem q_instanceMethod_X0_restart : (Jvm.Cond.instanceMethod ({ cls := "StreamEnd$Due", name := "restart", desc := "()V" } : Jvm.MethodName)) ∈ se_all := se_in 494 (by decide +kernel) (by decide +kernel)
theorem qX5_f63 : (Jvm.Cond.fieldLink "StreamEnd" (63 : Nat) "StreamEnd" "beganListening" "Z") ∈ se_all := se_in 261 (by decide +kernel) (by decide +kernel)
theorem q_ini_StreamEnd : (Jvm.Cond.initialized "StreamEnd") ∈ se_all := se_in 1 (by decide +kernel) (by decide +kernel)
theorem q_code_X5_openIsDue : (Jvm.Cond.code ({ cls := "StreamEnd", name := "openIsDue", desc := "()V" } : Jvm.MethodName) prog_1_method_24_code (1 : Nat) (Option.none : Option Jvm.ClassFile.FieldType)) ∈ se_all := se_in 503 (by decide +kernel) (by decide +kernel)
theorem q_instanceMethod_X5_openIsDue : (Jvm.Cond.instanceMethod ({ cls := "StreamEnd", name := "openIsDue", desc := "()V" } : Jvm.MethodName)) ∈ se_all := se_in 502 (by decide +kernel) (by decide +kernel)
theorem qX5_m293 : (Jvm.Cond.methodLink "StreamEnd" (293 : Nat) ({ cls := "StreamEnd", name := "openIsDue", desc := "()V" } : Jvm.MethodName)) ∈ se_all := se_in 500 (by decide +kernel) (by decide +kernel)
theorem q_code_X5_isEnded : (Jvm.Cond.code ({ cls := "StreamEnd", name := "isEnded", desc := "()Z" } : Jvm.MethodName) prog_1_method_20_code (1 : Nat) (Option.some Jvm.ClassFile.FieldType.boolean)) ∈ se_all := se_in 404 (by decide +kernel) (by decide +kernel)
theorem q_instanceMethod_X5_isEnded : (Jvm.Cond.instanceMethod ({ cls := "StreamEnd", name := "isEnded", desc := "()Z" } : Jvm.MethodName)) ∈ se_all := se_in 403 (by decide +kernel) (by decide +kernel)
theorem qX5_m69 : (Jvm.Cond.methodLink "StreamEnd" (69 : Nat) ({ cls := "StreamEnd", name := "isEnded", desc := "()Z" } : Jvm.MethodName)) ∈ se_all := se_in 401 (by decide +kernel) (by decide +kernel)
theorem q_code_X5_startStream : (Jvm.Cond.code ({ cls := "StreamEnd", name := "startStream", desc := "(IZ)V" } : Jvm.MethodName) prog_1_method_23_code (3 : Nat) (Option.none : Option Jvm.ClassFile.FieldType)) ∈ se_all := se_in 475 (by decide +kernel) (by decide +kernel)
theorem q_instanceMethod_X5_startStream : (Jvm.Cond.instanceMethod ({ cls := "StreamEnd", name := "startStream", desc := "(IZ)V" } : Jvm.MethodName)) ∈ se_all := se_in 474 (by decide +kernel) (by decide +kernel)
theorem qX5_m80 : (Jvm.Cond.methodLink "StreamEnd" (80 : Nat) ({ cls := "StreamEnd", name := "startStream", desc := "(IZ)V" } : Jvm.MethodName)) ∈ se_all := se_in 472 (by decide +kernel) (by decide +kernel)
theorem qX5_c73 : (Jvm.Cond.classLink "StreamEnd" (73 : Nat) "java/lang/IllegalStateException") ∈ se_all := se_in 405 (by decide +kernel) (by decide +kernel)
theorem q_ini_java_lang_IllegalStateException : (Jvm.Cond.initialized "java/lang/IllegalStateException") ∈ se_all := se_in 12 (by decide +kernel) (by decide +kernel)
theorem q_code_X2_unsent : (Jvm.Cond.code ({ cls := "StreamEnd$Outgoing", name := "unsent", desc := "()I" } : Jvm.MethodName) prog_4_method_5_code (1 : Nat) (Option.some Jvm.ClassFile.FieldType.int)) ∈ se_all := se_in 358 (by decide +kernel) (by decide +kernel)
theorem q_instanceMethod_X2_unsent : (Jvm.Cond.instanceMethod ({ cls := "StreamEnd$Outgoing", name := "unsent", desc := "()I" } : Jvm.MethodName)) ∈ se_all := se_in 357 (by decide +kernel) (by decide +kernel)
theorem qX2_m48 : (Jvm.Cond.methodLink "StreamEnd$Outgoing" (48 : Nat) ({ cls := "StreamEnd$Outgoing", name := "unsent", desc := "()I" } : Jvm.MethodName)) ∈ se_all := se_in 355 (by decide +kernel) (by decide +kernel)
theorem qX4_f41 : (Jvm.Cond.fieldLink "StreamEnd$Watch" (41 : Nat) "StreamEnd$Watch" "time" "I") ∈ se_all := se_in 125 (by decide +kernel) (by decide +kernel)
theorem q_code_X5_maySendNew : (Jvm.Cond.code ({ cls := "StreamEnd", name := "maySendNew", desc := "()Z" } : Jvm.MethodName) prog_1_method_21_code (1 : Nat) (Option.some Jvm.ClassFile.FieldType.boolean)) ∈ se_all := se_in 346 (by decide +kernel) (by decide +kernel)
theorem q_instanceMethod_X5_maySendNew : (Jvm.Cond.instanceMethod ({ cls := "StreamEnd", name := "maySendNew", desc := "()Z" } : Jvm.MethodName)) ∈ se_all := se_in 345 (by decide +kernel) (by decide +kernel)
theorem qX5_m185 : (Jvm.Cond.methodLink "StreamEnd" (185 : Nat) ({ cls := "StreamEnd", name := "maySendNew", desc := "()Z" } : Jvm.MethodName)) ∈ se_all := se_in 343 (by decide +kernel) (by decide +kernel)
theorem q_code_X2_hasUnthanked : (Jvm.Cond.code ({ cls := "StreamEnd$Outgoing", name := "hasUnthanked", desc := "()Z" } : Jvm.MethodName) prog_4_method_7_code (1 : Nat) (Option.some Jvm.ClassFile.FieldType.boolean)) ∈ se_all := se_in 550 (by decide +kernel) (by decide +kernel)
theorem q_instanceMethod_X2_hasUnthanked : (Jvm.Cond.instanceMethod ({ cls := "StreamEnd$Outgoing", name := "hasUnthanked", desc := "()Z" } : Jvm.MethodName)) ∈ se_all := se_in 549 (by decide +kernel) (by decide +kernel)
theorem q_code_X2_hasNew : (Jvm.Cond.code ({ cls := "StreamEnd$Outgoing", name := "hasNew", desc := "()Z" } : Jvm.MethodName) prog_4_method_6_code (1 : Nat) (Option.some Jvm.ClassFile.FieldType.boolean)) ∈ se_all := se_in 554 (by decide +kernel) (by decide +kernel)
theorem q_instanceMethod_X2_hasNew : (Jvm.Cond.instanceMethod ({ cls := "StreamEnd$Outgoing", name := "hasNew", desc := "()Z" } : Jvm.MethodName)) ∈ se_all := se_in 553 (by decide +kernel) (by decide +kernel)
theorem q_code_X4_setAlarm : (Jvm.Cond.code ({ cls := "StreamEnd$Watch", name := "setAlarm", desc := "()V" } : Jvm.MethodName) prog_6_method_3_code (1 : Nat) (Option.none : Option Jvm.ClassFile.FieldType)) ∈ se_all := se_in 335 (by decide +kernel) (by decide +kernel)
theorem q_instanceMethod_X4_setAlarm : (Jvm.Cond.instanceMethod ({ cls := "StreamEnd$Watch", name := "setAlarm", desc := "()V" } : Jvm.MethodName)) ∈ se_all := se_in 334 (by decide +kernel) (by decide +kernel)
theorem qX2_f9 : (Jvm.Cond.fieldLink "StreamEnd$Outgoing" (9 : Nat) "StreamEnd$Outgoing" "row" "[B") ∈ se_all := se_in 30 (by decide +kernel) (by decide +kernel)
theorem q_code_X5_watchClosedWindow : (Jvm.Cond.code ({ cls := "StreamEnd", name := "watchClosedWindow", desc := "()V" } : Jvm.MethodName) prog_1_method_30_code (1 : Nat) (Option.none : Option Jvm.ClassFile.FieldType)) ∈ se_all := se_in 546 (by decide +kernel) (by decide +kernel)
theorem q_instanceMethod_X5_watchClosedWindow : (Jvm.Cond.instanceMethod ({ cls := "StreamEnd", name := "watchClosedWindow", desc := "()V" } : Jvm.MethodName)) ∈ se_all := se_in 545 (by decide +kernel) (by decide +kernel)
theorem qX5_m116 : (Jvm.Cond.methodLink "StreamEnd" (116 : Nat) ({ cls := "StreamEnd", name := "watchClosedWindow", desc := "()V" } : Jvm.MethodName)) ∈ se_all := se_in 543 (by decide +kernel) (by decide +kernel)
theorem q_code_X5_byteOf : (Jvm.Cond.code ({ cls := "StreamEnd", name := "byteOf", desc := "(JII)B" } : Jvm.MethodName) prog_1_method_17_code (4 : Nat) (Option.some Jvm.ClassFile.FieldType.byte)) ∈ se_all := se_in 538 (by decide +kernel) (by decide +kernel)
theorem q_static_X5_byteOf : (Jvm.Cond.static ({ cls := "StreamEnd", name := "byteOf", desc := "(JII)B" } : Jvm.MethodName)) ∈ se_all := se_in 537 (by decide +kernel) (by decide +kernel)
theorem qX5_m108 : (Jvm.Cond.methodLink "StreamEnd" (108 : Nat) ({ cls := "StreamEnd", name := "byteOf", desc := "(JII)B" } : Jvm.MethodName)) ∈ se_all := se_in 536 (by decide +kernel) (by decide +kernel)
theorem q_code_X2_append : (Jvm.Cond.code ({ cls := "StreamEnd$Outgoing", name := "append", desc := "(B)V" } : Jvm.MethodName) prog_4_method_4_code (2 : Nat) (Option.none : Option Jvm.ClassFile.FieldType)) ∈ se_all := se_in 542 (by decide +kernel) (by decide +kernel)
theorem q_instanceMethod_X2_append : (Jvm.Cond.instanceMethod ({ cls := "StreamEnd$Outgoing", name := "append", desc := "(B)V" } : Jvm.MethodName)) ∈ se_all := se_in 541 (by decide +kernel) (by decide +kernel)
theorem q_code_X5_isHandful : (Jvm.Cond.code ({ cls := "StreamEnd", name := "isHandful", desc := "(I)Z" } : Jvm.MethodName) prog_1_method_15_code (1 : Nat) (Option.some Jvm.ClassFile.FieldType.boolean)) ∈ se_all := se_in 514 (by decide +kernel) (by decide +kernel)
theorem q_static_X5_isHandful : (Jvm.Cond.static ({ cls := "StreamEnd", name := "isHandful", desc := "(I)Z" } : Jvm.MethodName)) ∈ se_all := se_in 513 (by decide +kernel) (by decide +kernel)
theorem qX5_m84 : (Jvm.Cond.methodLink "StreamEnd" (84 : Nat) ({ cls := "StreamEnd", name := "isHandful", desc := "(I)Z" } : Jvm.MethodName)) ∈ se_all := se_in 512 (by decide +kernel) (by decide +kernel)
theorem q_code_X2_space : (Jvm.Cond.code ({ cls := "StreamEnd$Outgoing", name := "space", desc := "()I" } : Jvm.MethodName) prog_4_method_3_code (1 : Nat) (Option.some Jvm.ClassFile.FieldType.int)) ∈ se_all := se_in 535 (by decide +kernel) (by decide +kernel)
theorem q_instanceMethod_X2_space : (Jvm.Cond.instanceMethod ({ cls := "StreamEnd$Outgoing", name := "space", desc := "()I" } : Jvm.MethodName)) ∈ se_all := se_in 534 (by decide +kernel) (by decide +kernel)
theorem qX5_m102 : (Jvm.Cond.methodLink "StreamEnd" (102 : Nat) ({ cls := "java/lang/Math", name := "min", desc := "(II)I" } : Jvm.MethodName)) ∈ se_all := se_in 340 (by decide +kernel) (by decide +kernel)
theorem q_static_Math_min : (Jvm.Cond.static ({ cls := "java/lang/Math", name := "min", desc := "(II)I" } : Jvm.MethodName)) ∈ se_all := se_in 341 (by decide +kernel) (by decide +kernel)
theorem q_code_Math_min : (Jvm.Cond.code ({ cls := "java/lang/Math", name := "min", desc := "(II)I" } : Jvm.MethodName) prog_13_method_69_code (2 : Nat) (Option.some Jvm.ClassFile.FieldType.int)) ∈ se_all := se_in 342 (by decide +kernel) (by decide +kernel)
theorem q_ini_java_lang_Math : (Jvm.Cond.initialized "java/lang/Math") ∈ se_all := se_in 14 (by decide +kernel) (by decide +kernel)
theorem qX5_c88 : (Jvm.Cond.classLink "StreamEnd" (88 : Nat) "java/lang/IllegalArgumentException") ∈ se_all := se_in 515 (by decide +kernel) (by decide +kernel)
theorem q_ini_java_lang_IllegalArgumentException : (Jvm.Cond.initialized "java/lang/IllegalArgumentException") ∈ se_all := se_in 13 (by decide +kernel) (by decide +kernel)
theorem q_code_X1_room : (Jvm.Cond.code ({ cls := "StreamEnd$Incoming", name := "room", desc := "()I" } : Jvm.MethodName) prog_3_method_4_code (1 : Nat) (Option.some Jvm.ClassFile.FieldType.int)) ∈ se_all := se_in 315 (by decide +kernel) (by decide +kernel)
theorem q_instanceMethod_X1_room : (Jvm.Cond.instanceMethod ({ cls := "StreamEnd$Incoming", name := "room", desc := "()I" } : Jvm.MethodName)) ∈ se_all := se_in 314 (by decide +kernel) (by decide +kernel)
theorem q_code_X1_takeByte : (Jvm.Cond.code ({ cls := "StreamEnd$Incoming", name := "takeByte", desc := "()I" } : Jvm.MethodName) prog_3_method_10_code (3 : Nat) (Option.some Jvm.ClassFile.FieldType.int)) ∈ se_all := se_in 570 (by decide +kernel) (by decide +kernel)
theorem q_instanceMethod_X1_takeByte : (Jvm.Cond.instanceMethod ({ cls := "StreamEnd$Incoming", name := "takeByte", desc := "()I" } : Jvm.MethodName)) ∈ se_all := se_in 569 (by decide +kernel) (by decide +kernel)
theorem q_code_X5_mayTakeBytes : (Jvm.Cond.code ({ cls := "StreamEnd", name := "mayTakeBytes", desc := "()Z" } : Jvm.MethodName) prog_1_method_22_code (1 : Nat) (Option.some Jvm.ClassFile.FieldType.boolean)) ∈ se_all := se_in 574 (by decide +kernel) (by decide +kernel)
theorem q_instanceMethod_X5_mayTakeBytes : (Jvm.Cond.instanceMethod ({ cls := "StreamEnd", name := "mayTakeBytes", desc := "()Z" } : Jvm.MethodName)) ∈ se_all := se_in 573 (by decide +kernel) (by decide +kernel)
theorem qX5_m308 : (Jvm.Cond.methodLink "StreamEnd" (308 : Nat) ({ cls := "StreamEnd", name := "mayTakeBytes", desc := "()Z" } : Jvm.MethodName)) ∈ se_all := se_in 571 (by decide +kernel) (by decide +kernel)
theorem q_code_X5_readByte : (Jvm.Cond.code ({ cls := "StreamEnd", name := "readByte", desc := "()I" } : Jvm.MethodName) prog_1_method_27_code (4 : Nat) (Option.some Jvm.ClassFile.FieldType.int)) ∈ se_all := se_in 566 (by decide +kernel) (by decide +kernel)
theorem q_instanceMethod_X5_readByte : (Jvm.Cond.instanceMethod ({ cls := "StreamEnd", name := "readByte", desc := "()I" } : Jvm.MethodName)) ∈ se_all := se_in 565 (by decide +kernel) (by decide +kernel)
theorem qX5_m122 : (Jvm.Cond.methodLink "StreamEnd" (122 : Nat) ({ cls := "StreamEnd", name := "readByte", desc := "()I" } : Jvm.MethodName)) ∈ se_all := se_in 563 (by decide +kernel) (by decide +kernel)
theorem qX5_f13 : (Jvm.Cond.fieldLink "StreamEnd" (13 : Nat) "StreamEnd" "quiet" "I") ∈ se_all := se_in 252 (by decide +kernel) (by decide +kernel)
theorem qX5_f66 : (Jvm.Cond.fieldLink "StreamEnd" (66 : Nat) "StreamEnd" "quietEnd" "I") ∈ se_all := se_in 262 (by decide +kernel) (by decide +kernel)
theorem q_code_X5_beginQuiet : (Jvm.Cond.code ({ cls := "StreamEnd", name := "beginQuiet", desc := "()V" } : Jvm.MethodName) prog_1_method_26_code (1 : Nat) (Option.none : Option Jvm.ClassFile.FieldType)) ∈ se_all := se_in 592 (by decide +kernel) (by decide +kernel)
theorem q_instanceMethod_X5_beginQuiet : (Jvm.Cond.instanceMethod ({ cls := "StreamEnd", name := "beginQuiet", desc := "()V" } : Jvm.MethodName)) ∈ se_all := se_in 591 (by decide +kernel) (by decide +kernel)
theorem qX5_m302 : (Jvm.Cond.methodLink "StreamEnd" (302 : Nat) ({ cls := "StreamEnd", name := "beginQuiet", desc := "()V" } : Jvm.MethodName)) ∈ se_all := se_in 589 (by decide +kernel) (by decide +kernel)
theorem q_code_X5_halt : (Jvm.Cond.code ({ cls := "StreamEnd", name := "halt", desc := "(I)V" } : Jvm.MethodName) prog_1_method_25_code (2 : Nat) (Option.none : Option Jvm.ClassFile.FieldType)) ∈ se_all := se_in 587 (by decide +kernel) (by decide +kernel)
theorem q_instanceMethod_X5_halt : (Jvm.Cond.instanceMethod ({ cls := "StreamEnd", name := "halt", desc := "(I)V" } : Jvm.MethodName)) ∈ se_all := se_in 586 (by decide +kernel) (by decide +kernel)
theorem qX5_m132 : (Jvm.Cond.methodLink "StreamEnd" (132 : Nat) ({ cls := "StreamEnd", name := "halt", desc := "(I)V" } : Jvm.MethodName)) ∈ se_all := se_in 584 (by decide +kernel) (by decide +kernel)
theorem qX0_f28 : (Jvm.Cond.fieldLink "StreamEnd$Due" (28 : Nat) "StreamEnd$Due" "reset" "Z") ∈ se_all := se_in 173 (by decide +kernel) (by decide +kernel)
theorem qX0_f31 : (Jvm.Cond.fieldLink "StreamEnd$Due" (31 : Nat) "StreamEnd$Due" "resetFlags" "I") ∈ se_all := se_in 175 (by decide +kernel) (by decide +kernel)
theorem qX0_f35 : (Jvm.Cond.fieldLink "StreamEnd$Due" (35 : Nat) "StreamEnd$Due" "resetNumber" "I") ∈ se_all := se_in 177 (by decide +kernel) (by decide +kernel)
theorem qX0_f38 : (Jvm.Cond.fieldLink "StreamEnd$Due" (38 : Nat) "StreamEnd$Due" "resetThanked" "I") ∈ se_all := se_in 179 (by decide +kernel) (by decide +kernel)
theorem q_code_X0_resetIs : (Jvm.Cond.code ({ cls := "StreamEnd$Due", name := "resetIs", desc := "(III)V" } : Jvm.MethodName) prog_2_method_4_code (4 : Nat) (Option.none : Option Jvm.ClassFile.FieldType)) ∈ se_all := se_in 604 (by decide +kernel) (by decide +kernel)
theorem q_instanceMethod_X0_resetIs : (Jvm.Cond.instanceMethod ({ cls := "StreamEnd$Due", name := "resetIs", desc := "(III)V" } : Jvm.MethodName)) ∈ se_all := se_in 603 (by decide +kernel) (by decide +kernel)
theorem qX4_m47 : (Jvm.Cond.methodLink "StreamEnd$Watch" (47 : Nat) ({ cls := "java/lang/Math", name := "min", desc := "(II)I" } : Jvm.MethodName)) ∈ se_all := se_in 632 (by decide +kernel) (by decide +kernel)
theorem q_code_X4_doubleWait : (Jvm.Cond.code ({ cls := "StreamEnd$Watch", name := "doubleWait", desc := "()V" } : Jvm.MethodName) prog_6_method_6_code (1 : Nat) (Option.none : Option Jvm.ClassFile.FieldType)) ∈ se_all := se_in 631 (by decide +kernel) (by decide +kernel)
theorem q_instanceMethod_X4_doubleWait : (Jvm.Cond.instanceMethod ({ cls := "StreamEnd$Watch", name := "doubleWait", desc := "()V" } : Jvm.MethodName)) ∈ se_all := se_in 630 (by decide +kernel) (by decide +kernel)
theorem q_code_X5_takeAlarm : (Jvm.Cond.code ({ cls := "StreamEnd", name := "takeAlarm", desc := "()V" } : Jvm.MethodName) prog_1_method_29_code (1 : Nat) (Option.none : Option Jvm.ClassFile.FieldType)) ∈ se_all := se_in 627 (by decide +kernel) (by decide +kernel)
theorem q_instanceMethod_X5_takeAlarm : (Jvm.Cond.instanceMethod ({ cls := "StreamEnd", name := "takeAlarm", desc := "()V" } : Jvm.MethodName)) ∈ se_all := se_in 626 (by decide +kernel) (by decide +kernel)
theorem qX5_m314 : (Jvm.Cond.methodLink "StreamEnd" (314 : Nat) ({ cls := "StreamEnd", name := "takeAlarm", desc := "()V" } : Jvm.MethodName)) ∈ se_all := se_in 624 (by decide +kernel) (by decide +kernel)
theorem q_code_X4_ticksToAlarm : (Jvm.Cond.code ({ cls := "StreamEnd$Watch", name := "ticksToAlarm", desc := "()I" } : Jvm.MethodName) prog_6_method_5_code (1 : Nat) (Option.some Jvm.ClassFile.FieldType.int)) ∈ se_all := se_in 618 (by decide +kernel) (by decide +kernel)
theorem q_instanceMethod_X4_ticksToAlarm : (Jvm.Cond.instanceMethod ({ cls := "StreamEnd$Watch", name := "ticksToAlarm", desc := "()I" } : Jvm.MethodName)) ∈ se_all := se_in 617 (by decide +kernel) (by decide +kernel)
theorem qX5_m161 : (Jvm.Cond.methodLink "StreamEnd" (161 : Nat) ({ cls := "java/lang/Math", name := "max", desc := "(II)I" } : Jvm.MethodName)) ∈ se_all := se_in 619 (by decide +kernel) (by decide +kernel)
theorem q_static_Math_max : (Jvm.Cond.static ({ cls := "java/lang/Math", name := "max", desc := "(II)I" } : Jvm.MethodName)) ∈ se_all := se_in 365 (by decide +kernel) (by decide +kernel)
theorem q_code_Math_max : (Jvm.Cond.code ({ cls := "java/lang/Math", name := "max", desc := "(II)I" } : Jvm.MethodName) prog_13_method_65_code (2 : Nat) (Option.some Jvm.ClassFile.FieldType.int)) ∈ se_all := se_in 366 (by decide +kernel) (by decide +kernel)
theorem q_code_X5_takeEvents : (Jvm.Cond.code ({ cls := "StreamEnd", name := "takeEvents", desc := "()V" } : Jvm.MethodName) prog_1_method_28_code (1 : Nat) (Option.none : Option Jvm.ClassFile.FieldType)) ∈ se_all := se_in 623 (by decide +kernel) (by decide +kernel)
theorem q_instanceMethod_X5_takeEvents : (Jvm.Cond.instanceMethod ({ cls := "StreamEnd", name := "takeEvents", desc := "()V" } : Jvm.MethodName)) ∈ se_all := se_in 622 (by decide +kernel) (by decide +kernel)
theorem qX5_m164 : (Jvm.Cond.methodLink "StreamEnd" (164 : Nat) ({ cls := "StreamEnd", name := "takeEvents", desc := "()V" } : Jvm.MethodName)) ∈ se_all := se_in 620 (by decide +kernel) (by decide +kernel)
theorem qX5_k149 : (Jvm.Cond.constant "StreamEnd" (149 : Nat) (1000000 : Int32)) ∈ se_all := se_in 613 (by decide +kernel) (by decide +kernel)
theorem qX3_f15 : (Jvm.Cond.fieldLink "StreamEnd$Segment" (15 : Nat) "StreamEnd$Segment" "flags" "I") ∈ se_all := se_in 223 (by decide +kernel) (by decide +kernel)
theorem qX3_f19 : (Jvm.Cond.fieldLink "StreamEnd$Segment" (19 : Nat) "StreamEnd$Segment" "number" "I") ∈ se_all := se_in 225 (by decide +kernel) (by decide +kernel)
theorem qX3_f22 : (Jvm.Cond.fieldLink "StreamEnd$Segment" (22 : Nat) "StreamEnd$Segment" "thanked" "I") ∈ se_all := se_in 229 (by decide +kernel) (by decide +kernel)
theorem qX3_f25 : (Jvm.Cond.fieldLink "StreamEnd$Segment" (25 : Nat) "StreamEnd$Segment" "window" "I") ∈ se_all := se_in 232 (by decide +kernel) (by decide +kernel)
theorem qX3_f28 : (Jvm.Cond.fieldLink "StreamEnd$Segment" (28 : Nat) "StreamEnd$Segment" "largest" "I") ∈ se_all := se_in 234 (by decide +kernel) (by decide +kernel)
theorem qX3_f31 : (Jvm.Cond.fieldLink "StreamEnd$Segment" (31 : Nat) "StreamEnd$Segment" "count" "I") ∈ se_all := se_in 219 (by decide +kernel) (by decide +kernel)
theorem qX3_f9 : (Jvm.Cond.fieldLink "StreamEnd$Segment" (9 : Nat) "StreamEnd$Segment" "bytes" "[B") ∈ se_all := se_in 216 (by decide +kernel) (by decide +kernel)
theorem q_ini_StreamEnd_Segment : (Jvm.Cond.initialized "StreamEnd$Segment") ∈ se_all := se_in 7 (by decide +kernel) (by decide +kernel)
theorem q_code_X3_append : (Jvm.Cond.code ({ cls := "StreamEnd$Segment", name := "append", desc := "(B)V" } : Jvm.MethodName) prog_5_method_5_code (2 : Nat) (Option.none : Option Jvm.ClassFile.FieldType)) ∈ se_all := se_in 323 (by decide +kernel) (by decide +kernel)
theorem q_instanceMethod_X3_append : (Jvm.Cond.instanceMethod ({ cls := "StreamEnd$Segment", name := "append", desc := "(B)V" } : Jvm.MethodName)) ∈ se_all := se_in 322 (by decide +kernel) (by decide +kernel)
theorem qX5_f53 : (Jvm.Cond.fieldLink "StreamEnd" (53 : Nat) "StreamEnd" "made" "LStreamEnd$Segment;") ∈ se_all := se_in 258 (by decide +kernel) (by decide +kernel)
theorem q_code_X3_headIs : (Jvm.Cond.code ({ cls := "StreamEnd$Segment", name := "headIs", desc := "(IIIII)V" } : Jvm.MethodName) prog_5_method_2_code (6 : Nat) (Option.none : Option Jvm.ClassFile.FieldType)) ∈ se_all := se_in 299 (by decide +kernel) (by decide +kernel)
theorem q_instanceMethod_X3_headIs : (Jvm.Cond.instanceMethod ({ cls := "StreamEnd$Segment", name := "headIs", desc := "(IIIII)V" } : Jvm.MethodName)) ∈ se_all := se_in 298 (by decide +kernel) (by decide +kernel)
theorem q_code_X2_copyTo : (Jvm.Cond.code ({ cls := "StreamEnd$Outgoing", name := "copyTo", desc := "(LStreamEnd$Segment;II)V" } : Jvm.MethodName) prog_4_method_13_code (5 : Nat) (Option.none : Option Jvm.ClassFile.FieldType)) ∈ se_all := se_in 319 (by decide +kernel) (by decide +kernel)
theorem q_instanceMethod_X2_copyTo : (Jvm.Cond.instanceMethod ({ cls := "StreamEnd$Outgoing", name := "copyTo", desc := "(LStreamEnd$Segment;II)V" } : Jvm.MethodName)) ∈ se_all := se_in 318 (by decide +kernel) (by decide +kernel)
theorem qX4_m44 : (Jvm.Cond.methodLink "StreamEnd$Watch" (44 : Nat) ({ cls := "StreamEnd$Watch", name := "setAlarm", desc := "()V" } : Jvm.MethodName)) ∈ se_all := se_in 332 (by decide +kernel) (by decide +kernel)
theorem q_code_X5_make : (Jvm.Cond.code ({ cls := "StreamEnd", name := "make", desc := "(IIII)V" } : Jvm.MethodName) prog_1_method_36_code (7 : Nat) (Option.none : Option Jvm.ClassFile.FieldType)) ∈ se_all := se_in 311 (by decide +kernel) (by decide +kernel)
theorem q_instanceMethod_X5_make : (Jvm.Cond.instanceMethod ({ cls := "StreamEnd", name := "make", desc := "(IIII)V" } : Jvm.MethodName)) ∈ se_all := se_in 310 (by decide +kernel) (by decide +kernel)
theorem qX5_m209 : (Jvm.Cond.methodLink "StreamEnd" (209 : Nat) ({ cls := "StreamEnd", name := "make", desc := "(IIII)V" } : Jvm.MethodName)) ∈ se_all := se_in 308 (by decide +kernel) (by decide +kernel)
theorem q_code_X2_wasSent : (Jvm.Cond.code ({ cls := "StreamEnd$Outgoing", name := "wasSent", desc := "(IZ)V" } : Jvm.MethodName) prog_4_method_14_code (3 : Nat) (Option.none : Option Jvm.ClassFile.FieldType)) ∈ se_all := se_in 380 (by decide +kernel) (by decide +kernel)
theorem q_instanceMethod_X2_wasSent : (Jvm.Cond.instanceMethod ({ cls := "StreamEnd$Outgoing", name := "wasSent", desc := "(IZ)V" } : Jvm.MethodName)) ∈ se_all := se_in 379 (by decide +kernel) (by decide +kernel)
theorem q_code_X4_measure : (Jvm.Cond.code ({ cls := "StreamEnd$Watch", name := "measure", desc := "(I)V" } : Jvm.MethodName) prog_6_method_7_code (2 : Nat) (Option.none : Option Jvm.ClassFile.FieldType)) ∈ se_all := se_in 327 (by decide +kernel) (by decide +kernel)
theorem q_instanceMethod_X4_measure : (Jvm.Cond.instanceMethod ({ cls := "StreamEnd$Watch", name := "measure", desc := "(I)V" } : Jvm.MethodName)) ∈ se_all := se_in 326 (by decide +kernel) (by decide +kernel)
theorem q_code_X4_setAlarmIfOff : (Jvm.Cond.code ({ cls := "StreamEnd$Watch", name := "setAlarmIfOff", desc := "()V" } : Jvm.MethodName) prog_6_method_4_code (1 : Nat) (Option.none : Option Jvm.ClassFile.FieldType)) ∈ se_all := se_in 331 (by decide +kernel) (by decide +kernel)
theorem q_instanceMethod_X4_setAlarmIfOff : (Jvm.Cond.instanceMethod ({ cls := "StreamEnd$Watch", name := "setAlarmIfOff", desc := "()V" } : Jvm.MethodName)) ∈ se_all := se_in 330 (by decide +kernel) (by decide +kernel)
theorem q_code_X5_makeNew : (Jvm.Cond.code ({ cls := "StreamEnd", name := "makeNew", desc := "(IZ)V" } : Jvm.MethodName) prog_1_method_35_code (3 : Nat) (Option.none : Option Jvm.ClassFile.FieldType)) ∈ se_all := se_in 376 (by decide +kernel) (by decide +kernel)
theorem q_instanceMethod_X5_makeNew : (Jvm.Cond.instanceMethod ({ cls := "StreamEnd", name := "makeNew", desc := "(IZ)V" } : Jvm.MethodName)) ∈ se_all := se_in 375 (by decide +kernel) (by decide +kernel)
theorem qX5_m197 : (Jvm.Cond.methodLink "StreamEnd" (197 : Nat) ({ cls := "StreamEnd", name := "makeNew", desc := "(IZ)V" } : Jvm.MethodName)) ∈ se_all := se_in 373 (by decide +kernel) (by decide +kernel)
theorem q_code_X2_allowed : (Jvm.Cond.code ({ cls := "StreamEnd$Outgoing", name := "allowed", desc := "()I" } : Jvm.MethodName) prog_4_method_9_code (1 : Nat) (Option.some Jvm.ClassFile.FieldType.int)) ∈ se_all := se_in 362 (by decide +kernel) (by decide +kernel)
theorem q_instanceMethod_X2_allowed : (Jvm.Cond.instanceMethod ({ cls := "StreamEnd$Outgoing", name := "allowed", desc := "()I" } : Jvm.MethodName)) ∈ se_all := se_in 361 (by decide +kernel) (by decide +kernel)
theorem qX2_m59 : (Jvm.Cond.methodLink "StreamEnd$Outgoing" (59 : Nat) ({ cls := "StreamEnd$Outgoing", name := "allowed", desc := "()I" } : Jvm.MethodName)) ∈ se_all := se_in 359 (by decide +kernel) (by decide +kernel)
theorem qX2_m62 : (Jvm.Cond.methodLink "StreamEnd$Outgoing" (62 : Nat) ({ cls := "java/lang/Math", name := "min", desc := "(II)I" } : Jvm.MethodName)) ∈ se_all := se_in 363 (by decide +kernel) (by decide +kernel)
theorem qX2_m68 : (Jvm.Cond.methodLink "StreamEnd$Outgoing" (68 : Nat) ({ cls := "java/lang/Math", name := "max", desc := "(II)I" } : Jvm.MethodName)) ∈ se_all := se_in 364 (by decide +kernel) (by decide +kernel)
theorem q_code_X2_newBytes : (Jvm.Cond.code ({ cls := "StreamEnd$Outgoing", name := "newBytes", desc := "()I" } : Jvm.MethodName) prog_4_method_10_code (1 : Nat) (Option.some Jvm.ClassFile.FieldType.int)) ∈ se_all := se_in 354 (by decide +kernel) (by decide +kernel)
theorem q_instanceMethod_X2_newBytes : (Jvm.Cond.instanceMethod ({ cls := "StreamEnd$Outgoing", name := "newBytes", desc := "()I" } : Jvm.MethodName)) ∈ se_all := se_in 353 (by decide +kernel) (by decide +kernel)
theorem qX2_m71 : (Jvm.Cond.methodLink "StreamEnd$Outgoing" (71 : Nat) ({ cls := "StreamEnd$Outgoing", name := "newBytes", desc := "()I" } : Jvm.MethodName)) ∈ se_all := se_in 351 (by decide +kernel) (by decide +kernel)
theorem q_code_X2_newHasLast : (Jvm.Cond.code ({ cls := "StreamEnd$Outgoing", name := "newHasLast", desc := "()Z" } : Jvm.MethodName) prog_4_method_11_code (2 : Nat) (Option.some Jvm.ClassFile.FieldType.boolean)) ∈ se_all := se_in 370 (by decide +kernel) (by decide +kernel)
theorem q_instanceMethod_X2_newHasLast : (Jvm.Cond.instanceMethod ({ cls := "StreamEnd$Outgoing", name := "newHasLast", desc := "()Z" } : Jvm.MethodName)) ∈ se_all := se_in 369 (by decide +kernel) (by decide +kernel)
theorem qX2_m74 : (Jvm.Cond.methodLink "StreamEnd$Outgoing" (74 : Nat) ({ cls := "StreamEnd$Outgoing", name := "newHasLast", desc := "()Z" } : Jvm.MethodName)) ∈ se_all := se_in 367 (by decide +kernel) (by decide +kernel)
theorem q_code_X3_has : (Jvm.Cond.code ({ cls := "StreamEnd$Segment", name := "has", desc := "(I)Z" } : Jvm.MethodName) prog_5_method_3_code (2 : Nat) (Option.some Jvm.ClassFile.FieldType.boolean)) ∈ se_all := se_in 303 (by decide +kernel) (by decide +kernel)
theorem q_instanceMethod_X3_has : (Jvm.Cond.instanceMethod ({ cls := "StreamEnd$Segment", name := "has", desc := "(I)Z" } : Jvm.MethodName)) ∈ se_all := se_in 302 (by decide +kernel) (by decide +kernel)
theorem qX5_f56 : (Jvm.Cond.fieldLink "StreamEnd" (56 : Nat) "StreamEnd" "anyMade" "Z") ∈ se_all := se_in 259 (by decide +kernel) (by decide +kernel)
theorem q_code_X5_makeProbe : (Jvm.Cond.code ({ cls := "StreamEnd", name := "makeProbe", desc := "()V" } : Jvm.MethodName) prog_1_method_34_code (2 : Nat) (Option.none : Option Jvm.ClassFile.FieldType)) ∈ se_all := se_in 384 (by decide +kernel) (by decide +kernel)
theorem q_instanceMethod_X5_makeProbe : (Jvm.Cond.instanceMethod ({ cls := "StreamEnd", name := "makeProbe", desc := "()V" } : Jvm.MethodName)) ∈ se_all := se_in 383 (by decide +kernel) (by decide +kernel)
theorem qX5_m203 : (Jvm.Cond.methodLink "StreamEnd" (203 : Nat) ({ cls := "StreamEnd", name := "makeProbe", desc := "()V" } : Jvm.MethodName)) ∈ se_all := se_in 381 (by decide +kernel) (by decide +kernel)
theorem q_code_X2_maySend : (Jvm.Cond.code ({ cls := "StreamEnd$Outgoing", name := "maySend", desc := "()Z" } : Jvm.MethodName) prog_4_method_12_code (1 : Nat) (Option.some Jvm.ClassFile.FieldType.boolean)) ∈ se_all := se_in 350 (by decide +kernel) (by decide +kernel)
theorem q_instanceMethod_X2_maySend : (Jvm.Cond.instanceMethod ({ cls := "StreamEnd$Outgoing", name := "maySend", desc := "()Z" } : Jvm.MethodName)) ∈ se_all := se_in 349 (by decide +kernel) (by decide +kernel)
theorem q_code_X5_makeAgain : (Jvm.Cond.code ({ cls := "StreamEnd", name := "makeAgain", desc := "()V" } : Jvm.MethodName) prog_1_method_33_code (3 : Nat) (Option.none : Option Jvm.ClassFile.FieldType)) ∈ se_all := se_in 339 (by decide +kernel) (by decide +kernel)
theorem q_instanceMethod_X5_makeAgain : (Jvm.Cond.instanceMethod ({ cls := "StreamEnd", name := "makeAgain", desc := "()V" } : Jvm.MethodName)) ∈ se_all := se_in 338 (by decide +kernel) (by decide +kernel)
theorem qX5_m182 : (Jvm.Cond.methodLink "StreamEnd" (182 : Nat) ({ cls := "StreamEnd", name := "makeAgain", desc := "()V" } : Jvm.MethodName)) ∈ se_all := se_in 336 (by decide +kernel) (by decide +kernel)
theorem q_code_X5_makeOpen : (Jvm.Cond.code ({ cls := "StreamEnd", name := "makeOpen", desc := "()V" } : Jvm.MethodName) prog_1_method_32_code (1 : Nat) (Option.none : Option Jvm.ClassFile.FieldType)) ∈ se_all := se_in 307 (by decide +kernel) (by decide +kernel)
theorem q_instanceMethod_X5_makeOpen : (Jvm.Cond.instanceMethod ({ cls := "StreamEnd", name := "makeOpen", desc := "()V" } : Jvm.MethodName)) ∈ se_all := se_in 306 (by decide +kernel) (by decide +kernel)
theorem qX5_m176 : (Jvm.Cond.methodLink "StreamEnd" (176 : Nat) ({ cls := "StreamEnd", name := "makeOpen", desc := "()V" } : Jvm.MethodName)) ∈ se_all := se_in 304 (by decide +kernel) (by decide +kernel)
theorem q_code_X5_makeReset : (Jvm.Cond.code ({ cls := "StreamEnd", name := "makeReset", desc := "()V" } : Jvm.MethodName) prog_1_method_31_code (1 : Nat) (Option.none : Option Jvm.ClassFile.FieldType)) ∈ se_all := se_in 295 (by decide +kernel) (by decide +kernel)
theorem q_instanceMethod_X5_makeReset : (Jvm.Cond.instanceMethod ({ cls := "StreamEnd", name := "makeReset", desc := "()V" } : Jvm.MethodName)) ∈ se_all := se_in 294 (by decide +kernel) (by decide +kernel)
theorem qX5_m170 : (Jvm.Cond.methodLink "StreamEnd" (170 : Nat) ({ cls := "StreamEnd", name := "makeReset", desc := "()V" } : Jvm.MethodName)) ∈ se_all := se_in 292 (by decide +kernel) (by decide +kernel)
theorem qX5_c233 : (Jvm.Cond.classLink "StreamEnd" (233 : Nat) "java/lang/IndexOutOfBoundsException") ∈ se_all := se_in 650 (by decide +kernel) (by decide +kernel)
theorem q_ini_java_lang_IndexOutOfBoundsException : (Jvm.Cond.initialized "java/lang/IndexOutOfBoundsException") ∈ se_all := se_in 15 (by decide +kernel) (by decide +kernel)
theorem qX5_f49 : (Jvm.Cond.fieldLink "StreamEnd" (49 : Nat) "StreamEnd" "arriving" "LStreamEnd$Segment;") ∈ se_all := se_in 257 (by decide +kernel) (by decide +kernel)
theorem qX5_k284 : (Jvm.Cond.constant "StreamEnd" (284 : Nat) (65535 : Int32)) ∈ se_all := se_in 686 (by decide +kernel) (by decide +kernel)
theorem qX3_m34 : (Jvm.Cond.methodLink "StreamEnd$Segment" (34 : Nat) ({ cls := "StreamEnd$Segment", name := "has", desc := "(I)Z" } : Jvm.MethodName)) ∈ se_all := se_in 700 (by decide +kernel) (by decide +kernel)
theorem qX1_m44 : (Jvm.Cond.methodLink "StreamEnd$Incoming" (44 : Nat) ({ cls := "StreamEnd$Incoming", name := "room", desc := "()I" } : Jvm.MethodName)) ∈ se_all := se_in 745 (by decide +kernel) (by decide +kernel)
theorem q_code_X5_isBefore : (Jvm.Cond.code ({ cls := "StreamEnd", name := "isBefore", desc := "(II)Z" } : Jvm.MethodName) prog_1_method_18_code (2 : Nat) (Option.some Jvm.ClassFile.FieldType.boolean)) ∈ se_all := se_in 760 (by decide +kernel) (by decide +kernel)
theorem q_static_X5_isBefore : (Jvm.Cond.static ({ cls := "StreamEnd", name := "isBefore", desc := "(II)Z" } : Jvm.MethodName)) ∈ se_all := se_in 759 (by decide +kernel) (by decide +kernel)
theorem q_code_X5_isNotBehind : (Jvm.Cond.code ({ cls := "StreamEnd", name := "isNotBehind", desc := "(II)Z" } : Jvm.MethodName) prog_1_method_19_code (2 : Nat) (Option.some Jvm.ClassFile.FieldType.boolean)) ∈ se_all := se_in 732 (by decide +kernel) (by decide +kernel)
theorem q_static_X5_isNotBehind : (Jvm.Cond.static ({ cls := "StreamEnd", name := "isNotBehind", desc := "(II)Z" } : Jvm.MethodName)) ∈ se_all := se_in 731 (by decide +kernel) (by decide +kernel)
theorem qX5_m408 : (Jvm.Cond.methodLink "StreamEnd" (408 : Nat) ({ cls := "StreamEnd", name := "isBefore", desc := "(II)Z" } : Jvm.MethodName)) ∈ se_all := se_in 758 (by decide +kernel) (by decide +kernel)
theorem q_code_X2_windowIsOlderThan : (Jvm.Cond.code ({ cls := "StreamEnd$Outgoing", name := "windowIsOlderThan", desc := "(LStreamEnd$Segment;)Z" } : Jvm.MethodName) prog_4_method_17_code (2 : Nat) (Option.some Jvm.ClassFile.FieldType.boolean)) ∈ se_all := se_in 768 (by decide +kernel) (by decide +kernel)
theorem q_instanceMethod_X2_windowIsOlderThan : (Jvm.Cond.instanceMethod ({ cls := "StreamEnd$Outgoing", name := "windowIsOlderThan", desc := "(LStreamEnd$Segment;)Z" } : Jvm.MethodName)) ∈ se_all := se_in 767 (by decide +kernel) (by decide +kernel)
theorem qX2_m52 : (Jvm.Cond.methodLink "StreamEnd$Outgoing" (52 : Nat) ({ cls := "StreamEnd$Outgoing", name := "hasUnthanked", desc := "()Z" } : Jvm.MethodName)) ∈ se_all := se_in 775 (by decide +kernel) (by decide +kernel)
theorem qX1_m53 : (Jvm.Cond.methodLink "StreamEnd$Incoming" (53 : Nat) ({ cls := "java/lang/Math", name := "max", desc := "(II)I" } : Jvm.MethodName)) ∈ se_all := se_in 788 (by decide +kernel) (by decide +kernel)
theorem qX1_m62 : (Jvm.Cond.methodLink "StreamEnd$Incoming" (62 : Nat) ({ cls := "java/lang/Math", name := "min", desc := "(II)I" } : Jvm.MethodName)) ∈ se_all := se_in 789 (by decide +kernel) (by decide +kernel)
theorem q_code_X1_isAtLast : (Jvm.Cond.code ({ cls := "StreamEnd$Incoming", name := "isAtLast", desc := "()Z" } : Jvm.MethodName) prog_3_method_9_code (1 : Nat) (Option.some Jvm.ClassFile.FieldType.boolean)) ∈ se_all := se_in 801 (by decide +kernel) (by decide +kernel)
theorem q_instanceMethod_X1_isAtLast : (Jvm.Cond.instanceMethod ({ cls := "StreamEnd$Incoming", name := "isAtLast", desc := "()Z" } : Jvm.MethodName)) ∈ se_all := se_in 800 (by decide +kernel) (by decide +kernel)
theorem qX1_m69 : (Jvm.Cond.methodLink "StreamEnd$Incoming" (69 : Nat) ({ cls := "StreamEnd$Incoming", name := "isAtLast", desc := "()Z" } : Jvm.MethodName)) ∈ se_all := se_in 798 (by decide +kernel) (by decide +kernel)
theorem q_code_X1_goOn : (Jvm.Cond.code ({ cls := "StreamEnd$Incoming", name := "goOn", desc := "()V" } : Jvm.MethodName) prog_3_method_8_code (1 : Nat) (Option.none : Option Jvm.ClassFile.FieldType)) ∈ se_all := se_in 797 (by decide +kernel) (by decide +kernel)
theorem q_instanceMethod_X1_goOn : (Jvm.Cond.instanceMethod ({ cls := "StreamEnd$Incoming", name := "goOn", desc := "()V" } : Jvm.MethodName)) ∈ se_all := se_in 796 (by decide +kernel) (by decide +kernel)
theorem q_code_X5_peerLeaves : (Jvm.Cond.code ({ cls := "StreamEnd", name := "peerLeaves", desc := "()V" } : Jvm.MethodName) prog_1_method_49_code (1 : Nat) (Option.none : Option Jvm.ClassFile.FieldType)) ∈ se_all := se_in 805 (by decide +kernel) (by decide +kernel)
theorem q_instanceMethod_X5_peerLeaves : (Jvm.Cond.instanceMethod ({ cls := "StreamEnd", name := "peerLeaves", desc := "()V" } : Jvm.MethodName)) ∈ se_all := se_in 804 (by decide +kernel) (by decide +kernel)
theorem qX5_m443 : (Jvm.Cond.methodLink "StreamEnd" (443 : Nat) ({ cls := "StreamEnd", name := "peerLeaves", desc := "()V" } : Jvm.MethodName)) ∈ se_all := se_in 802 (by decide +kernel) (by decide +kernel)
theorem q_code_X1_store : (Jvm.Cond.code ({ cls := "StreamEnd$Incoming", name := "store", desc := "(LStreamEnd$Segment;)V" } : Jvm.MethodName) prog_3_method_6_code (7 : Nat) (Option.none : Option Jvm.ClassFile.FieldType)) ∈ se_all := se_in 787 (by decide +kernel) (by decide +kernel)
theorem q_instanceMethod_X1_store : (Jvm.Cond.instanceMethod ({ cls := "StreamEnd$Incoming", name := "store", desc := "(LStreamEnd$Segment;)V" } : Jvm.MethodName)) ∈ se_all := se_in 786 (by decide +kernel) (by decide +kernel)
theorem q_code_X1_noteLast : (Jvm.Cond.code ({ cls := "StreamEnd$Incoming", name := "noteLast", desc := "(I)V" } : Jvm.MethodName) prog_3_method_7_code (3 : Nat) (Option.none : Option Jvm.ClassFile.FieldType)) ∈ se_all := se_in 793 (by decide +kernel) (by decide +kernel)
theorem q_instanceMethod_X1_noteLast : (Jvm.Cond.instanceMethod ({ cls := "StreamEnd$Incoming", name := "noteLast", desc := "(I)V" } : Jvm.MethodName)) ∈ se_all := se_in 792 (by decide +kernel) (by decide +kernel)
theorem qX4_m67 : (Jvm.Cond.methodLink "StreamEnd$Watch" (67 : Nat) ({ cls := "java/lang/Math", name := "max", desc := "(II)I" } : Jvm.MethodName)) ∈ se_all := se_in 740 (by decide +kernel) (by decide +kernel)
theorem qX4_m63 : (Jvm.Cond.methodLink "StreamEnd$Watch" (63 : Nat) ({ cls := "java/lang/Math", name := "abs", desc := "(I)I" } : Jvm.MethodName)) ∈ se_all := se_in 737 (by decide +kernel) (by decide +kernel)
theorem q_static_Math_abs : (Jvm.Cond.static ({ cls := "java/lang/Math", name := "abs", desc := "(I)I" } : Jvm.MethodName)) ∈ se_all := se_in 738 (by decide +kernel) (by decide +kernel)
theorem q_code_Math_abs : (Jvm.Cond.code ({ cls := "java/lang/Math", name := "abs", desc := "(I)I" } : Jvm.MethodName) prog_13_method_59_code (1 : Nat) (Option.some Jvm.ClassFile.FieldType.int)) ∈ se_all := se_in 739 (by decide +kernel) (by decide +kernel)
theorem q_code_X4_learn : (Jvm.Cond.code ({ cls := "StreamEnd$Watch", name := "learn", desc := "(I)V" } : Jvm.MethodName) prog_6_method_9_code (3 : Nat) (Option.none : Option Jvm.ClassFile.FieldType)) ∈ se_all := se_in 736 (by decide +kernel) (by decide +kernel)
theorem q_instanceMethod_X4_learn : (Jvm.Cond.instanceMethod ({ cls := "StreamEnd$Watch", name := "learn", desc := "(I)V" } : Jvm.MethodName)) ∈ se_all := se_in 735 (by decide +kernel) (by decide +kernel)
theorem qX4_m59 : (Jvm.Cond.methodLink "StreamEnd$Watch" (59 : Nat) ({ cls := "StreamEnd$Watch", name := "learn", desc := "(I)V" } : Jvm.MethodName)) ∈ se_all := se_in 733 (by decide +kernel) (by decide +kernel)
theorem q_code_X2_thank : (Jvm.Cond.code ({ cls := "StreamEnd$Outgoing", name := "thank", desc := "(I)V" } : Jvm.MethodName) prog_4_method_15_code (3 : Nat) (Option.none : Option Jvm.ClassFile.FieldType)) ∈ se_all := se_in 725 (by decide +kernel) (by decide +kernel)
theorem q_instanceMethod_X2_thank : (Jvm.Cond.instanceMethod ({ cls := "StreamEnd$Outgoing", name := "thank", desc := "(I)V" } : Jvm.MethodName)) ∈ se_all := se_in 724 (by decide +kernel) (by decide +kernel)
theorem q_code_X4_endMeasure : (Jvm.Cond.code ({ cls := "StreamEnd$Watch", name := "endMeasure", desc := "(I)V" } : Jvm.MethodName) prog_6_method_8_code (2 : Nat) (Option.none : Option Jvm.ClassFile.FieldType)) ∈ se_all := se_in 729 (by decide +kernel) (by decide +kernel)
theorem q_instanceMethod_X4_endMeasure : (Jvm.Cond.instanceMethod ({ cls := "StreamEnd$Watch", name := "endMeasure", desc := "(I)V" } : Jvm.MethodName)) ∈ se_all := se_in 728 (by decide +kernel) (by decide +kernel)
theorem q_code_X3_size : (Jvm.Cond.code ({ cls := "StreamEnd$Segment", name := "size", desc := "()I" } : Jvm.MethodName) prog_5_method_4_code (1 : Nat) (Option.some Jvm.ClassFile.FieldType.int)) ∈ se_all := se_in 699 (by decide +kernel) (by decide +kernel)
theorem q_instanceMethod_X3_size : (Jvm.Cond.instanceMethod ({ cls := "StreamEnd$Segment", name := "size", desc := "()I" } : Jvm.MethodName)) ∈ se_all := se_in 698 (by decide +kernel) (by decide +kernel)
theorem q_code_X5_takeWindow : (Jvm.Cond.code ({ cls := "StreamEnd", name := "takeWindow", desc := "()V" } : Jvm.MethodName) prog_1_method_46_code (2 : Nat) (Option.none : Option Jvm.ClassFile.FieldType)) ∈ se_all := se_in 764 (by decide +kernel) (by decide +kernel)
theorem q_instanceMethod_X5_takeWindow : (Jvm.Cond.instanceMethod ({ cls := "StreamEnd", name := "takeWindow", desc := "()V" } : Jvm.MethodName)) ∈ se_all := se_in 763 (by decide +kernel) (by decide +kernel)
theorem qX5_m411 : (Jvm.Cond.methodLink "StreamEnd" (411 : Nat) ({ cls := "StreamEnd", name := "takeWindow", desc := "()V" } : Jvm.MethodName)) ∈ se_all := se_in 761 (by decide +kernel) (by decide +kernel)
theorem q_code_X2_lastIsThanked : (Jvm.Cond.code ({ cls := "StreamEnd$Outgoing", name := "lastIsThanked", desc := "()Z" } : Jvm.MethodName) prog_4_method_8_code (1 : Nat) (Option.some Jvm.ClassFile.FieldType.boolean)) ∈ se_all := se_in 774 (by decide +kernel) (by decide +kernel)
theorem q_instanceMethod_X2_lastIsThanked : (Jvm.Cond.instanceMethod ({ cls := "StreamEnd$Outgoing", name := "lastIsThanked", desc := "()Z" } : Jvm.MethodName)) ∈ se_all := se_in 773 (by decide +kernel) (by decide +kernel)
theorem q_code_X5_takeBytes : (Jvm.Cond.code ({ cls := "StreamEnd", name := "takeBytes", desc := "()V" } : Jvm.MethodName) prog_1_method_48_code (2 : Nat) (Option.none : Option Jvm.ClassFile.FieldType)) ∈ se_all := se_in 783 (by decide +kernel) (by decide +kernel)
theorem q_instanceMethod_X5_takeBytes : (Jvm.Cond.instanceMethod ({ cls := "StreamEnd", name := "takeBytes", desc := "()V" } : Jvm.MethodName)) ∈ se_all := se_in 782 (by decide +kernel) (by decide +kernel)
theorem qX5_m420 : (Jvm.Cond.methodLink "StreamEnd" (420 : Nat) ({ cls := "StreamEnd", name := "takeBytes", desc := "()V" } : Jvm.MethodName)) ∈ se_all := se_in 780 (by decide +kernel) (by decide +kernel)
theorem q_code_X5_leave : (Jvm.Cond.code ({ cls := "StreamEnd", name := "leave", desc := "()V" } : Jvm.MethodName) prog_1_method_47_code (1 : Nat) (Option.none : Option Jvm.ClassFile.FieldType)) ∈ se_all := se_in 779 (by decide +kernel) (by decide +kernel)
theorem q_instanceMethod_X5_leave : (Jvm.Cond.instanceMethod ({ cls := "StreamEnd", name := "leave", desc := "()V" } : Jvm.MethodName)) ∈ se_all := se_in 778 (by decide +kernel) (by decide +kernel)
theorem qX5_m417 : (Jvm.Cond.methodLink "StreamEnd" (417 : Nat) ({ cls := "StreamEnd", name := "leave", desc := "()V" } : Jvm.MethodName)) ∈ se_all := se_in 776 (by decide +kernel) (by decide +kernel)
theorem q_code_X5_takeThanked : (Jvm.Cond.code ({ cls := "StreamEnd", name := "takeThanked", desc := "()V" } : Jvm.MethodName) prog_1_method_45_code (1 : Nat) (Option.none : Option Jvm.ClassFile.FieldType)) ∈ se_all := se_in 721 (by decide +kernel) (by decide +kernel)
theorem q_instanceMethod_X5_takeThanked : (Jvm.Cond.instanceMethod ({ cls := "StreamEnd", name := "takeThanked", desc := "()V" } : Jvm.MethodName)) ∈ se_all := se_in 720 (by decide +kernel) (by decide +kernel)
theorem qX5_m400 : (Jvm.Cond.methodLink "StreamEnd" (400 : Nat) ({ cls := "StreamEnd", name := "takeThanked", desc := "()V" } : Jvm.MethodName)) ∈ se_all := se_in 718 (by decide +kernel) (by decide +kernel)
theorem q_code_X5_answerWithReset : (Jvm.Cond.code ({ cls := "StreamEnd", name := "answerWithReset", desc := "()V" } : Jvm.MethodName) prog_1_method_38_code (1 : Nat) (Option.none : Option Jvm.ClassFile.FieldType)) ∈ se_all := se_in 695 (by decide +kernel) (by decide +kernel)
theorem q_instanceMethod_X5_answerWithReset : (Jvm.Cond.instanceMethod ({ cls := "StreamEnd", name := "answerWithReset", desc := "()V" } : Jvm.MethodName)) ∈ se_all := se_in 694 (by decide +kernel) (by decide +kernel)
theorem qX5_m372 : (Jvm.Cond.methodLink "StreamEnd" (372 : Nat) ({ cls := "StreamEnd", name := "answerWithReset", desc := "()V" } : Jvm.MethodName)) ∈ se_all := se_in 692 (by decide +kernel) (by decide +kernel)
theorem q_code_X1_open : (Jvm.Cond.code ({ cls := "StreamEnd$Incoming", name := "open", desc := "(I)V" } : Jvm.MethodName) prog_3_method_3_code (2 : Nat) (Option.none : Option Jvm.ClassFile.FieldType)) ∈ se_all := se_in 712 (by decide +kernel) (by decide +kernel)
theorem q_instanceMethod_X1_open : (Jvm.Cond.instanceMethod ({ cls := "StreamEnd$Incoming", name := "open", desc := "(I)V" } : Jvm.MethodName)) ∈ se_all := se_in 711 (by decide +kernel) (by decide +kernel)
theorem q_code_X5_takeOpen : (Jvm.Cond.code ({ cls := "StreamEnd", name := "takeOpen", desc := "()V" } : Jvm.MethodName) prog_1_method_41_code (3 : Nat) (Option.none : Option Jvm.ClassFile.FieldType)) ∈ se_all := se_in 708 (by decide +kernel) (by decide +kernel)
theorem q_instanceMethod_X5_takeOpen : (Jvm.Cond.instanceMethod ({ cls := "StreamEnd", name := "takeOpen", desc := "()V" } : Jvm.MethodName)) ∈ se_all := se_in 707 (by decide +kernel) (by decide +kernel)
theorem qX5_m397 : (Jvm.Cond.methodLink "StreamEnd" (397 : Nat) ({ cls := "StreamEnd", name := "takeOpen", desc := "()V" } : Jvm.MethodName)) ∈ se_all := se_in 705 (by decide +kernel) (by decide +kernel)
theorem q_code_X1_fits : (Jvm.Cond.code ({ cls := "StreamEnd$Incoming", name := "fits", desc := "(II)Z" } : Jvm.MethodName) prog_3_method_5_code (4 : Nat) (Option.some Jvm.ClassFile.FieldType.boolean)) ∈ se_all := se_in 744 (by decide +kernel) (by decide +kernel)
theorem q_instanceMethod_X1_fits : (Jvm.Cond.instanceMethod ({ cls := "StreamEnd$Incoming", name := "fits", desc := "(II)Z" } : Jvm.MethodName)) ∈ se_all := se_in 743 (by decide +kernel) (by decide +kernel)
theorem q_code_X5_takeInStream : (Jvm.Cond.code ({ cls := "StreamEnd", name := "takeInStream", desc := "()V" } : Jvm.MethodName) prog_1_method_44_code (1 : Nat) (Option.none : Option Jvm.ClassFile.FieldType)) ∈ se_all := se_in 757 (by decide +kernel) (by decide +kernel)
theorem q_instanceMethod_X5_takeInStream : (Jvm.Cond.instanceMethod ({ cls := "StreamEnd", name := "takeInStream", desc := "()V" } : Jvm.MethodName)) ∈ se_all := se_in 756 (by decide +kernel) (by decide +kernel)
theorem qX5_m394 : (Jvm.Cond.methodLink "StreamEnd" (394 : Nat) ({ cls := "StreamEnd", name := "takeInStream", desc := "()V" } : Jvm.MethodName)) ∈ se_all := se_in 754 (by decide +kernel) (by decide +kernel)
theorem q_code_X5_takeReset : (Jvm.Cond.code ({ cls := "StreamEnd", name := "takeReset", desc := "()V" } : Jvm.MethodName) prog_1_method_43_code (1 : Nat) (Option.none : Option Jvm.ClassFile.FieldType)) ∈ se_all := se_in 753 (by decide +kernel) (by decide +kernel)
theorem q_instanceMethod_X5_takeReset : (Jvm.Cond.instanceMethod ({ cls := "StreamEnd", name := "takeReset", desc := "()V" } : Jvm.MethodName)) ∈ se_all := se_in 752 (by decide +kernel) (by decide +kernel)
theorem qX5_m391 : (Jvm.Cond.methodLink "StreamEnd" (391 : Nat) ({ cls := "StreamEnd", name := "takeReset", desc := "()V" } : Jvm.MethodName)) ∈ se_all := se_in 750 (by decide +kernel) (by decide +kernel)
theorem q_code_X5_takeMisfit : (Jvm.Cond.code ({ cls := "StreamEnd", name := "takeMisfit", desc := "()V" } : Jvm.MethodName) prog_1_method_42_code (1 : Nat) (Option.none : Option Jvm.ClassFile.FieldType)) ∈ se_all := se_in 749 (by decide +kernel) (by decide +kernel)
theorem q_instanceMethod_X5_takeMisfit : (Jvm.Cond.instanceMethod ({ cls := "StreamEnd", name := "takeMisfit", desc := "()V" } : Jvm.MethodName)) ∈ se_all := se_in 748 (by decide +kernel) (by decide +kernel)
theorem qX5_m388 : (Jvm.Cond.methodLink "StreamEnd" (388 : Nat) ({ cls := "StreamEnd", name := "takeMisfit", desc := "()V" } : Jvm.MethodName)) ∈ se_all := se_in 746 (by decide +kernel) (by decide +kernel)
theorem q_code_X5_takeWhenAsking : (Jvm.Cond.code ({ cls := "StreamEnd", name := "takeWhenAsking", desc := "()V" } : Jvm.MethodName) prog_1_method_40_code (2 : Nat) (Option.none : Option Jvm.ClassFile.FieldType)) ∈ se_all := se_in 717 (by decide +kernel) (by decide +kernel)
theorem q_instanceMethod_X5_takeWhenAsking : (Jvm.Cond.instanceMethod ({ cls := "StreamEnd", name := "takeWhenAsking", desc := "()V" } : Jvm.MethodName)) ∈ se_all := se_in 716 (by decide +kernel) (by decide +kernel)
theorem qX5_m378 : (Jvm.Cond.methodLink "StreamEnd" (378 : Nat) ({ cls := "StreamEnd", name := "takeWhenAsking", desc := "()V" } : Jvm.MethodName)) ∈ se_all := se_in 714 (by decide +kernel) (by decide +kernel)
theorem q_code_X5_takeWhenListening : (Jvm.Cond.code ({ cls := "StreamEnd", name := "takeWhenListening", desc := "()V" } : Jvm.MethodName) prog_1_method_39_code (1 : Nat) (Option.none : Option Jvm.ClassFile.FieldType)) ∈ se_all := se_in 704 (by decide +kernel) (by decide +kernel)
theorem q_instanceMethod_X5_takeWhenListening : (Jvm.Cond.instanceMethod ({ cls := "StreamEnd", name := "takeWhenListening", desc := "()V" } : Jvm.MethodName)) ∈ se_all := se_in 703 (by decide +kernel) (by decide +kernel)
theorem qX5_m375 : (Jvm.Cond.methodLink "StreamEnd" (375 : Nat) ({ cls := "StreamEnd", name := "takeWhenListening", desc := "()V" } : Jvm.MethodName)) ∈ se_all := se_in 701 (by decide +kernel) (by decide +kernel)
theorem q_code_X5_isWidth : (Jvm.Cond.code ({ cls := "StreamEnd", name := "isWidth", desc := "(I)Z" } : Jvm.MethodName) prog_1_method_16_code (1 : Nat) (Option.some Jvm.ClassFile.FieldType.boolean)) ∈ se_all := se_in 685 (by decide +kernel) (by decide +kernel)
theorem q_static_X5_isWidth : (Jvm.Cond.static ({ cls := "StreamEnd", name := "isWidth", desc := "(I)Z" } : Jvm.MethodName)) ∈ se_all := se_in 684 (by decide +kernel) (by decide +kernel)
theorem qX5_m247 : (Jvm.Cond.methodLink "StreamEnd" (247 : Nat) ({ cls := "StreamEnd", name := "isWidth", desc := "(I)Z" } : Jvm.MethodName)) ∈ se_all := se_in 683 (by decide +kernel) (by decide +kernel)
theorem q_code_X5_takeSegment : (Jvm.Cond.code ({ cls := "StreamEnd", name := "takeSegment", desc := "()V" } : Jvm.MethodName) prog_1_method_37_code (1 : Nat) (Option.none : Option Jvm.ClassFile.FieldType)) ∈ se_all := se_in 691 (by decide +kernel) (by decide +kernel)
theorem q_instanceMethod_X5_takeSegment : (Jvm.Cond.instanceMethod ({ cls := "StreamEnd", name := "takeSegment", desc := "()V" } : Jvm.MethodName)) ∈ se_all := se_in 690 (by decide +kernel) (by decide +kernel)
theorem qX5_m256 : (Jvm.Cond.methodLink "StreamEnd" (256 : Nat) ({ cls := "StreamEnd", name := "takeSegment", desc := "()V" } : Jvm.MethodName)) ∈ se_all := se_in 688 (by decide +kernel) (by decide +kernel)
set_option maxRecDepth 20000 in
theorem iwX0 : ∀ w ∈ u_ws RX0 TX0 9, w ∈ se_all := se_inL [191, 193, 195, 197, 199, 201, 203, 205, 207] (by decide +kernel) (by decide +kernel)
set_option maxRecDepth 20000 in
theorem iwX1 : ∀ w ∈ u_ws RX1 TX1 8, w ∈ se_all := se_inL [101, 103, 105, 107, 109, 111, 113, 115] (by decide +kernel) (by decide +kernel)
set_option maxRecDepth 20000 in
theorem iwX2 : ∀ w ∈ u_ws RX2 TX2 13, w ∈ se_all := se_inL [52, 54, 56, 58, 60, 62, 64, 66, 68, 70, 72, 74, 76] (by decide +kernel) (by decide +kernel)
set_option maxRecDepth 20000 in
theorem iwX3 : ∀ w ∈ u_ws RX3 TX3 7, w ∈ se_all := se_inL [236, 238, 240, 242, 244, 246, 248] (by decide +kernel) (by decide +kernel)
set_option maxRecDepth 20000 in
theorem iwX4 : ∀ w ∈ u_ws RX4 TX4 11, w ∈ se_all := se_inL [144, 146, 148, 150, 152, 154, 156, 158, 160, 162, 164] (by decide +kernel) (by decide +kernel)
set_option maxRecDepth 20000 in
theorem iwX5 : ∀ w ∈ u_ws RX5 TX5 12, w ∈ se_all := se_inL [263, 265, 267, 269, 271, 273, 275, 277, 279, 281, 283, 285] (by decide +kernel) (by decide +kernel)
set_option maxRecDepth 20000 in
theorem iwX6 : ∀ w ∈ u_ws RX6 TX6 50, w ∈ se_all := se_inL [870, 872, 874, 876, 878, 880, 882, 884, 886, 888, 890, 892, 894, 896, 898, 900, 902, 904, 906, 908, 910, 912, 914, 916, 918, 920, 922, 924, 926, 928, 930, 932, 934, 936, 938, 940, 942, 944, 946, 948, 950, 952, 954, 956, 958, 960, 962, 964, 966, 968] (by decide +kernel) (by decide +kernel)
theorem q_sel_X2_windowIs : Cond.selects RX2 yX2_windowIs yX2_windowIs ∈ se_all := se_inS (y := yX2_windowIs) (n := 13) (by decide +kernel)
theorem q_sel_X0_dropStream : Cond.selects RX0 yX0_dropStream yX0_dropStream ∈ se_all := se_inS (y := yX0_dropStream) (n := 9) (by decide +kernel)
theorem q_sel_X2_restart : Cond.selects RX2 yX2_restart yX2_restart ∈ se_all := se_inS (y := yX2_restart) (n := 13) (by decide +kernel)
theorem q_sel_X1_restart : Cond.selects RX1 yX1_restart yX1_restart ∈ se_all := se_inS (y := yX1_restart) (n := 8) (by decide +kernel)
theorem q_sel_X4_restart : Cond.selects RX4 yX4_restart yX4_restart ∈ se_all := se_inS (y := yX4_restart) (n := 11) (by decide +kernel)
theorem q_sel_X0_restart : Cond.selects RX0 yX0_restart yX0_restart ∈ se_all := se_inS (y := yX0_restart) (n := 9) (by decide +kernel)
theorem q_sel_X5_openIsDue : Cond.selects RX5 yX5_openIsDue yX5_openIsDue ∈ se_all := se_inS (y := yX5_openIsDue) (n := 12) (by decide +kernel)
theorem q_sel_X5_isEnded : Cond.selects RX5 yX5_isEnded yX5_isEnded ∈ se_all := se_inS (y := yX5_isEnded) (n := 12) (by decide +kernel)
theorem q_sel_X5_startStream : Cond.selects RX5 yX5_startStream yX5_startStream ∈ se_all := se_inS (y := yX5_startStream) (n := 12) (by decide +kernel)
theorem q_sel_X2_unsent : Cond.selects RX2 yX2_unsent yX2_unsent ∈ se_all := se_inS (y := yX2_unsent) (n := 13) (by decide +kernel)
theorem q_sel_X5_maySendNew : Cond.selects RX5 yX5_maySendNew yX5_maySendNew ∈ se_all := se_inS (y := yX5_maySendNew) (n := 12) (by decide +kernel)
theorem q_sel_X2_hasUnthanked : Cond.selects RX2 yX2_hasUnthanked yX2_hasUnthanked ∈ se_all := se_inS (y := yX2_hasUnthanked) (n := 13) (by decide +kernel)
theorem q_sel_X2_hasNew : Cond.selects RX2 yX2_hasNew yX2_hasNew ∈ se_all := se_inS (y := yX2_hasNew) (n := 13) (by decide +kernel)
theorem q_sel_X4_setAlarm : Cond.selects RX4 yX4_setAlarm yX4_setAlarm ∈ se_all := se_inS (y := yX4_setAlarm) (n := 11) (by decide +kernel)
theorem q_sel_X5_watchClosedWindow : Cond.selects RX5 yX5_watchClosedWindow yX5_watchClosedWindow ∈ se_all := se_inS (y := yX5_watchClosedWindow) (n := 12) (by decide +kernel)
theorem q_sel_X2_append : Cond.selects RX2 yX2_append yX2_append ∈ se_all := se_inS (y := yX2_append) (n := 13) (by decide +kernel)
theorem q_sel_X2_space : Cond.selects RX2 yX2_space yX2_space ∈ se_all := se_inS (y := yX2_space) (n := 13) (by decide +kernel)
theorem q_sel_X1_room : Cond.selects RX1 yX1_room yX1_room ∈ se_all := se_inS (y := yX1_room) (n := 8) (by decide +kernel)
theorem q_sel_X1_takeByte : Cond.selects RX1 yX1_takeByte yX1_takeByte ∈ se_all := se_inS (y := yX1_takeByte) (n := 8) (by decide +kernel)
theorem q_sel_X5_mayTakeBytes : Cond.selects RX5 yX5_mayTakeBytes yX5_mayTakeBytes ∈ se_all := se_inS (y := yX5_mayTakeBytes) (n := 12) (by decide +kernel)
theorem q_sel_X5_readByte : Cond.selects RX5 yX5_readByte yX5_readByte ∈ se_all := se_inS (y := yX5_readByte) (n := 12) (by decide +kernel)
theorem q_sel_X5_beginQuiet : Cond.selects RX5 yX5_beginQuiet yX5_beginQuiet ∈ se_all := se_inS (y := yX5_beginQuiet) (n := 12) (by decide +kernel)
theorem q_sel_X5_halt : Cond.selects RX5 yX5_halt yX5_halt ∈ se_all := se_inS (y := yX5_halt) (n := 12) (by decide +kernel)
theorem q_sel_X0_resetIs : Cond.selects RX0 yX0_resetIs yX0_resetIs ∈ se_all := se_inS (y := yX0_resetIs) (n := 9) (by decide +kernel)
theorem q_sel_X4_doubleWait : Cond.selects RX4 yX4_doubleWait yX4_doubleWait ∈ se_all := se_inS (y := yX4_doubleWait) (n := 11) (by decide +kernel)
theorem q_sel_X5_takeAlarm : Cond.selects RX5 yX5_takeAlarm yX5_takeAlarm ∈ se_all := se_inS (y := yX5_takeAlarm) (n := 12) (by decide +kernel)
theorem q_sel_X4_ticksToAlarm : Cond.selects RX4 yX4_ticksToAlarm yX4_ticksToAlarm ∈ se_all := se_inS (y := yX4_ticksToAlarm) (n := 11) (by decide +kernel)
theorem q_sel_X5_takeEvents : Cond.selects RX5 yX5_takeEvents yX5_takeEvents ∈ se_all := se_inS (y := yX5_takeEvents) (n := 12) (by decide +kernel)
theorem q_sel_X3_append : Cond.selects RX3 yX3_append yX3_append ∈ se_all := se_inS (y := yX3_append) (n := 7) (by decide +kernel)
theorem q_sel_X3_headIs : Cond.selects RX3 yX3_headIs yX3_headIs ∈ se_all := se_inS (y := yX3_headIs) (n := 7) (by decide +kernel)
theorem q_sel_X2_copyTo : Cond.selects RX2 yX2_copyTo yX2_copyTo ∈ se_all := se_inS (y := yX2_copyTo) (n := 13) (by decide +kernel)
theorem q_sel_X5_make : Cond.selects RX5 yX5_make yX5_make ∈ se_all := se_inS (y := yX5_make) (n := 12) (by decide +kernel)
theorem q_sel_X2_wasSent : Cond.selects RX2 yX2_wasSent yX2_wasSent ∈ se_all := se_inS (y := yX2_wasSent) (n := 13) (by decide +kernel)
theorem q_sel_X4_measure : Cond.selects RX4 yX4_measure yX4_measure ∈ se_all := se_inS (y := yX4_measure) (n := 11) (by decide +kernel)
theorem q_sel_X4_setAlarmIfOff : Cond.selects RX4 yX4_setAlarmIfOff yX4_setAlarmIfOff ∈ se_all := se_inS (y := yX4_setAlarmIfOff) (n := 11) (by decide +kernel)
theorem q_sel_X5_makeNew : Cond.selects RX5 yX5_makeNew yX5_makeNew ∈ se_all := se_inS (y := yX5_makeNew) (n := 12) (by decide +kernel)
theorem q_sel_X2_allowed : Cond.selects RX2 yX2_allowed yX2_allowed ∈ se_all := se_inS (y := yX2_allowed) (n := 13) (by decide +kernel)
theorem q_sel_X2_newBytes : Cond.selects RX2 yX2_newBytes yX2_newBytes ∈ se_all := se_inS (y := yX2_newBytes) (n := 13) (by decide +kernel)
theorem q_sel_X2_newHasLast : Cond.selects RX2 yX2_newHasLast yX2_newHasLast ∈ se_all := se_inS (y := yX2_newHasLast) (n := 13) (by decide +kernel)
theorem q_sel_X3_has : Cond.selects RX3 yX3_has yX3_has ∈ se_all := se_inS (y := yX3_has) (n := 7) (by decide +kernel)
theorem q_sel_X5_makeProbe : Cond.selects RX5 yX5_makeProbe yX5_makeProbe ∈ se_all := se_inS (y := yX5_makeProbe) (n := 12) (by decide +kernel)
theorem q_sel_X2_maySend : Cond.selects RX2 yX2_maySend yX2_maySend ∈ se_all := se_inS (y := yX2_maySend) (n := 13) (by decide +kernel)
theorem q_sel_X5_makeAgain : Cond.selects RX5 yX5_makeAgain yX5_makeAgain ∈ se_all := se_inS (y := yX5_makeAgain) (n := 12) (by decide +kernel)
theorem q_sel_X5_makeOpen : Cond.selects RX5 yX5_makeOpen yX5_makeOpen ∈ se_all := se_inS (y := yX5_makeOpen) (n := 12) (by decide +kernel)
theorem q_sel_X5_makeReset : Cond.selects RX5 yX5_makeReset yX5_makeReset ∈ se_all := se_inS (y := yX5_makeReset) (n := 12) (by decide +kernel)
theorem q_sel_X2_windowIsOlderThan : Cond.selects RX2 yX2_windowIsOlderThan yX2_windowIsOlderThan ∈ se_all := se_inS (y := yX2_windowIsOlderThan) (n := 13) (by decide +kernel)
theorem q_sel_X1_isAtLast : Cond.selects RX1 yX1_isAtLast yX1_isAtLast ∈ se_all := se_inS (y := yX1_isAtLast) (n := 8) (by decide +kernel)
theorem q_sel_X1_goOn : Cond.selects RX1 yX1_goOn yX1_goOn ∈ se_all := se_inS (y := yX1_goOn) (n := 8) (by decide +kernel)
theorem q_sel_X5_peerLeaves : Cond.selects RX5 yX5_peerLeaves yX5_peerLeaves ∈ se_all := se_inS (y := yX5_peerLeaves) (n := 12) (by decide +kernel)
theorem q_sel_X1_store : Cond.selects RX1 yX1_store yX1_store ∈ se_all := se_inS (y := yX1_store) (n := 8) (by decide +kernel)
theorem q_sel_X1_noteLast : Cond.selects RX1 yX1_noteLast yX1_noteLast ∈ se_all := se_inS (y := yX1_noteLast) (n := 8) (by decide +kernel)
theorem q_sel_X4_learn : Cond.selects RX4 yX4_learn yX4_learn ∈ se_all := se_inS (y := yX4_learn) (n := 11) (by decide +kernel)
theorem q_sel_X2_thank : Cond.selects RX2 yX2_thank yX2_thank ∈ se_all := se_inS (y := yX2_thank) (n := 13) (by decide +kernel)
theorem q_sel_X4_endMeasure : Cond.selects RX4 yX4_endMeasure yX4_endMeasure ∈ se_all := se_inS (y := yX4_endMeasure) (n := 11) (by decide +kernel)
theorem q_sel_X3_size : Cond.selects RX3 yX3_size yX3_size ∈ se_all := se_inS (y := yX3_size) (n := 7) (by decide +kernel)
theorem q_sel_X5_takeWindow : Cond.selects RX5 yX5_takeWindow yX5_takeWindow ∈ se_all := se_inS (y := yX5_takeWindow) (n := 12) (by decide +kernel)
theorem q_sel_X2_lastIsThanked : Cond.selects RX2 yX2_lastIsThanked yX2_lastIsThanked ∈ se_all := se_inS (y := yX2_lastIsThanked) (n := 13) (by decide +kernel)
theorem q_sel_X5_takeBytes : Cond.selects RX5 yX5_takeBytes yX5_takeBytes ∈ se_all := se_inS (y := yX5_takeBytes) (n := 12) (by decide +kernel)
theorem q_sel_X5_leave : Cond.selects RX5 yX5_leave yX5_leave ∈ se_all := se_inS (y := yX5_leave) (n := 12) (by decide +kernel)
theorem q_sel_X5_takeThanked : Cond.selects RX5 yX5_takeThanked yX5_takeThanked ∈ se_all := se_inS (y := yX5_takeThanked) (n := 12) (by decide +kernel)
theorem q_sel_X5_answerWithReset : Cond.selects RX5 yX5_answerWithReset yX5_answerWithReset ∈ se_all := se_inS (y := yX5_answerWithReset) (n := 12) (by decide +kernel)
theorem q_sel_X1_open : Cond.selects RX1 yX1_open yX1_open ∈ se_all := se_inS (y := yX1_open) (n := 8) (by decide +kernel)
theorem q_sel_X5_takeOpen : Cond.selects RX5 yX5_takeOpen yX5_takeOpen ∈ se_all := se_inS (y := yX5_takeOpen) (n := 12) (by decide +kernel)
theorem q_sel_X1_fits : Cond.selects RX1 yX1_fits yX1_fits ∈ se_all := se_inS (y := yX1_fits) (n := 8) (by decide +kernel)
theorem q_sel_X5_takeInStream : Cond.selects RX5 yX5_takeInStream yX5_takeInStream ∈ se_all := se_inS (y := yX5_takeInStream) (n := 12) (by decide +kernel)
theorem q_sel_X5_takeReset : Cond.selects RX5 yX5_takeReset yX5_takeReset ∈ se_all := se_inS (y := yX5_takeReset) (n := 12) (by decide +kernel)
theorem q_sel_X5_takeMisfit : Cond.selects RX5 yX5_takeMisfit yX5_takeMisfit ∈ se_all := se_inS (y := yX5_takeMisfit) (n := 12) (by decide +kernel)
theorem q_sel_X5_takeWhenAsking : Cond.selects RX5 yX5_takeWhenAsking yX5_takeWhenAsking ∈ se_all := se_inS (y := yX5_takeWhenAsking) (n := 12) (by decide +kernel)
theorem q_sel_X5_takeWhenListening : Cond.selects RX5 yX5_takeWhenListening yX5_takeWhenListening ∈ se_all := se_inS (y := yX5_takeWhenListening) (n := 12) (by decide +kernel)
theorem q_sel_X5_takeSegment : Cond.selects RX5 yX5_takeSegment yX5_takeSegment ∈ se_all := se_inS (y := yX5_takeSegment) (n := 12) (by decide +kernel)
def se_nest : List Cond := [(Jvm.Cond.fieldLinkNest "StreamEnd" (296 : Nat) "StreamEnd$Outgoing" "first" "I" "StreamEnd"),
  (Jvm.Cond.fieldLinkNest "StreamEnd" (137 : Nat) "StreamEnd$Outgoing" "next" "I" "StreamEnd"),
  (Jvm.Cond.fieldLinkNest "StreamEnd" (173 : Nat) "StreamEnd$Due" "open" "Z" "StreamEnd"),
  (Jvm.Cond.methodLinkNest "StreamEnd" (285 : Nat) ({ cls := "StreamEnd$Outgoing", name := "restart", desc := "(II)V" } : Jvm.MethodName) "StreamEnd"),
  (Jvm.Cond.methodLinkNest "StreamEnd" (289 : Nat) ({ cls := "StreamEnd$Incoming", name := "restart", desc := "()V" } : Jvm.MethodName) "StreamEnd"),
  (Jvm.Cond.methodLinkNest "StreamEnd" (291 : Nat) ({ cls := "StreamEnd$Watch", name := "restart", desc := "()V" } : Jvm.MethodName) "StreamEnd"),
  (Jvm.Cond.methodLinkNest "StreamEnd" (292 : Nat) ({ cls := "StreamEnd$Due", name := "restart", desc := "()V" } : Jvm.MethodName) "StreamEnd"),
  (Jvm.Cond.fieldLinkNest "StreamEnd" (155 : Nat) "StreamEnd$Watch" "alarmOn" "Z" "StreamEnd"),
  (Jvm.Cond.methodLinkNest "StreamEnd" (317 : Nat) ({ cls := "StreamEnd$Outgoing", name := "hasUnthanked", desc := "()Z" } : Jvm.MethodName) "StreamEnd"),
  (Jvm.Cond.fieldLinkNest "StreamEnd" (262 : Nat) "StreamEnd$Outgoing" "window" "I" "StreamEnd"),
  (Jvm.Cond.methodLinkNest "StreamEnd" (326 : Nat) ({ cls := "StreamEnd$Outgoing", name := "hasNew", desc := "()Z" } : Jvm.MethodName) "StreamEnd"),
  (Jvm.Cond.methodLinkNest "StreamEnd" (323 : Nat) ({ cls := "StreamEnd$Watch", name := "setAlarm", desc := "()V" } : Jvm.MethodName) "StreamEnd"),
  (Jvm.Cond.methodLinkNest "StreamEnd" (112 : Nat) ({ cls := "StreamEnd$Outgoing", name := "append", desc := "(B)V" } : Jvm.MethodName) "StreamEnd"),
  (Jvm.Cond.fieldLinkNest "StreamEnd" (93 : Nat) "StreamEnd$Outgoing" "closed" "Z" "StreamEnd"),
  (Jvm.Cond.methodLinkNest "StreamEnd" (98 : Nat) ({ cls := "StreamEnd$Outgoing", name := "space", desc := "()I" } : Jvm.MethodName) "StreamEnd"),
  (Jvm.Cond.fieldLinkNest "StreamEnd" (273 : Nat) "StreamEnd$Outgoing" "piece" "I" "StreamEnd"),
  (Jvm.Cond.methodLinkNest "StreamEnd" (263 : Nat) ({ cls := "StreamEnd$Incoming", name := "room", desc := "()I" } : Jvm.MethodName) "StreamEnd"),
  (Jvm.Cond.methodLinkNest "StreamEnd" (305 : Nat) ({ cls := "StreamEnd$Incoming", name := "takeByte", desc := "()I" } : Jvm.MethodName) "StreamEnd"),
  (Jvm.Cond.fieldLinkNest "StreamEnd" (206 : Nat) "StreamEnd$Due" "thanks" "Z" "StreamEnd"),
  (Jvm.Cond.fieldLinkNest "StreamEnd" (119 : Nat) "StreamEnd$Incoming" "readable" "I" "StreamEnd"),
  (Jvm.Cond.fieldLinkNest "StreamEnd" (125 : Nat) "StreamEnd$Incoming" "over" "Z" "StreamEnd"),
  (Jvm.Cond.fieldLinkNest "StreamEnd" (150 : Nat) "StreamEnd$Watch" "time" "I" "StreamEnd"),
  (Jvm.Cond.methodLinkNest "StreamEnd" (299 : Nat) ({ cls := "StreamEnd$Due", name := "dropStream", desc := "()V" } : Jvm.MethodName) "StreamEnd"),
  (Jvm.Cond.fieldLinkNest "StreamEnd" (140 : Nat) "StreamEnd$Incoming" "expected" "I" "StreamEnd"),
  (Jvm.Cond.methodLinkNest "StreamEnd" (143 : Nat) ({ cls := "StreamEnd$Due", name := "resetIs", desc := "(III)V" } : Jvm.MethodName) "StreamEnd"),
  (Jvm.Cond.methodLinkNest "StreamEnd" (320 : Nat) ({ cls := "StreamEnd$Watch", name := "doubleWait", desc := "()V" } : Jvm.MethodName) "StreamEnd"),
  (Jvm.Cond.fieldLinkNest "StreamEnd" (270 : Nat) "StreamEnd$Watch" "tries" "I" "StreamEnd"),
  (Jvm.Cond.fieldLinkNest "StreamEnd" (200 : Nat) "StreamEnd$Due" "probe" "Z" "StreamEnd"),
  (Jvm.Cond.fieldLinkNest "StreamEnd" (179 : Nat) "StreamEnd$Due" "again" "Z" "StreamEnd"),
  (Jvm.Cond.fieldLinkNest "StreamEnd" (311 : Nat) "StreamEnd$Watch" "alarmAt" "I" "StreamEnd"),
  (Jvm.Cond.methodLinkNest "StreamEnd" (158 : Nat) ({ cls := "StreamEnd$Watch", name := "ticksToAlarm", desc := "()I" } : Jvm.MethodName) "StreamEnd"),
  (Jvm.Cond.methodLinkNest "StreamEnd$Outgoing" (80 : Nat) ({ cls := "StreamEnd$Segment", name := "append", desc := "(B)V" } : Jvm.MethodName) "StreamEnd"),
  (Jvm.Cond.fieldLinkNest "StreamEnd$Outgoing" (77 : Nat) "StreamEnd$Segment" "count" "I" "StreamEnd"),
  (Jvm.Cond.fieldLinkNest "StreamEnd" (365 : Nat) "StreamEnd$Incoming" "opened" "Z" "StreamEnd"),
  (Jvm.Cond.methodLinkNest "StreamEnd" (252 : Nat) ({ cls := "StreamEnd$Segment", name := "headIs", desc := "(IIIII)V" } : Jvm.MethodName) "StreamEnd"),
  (Jvm.Cond.methodLinkNest "StreamEnd" (368 : Nat) ({ cls := "StreamEnd$Outgoing", name := "copyTo", desc := "(LStreamEnd$Segment;II)V" } : Jvm.MethodName) "StreamEnd"),
  (Jvm.Cond.fieldLinkNest "StreamEnd" (353 : Nat) "StreamEnd$Outgoing" "sent" "I" "StreamEnd"),
  (Jvm.Cond.methodLinkNest "StreamEnd" (362 : Nat) ({ cls := "StreamEnd$Outgoing", name := "wasSent", desc := "(IZ)V" } : Jvm.MethodName) "StreamEnd"),
  (Jvm.Cond.methodLinkNest "StreamEnd" (347 : Nat) ({ cls := "StreamEnd$Watch", name := "measure", desc := "(I)V" } : Jvm.MethodName) "StreamEnd"),
  (Jvm.Cond.methodLinkNest "StreamEnd" (350 : Nat) ({ cls := "StreamEnd$Watch", name := "setAlarmIfOff", desc := "()V" } : Jvm.MethodName) "StreamEnd"),
  (Jvm.Cond.methodLinkNest "StreamEnd" (359 : Nat) ({ cls := "StreamEnd$Outgoing", name := "unsent", desc := "()I" } : Jvm.MethodName) "StreamEnd"),
  (Jvm.Cond.fieldLinkNest "StreamEnd" (356 : Nat) "StreamEnd$Outgoing" "lastSent" "Z" "StreamEnd"),
  (Jvm.Cond.fieldLinkNest "StreamEnd" (259 : Nat) "StreamEnd$Outgoing" "oldest" "I" "StreamEnd"),
  (Jvm.Cond.fieldLinkNest "StreamEnd" (344 : Nat) "StreamEnd$Watch" "measuring" "Z" "StreamEnd"),
  (Jvm.Cond.fieldLinkNest "StreamEnd" (341 : Nat) "StreamEnd$Due" "openWasSent" "Z" "StreamEnd"),
  (Jvm.Cond.fieldLinkNest "StreamEnd" (167 : Nat) "StreamEnd$Due" "reset" "Z" "StreamEnd"),
  (Jvm.Cond.fieldLinkNest "StreamEnd" (329 : Nat) "StreamEnd$Due" "resetFlags" "I" "StreamEnd"),
  (Jvm.Cond.fieldLinkNest "StreamEnd" (332 : Nat) "StreamEnd$Due" "resetNumber" "I" "StreamEnd"),
  (Jvm.Cond.fieldLinkNest "StreamEnd" (335 : Nat) "StreamEnd$Due" "resetThanked" "I" "StreamEnd"),
  (Jvm.Cond.fieldLinkNest "StreamEnd" (230 : Nat) "StreamEnd$Segment" "count" "I" "StreamEnd"),
  (Jvm.Cond.methodLinkNest "StreamEnd" (338 : Nat) ({ cls := "StreamEnd$Segment", name := "has", desc := "(I)Z" } : Jvm.MethodName) "StreamEnd"),
  (Jvm.Cond.methodLinkNest "StreamEnd" (188 : Nat) ({ cls := "StreamEnd$Outgoing", name := "maySend", desc := "()Z" } : Jvm.MethodName) "StreamEnd"),
  (Jvm.Cond.methodLinkNest "StreamEnd" (191 : Nat) ({ cls := "StreamEnd$Outgoing", name := "newBytes", desc := "()I" } : Jvm.MethodName) "StreamEnd"),
  (Jvm.Cond.methodLinkNest "StreamEnd" (194 : Nat) ({ cls := "StreamEnd$Outgoing", name := "newHasLast", desc := "()Z" } : Jvm.MethodName) "StreamEnd"),
  (Jvm.Cond.fieldLinkNest "StreamEnd" (217 : Nat) "StreamEnd$Segment" "flags" "I" "StreamEnd"),
  (Jvm.Cond.fieldLinkNest "StreamEnd" (220 : Nat) "StreamEnd$Segment" "number" "I" "StreamEnd"),
  (Jvm.Cond.fieldLinkNest "StreamEnd" (223 : Nat) "StreamEnd$Segment" "thanked" "I" "StreamEnd"),
  (Jvm.Cond.fieldLinkNest "StreamEnd" (226 : Nat) "StreamEnd$Segment" "window" "I" "StreamEnd"),
  (Jvm.Cond.fieldLinkNest "StreamEnd" (229 : Nat) "StreamEnd$Segment" "largest" "I" "StreamEnd"),
  (Jvm.Cond.fieldLinkNest "StreamEnd" (238 : Nat) "StreamEnd$Segment" "bytes" "[B" "StreamEnd"),
  (Jvm.Cond.methodLinkNest "StreamEnd" (246 : Nat) ({ cls := "StreamEnd$Segment", name := "append", desc := "(B)V" } : Jvm.MethodName) "StreamEnd"),
  (Jvm.Cond.fieldLinkNest "StreamEnd$Outgoing" (90 : Nat) "StreamEnd$Segment" "number" "I" "StreamEnd"),
  (Jvm.Cond.methodLinkNest "StreamEnd$Outgoing" (93 : Nat) ({ cls := "StreamEnd", name := "isBefore", desc := "(II)Z" } : Jvm.MethodName) "StreamEnd"),
  (Jvm.Cond.fieldLinkNest "StreamEnd$Outgoing" (97 : Nat) "StreamEnd$Segment" "thanked" "I" "StreamEnd"),
  (Jvm.Cond.methodLinkNest "StreamEnd$Outgoing" (100 : Nat) ({ cls := "StreamEnd", name := "isNotBehind", desc := "(II)Z" } : Jvm.MethodName) "StreamEnd"),
  (Jvm.Cond.methodLinkNest "StreamEnd" (429 : Nat) ({ cls := "StreamEnd$Outgoing", name := "windowIsOlderThan", desc := "(LStreamEnd$Segment;)Z" } : Jvm.MethodName) "StreamEnd"),
  (Jvm.Cond.methodLinkNest "StreamEnd" (405 : Nat) ({ cls := "StreamEnd$Outgoing", name := "windowIs", desc := "(III)V" } : Jvm.MethodName) "StreamEnd"),
  (Jvm.Cond.fieldLinkNest "StreamEnd$Incoming" (48 : Nat) "StreamEnd$Segment" "number" "I" "StreamEnd"),
  (Jvm.Cond.fieldLinkNest "StreamEnd$Incoming" (65 : Nat) "StreamEnd$Segment" "bytes" "[B" "StreamEnd"),
  (Jvm.Cond.fieldLinkNest "StreamEnd$Incoming" (59 : Nat) "StreamEnd$Segment" "count" "I" "StreamEnd"),
  (Jvm.Cond.methodLinkNest "StreamEnd" (440 : Nat) ({ cls := "StreamEnd$Incoming", name := "goOn", desc := "()V" } : Jvm.MethodName) "StreamEnd"),
  (Jvm.Cond.methodLinkNest "StreamEnd" (433 : Nat) ({ cls := "StreamEnd$Incoming", name := "store", desc := "(LStreamEnd$Segment;)V" } : Jvm.MethodName) "StreamEnd"),
  (Jvm.Cond.methodLinkNest "StreamEnd" (437 : Nat) ({ cls := "StreamEnd$Incoming", name := "noteLast", desc := "(I)V" } : Jvm.MethodName) "StreamEnd"),
  (Jvm.Cond.methodLinkNest "StreamEnd$Watch" (53 : Nat) ({ cls := "StreamEnd", name := "isNotBehind", desc := "(II)Z" } : Jvm.MethodName) "StreamEnd"),
  (Jvm.Cond.methodLinkNest "StreamEnd" (423 : Nat) ({ cls := "StreamEnd$Outgoing", name := "thank", desc := "(I)V" } : Jvm.MethodName) "StreamEnd"),
  (Jvm.Cond.methodLinkNest "StreamEnd" (426 : Nat) ({ cls := "StreamEnd$Watch", name := "endMeasure", desc := "(I)V" } : Jvm.MethodName) "StreamEnd"),
  (Jvm.Cond.methodLinkNest "StreamEnd" (381 : Nat) ({ cls := "StreamEnd$Segment", name := "size", desc := "()I" } : Jvm.MethodName) "StreamEnd"),
  (Jvm.Cond.methodLinkNest "StreamEnd" (414 : Nat) ({ cls := "StreamEnd$Outgoing", name := "lastIsThanked", desc := "()Z" } : Jvm.MethodName) "StreamEnd"),
  (Jvm.Cond.methodLinkNest "StreamEnd" (403 : Nat) ({ cls := "StreamEnd$Incoming", name := "open", desc := "(I)V" } : Jvm.MethodName) "StreamEnd"),
  (Jvm.Cond.methodLinkNest "StreamEnd" (384 : Nat) ({ cls := "StreamEnd$Incoming", name := "fits", desc := "(II)Z" } : Jvm.MethodName) "StreamEnd"),
  (Jvm.Cond.fieldLinkNest "StreamEnd" (266 : Nat) "StreamEnd$Watch" "wait" "I" "StreamEnd"),
  (Jvm.Cond.fieldLinkNest "StreamEnd" (269 : Nat) "StreamEnd$Outgoing" "count" "I" "StreamEnd"),
  (Jvm.Cond.fieldLinkNest "StreamEnd" (276 : Nat) "StreamEnd$Watch" "smooth" "I" "StreamEnd"),
  (Jvm.Cond.fieldLinkNest "StreamEnd" (279 : Nat) "StreamEnd$Watch" "spread" "I" "StreamEnd"),
  (Jvm.Cond.methodLinkNest "StreamEnd" (41 : Nat) ({ cls := "StreamEnd$Due", name := "<init>", desc := "()V" } : Jvm.MethodName) "StreamEnd"),
  (Jvm.Cond.castable "java/lang/IllegalArgumentException" "java/lang/IllegalArgumentException"),
  (Jvm.Cond.castable "java/lang/IllegalStateException" "java/lang/IllegalStateException"),
  (Jvm.Cond.castable "java/lang/IndexOutOfBoundsException" "java/lang/IndexOutOfBoundsException"),
  (Jvm.Cond.declares ({ cls := "java/lang/RuntimeException", name := "<init>", desc := "(Ljava/lang/String;)V" } : Jvm.MethodName)),
  (Jvm.Cond.declares ({ cls := "java/lang/Exception", name := "<init>", desc := "(Ljava/lang/String;)V" } : Jvm.MethodName)),
  (Jvm.Cond.declares ({ cls := "java/lang/Throwable", name := "<init>", desc := "(Ljava/lang/String;)V" } : Jvm.MethodName))]
abbrev se_ZN : State → Prop := se_N se_nest
theorem se_ZN_ok : se_Zok se_ZN := se_N_ok se_nest
theorem nX5_f296 : (Jvm.Cond.fieldLinkNest "StreamEnd" (296 : Nat) "StreamEnd$Outgoing" "first" "I" "StreamEnd") ∈ se_nest := by decide +kernel
theorem nX5_f137 : (Jvm.Cond.fieldLinkNest "StreamEnd" (137 : Nat) "StreamEnd$Outgoing" "next" "I" "StreamEnd") ∈ se_nest := by decide +kernel
theorem nX5_f173 : (Jvm.Cond.fieldLinkNest "StreamEnd" (173 : Nat) "StreamEnd$Due" "open" "Z" "StreamEnd") ∈ se_nest := by decide +kernel
theorem nX5_m285 : (Jvm.Cond.methodLinkNest "StreamEnd" (285 : Nat) ({ cls := "StreamEnd$Outgoing", name := "restart", desc := "(II)V" } : Jvm.MethodName) "StreamEnd") ∈ se_nest := by decide +kernel
theorem nX5_m289 : (Jvm.Cond.methodLinkNest "StreamEnd" (289 : Nat) ({ cls := "StreamEnd$Incoming", name := "restart", desc := "()V" } : Jvm.MethodName) "StreamEnd") ∈ se_nest := by decide +kernel
theorem nX5_m291 : (Jvm.Cond.methodLinkNest "StreamEnd" (291 : Nat) ({ cls := "StreamEnd$Watch", name := "restart", desc := "()V" } : Jvm.MethodName) "StreamEnd") ∈ se_nest := by decide +kernel
theorem nX5_m292 : (Jvm.Cond.methodLinkNest "StreamEnd" (292 : Nat) ({ cls := "StreamEnd$Due", name := "restart", desc := "()V" } : Jvm.MethodName) "StreamEnd") ∈ se_nest := by decide +kernel
theorem nX5_f155 : (Jvm.Cond.fieldLinkNest "StreamEnd" (155 : Nat) "StreamEnd$Watch" "alarmOn" "Z" "StreamEnd") ∈ se_nest := by decide +kernel
theorem nX5_m317 : (Jvm.Cond.methodLinkNest "StreamEnd" (317 : Nat) ({ cls := "StreamEnd$Outgoing", name := "hasUnthanked", desc := "()Z" } : Jvm.MethodName) "StreamEnd") ∈ se_nest := by decide +kernel
theorem nX5_f262 : (Jvm.Cond.fieldLinkNest "StreamEnd" (262 : Nat) "StreamEnd$Outgoing" "window" "I" "StreamEnd") ∈ se_nest := by decide +kernel
theorem nX5_m326 : (Jvm.Cond.methodLinkNest "StreamEnd" (326 : Nat) ({ cls := "StreamEnd$Outgoing", name := "hasNew", desc := "()Z" } : Jvm.MethodName) "StreamEnd") ∈ se_nest := by decide +kernel
theorem nX5_m323 : (Jvm.Cond.methodLinkNest "StreamEnd" (323 : Nat) ({ cls := "StreamEnd$Watch", name := "setAlarm", desc := "()V" } : Jvm.MethodName) "StreamEnd") ∈ se_nest := by decide +kernel
theorem nX5_m112 : (Jvm.Cond.methodLinkNest "StreamEnd" (112 : Nat) ({ cls := "StreamEnd$Outgoing", name := "append", desc := "(B)V" } : Jvm.MethodName) "StreamEnd") ∈ se_nest := by decide +kernel
theorem nX5_f93 : (Jvm.Cond.fieldLinkNest "StreamEnd" (93 : Nat) "StreamEnd$Outgoing" "closed" "Z" "StreamEnd") ∈ se_nest := by decide +kernel
theorem nX5_m98 : (Jvm.Cond.methodLinkNest "StreamEnd" (98 : Nat) ({ cls := "StreamEnd$Outgoing", name := "space", desc := "()I" } : Jvm.MethodName) "StreamEnd") ∈ se_nest := by decide +kernel
theorem nX5_f273 : (Jvm.Cond.fieldLinkNest "StreamEnd" (273 : Nat) "StreamEnd$Outgoing" "piece" "I" "StreamEnd") ∈ se_nest := by decide +kernel
theorem nX5_m263 : (Jvm.Cond.methodLinkNest "StreamEnd" (263 : Nat) ({ cls := "StreamEnd$Incoming", name := "room", desc := "()I" } : Jvm.MethodName) "StreamEnd") ∈ se_nest := by decide +kernel
theorem nX5_m305 : (Jvm.Cond.methodLinkNest "StreamEnd" (305 : Nat) ({ cls := "StreamEnd$Incoming", name := "takeByte", desc := "()I" } : Jvm.MethodName) "StreamEnd") ∈ se_nest := by decide +kernel
theorem nX5_f206 : (Jvm.Cond.fieldLinkNest "StreamEnd" (206 : Nat) "StreamEnd$Due" "thanks" "Z" "StreamEnd") ∈ se_nest := by decide +kernel
theorem nX5_f119 : (Jvm.Cond.fieldLinkNest "StreamEnd" (119 : Nat) "StreamEnd$Incoming" "readable" "I" "StreamEnd") ∈ se_nest := by decide +kernel
theorem nX5_f125 : (Jvm.Cond.fieldLinkNest "StreamEnd" (125 : Nat) "StreamEnd$Incoming" "over" "Z" "StreamEnd") ∈ se_nest := by decide +kernel
theorem nX5_f150 : (Jvm.Cond.fieldLinkNest "StreamEnd" (150 : Nat) "StreamEnd$Watch" "time" "I" "StreamEnd") ∈ se_nest := by decide +kernel
theorem nX5_m299 : (Jvm.Cond.methodLinkNest "StreamEnd" (299 : Nat) ({ cls := "StreamEnd$Due", name := "dropStream", desc := "()V" } : Jvm.MethodName) "StreamEnd") ∈ se_nest := by decide +kernel
theorem nX5_f140 : (Jvm.Cond.fieldLinkNest "StreamEnd" (140 : Nat) "StreamEnd$Incoming" "expected" "I" "StreamEnd") ∈ se_nest := by decide +kernel
theorem nX5_m143 : (Jvm.Cond.methodLinkNest "StreamEnd" (143 : Nat) ({ cls := "StreamEnd$Due", name := "resetIs", desc := "(III)V" } : Jvm.MethodName) "StreamEnd") ∈ se_nest := by decide +kernel
theorem nX5_m320 : (Jvm.Cond.methodLinkNest "StreamEnd" (320 : Nat) ({ cls := "StreamEnd$Watch", name := "doubleWait", desc := "()V" } : Jvm.MethodName) "StreamEnd") ∈ se_nest := by decide +kernel
theorem nX5_f270 : (Jvm.Cond.fieldLinkNest "StreamEnd" (270 : Nat) "StreamEnd$Watch" "tries" "I" "StreamEnd") ∈ se_nest := by decide +kernel
theorem nX5_f200 : (Jvm.Cond.fieldLinkNest "StreamEnd" (200 : Nat) "StreamEnd$Due" "probe" "Z" "StreamEnd") ∈ se_nest := by decide +kernel
theorem nX5_f179 : (Jvm.Cond.fieldLinkNest "StreamEnd" (179 : Nat) "StreamEnd$Due" "again" "Z" "StreamEnd") ∈ se_nest := by decide +kernel
theorem nX5_f311 : (Jvm.Cond.fieldLinkNest "StreamEnd" (311 : Nat) "StreamEnd$Watch" "alarmAt" "I" "StreamEnd") ∈ se_nest := by decide +kernel
theorem nX5_m158 : (Jvm.Cond.methodLinkNest "StreamEnd" (158 : Nat) ({ cls := "StreamEnd$Watch", name := "ticksToAlarm", desc := "()I" } : Jvm.MethodName) "StreamEnd") ∈ se_nest := by decide +kernel
theorem nX2_m80 : (Jvm.Cond.methodLinkNest "StreamEnd$Outgoing" (80 : Nat) ({ cls := "StreamEnd$Segment", name := "append", desc := "(B)V" } : Jvm.MethodName) "StreamEnd") ∈ se_nest := by decide +kernel
theorem nX2_f77 : (Jvm.Cond.fieldLinkNest "StreamEnd$Outgoing" (77 : Nat) "StreamEnd$Segment" "count" "I" "StreamEnd") ∈ se_nest := by decide +kernel
theorem nX5_f365 : (Jvm.Cond.fieldLinkNest "StreamEnd" (365 : Nat) "StreamEnd$Incoming" "opened" "Z" "StreamEnd") ∈ se_nest := by decide +kernel
theorem nX5_m252 : (Jvm.Cond.methodLinkNest "StreamEnd" (252 : Nat) ({ cls := "StreamEnd$Segment", name := "headIs", desc := "(IIIII)V" } : Jvm.MethodName) "StreamEnd") ∈ se_nest := by decide +kernel
theorem nX5_m368 : (Jvm.Cond.methodLinkNest "StreamEnd" (368 : Nat) ({ cls := "StreamEnd$Outgoing", name := "copyTo", desc := "(LStreamEnd$Segment;II)V" } : Jvm.MethodName) "StreamEnd") ∈ se_nest := by decide +kernel
theorem nX5_f353 : (Jvm.Cond.fieldLinkNest "StreamEnd" (353 : Nat) "StreamEnd$Outgoing" "sent" "I" "StreamEnd") ∈ se_nest := by decide +kernel
theorem nX5_m362 : (Jvm.Cond.methodLinkNest "StreamEnd" (362 : Nat) ({ cls := "StreamEnd$Outgoing", name := "wasSent", desc := "(IZ)V" } : Jvm.MethodName) "StreamEnd") ∈ se_nest := by decide +kernel
theorem nX5_m347 : (Jvm.Cond.methodLinkNest "StreamEnd" (347 : Nat) ({ cls := "StreamEnd$Watch", name := "measure", desc := "(I)V" } : Jvm.MethodName) "StreamEnd") ∈ se_nest := by decide +kernel
theorem nX5_m350 : (Jvm.Cond.methodLinkNest "StreamEnd" (350 : Nat) ({ cls := "StreamEnd$Watch", name := "setAlarmIfOff", desc := "()V" } : Jvm.MethodName) "StreamEnd") ∈ se_nest := by decide +kernel
theorem nX5_m359 : (Jvm.Cond.methodLinkNest "StreamEnd" (359 : Nat) ({ cls := "StreamEnd$Outgoing", name := "unsent", desc := "()I" } : Jvm.MethodName) "StreamEnd") ∈ se_nest := by decide +kernel
theorem nX5_f356 : (Jvm.Cond.fieldLinkNest "StreamEnd" (356 : Nat) "StreamEnd$Outgoing" "lastSent" "Z" "StreamEnd") ∈ se_nest := by decide +kernel
theorem nX5_f259 : (Jvm.Cond.fieldLinkNest "StreamEnd" (259 : Nat) "StreamEnd$Outgoing" "oldest" "I" "StreamEnd") ∈ se_nest := by decide +kernel
theorem nX5_f344 : (Jvm.Cond.fieldLinkNest "StreamEnd" (344 : Nat) "StreamEnd$Watch" "measuring" "Z" "StreamEnd") ∈ se_nest := by decide +kernel
theorem nX5_f341 : (Jvm.Cond.fieldLinkNest "StreamEnd" (341 : Nat) "StreamEnd$Due" "openWasSent" "Z" "StreamEnd") ∈ se_nest := by decide +kernel
theorem nX5_f167 : (Jvm.Cond.fieldLinkNest "StreamEnd" (167 : Nat) "StreamEnd$Due" "reset" "Z" "StreamEnd") ∈ se_nest := by decide +kernel
theorem nX5_f329 : (Jvm.Cond.fieldLinkNest "StreamEnd" (329 : Nat) "StreamEnd$Due" "resetFlags" "I" "StreamEnd") ∈ se_nest := by decide +kernel
theorem nX5_f332 : (Jvm.Cond.fieldLinkNest "StreamEnd" (332 : Nat) "StreamEnd$Due" "resetNumber" "I" "StreamEnd") ∈ se_nest := by decide +kernel
theorem nX5_f335 : (Jvm.Cond.fieldLinkNest "StreamEnd" (335 : Nat) "StreamEnd$Due" "resetThanked" "I" "StreamEnd") ∈ se_nest := by decide +kernel
theorem nX5_f230 : (Jvm.Cond.fieldLinkNest "StreamEnd" (230 : Nat) "StreamEnd$Segment" "count" "I" "StreamEnd") ∈ se_nest := by decide +kernel
theorem nX5_m338 : (Jvm.Cond.methodLinkNest "StreamEnd" (338 : Nat) ({ cls := "StreamEnd$Segment", name := "has", desc := "(I)Z" } : Jvm.MethodName) "StreamEnd") ∈ se_nest := by decide +kernel
theorem nX5_m188 : (Jvm.Cond.methodLinkNest "StreamEnd" (188 : Nat) ({ cls := "StreamEnd$Outgoing", name := "maySend", desc := "()Z" } : Jvm.MethodName) "StreamEnd") ∈ se_nest := by decide +kernel
theorem nX5_m191 : (Jvm.Cond.methodLinkNest "StreamEnd" (191 : Nat) ({ cls := "StreamEnd$Outgoing", name := "newBytes", desc := "()I" } : Jvm.MethodName) "StreamEnd") ∈ se_nest := by decide +kernel
theorem nX5_m194 : (Jvm.Cond.methodLinkNest "StreamEnd" (194 : Nat) ({ cls := "StreamEnd$Outgoing", name := "newHasLast", desc := "()Z" } : Jvm.MethodName) "StreamEnd") ∈ se_nest := by decide +kernel
theorem nX5_f217 : (Jvm.Cond.fieldLinkNest "StreamEnd" (217 : Nat) "StreamEnd$Segment" "flags" "I" "StreamEnd") ∈ se_nest := by decide +kernel
theorem nX5_f220 : (Jvm.Cond.fieldLinkNest "StreamEnd" (220 : Nat) "StreamEnd$Segment" "number" "I" "StreamEnd") ∈ se_nest := by decide +kernel
theorem nX5_f223 : (Jvm.Cond.fieldLinkNest "StreamEnd" (223 : Nat) "StreamEnd$Segment" "thanked" "I" "StreamEnd") ∈ se_nest := by decide +kernel
theorem nX5_f226 : (Jvm.Cond.fieldLinkNest "StreamEnd" (226 : Nat) "StreamEnd$Segment" "window" "I" "StreamEnd") ∈ se_nest := by decide +kernel
theorem nX5_f229 : (Jvm.Cond.fieldLinkNest "StreamEnd" (229 : Nat) "StreamEnd$Segment" "largest" "I" "StreamEnd") ∈ se_nest := by decide +kernel
theorem nX5_f238 : (Jvm.Cond.fieldLinkNest "StreamEnd" (238 : Nat) "StreamEnd$Segment" "bytes" "[B" "StreamEnd") ∈ se_nest := by decide +kernel
theorem nX5_m246 : (Jvm.Cond.methodLinkNest "StreamEnd" (246 : Nat) ({ cls := "StreamEnd$Segment", name := "append", desc := "(B)V" } : Jvm.MethodName) "StreamEnd") ∈ se_nest := by decide +kernel
theorem nX2_f90 : (Jvm.Cond.fieldLinkNest "StreamEnd$Outgoing" (90 : Nat) "StreamEnd$Segment" "number" "I" "StreamEnd") ∈ se_nest := by decide +kernel
theorem nX2_m93 : (Jvm.Cond.methodLinkNest "StreamEnd$Outgoing" (93 : Nat) ({ cls := "StreamEnd", name := "isBefore", desc := "(II)Z" } : Jvm.MethodName) "StreamEnd") ∈ se_nest := by decide +kernel
theorem nX2_f97 : (Jvm.Cond.fieldLinkNest "StreamEnd$Outgoing" (97 : Nat) "StreamEnd$Segment" "thanked" "I" "StreamEnd") ∈ se_nest := by decide +kernel
theorem nX2_m100 : (Jvm.Cond.methodLinkNest "StreamEnd$Outgoing" (100 : Nat) ({ cls := "StreamEnd", name := "isNotBehind", desc := "(II)Z" } : Jvm.MethodName) "StreamEnd") ∈ se_nest := by decide +kernel
theorem nX5_m429 : (Jvm.Cond.methodLinkNest "StreamEnd" (429 : Nat) ({ cls := "StreamEnd$Outgoing", name := "windowIsOlderThan", desc := "(LStreamEnd$Segment;)Z" } : Jvm.MethodName) "StreamEnd") ∈ se_nest := by decide +kernel
theorem nX5_m405 : (Jvm.Cond.methodLinkNest "StreamEnd" (405 : Nat) ({ cls := "StreamEnd$Outgoing", name := "windowIs", desc := "(III)V" } : Jvm.MethodName) "StreamEnd") ∈ se_nest := by decide +kernel
theorem nX1_f48 : (Jvm.Cond.fieldLinkNest "StreamEnd$Incoming" (48 : Nat) "StreamEnd$Segment" "number" "I" "StreamEnd") ∈ se_nest := by decide +kernel
theorem nX1_f65 : (Jvm.Cond.fieldLinkNest "StreamEnd$Incoming" (65 : Nat) "StreamEnd$Segment" "bytes" "[B" "StreamEnd") ∈ se_nest := by decide +kernel
theorem nX1_f59 : (Jvm.Cond.fieldLinkNest "StreamEnd$Incoming" (59 : Nat) "StreamEnd$Segment" "count" "I" "StreamEnd") ∈ se_nest := by decide +kernel
theorem nX5_m440 : (Jvm.Cond.methodLinkNest "StreamEnd" (440 : Nat) ({ cls := "StreamEnd$Incoming", name := "goOn", desc := "()V" } : Jvm.MethodName) "StreamEnd") ∈ se_nest := by decide +kernel
theorem nX5_m433 : (Jvm.Cond.methodLinkNest "StreamEnd" (433 : Nat) ({ cls := "StreamEnd$Incoming", name := "store", desc := "(LStreamEnd$Segment;)V" } : Jvm.MethodName) "StreamEnd") ∈ se_nest := by decide +kernel
theorem nX5_m437 : (Jvm.Cond.methodLinkNest "StreamEnd" (437 : Nat) ({ cls := "StreamEnd$Incoming", name := "noteLast", desc := "(I)V" } : Jvm.MethodName) "StreamEnd") ∈ se_nest := by decide +kernel
theorem nX4_m53 : (Jvm.Cond.methodLinkNest "StreamEnd$Watch" (53 : Nat) ({ cls := "StreamEnd", name := "isNotBehind", desc := "(II)Z" } : Jvm.MethodName) "StreamEnd") ∈ se_nest := by decide +kernel
theorem nX5_m423 : (Jvm.Cond.methodLinkNest "StreamEnd" (423 : Nat) ({ cls := "StreamEnd$Outgoing", name := "thank", desc := "(I)V" } : Jvm.MethodName) "StreamEnd") ∈ se_nest := by decide +kernel
theorem nX5_m426 : (Jvm.Cond.methodLinkNest "StreamEnd" (426 : Nat) ({ cls := "StreamEnd$Watch", name := "endMeasure", desc := "(I)V" } : Jvm.MethodName) "StreamEnd") ∈ se_nest := by decide +kernel
theorem nX5_m381 : (Jvm.Cond.methodLinkNest "StreamEnd" (381 : Nat) ({ cls := "StreamEnd$Segment", name := "size", desc := "()I" } : Jvm.MethodName) "StreamEnd") ∈ se_nest := by decide +kernel
theorem nX5_m414 : (Jvm.Cond.methodLinkNest "StreamEnd" (414 : Nat) ({ cls := "StreamEnd$Outgoing", name := "lastIsThanked", desc := "()Z" } : Jvm.MethodName) "StreamEnd") ∈ se_nest := by decide +kernel
theorem nX5_m403 : (Jvm.Cond.methodLinkNest "StreamEnd" (403 : Nat) ({ cls := "StreamEnd$Incoming", name := "open", desc := "(I)V" } : Jvm.MethodName) "StreamEnd") ∈ se_nest := by decide +kernel
theorem nX5_m384 : (Jvm.Cond.methodLinkNest "StreamEnd" (384 : Nat) ({ cls := "StreamEnd$Incoming", name := "fits", desc := "(II)Z" } : Jvm.MethodName) "StreamEnd") ∈ se_nest := by decide +kernel
theorem nX5_f266 : (Jvm.Cond.fieldLinkNest "StreamEnd" (266 : Nat) "StreamEnd$Watch" "wait" "I" "StreamEnd") ∈ se_nest := by decide +kernel
theorem nX5_f269 : (Jvm.Cond.fieldLinkNest "StreamEnd" (269 : Nat) "StreamEnd$Outgoing" "count" "I" "StreamEnd") ∈ se_nest := by decide +kernel
theorem nX5_f276 : (Jvm.Cond.fieldLinkNest "StreamEnd" (276 : Nat) "StreamEnd$Watch" "smooth" "I" "StreamEnd") ∈ se_nest := by decide +kernel
theorem nX5_f279 : (Jvm.Cond.fieldLinkNest "StreamEnd" (279 : Nat) "StreamEnd$Watch" "spread" "I" "StreamEnd") ∈ se_nest := by decide +kernel
theorem nX5_m41 : (Jvm.Cond.methodLinkNest "StreamEnd" (41 : Nat) ({ cls := "StreamEnd$Due", name := "<init>", desc := "()V" } : Jvm.MethodName) "StreamEnd") ∈ se_nest := by decide +kernel
theorem n_cast1 : (Jvm.Cond.castable "java/lang/IllegalArgumentException" "java/lang/IllegalArgumentException") ∈ se_nest := by decide +kernel
theorem n_cast2 : (Jvm.Cond.castable "java/lang/IllegalStateException" "java/lang/IllegalStateException") ∈ se_nest := by decide +kernel
theorem n_cast3 : (Jvm.Cond.castable "java/lang/IndexOutOfBoundsException" "java/lang/IndexOutOfBoundsException") ∈ se_nest := by decide +kernel
theorem n_decl_RuntimeException : (Jvm.Cond.declares ({ cls := "java/lang/RuntimeException", name := "<init>", desc := "(Ljava/lang/String;)V" } : Jvm.MethodName)) ∈ se_nest := by decide +kernel
theorem n_decl_Exception : (Jvm.Cond.declares ({ cls := "java/lang/Exception", name := "<init>", desc := "(Ljava/lang/String;)V" } : Jvm.MethodName)) ∈ se_nest := by decide +kernel
theorem n_decl_Throwable : (Jvm.Cond.declares ({ cls := "java/lang/Throwable", name := "<init>", desc := "(Ljava/lang/String;)V" } : Jvm.MethodName)) ∈ se_nest := by decide +kernel
abbrev se_w_X5_isEnded : List Cond := Cond.code yX5_isEnded cX5_isEnded 1 (Option.some FieldType.boolean) :: se_all
abbrev se_w_X2_windowIs : List Cond := Cond.code yX2_windowIs cX2_windowIs 4 (Option.none : Option FieldType) :: se_all
abbrev se_w_X2_restart : List Cond := Cond.code yX2_restart cX2_restart 3 (Option.none : Option FieldType) :: se_all
abbrev se_w_XA_fill : List Cond := Cond.code yXA_fill cXA_fill 4 (Option.none : Option FieldType) :: se_all
abbrev se_w_X1_restart : List Cond := Cond.code yX1_restart cX1_restart 1 (Option.none : Option FieldType) :: se_all
abbrev se_w_X4_restart : List Cond := Cond.code yX4_restart cX4_restart 1 (Option.none : Option FieldType) :: se_all
abbrev se_w_X0_dropStream : List Cond := Cond.code yX0_dropStream cX0_dropStream 1 (Option.none : Option FieldType) :: se_all
abbrev se_w_X0_restart : List Cond := Cond.code yX0_restart cX0_restart 1 (Option.none : Option FieldType) :: se_all
abbrev se_w_X5_openIsDue : List Cond := Cond.code yX5_openIsDue cX5_openIsDue 1 (Option.none : Option FieldType) :: se_all
abbrev se_w_X5_startStream : List Cond := Cond.code yX5_startStream cX5_startStream 3 (Option.none : Option FieldType) :: se_all
abbrev se_w_X5_begin : List Cond := Cond.code yX5_begin cX5_begin 3 (Option.none : Option FieldType) :: se_all
abbrev se_w_X5_isHandful : List Cond := Cond.code yX5_isHandful cX5_isHandful 1 (Option.some FieldType.boolean) :: se_all
abbrev se_w_X2_space : List Cond := Cond.code yX2_space cX2_space 1 (Option.some FieldType.int) :: se_all
abbrev se_w_X5_maySendNew : List Cond := Cond.code yX5_maySendNew cX5_maySendNew 1 (Option.some FieldType.boolean) :: se_all
abbrev se_w_X2_hasUnthanked : List Cond := Cond.code yX2_hasUnthanked cX2_hasUnthanked 1 (Option.some FieldType.boolean) :: se_all
abbrev se_w_X2_unsent : List Cond := Cond.code yX2_unsent cX2_unsent 1 (Option.some FieldType.int) :: se_all
abbrev se_w_X2_hasNew : List Cond := Cond.code yX2_hasNew cX2_hasNew 1 (Option.some FieldType.boolean) :: se_all
abbrev se_w_X4_setAlarm : List Cond := Cond.code yX4_setAlarm cX4_setAlarm 1 (Option.none : Option FieldType) :: se_all
abbrev se_w_X5_watchClosedWindow : List Cond := Cond.code yX5_watchClosedWindow cX5_watchClosedWindow 1 (Option.none : Option FieldType) :: se_all
abbrev se_w_X5_byteOf : List Cond := Cond.code yX5_byteOf cX5_byteOf 4 (Option.some FieldType.byte) :: se_all
abbrev se_w_X2_append : List Cond := Cond.code yX2_append cX2_append 2 (Option.none : Option FieldType) :: se_all
abbrev se_w_X5_write : List Cond := Cond.code yX5_write cX5_write 6 (Option.some FieldType.int) :: se_all
abbrev se_w_X1_room : List Cond := Cond.code yX1_room cX1_room 1 (Option.some FieldType.int) :: se_all
abbrev se_w_X1_takeByte : List Cond := Cond.code yX1_takeByte cX1_takeByte 3 (Option.some FieldType.int) :: se_all
abbrev se_w_X5_mayTakeBytes : List Cond := Cond.code yX5_mayTakeBytes cX5_mayTakeBytes 1 (Option.some FieldType.boolean) :: se_all
abbrev se_w_X5_readByte : List Cond := Cond.code yX5_readByte cX5_readByte 4 (Option.some FieldType.int) :: se_all
abbrev se_w_X5_read : List Cond := Cond.code yX5_read cX5_read 1 (Option.some FieldType.int) :: se_all
abbrev se_w_X5_beginQuiet : List Cond := Cond.code yX5_beginQuiet cX5_beginQuiet 1 (Option.none : Option FieldType) :: se_all
abbrev se_w_X5_halt : List Cond := Cond.code yX5_halt cX5_halt 2 (Option.none : Option FieldType) :: se_all
abbrev se_w_X5_close : List Cond := Cond.code yX5_close cX5_close 1 (Option.none : Option FieldType) :: se_all
abbrev se_w_X0_resetIs : List Cond := Cond.code yX0_resetIs cX0_resetIs 4 (Option.none : Option FieldType) :: se_all
abbrev se_w_X5_abort : List Cond := Cond.code yX5_abort cX5_abort 1 (Option.none : Option FieldType) :: se_all
abbrev se_w_X4_ticksToAlarm : List Cond := Cond.code yX4_ticksToAlarm cX4_ticksToAlarm 1 (Option.some FieldType.int) :: se_all
abbrev se_w_X4_doubleWait : List Cond := Cond.code yX4_doubleWait cX4_doubleWait 1 (Option.none : Option FieldType) :: se_all
abbrev se_w_X5_takeAlarm : List Cond := Cond.code yX5_takeAlarm cX5_takeAlarm 1 (Option.none : Option FieldType) :: se_all
abbrev se_w_X5_takeEvents : List Cond := Cond.code yX5_takeEvents cX5_takeEvents 1 (Option.none : Option FieldType) :: se_all
abbrev se_w_X5_run : List Cond := Cond.code yX5_run cX5_run 4 (Option.some FieldType.int) :: se_all
abbrev se_w_X3_headIs : List Cond := Cond.code yX3_headIs cX3_headIs 6 (Option.none : Option FieldType) :: se_all
abbrev se_w_X3_append : List Cond := Cond.code yX3_append cX3_append 2 (Option.none : Option FieldType) :: se_all
abbrev se_w_X2_copyTo : List Cond := Cond.code yX2_copyTo cX2_copyTo 5 (Option.none : Option FieldType) :: se_all
abbrev se_w_X5_make : List Cond := Cond.code yX5_make cX5_make 7 (Option.none : Option FieldType) :: se_all
abbrev se_w_X2_wasSent : List Cond := Cond.code yX2_wasSent cX2_wasSent 3 (Option.none : Option FieldType) :: se_all
abbrev se_w_X4_measure : List Cond := Cond.code yX4_measure cX4_measure 2 (Option.none : Option FieldType) :: se_all
abbrev se_w_X4_setAlarmIfOff : List Cond := Cond.code yX4_setAlarmIfOff cX4_setAlarmIfOff 1 (Option.none : Option FieldType) :: se_all
abbrev se_w_X5_makeNew : List Cond := Cond.code yX5_makeNew cX5_makeNew 3 (Option.none : Option FieldType) :: se_all
abbrev se_w_X5_makeProbe : List Cond := Cond.code yX5_makeProbe cX5_makeProbe 2 (Option.none : Option FieldType) :: se_all
abbrev se_w_X2_allowed : List Cond := Cond.code yX2_allowed cX2_allowed 1 (Option.some FieldType.int) :: se_all
abbrev se_w_X2_newBytes : List Cond := Cond.code yX2_newBytes cX2_newBytes 1 (Option.some FieldType.int) :: se_all
abbrev se_w_X2_newHasLast : List Cond := Cond.code yX2_newHasLast cX2_newHasLast 2 (Option.some FieldType.boolean) :: se_all
abbrev se_w_X2_maySend : List Cond := Cond.code yX2_maySend cX2_maySend 1 (Option.some FieldType.boolean) :: se_all
abbrev se_w_X5_makeAgain : List Cond := Cond.code yX5_makeAgain cX5_makeAgain 3 (Option.none : Option FieldType) :: se_all
abbrev se_w_X5_makeOpen : List Cond := Cond.code yX5_makeOpen cX5_makeOpen 1 (Option.none : Option FieldType) :: se_all
abbrev se_w_X3_has : List Cond := Cond.code yX3_has cX3_has 2 (Option.some FieldType.boolean) :: se_all
abbrev se_w_X5_makeReset : List Cond := Cond.code yX5_makeReset cX5_makeReset 1 (Option.none : Option FieldType) :: se_all
abbrev se_w_X5_next : List Cond := Cond.code yX5_next cX5_next 1 (Option.some FieldType.boolean) :: se_all
abbrev se_w_X5_segment : List Cond := Cond.code yX5_segment cX5_segment 2 (Option.some FieldType.int) :: se_all
abbrev se_w_X5_byteAt : List Cond := Cond.code yX5_byteAt cX5_byteAt 2 (Option.some FieldType.int) :: se_all
abbrev se_w_X5_feed : List Cond := Cond.code yX5_feed cX5_feed 5 (Option.some FieldType.int) :: se_all
abbrev se_w_X5_isWidth : List Cond := Cond.code yX5_isWidth cX5_isWidth 1 (Option.some FieldType.boolean) :: se_all
abbrev se_w_X3_size : List Cond := Cond.code yX3_size cX3_size 1 (Option.some FieldType.int) :: se_all
abbrev se_w_X1_fits : List Cond := Cond.code yX1_fits cX1_fits 4 (Option.some FieldType.boolean) :: se_all
abbrev se_w_X5_isBefore : List Cond := Cond.code yX5_isBefore cX5_isBefore 2 (Option.some FieldType.boolean) :: se_all
abbrev se_w_X5_isNotBehind : List Cond := Cond.code yX5_isNotBehind cX5_isNotBehind 2 (Option.some FieldType.boolean) :: se_all
abbrev se_w_X2_windowIsOlderThan : List Cond := Cond.code yX2_windowIsOlderThan cX2_windowIsOlderThan 2 (Option.some FieldType.boolean) :: se_all
abbrev se_w_X5_takeWindow : List Cond := Cond.code yX5_takeWindow cX5_takeWindow 2 (Option.none : Option FieldType) :: se_all
abbrev se_w_X2_lastIsThanked : List Cond := Cond.code yX2_lastIsThanked cX2_lastIsThanked 1 (Option.some FieldType.boolean) :: se_all
abbrev se_w_X1_store : List Cond := Cond.code yX1_store cX1_store 7 (Option.none : Option FieldType) :: se_all
abbrev se_w_X1_isAtLast : List Cond := Cond.code yX1_isAtLast cX1_isAtLast 1 (Option.some FieldType.boolean) :: se_all
abbrev se_w_X1_goOn : List Cond := Cond.code yX1_goOn cX1_goOn 1 (Option.none : Option FieldType) :: se_all
abbrev se_w_X5_peerLeaves : List Cond := Cond.code yX5_peerLeaves cX5_peerLeaves 1 (Option.none : Option FieldType) :: se_all
abbrev se_w_X1_noteLast : List Cond := Cond.code yX1_noteLast cX1_noteLast 3 (Option.none : Option FieldType) :: se_all
abbrev se_w_X5_takeBytes : List Cond := Cond.code yX5_takeBytes cX5_takeBytes 2 (Option.none : Option FieldType) :: se_all
abbrev se_w_X5_leave : List Cond := Cond.code yX5_leave cX5_leave 1 (Option.none : Option FieldType) :: se_all
abbrev se_w_X2_thank : List Cond := Cond.code yX2_thank cX2_thank 3 (Option.none : Option FieldType) :: se_all
abbrev se_w_X4_learn : List Cond := Cond.code yX4_learn cX4_learn 3 (Option.none : Option FieldType) :: se_all
abbrev se_w_X4_endMeasure : List Cond := Cond.code yX4_endMeasure cX4_endMeasure 2 (Option.none : Option FieldType) :: se_all
abbrev se_w_X5_takeThanked : List Cond := Cond.code yX5_takeThanked cX5_takeThanked 1 (Option.none : Option FieldType) :: se_all
abbrev se_w_X5_answerWithReset : List Cond := Cond.code yX5_answerWithReset cX5_answerWithReset 1 (Option.none : Option FieldType) :: se_all
abbrev se_w_X5_takeInStream : List Cond := Cond.code yX5_takeInStream cX5_takeInStream 1 (Option.none : Option FieldType) :: se_all
abbrev se_w_X5_takeReset : List Cond := Cond.code yX5_takeReset cX5_takeReset 1 (Option.none : Option FieldType) :: se_all
abbrev se_w_X5_takeMisfit : List Cond := Cond.code yX5_takeMisfit cX5_takeMisfit 1 (Option.none : Option FieldType) :: se_all
abbrev se_w_X1_open : List Cond := Cond.code yX1_open cX1_open 2 (Option.none : Option FieldType) :: se_all
abbrev se_w_X5_takeOpen : List Cond := Cond.code yX5_takeOpen cX5_takeOpen 3 (Option.none : Option FieldType) :: se_all
abbrev se_w_X5_takeWhenAsking : List Cond := Cond.code yX5_takeWhenAsking cX5_takeWhenAsking 2 (Option.none : Option FieldType) :: se_all
abbrev se_w_X5_takeWhenListening : List Cond := Cond.code yX5_takeWhenListening cX5_takeWhenListening 1 (Option.none : Option FieldType) :: se_all
abbrev se_w_X5_takeSegment : List Cond := Cond.code yX5_takeSegment cX5_takeSegment 1 (Option.none : Option FieldType) :: se_all
abbrev se_w_X5_arrive : List Cond := Cond.code yX5_arrive cX5_arrive 6 (Option.some FieldType.int) :: se_all
abbrev se_w_X5_state : List Cond := Cond.code yX5_state cX5_state 1 (Option.some FieldType.int) :: se_all
abbrev se_w_X5_figure : List Cond := Cond.code yX5_figure cX5_figure 2 (Option.some FieldType.int) :: se_all
def xe_names : List String := ["java/lang/RuntimeException", "java/lang/Exception"]
def xe_heapw : List Cond := [.isRef (.static Bundle.tN "UNASSIGNED_STACK" Bundle.steD), .isRef (.static Bundle.tN "SUPPRESSED_SENTINEL" Bundle.listD), .laysStatic Bundle.tN "UNASSIGNED_STACK" Bundle.steD, .laysStatic Bundle.tN "SUPPRESSED_SENTINEL" Bundle.listD]
def xe_strs : List (Nat × String) := [(75, "a stream is under way"), (90, "1 to 8 bytes are written at once"), (96, "nothing can be written now"), (128, "nothing can be read now"), (130, "nothing is there to be closed"), (135, "nothing is there to be aborted"), (147, "1 to 2000 ticks go by at once"), (153, "the time would be too late"), (213, "a segment has no such part"), (215, "no segment was made"), (235, "the segment has no such byte"), (242, "1 to 8 bytes are fed at once"), (244, "a segment has at most 1460 bytes"), (250, "no segment is like that"), (282, "there is no such figure")]
def se_ZNX (sa : Nat → Nat) (U : State) : Prop := se_ZN U ∧ (∀ q ∈ xe_strs, vk_R RX5 q.1 q.2 (sa q.1) U) ∧ ∀ w ∈ xe_heapw, w.before #[] U = true
theorem xe_heapArgs {w : Cond} (hw : w ∈ xe_heapw) {U : State} (h : w.before #[] U = true) (a : Array Value) : w.before a U = true := by
  simp only [xe_heapw, List.mem_cons, List.not_mem_nil, or_false] at hw
  rcases hw with rfl | rfl | rfl | rfl <;> exact h
theorem xe_atL {L : List Cond} (hL : L.all (fun w => (goodWord w && tables_1.contains w) || (se_isN w && se_nest.contains w) || xe_heapw.contains w) = true) {a0 : Cond} {args : Array Value} {s : State} {sa : Nat → Nat} (hts : ∀ w ∈ a0 :: se_all, w.before args s = true) (hZ : se_ZNX sa s) : ∀ w ∈ L, w.before args s = true := by
  intro w hw
  have h1 := List.all_eq_true.mp hL w hw
  simp only [Bool.or_eq_true, Bool.and_eq_true, List.contains_iff_mem] at h1
  rcases h1 with (⟨hg, hm⟩ | ⟨hn, hm⟩) | hm
  · exact hts w (List.mem_cons_of_mem _ (List.mem_filter.mpr ⟨List.mem_append_right _ hm, hg⟩))
  · have h2 := hZ.1 w hm hn
    have h3 : w.onTables = true := by cases w <;> first | rfl | (simp [se_isN] at hn; done)
    exact va_Nw.use h3 h2
  · exact xe_heapArgs hm (hZ.2.2 w hm) args
set_option maxRecDepth 100000 in
set_option maxHeartbeats 4000000 in
theorem xe_all1 : (Bundle.ownAtoms RX5 92 "java/lang/IllegalArgumentException" xe_names).all (fun w => (goodWord w && tables_1.contains w) || (se_isN w && se_nest.contains w) || xe_heapw.contains w) = true := by decide +kernel
theorem xe_at1 {a0 : Cond} {args : Array Value} {s : State} {sa : Nat → Nat} (hts : ∀ w ∈ a0 :: se_all, w.before args s = true) (hZ : se_ZNX sa s) : ∀ w ∈ Bundle.ownAtoms RX5 92 "java/lang/IllegalArgumentException" xe_names, w.before args s = true := xe_atL xe_all1 hts hZ
set_option maxRecDepth 100000 in
set_option maxHeartbeats 4000000 in
theorem xe_all2 : (Bundle.ownAtoms RX5 77 "java/lang/IllegalStateException" xe_names).all (fun w => (goodWord w && tables_1.contains w) || (se_isN w && se_nest.contains w) || xe_heapw.contains w) = true := by decide +kernel
theorem xe_at2 {a0 : Cond} {args : Array Value} {s : State} {sa : Nat → Nat} (hts : ∀ w ∈ a0 :: se_all, w.before args s = true) (hZ : se_ZNX sa s) : ∀ w ∈ Bundle.ownAtoms RX5 77 "java/lang/IllegalStateException" xe_names, w.before args s = true := xe_atL xe_all2 hts hZ
set_option maxRecDepth 100000 in
set_option maxHeartbeats 4000000 in
theorem xe_all3 : (Bundle.ownAtoms RX5 237 "java/lang/IndexOutOfBoundsException" xe_names).all (fun w => (goodWord w && tables_1.contains w) || (se_isN w && se_nest.contains w) || xe_heapw.contains w) = true := by decide +kernel
theorem xe_at3 {a0 : Cond} {args : Array Value} {s : State} {sa : Nat → Nat} (hts : ∀ w ∈ a0 :: se_all, w.before args s = true) (hZ : se_ZNX sa s) : ∀ w ∈ Bundle.ownAtoms RX5 237 "java/lang/IndexOutOfBoundsException" xe_names, w.before args s = true := xe_atL xe_all3 hts hZ

