def RX0 : String := "ReelConsole$CommandText"
def TX0 : u_T := fun k => match k with
  | 0 => ("ReelConsole$CommandText", "characters", "[I", true)
  | 1 => ("ReelConsole$CommandText", "length", "I", false)
  | 2 => ("ReelConsole$CommandText", "position", "I", false)
  | 3 => ("ReelConsole$CommandText", "command", "I", false)
  | 4 => ("ReelConsole$CommandText", "kind", "I", false)
  | 5 => ("ReelConsole$CommandText", "volume", "I", false)
  | 6 => ("ReelConsole$CommandText", "minutes", "I", false)
  | _ => ("ReelConsole$CommandText", "priority", "I", false)
def tyX0 : Nat → FieldType := fun k => match k with
  | 0 => .array .int
  | 1 => .int
  | 2 => .int
  | 3 => .int
  | 4 => .int
  | 5 => .int
  | 6 => .int
  | _ => .int
abbrev wsX00 : List Cond := u_ws RX0 TX0 8
theorem nmX0 : ∀ a, a < 8 → ∀ b, b < 8 → a ≠ b → (TX0 a).2.1 ≠ (TX0 b).2.1 := by decide +kernel
theorem tyX0_ok : ∀ k, k < 8 → parseFieldDescriptor (TX0 k).2.2.1 = some (tyX0 k) := by decide +kernel
abbrev cX0_init : ByteArray := prog_2_method_1_code
def yX0_init : MethodName := ⟨RX0, "<init>", "()V"⟩
abbrev cX0_append : ByteArray := prog_2_method_2_code
def yX0_append : MethodName := ⟨RX0, "append", "(I)V"⟩
abbrev cX0_rewind : ByteArray := prog_2_method_3_code
def yX0_rewind : MethodName := ⟨RX0, "rewind", "()V"⟩
abbrev cX0_findError : ByteArray := prog_2_method_4_code
def yX0_findError : MethodName := ⟨RX0, "findError", "()I"⟩
abbrev cX0_readCommand : ByteArray := prog_2_method_5_code
def yX0_readCommand : MethodName := ⟨RX0, "readCommand", "()Z"⟩
abbrev cX0_readSubmission : ByteArray := prog_2_method_6_code
def yX0_readSubmission : MethodName := ⟨RX0, "readSubmission", "(I)Z"⟩
abbrev cX0_readPriority : ByteArray := prog_2_method_7_code
def yX0_readPriority : MethodName := ⟨RX0, "readPriority", "()Z"⟩
abbrev cX0_readNumber : ByteArray := prog_2_method_8_code
def yX0_readNumber : MethodName := ⟨RX0, "readNumber", "(I)I"⟩
abbrev cX0_skip : ByteArray := prog_2_method_9_code
def yX0_skip : MethodName := ⟨RX0, "skip", "(C)Z"⟩
abbrev cX0_digitHere : ByteArray := prog_2_method_10_code
def yX0_digitHere : MethodName := ⟨RX0, "digitHere", "()I"⟩
abbrev cX0_characterHere : ByteArray := prog_2_method_11_code
def yX0_characterHere : MethodName := ⟨RX0, "characterHere", "()I"⟩
def RX1 : String := "ReelConsole$History"
def TX1 : u_T := fun k => match k with
  | 0 => ("ReelConsole$History", "slots", "[LReelConsole$Room;", true)
  | 1 => ("ReelConsole$History", "size", "I", false)
  | _ => ("ReelConsole$History", "nextSlot", "I", false)
def tyX1 : Nat → FieldType := fun k => match k with
  | 0 => .array (.object "ReelConsole$Room")
  | 1 => .int
  | _ => .int
abbrev wsX10 : List Cond := u_ws RX1 TX1 3
theorem nmX1 : ∀ a, a < 3 → ∀ b, b < 3 → a ≠ b → (TX1 a).2.1 ≠ (TX1 b).2.1 := by decide +kernel
theorem tyX1_ok : ∀ k, k < 3 → parseFieldDescriptor (TX1 k).2.2.1 = some (tyX1 k) := by decide +kernel
abbrev cX1_init : ByteArray := prog_3_method_1_code
def yX1_init : MethodName := ⟨RX1, "<init>", "()V"⟩
abbrev cX1_save : ByteArray := prog_3_method_2_code
def yX1_save : MethodName := ⟨RX1, "save", "(LReelConsole$Room;)V"⟩
abbrev cX1_restore : ByteArray := prog_3_method_3_code
def yX1_restore : MethodName := ⟨RX1, "restore", "(LReelConsole$Room;)V"⟩
def RX2 : String := "ReelConsole$Jobs"
def TX2 : u_T := fun k => match k with
  | 0 => ("ReelConsole$Jobs", "kinds", "[I", true)
  | 1 => ("ReelConsole$Jobs", "volumes", "[I", true)
  | 2 => ("ReelConsole$Jobs", "minutes", "[I", true)
  | 3 => ("ReelConsole$Jobs", "priorities", "[I", true)
  | 4 => ("ReelConsole$Jobs", "states", "[I", true)
  | 5 => ("ReelConsole$Jobs", "blocks", "[I", true)
  | 6 => ("ReelConsole$Jobs", "mounted", "[I", true)
  | 7 => ("ReelConsole$Jobs", "sentBack", "[I", true)
  | _ => ("ReelConsole$Jobs", "number", "I", false)
def tyX2 : Nat → FieldType := fun k => match k with
  | 0 => .array .int
  | 1 => .array .int
  | 2 => .array .int
  | 3 => .array .int
  | 4 => .array .int
  | 5 => .array .int
  | 6 => .array .int
  | 7 => .array .int
  | _ => .int
abbrev wsX20 : List Cond := u_ws RX2 TX2 9
theorem nmX2 : ∀ a, a < 9 → ∀ b, b < 9 → a ≠ b → (TX2 a).2.1 ≠ (TX2 b).2.1 := by decide +kernel
theorem tyX2_ok : ∀ k, k < 9 → parseFieldDescriptor (TX2 k).2.2.1 = some (tyX2 k) := by decide +kernel
abbrev cX2_init : ByteArray := prog_4_method_1_code
def yX2_init : MethodName := ⟨RX2, "<init>", "()V"⟩
abbrev cX2_copyFrom : ByteArray := prog_4_method_2_code
def yX2_copyFrom : MethodName := ⟨RX2, "copyFrom", "(LReelConsole$Jobs;)V"⟩
abbrev cX2_has : ByteArray := prog_4_method_3_code
def yX2_has : MethodName := ⟨RX2, "has", "(I)Z"⟩
abbrev cX2_isFull : ByteArray := prog_4_method_4_code
def yX2_isFull : MethodName := ⟨RX2, "isFull", "()Z"⟩
abbrev cX2_add : ByteArray := prog_4_method_5_code
def yX2_add : MethodName := ⟨RX2, "add", "(IIII)I"⟩
abbrev cX2_countIn : ByteArray := prog_4_method_6_code
def yX2_countIn : MethodName := ⟨RX2, "countIn", "(I)I"⟩
abbrev cX2_wantedSticker : ByteArray := prog_4_method_7_code
def yX2_wantedSticker : MethodName := ⟨RX2, "wantedSticker", "(I)I"⟩
abbrev cX2_hasWaitingCreate : ByteArray := prog_4_method_8_code
def yX2_hasWaitingCreate : MethodName := ⟨RX2, "hasWaitingCreate", "(I)Z"⟩
def RX3 : String := "ReelConsole$Reels"
def TX3 : u_T := fun k => match k with
  | 0 => ("ReelConsole$Reels", "labels", "[I", true)
  | 1 => ("ReelConsole$Reels", "stickers", "[I", true)
  | 2 => ("ReelConsole$Reels", "rings", "[Z", true)
  | 3 => ("ReelConsole$Reels", "expiryDays", "[I", true)
  | 4 => ("ReelConsole$Reels", "blocks", "[I", true)
  | _ => ("ReelConsole$Reels", "drives", "[I", true)
def tyX3 : Nat → FieldType := fun k => match k with
  | 0 => .array .int
  | 1 => .array .int
  | 2 => .array .boolean
  | 3 => .array .int
  | 4 => .array .int
  | _ => .array .int
abbrev wsX30 : List Cond := u_ws RX3 TX3 6
theorem nmX3 : ∀ a, a < 6 → ∀ b, b < 6 → a ≠ b → (TX3 a).2.1 ≠ (TX3 b).2.1 := by decide +kernel
theorem tyX3_ok : ∀ k, k < 6 → parseFieldDescriptor (TX3 k).2.2.1 = some (tyX3 k) := by decide +kernel
abbrev cX3_init : ByteArray := prog_5_method_1_code
def yX3_init : MethodName := ⟨RX3, "<init>", "()V"⟩
abbrev cX3_copyFrom : ByteArray := prog_5_method_2_code
def yX3_copyFrom : MethodName := ⟨RX3, "copyFrom", "(LReelConsole$Reels;)V"⟩
abbrev cX3_isScratch : ByteArray := prog_5_method_3_code
def yX3_isScratch : MethodName := ⟨RX3, "isScratch", "(II)Z"⟩
abbrev cX3_keepsLabel : ByteArray := prog_5_method_4_code
def yX3_keepsLabel : MethodName := ⟨RX3, "keepsLabel", "(II)Z"⟩
abbrev cX3_findOn : ByteArray := prog_5_method_5_code
def yX3_findOn : MethodName := ⟨RX3, "findOn", "(I)I"⟩
abbrev cX3_findEmptyDrive : ByteArray := prog_5_method_6_code
def yX3_findEmptyDrive : MethodName := ⟨RX3, "findEmptyDrive", "()I"⟩
abbrev cX3_findOnShelf : ByteArray := prog_5_method_7_code
def yX3_findOnShelf : MethodName := ⟨RX3, "findOnShelf", "(I)I"⟩
abbrev cX3_findNextOnShelf : ByteArray := prog_5_method_8_code
def yX3_findNextOnShelf : MethodName := ⟨RX3, "findNextOnShelf", "(I)I"⟩
def RX4 : String := "ReelConsole$Room"
def TX4 : u_T := fun k => match k with
  | 0 => ("ReelConsole$Room", "reels", "LReelConsole$Reels;", true)
  | 1 => ("ReelConsole$Room", "jobs", "LReelConsole$Jobs;", true)
  | 2 => ("ReelConsole$Room", "day", "I", false)
  | 3 => ("ReelConsole$Room", "care", "I", false)
  | 4 => ("ReelConsole$Room", "keep", "I", false)
  | 5 => ("ReelConsole$Room", "minutes", "I", false)
  | 6 => ("ReelConsole$Room", "mounts", "I", false)
  | 7 => ("ReelConsole$Room", "slips", "I", false)
  | 8 => ("ReelConsole$Room", "sentBack", "I", false)
  | 9 => ("ReelConsole$Room", "blocksRead", "I", false)
  | 10 => ("ReelConsole$Room", "blocksWritten", "I", false)
  | _ => ("ReelConsole$Room", "blocksDropped", "I", false)
def tyX4 : Nat → FieldType := fun k => match k with
  | 0 => .object "ReelConsole$Reels"
  | 1 => .object "ReelConsole$Jobs"
  | 2 => .int
  | 3 => .int
  | 4 => .int
  | 5 => .int
  | 6 => .int
  | 7 => .int
  | 8 => .int
  | 9 => .int
  | 10 => .int
  | _ => .int
abbrev wsX40 : List Cond := u_ws RX4 TX4 12
theorem nmX4 : ∀ a, a < 12 → ∀ b, b < 12 → a ≠ b → (TX4 a).2.1 ≠ (TX4 b).2.1 := by decide +kernel
theorem tyX4_ok : ∀ k, k < 12 → parseFieldDescriptor (TX4 k).2.2.1 = some (tyX4 k) := by decide +kernel
abbrev cX4_init : ByteArray := prog_6_method_1_code
def yX4_init : MethodName := ⟨RX4, "<init>", "()V"⟩
abbrev cX4_copyFrom : ByteArray := prog_6_method_2_code
def yX4_copyFrom : MethodName := ⟨RX4, "copyFrom", "(LReelConsole$Room;)V"⟩
abbrev cX4_hasNextDay : ByteArray := prog_6_method_3_code
def yX4_hasNextDay : MethodName := ⟨RX4, "hasNextDay", "()Z"⟩
abbrev cX4_takesJob : ByteArray := prog_6_method_4_code
def yX4_takesJob : MethodName := ⟨RX4, "takesJob", "(II)Z"⟩
abbrev cX4_endJob : ByteArray := prog_6_method_5_code
def yX4_endJob : MethodName := ⟨RX4, "endJob", "(II)V"⟩
abbrev cX4_runMinutes : ByteArray := prog_6_method_6_code
def yX4_runMinutes : MethodName := ⟨RX4, "runMinutes", "(I)I"⟩
abbrev cX4_runMinute : ByteArray := prog_6_method_7_code
def yX4_runMinute : MethodName := ⟨RX4, "runMinute", "()I"⟩
abbrev cX4_moveBlock : ByteArray := prog_6_method_8_code
def yX4_moveBlock : MethodName := ⟨RX4, "moveBlock", "(I)V"⟩
abbrev cX4_lacksReel : ByteArray := prog_6_method_9_code
def yX4_lacksReel : MethodName := ⟨RX4, "lacksReel", "(I)Z"⟩
abbrev cX4_findNextJob : ByteArray := prog_6_method_10_code
def yX4_findNextJob : MethodName := ⟨RX4, "findNextJob", "()I"⟩
abbrev cX4_isSlip : ByteArray := prog_6_method_11_code
def yX4_isSlip : MethodName := ⟨RX4, "isSlip", "(I)Z"⟩
abbrev cX4_chooseReel : ByteArray := prog_6_method_12_code
def yX4_chooseReel : MethodName := ⟨RX4, "chooseReel", "(IZ)I"⟩
abbrev cX4_serve : ByteArray := prog_6_method_13_code
def yX4_serve : MethodName := ⟨RX4, "serve", "(II)V"⟩
abbrev cX4_check : ByteArray := prog_6_method_14_code
def yX4_check : MethodName := ⟨RX4, "check", "(II)I"⟩
abbrev cX4_mount : ByteArray := prog_6_method_15_code
def yX4_mount : MethodName := ⟨RX4, "mount", "(III)V"⟩
abbrev cX4_sendBack : ByteArray := prog_6_method_16_code
def yX4_sendBack : MethodName := ⟨RX4, "sendBack", "(II)V"⟩
def RX5 : String := "ReelConsole"
def TX5 : u_T := fun k => match k with
  | 0 => ("ReelConsole", "room", "LReelConsole$Room;", true)
  | 1 => ("ReelConsole", "trial", "LReelConsole$Room;", true)
  | 2 => ("ReelConsole", "history", "LReelConsole$History;", true)
  | _ => ("ReelConsole", "text", "LReelConsole$CommandText;", true)
def tyX5 : Nat → FieldType := fun k => match k with
  | 0 => .object "ReelConsole$Room"
  | 1 => .object "ReelConsole$Room"
  | 2 => .object "ReelConsole$History"
  | _ => .object "ReelConsole$CommandText"
abbrev wsX50 : List Cond := u_ws RX5 TX5 4
theorem nmX5 : ∀ a, a < 4 → ∀ b, b < 4 → a ≠ b → (TX5 a).2.1 ≠ (TX5 b).2.1 := by decide +kernel
theorem tyX5_ok : ∀ k, k < 4 → parseFieldDescriptor (TX5 k).2.2.1 = some (tyX5 k) := by decide +kernel
abbrev cX5_init : ByteArray := prog_1_method_1_code
def yX5_init : MethodName := ⟨RX5, "<init>", "()V"⟩
abbrev cX5_submit : ByteArray := prog_1_method_2_code
def yX5_submit : MethodName := ⟨RX5, "submit", "(IIII)I"⟩
abbrev cX5_cancel : ByteArray := prog_1_method_3_code
def yX5_cancel : MethodName := ⟨RX5, "cancel", "(I)I"⟩
abbrev cX5_setSticker : ByteArray := prog_1_method_4_code
def yX5_setSticker : MethodName := ⟨RX5, "setSticker", "(II)I"⟩
abbrev cX5_setRing : ByteArray := prog_1_method_5_code
def yX5_setRing : MethodName := ⟨RX5, "setRing", "(IZ)Z"⟩
abbrev cX5_pass : ByteArray := prog_1_method_6_code
def yX5_pass : MethodName := ⟨RX5, "pass", "(I)I"⟩
abbrev cX5_nextDay : ByteArray := prog_1_method_7_code
def yX5_nextDay : MethodName := ⟨RX5, "nextDay", "()I"⟩
abbrev cX5_set : ByteArray := prog_1_method_8_code
def yX5_set : MethodName := ⟨RX5, "set", "(II)I"⟩
abbrev cX5_appendText : ByteArray := prog_1_method_9_code
def yX5_appendText : MethodName := ⟨RX5, "appendText", "(I)I"⟩
abbrev cX5_clearText : ByteArray := prog_1_method_10_code
def yX5_clearText : MethodName := ⟨RX5, "clearText", "()I"⟩
abbrev cX5_errorPosition : ByteArray := prog_1_method_11_code
def yX5_errorPosition : MethodName := ⟨RX5, "errorPosition", "()I"⟩
abbrev cX5_runText : ByteArray := prog_1_method_12_code
def yX5_runText : MethodName := ⟨RX5, "runText", "()I"⟩
abbrev cX5_execute : ByteArray := prog_1_method_13_code
def yX5_execute : MethodName := ⟨RX5, "execute", "()Z"⟩
abbrev cX5_undo : ByteArray := prog_1_method_14_code
def yX5_undo : MethodName := ⟨RX5, "undo", "()I"⟩
abbrev cX5_reel : ByteArray := prog_1_method_15_code
def yX5_reel : MethodName := ⟨RX5, "reel", "(II)I"⟩
abbrev cX5_reelOn : ByteArray := prog_1_method_16_code
def yX5_reelOn : MethodName := ⟨RX5, "reelOn", "(I)I"⟩
abbrev cX5_scratchReels : ByteArray := prog_1_method_17_code
def yX5_scratchReels : MethodName := ⟨RX5, "scratchReels", "()I"⟩
abbrev cX5_jobs : ByteArray := prog_1_method_18_code
def yX5_jobs : MethodName := ⟨RX5, "jobs", "()I"⟩
abbrev cX5_job : ByteArray := prog_1_method_19_code
def yX5_job : MethodName := ⟨RX5, "job", "(II)I"⟩
abbrev cX5_isStuck : ByteArray := prog_1_method_20_code
def yX5_isStuck : MethodName := ⟨RX5, "isStuck", "(I)Z"⟩
abbrev cX5_verdict : ByteArray := prog_1_method_21_code
def yX5_verdict : MethodName := ⟨RX5, "verdict", "(II)I"⟩
abbrev cX5_nextJob : ByteArray := prog_1_method_22_code
def yX5_nextJob : MethodName := ⟨RX5, "nextJob", "()I"⟩
abbrev cX5_nextReel : ByteArray := prog_1_method_23_code
def yX5_nextReel : MethodName := ⟨RX5, "nextReel", "()I"⟩
abbrev cX5_minutesToDone : ByteArray := prog_1_method_24_code
def yX5_minutesToDone : MethodName := ⟨RX5, "minutesToDone", "(I)I"⟩
abbrev cX5_count : ByteArray := prog_1_method_25_code
def yX5_count : MethodName := ⟨RX5, "count", "(I)I"⟩
abbrev cX5_success : ByteArray := prog_1_method_26_code
def yX5_success : MethodName := ⟨RX5, "success", "()D"⟩
abbrev cX5_savedStates : ByteArray := prog_1_method_27_code
def yX5_savedStates : MethodName := ⟨RX5, "savedStates", "()I"⟩
abbrev cX5_textLength : ByteArray := prog_1_method_28_code
def yX5_textLength : MethodName := ⟨RX5, "textLength", "()I"⟩
abbrev cX5_isWithin : ByteArray := prog_1_method_29_code
def yX5_isWithin : MethodName := ⟨RX5, "isWithin", "(III)Z"⟩
abbrev cX5_isReel : ByteArray := prog_1_method_30_code
def yX5_isReel : MethodName := ⟨RX5, "isReel", "(I)Z"⟩
def RX6 : String := "ReelConsoleModel"
def TX6 : u_T := fun k => match k with
  | 0 => ("ReelConsoleModel", "row", "[I", true)
  | 1 => ("ReelConsoleModel", "saved", "[I", true)
  | 2 => ("ReelConsoleModel", "savedMany", "I", false)
  | 3 => ("ReelConsoleModel", "aside", "[I", true)
  | 4 => ("ReelConsoleModel", "thrown", "I", false)
  | 5 => ("ReelConsoleModel", "text", "[I", true)
  | 6 => ("ReelConsoleModel", "length", "I", false)
  | 7 => ("ReelConsoleModel", "spot", "I", false)
  | 8 => ("ReelConsoleModel", "number", "I", false)
  | 9 => ("ReelConsoleModel", "commands", "I", false)
  | 10 => ("ReelConsoleModel", "letter", "[I", true)
  | 11 => ("ReelConsoleModel", "one", "[I", true)
  | 12 => ("ReelConsoleModel", "two", "[I", true)
  | _ => ("ReelConsoleModel", "three", "[I", true)
def tyX6 : Nat → FieldType := fun k => match k with
  | 0 => .array .int
  | 1 => .array .int
  | 2 => .int
  | 3 => .array .int
  | 4 => .int
  | 5 => .array .int
  | 6 => .int
  | 7 => .int
  | 8 => .int
  | 9 => .int
  | 10 => .array .int
  | 11 => .array .int
  | 12 => .array .int
  | _ => .array .int
abbrev wsX60 : List Cond := u_ws RX6 TX6 14
theorem nmX6 : ∀ a, a < 14 → ∀ b, b < 14 → a ≠ b → (TX6 a).2.1 ≠ (TX6 b).2.1 := by decide +kernel
theorem tyX6_ok : ∀ k, k < 14 → parseFieldDescriptor (TX6 k).2.2.1 = some (tyX6 k) := by decide +kernel
abbrev cX6_init : ByteArray := prog_8_method_1_code
def yX6_init : MethodName := ⟨RX6, "<init>", "()V"⟩
abbrev cX6_thrown : ByteArray := prog_8_method_2_code
def yX6_thrown : MethodName := ⟨RX6, "thrown", "()I"⟩
abbrev cX6_fails : ByteArray := prog_8_method_3_code
def yX6_fails : MethodName := ⟨RX6, "fails", "(I)I"⟩
abbrev cX6_in : ByteArray := prog_8_method_4_code
def yX6_in : MethodName := ⟨RX6, "in", "(III)Z"⟩
abbrev cX6_isReel : ByteArray := prog_8_method_5_code
def yX6_isReel : MethodName := ⟨RX6, "isReel", "(I)Z"⟩
abbrev cX6_isJob : ByteArray := prog_8_method_6_code
def yX6_isJob : MethodName := ⟨RX6, "isJob", "(I)Z"⟩
abbrev cX6_of : ByteArray := prog_8_method_7_code
def yX6_of : MethodName := ⟨RX6, "of", "(II)I"⟩
abbrev cX6_put : ByteArray := prog_8_method_8_code
def yX6_put : MethodName := ⟨RX6, "put", "(III)V"⟩
abbrev cX6_ofJob : ByteArray := prog_8_method_9_code
def yX6_ofJob : MethodName := ⟨RX6, "ofJob", "(II)I"⟩
abbrev cX6_putJob : ByteArray := prog_8_method_10_code
def yX6_putJob : MethodName := ⟨RX6, "putJob", "(III)V"⟩
abbrev cX6_isOnShelf : ByteArray := prog_8_method_11_code
def yX6_isOnShelf : MethodName := ⟨RX6, "isOnShelf", "(I)Z"⟩
abbrev cX6_isScratch : ByteArray := prog_8_method_12_code
def yX6_isScratch : MethodName := ⟨RX6, "isScratch", "(I)Z"⟩
abbrev cX6_save : ByteArray := prog_8_method_13_code
def yX6_save : MethodName := ⟨RX6, "save", "()V"⟩
abbrev cX6_undo : ByteArray := prog_8_method_14_code
def yX6_undo : MethodName := ⟨RX6, "undo", "()I"⟩
abbrev cX6_found : ByteArray := prog_8_method_15_code
def yX6_found : MethodName := ⟨RX6, "found", "(I)I"⟩
abbrev cX6_next : ByteArray := prog_8_method_16_code
def yX6_next : MethodName := ⟨RX6, "next", "()I"⟩
abbrev cX6_isSlip : ByteArray := prog_8_method_17_code
def yX6_isSlip : MethodName := ⟨RX6, "isSlip", "(I)Z"⟩
abbrev cX6_after : ByteArray := prog_8_method_18_code
def yX6_after : MethodName := ⟨RX6, "after", "(I)I"⟩
abbrev cX6_check : ByteArray := prog_8_method_19_code
def yX6_check : MethodName := ⟨RX6, "check", "(II)I"⟩
abbrev cX6_onDrive : ByteArray := prog_8_method_20_code
def yX6_onDrive : MethodName := ⟨RX6, "onDrive", "(I)I"⟩
abbrev cX6_emptyDrive : ByteArray := prog_8_method_21_code
def yX6_emptyDrive : MethodName := ⟨RX6, "emptyDrive", "()I"⟩
abbrev cX6_mount : ByteArray := prog_8_method_22_code
def yX6_mount : MethodName := ⟨RX6, "mount", "(III)V"⟩
abbrev cX6_serve : ByteArray := prog_8_method_23_code
def yX6_serve : MethodName := ⟨RX6, "serve", "(II)V"⟩
abbrev cX6_takeOff : ByteArray := prog_8_method_24_code
def yX6_takeOff : MethodName := ⟨RX6, "takeOff", "(I)V"⟩
abbrev cX6_isDoneNow : ByteArray := prog_8_method_25_code
def yX6_isDoneNow : MethodName := ⟨RX6, "isDoneNow", "(I)Z"⟩
abbrev cX6_minute : ByteArray := prog_8_method_26_code
def yX6_minute : MethodName := ⟨RX6, "minute", "()I"⟩
abbrev cX6_passNow : ByteArray := prog_8_method_27_code
def yX6_passNow : MethodName := ⟨RX6, "passNow", "(I)I"⟩
abbrev cX6_areRight : ByteArray := prog_8_method_28_code
def yX6_areRight : MethodName := ⟨RX6, "areRight", "(IIII)Z"⟩
abbrev cX6_isKept : ByteArray := prog_8_method_29_code
def yX6_isKept : MethodName := ⟨RX6, "isKept", "(I)Z"⟩
abbrev cX6_canSubmit : ByteArray := prog_8_method_30_code
def yX6_canSubmit : MethodName := ⟨RX6, "canSubmit", "(II)Z"⟩
abbrev cX6_submitNow : ByteArray := prog_8_method_31_code
def yX6_submitNow : MethodName := ⟨RX6, "submitNow", "(IIII)I"⟩
abbrev cX6_submit : ByteArray := prog_8_method_32_code
def yX6_submit : MethodName := ⟨RX6, "submit", "(IIII)I"⟩
abbrev cX6_cancel : ByteArray := prog_8_method_33_code
def yX6_cancel : MethodName := ⟨RX6, "cancel", "(I)I"⟩
abbrev cX6_setSticker : ByteArray := prog_8_method_34_code
def yX6_setSticker : MethodName := ⟨RX6, "setSticker", "(II)I"⟩
abbrev cX6_setRing : ByteArray := prog_8_method_35_code
def yX6_setRing : MethodName := ⟨RX6, "setRing", "(IZ)Z"⟩
abbrev cX6_pass : ByteArray := prog_8_method_36_code
def yX6_pass : MethodName := ⟨RX6, "pass", "(I)I"⟩
abbrev cX6_nextDay : ByteArray := prog_8_method_37_code
def yX6_nextDay : MethodName := ⟨RX6, "nextDay", "()I"⟩
abbrev cX6_set : ByteArray := prog_8_method_38_code
def yX6_set : MethodName := ⟨RX6, "set", "(II)I"⟩
abbrev cX6_appendText : ByteArray := prog_8_method_39_code
def yX6_appendText : MethodName := ⟨RX6, "appendText", "(I)I"⟩
abbrev cX6_clearText : ByteArray := prog_8_method_40_code
def yX6_clearText : MethodName := ⟨RX6, "clearText", "()I"⟩
abbrev cX6_sign : ByteArray := prog_8_method_41_code
def yX6_sign : MethodName := ⟨RX6, "sign", "()I"⟩
abbrev cX6_takes : ByteArray := prog_8_method_42_code
def yX6_takes : MethodName := ⟨RX6, "takes", "(I)Z"⟩
abbrev cX6_readsNumber : ByteArray := prog_8_method_43_code
def yX6_readsNumber : MethodName := ⟨RX6, "readsNumber", "(I)Z"⟩
abbrev cX6_readsJob : ByteArray := prog_8_method_44_code
def yX6_readsJob : MethodName := ⟨RX6, "readsJob", "()Z"⟩
abbrev cX6_readsMinutes : ByteArray := prog_8_method_45_code
def yX6_readsMinutes : MethodName := ⟨RX6, "readsMinutes", "()Z"⟩
abbrev cX6_readsCommand : ByteArray := prog_8_method_46_code
def yX6_readsCommand : MethodName := ⟨RX6, "readsCommand", "()Z"⟩
abbrev cX6_isValid : ByteArray := prog_8_method_47_code
def yX6_isValid : MethodName := ⟨RX6, "isValid", "()Z"⟩
abbrev cX6_errorPosition : ByteArray := prog_8_method_48_code
def yX6_errorPosition : MethodName := ⟨RX6, "errorPosition", "()I"⟩
abbrev cX6_kindOf : ByteArray := prog_8_method_49_code
def yX6_kindOf : MethodName := ⟨RX6, "kindOf", "(I)I"⟩
abbrev cX6_isCarriedOut : ByteArray := prog_8_method_50_code
def yX6_isCarriedOut : MethodName := ⟨RX6, "isCarriedOut", "(I)Z"⟩
abbrev cX6_runText : ByteArray := prog_8_method_51_code
def yX6_runText : MethodName := ⟨RX6, "runText", "()I"⟩
abbrev cX6_reel : ByteArray := prog_8_method_52_code
def yX6_reel : MethodName := ⟨RX6, "reel", "(II)I"⟩
abbrev cX6_reelOn : ByteArray := prog_8_method_53_code
def yX6_reelOn : MethodName := ⟨RX6, "reelOn", "(I)I"⟩
abbrev cX6_scratchReels : ByteArray := prog_8_method_54_code
def yX6_scratchReels : MethodName := ⟨RX6, "scratchReels", "()I"⟩
abbrev cX6_jobs : ByteArray := prog_8_method_55_code
def yX6_jobs : MethodName := ⟨RX6, "jobs", "()I"⟩
abbrev cX6_job : ByteArray := prog_8_method_56_code
def yX6_job : MethodName := ⟨RX6, "job", "(II)I"⟩
abbrev cX6_isStuck : ByteArray := prog_8_method_57_code
def yX6_isStuck : MethodName := ⟨RX6, "isStuck", "(I)Z"⟩
abbrev cX6_verdict : ByteArray := prog_8_method_58_code
def yX6_verdict : MethodName := ⟨RX6, "verdict", "(II)I"⟩
abbrev cX6_nextJob : ByteArray := prog_8_method_59_code
def yX6_nextJob : MethodName := ⟨RX6, "nextJob", "()I"⟩
abbrev cX6_nextReel : ByteArray := prog_8_method_60_code
def yX6_nextReel : MethodName := ⟨RX6, "nextReel", "()I"⟩
abbrev cX6_minutesTo : ByteArray := prog_8_method_61_code
def yX6_minutesTo : MethodName := ⟨RX6, "minutesTo", "(I)I"⟩
abbrev cX6_minutesToDone : ByteArray := prog_8_method_62_code
def yX6_minutesToDone : MethodName := ⟨RX6, "minutesToDone", "(I)I"⟩
abbrev cX6_with : ByteArray := prog_8_method_63_code
def yX6_with : MethodName := ⟨RX6, "with", "(I)I"⟩
abbrev cX6_count : ByteArray := prog_8_method_64_code
def yX6_count : MethodName := ⟨RX6, "count", "(I)I"⟩
abbrev cX6_success : ByteArray := prog_8_method_65_code
def yX6_success : MethodName := ⟨RX6, "success", "()D"⟩
abbrev cX6_savedStates : ByteArray := prog_8_method_66_code
def yX6_savedStates : MethodName := ⟨RX6, "savedStates", "()I"⟩
abbrev cX6_textLength : ByteArray := prog_8_method_67_code
def yX6_textLength : MethodName := ⟨RX6, "textLength", "()I"⟩
def RJ9 : String := "java/lang/Math"
def TJ9 : u_T := fun k => match k with
  | _ => ("", "", "", false)
def tyJ9 : Nat → FieldType := fun k => match k with
  | _ => .int
abbrev wsJ90 : List Cond := u_ws RJ9 TJ9 0
theorem nmJ9 : ∀ a, a < 0 → ∀ b, b < 0 → a ≠ b → (TJ9 a).2.1 ≠ (TJ9 b).2.1 := by decide +kernel
theorem tyJ9_ok : ∀ k, k < 0 → parseFieldDescriptor (TJ9 k).2.2.1 = some (tyJ9 k) := by decide +kernel
abbrev cJ9_floorMod_7cf53 : ByteArray := prog_13_method_50_code
def yJ9_floorMod_7cf53 : MethodName := ⟨RJ9, "floorMod", "(II)I"⟩
def RJ0 : String := "java/lang/String"
def TJ0 : u_T := fun k => match k with
  | _ => ("", "", "", false)
def tyJ0 : Nat → FieldType := fun k => match k with
  | _ => .int
abbrev wsJ00 : List Cond := u_ws RJ0 TJ0 0
theorem nmJ0 : ∀ a, a < 0 → ∀ b, b < 0 → a ≠ b → (TJ0 a).2.1 ≠ (TJ0 b).2.1 := by decide +kernel
theorem tyJ0_ok : ∀ k, k < 0 → parseFieldDescriptor (TJ0 k).2.2.1 = some (tyJ0 k) := by decide +kernel
def RJ10 : String := "java/lang/System"
def TJ10 : u_T := fun k => match k with
  | _ => ("", "", "", false)
def tyJ10 : Nat → FieldType := fun k => match k with
  | _ => .int
abbrev wsJ100 : List Cond := u_ws RJ10 TJ10 0
theorem nmJ10 : ∀ a, a < 0 → ∀ b, b < 0 → a ≠ b → (TJ10 a).2.1 ≠ (TJ10 b).2.1 := by decide +kernel
theorem tyJ10_ok : ∀ k, k < 0 → parseFieldDescriptor (TJ10 k).2.2.1 = some (tyJ10 k) := by decide +kernel
def RL : String := "ReelConsoleLaw"
abbrev cL_submit : ByteArray := method_3_code
def yL_submit : MethodName := ⟨RL, "submit", "(LReelConsole;IIII[J)I"⟩
abbrev cL_cancel : ByteArray := method_4_code
def yL_cancel : MethodName := ⟨RL, "cancel", "(LReelConsole;I[J)I"⟩
abbrev cL_setSticker : ByteArray := method_5_code
def yL_setSticker : MethodName := ⟨RL, "setSticker", "(LReelConsole;II[J)I"⟩
abbrev cL_setRing : ByteArray := method_6_code
def yL_setRing : MethodName := ⟨RL, "setRing", "(LReelConsole;IZ[J)I"⟩
abbrev cL_pass : ByteArray := method_7_code
def yL_pass : MethodName := ⟨RL, "pass", "(LReelConsole;I[J)I"⟩
abbrev cL_nextDay : ByteArray := method_8_code
def yL_nextDay : MethodName := ⟨RL, "nextDay", "(LReelConsole;[J)I"⟩
abbrev cL_set : ByteArray := method_9_code
def yL_set : MethodName := ⟨RL, "set", "(LReelConsole;II[J)I"⟩
abbrev cL_appendText : ByteArray := method_10_code
def yL_appendText : MethodName := ⟨RL, "appendText", "(LReelConsole;I[J)I"⟩
abbrev cL_runText : ByteArray := method_11_code
def yL_runText : MethodName := ⟨RL, "runText", "(LReelConsole;[J)I"⟩
abbrev cL_undo : ByteArray := method_12_code
def yL_undo : MethodName := ⟨RL, "undo", "(LReelConsole;[J)I"⟩
abbrev cL_reel : ByteArray := method_13_code
def yL_reel : MethodName := ⟨RL, "reel", "(LReelConsole;II[J)I"⟩
abbrev cL_reelOn : ByteArray := method_14_code
def yL_reelOn : MethodName := ⟨RL, "reelOn", "(LReelConsole;I[J)I"⟩
abbrev cL_job : ByteArray := method_15_code
def yL_job : MethodName := ⟨RL, "job", "(LReelConsole;II[J)I"⟩
abbrev cL_isStuck : ByteArray := method_16_code
def yL_isStuck : MethodName := ⟨RL, "isStuck", "(LReelConsole;I[J)I"⟩
abbrev cL_verdict : ByteArray := method_17_code
def yL_verdict : MethodName := ⟨RL, "verdict", "(LReelConsole;II[J)I"⟩
abbrev cL_minutesToDone : ByteArray := method_18_code
def yL_minutesToDone : MethodName := ⟨RL, "minutesToDone", "(LReelConsole;I[J)I"⟩
abbrev cL_count : ByteArray := method_19_code
def yL_count : MethodName := ⟨RL, "count", "(LReelConsole;I[J)I"⟩
abbrev cL_law : ByteArray := code
def yL_law : MethodName := ⟨RL, "law", "([I)Z"⟩
theorem dX0_init_0 : decode cX0_init 0 = .ok (.aload_n 0, 1) := by decide +kernel
theorem dX0_init_1 : decode cX0_init 1 = .ok (.invokespecial 3, 3) := by decide +kernel
theorem dX0_init_4 : decode cX0_init 4 = .ok (.aload_n 0, 1) := by decide +kernel
theorem dX0_init_5 : decode cX0_init 5 = .ok (.bipush 80, 2) := by decide +kernel
theorem dX0_init_7 : decode cX0_init 7 = .ok (.newarray .int, 2) := by decide +kernel
theorem dX0_init_9 : decode cX0_init 9 = .ok (.putfield 9, 3) := by decide +kernel
theorem dX0_init_12 : decode cX0_init 12 = .ok (.aload_n 0, 1) := by decide +kernel
theorem dX0_init_13 : decode cX0_init 13 = .ok (.iconst 0, 1) := by decide +kernel
theorem dX0_init_14 : decode cX0_init 14 = .ok (.putfield 15, 3) := by decide +kernel
theorem dX0_init_17 : decode cX0_init 17 = .ok (.aload_n 0, 1) := by decide +kernel
theorem dX0_init_18 : decode cX0_init 18 = .ok (.iconst 0, 1) := by decide +kernel
theorem dX0_init_19 : decode cX0_init 19 = .ok (.putfield 19, 3) := by decide +kernel
theorem dX0_init_22 : decode cX0_init 22 = .ok (.aload_n 0, 1) := by decide +kernel
theorem dX0_init_23 : decode cX0_init 23 = .ok (.iconst 0, 1) := by decide +kernel
theorem dX0_init_24 : decode cX0_init 24 = .ok (.putfield 22, 3) := by decide +kernel
theorem dX0_init_27 : decode cX0_init 27 = .ok (.aload_n 0, 1) := by decide +kernel
theorem dX0_init_28 : decode cX0_init 28 = .ok (.iconst 0, 1) := by decide +kernel
theorem dX0_init_29 : decode cX0_init 29 = .ok (.putfield 25, 3) := by decide +kernel
theorem dX0_init_32 : decode cX0_init 32 = .ok (.aload_n 0, 1) := by decide +kernel
theorem dX0_init_33 : decode cX0_init 33 = .ok (.iconst 0, 1) := by decide +kernel
theorem dX0_init_34 : decode cX0_init 34 = .ok (.putfield 28, 3) := by decide +kernel
theorem dX0_init_37 : decode cX0_init 37 = .ok (.aload_n 0, 1) := by decide +kernel
theorem dX0_init_38 : decode cX0_init 38 = .ok (.iconst 0, 1) := by decide +kernel
theorem dX0_init_39 : decode cX0_init 39 = .ok (.putfield 31, 3) := by decide +kernel
theorem dX0_init_42 : decode cX0_init 42 = .ok (.aload_n 0, 1) := by decide +kernel
theorem dX0_init_43 : decode cX0_init 43 = .ok (.iconst 0, 1) := by decide +kernel
theorem dX0_init_44 : decode cX0_init 44 = .ok (.putfield 34, 3) := by decide +kernel
theorem dX0_init_47 : decode cX0_init 47 = .ok (.return_, 1) := by decide +kernel
theorem dX0_append_0 : decode cX0_append 0 = .ok (.aload_n 0, 1) := by decide +kernel
theorem dX0_append_1 : decode cX0_append 1 = .ok (.getfield 15, 3) := by decide +kernel
theorem dX0_append_4 : decode cX0_append 4 = .ok (.bipush 80, 2) := by decide +kernel
theorem dX0_append_6 : decode cX0_append 6 = .ok (.if_icmp .ge 23, 3) := by decide +kernel
theorem dX0_append_9 : decode cX0_append 9 = .ok (.aload_n 0, 1) := by decide +kernel
theorem dX0_append_10 : decode cX0_append 10 = .ok (.getfield 9, 3) := by decide +kernel
theorem dX0_append_13 : decode cX0_append 13 = .ok (.aload_n 0, 1) := by decide +kernel
theorem dX0_append_14 : decode cX0_append 14 = .ok (.getfield 15, 3) := by decide +kernel
theorem dX0_append_17 : decode cX0_append 17 = .ok (.iload_n 1, 1) := by decide +kernel
theorem dX0_append_18 : decode cX0_append 18 = .ok (.iastore, 1) := by decide +kernel
theorem dX0_append_19 : decode cX0_append 19 = .ok (.aload_n 0, 1) := by decide +kernel
theorem dX0_append_20 : decode cX0_append 20 = .ok (.dup, 1) := by decide +kernel
theorem dX0_append_21 : decode cX0_append 21 = .ok (.getfield 15, 3) := by decide +kernel
theorem dX0_append_24 : decode cX0_append 24 = .ok (.iconst 1, 1) := by decide +kernel
theorem dX0_append_25 : decode cX0_append 25 = .ok (.iadd, 1) := by decide +kernel
theorem dX0_append_26 : decode cX0_append 26 = .ok (.putfield 15, 3) := by decide +kernel
theorem dX0_append_29 : decode cX0_append 29 = .ok (.return_, 1) := by decide +kernel
theorem dX0_rewind_0 : decode cX0_rewind 0 = .ok (.aload_n 0, 1) := by decide +kernel
theorem dX0_rewind_1 : decode cX0_rewind 1 = .ok (.iconst 0, 1) := by decide +kernel
theorem dX0_rewind_2 : decode cX0_rewind 2 = .ok (.putfield 19, 3) := by decide +kernel
theorem dX0_rewind_5 : decode cX0_rewind 5 = .ok (.return_, 1) := by decide +kernel
theorem dX0_findError_0 : decode cX0_findError 0 = .ok (.aload_n 0, 1) := by decide +kernel
theorem dX0_findError_1 : decode cX0_findError 1 = .ok (.invokevirtual 37, 3) := by decide +kernel
theorem dX0_findError_4 : decode cX0_findError 4 = .ok (.iconst 0, 1) := by decide +kernel
theorem dX0_findError_5 : decode cX0_findError 5 = .ok (.istore_n 1, 1) := by decide +kernel
theorem dX0_findError_6 : decode cX0_findError 6 = .ok (.iload_n 1, 1) := by decide +kernel
theorem dX0_findError_7 : decode cX0_findError 7 = .ok (.bipush 80, 2) := by decide +kernel
theorem dX0_findError_9 : decode cX0_findError 9 = .ok (.if_icmp .ge 48, 3) := by decide +kernel
theorem dX0_findError_12 : decode cX0_findError 12 = .ok (.aload_n 0, 1) := by decide +kernel
theorem dX0_findError_13 : decode cX0_findError 13 = .ok (.invokevirtual 40, 3) := by decide +kernel
theorem dX0_findError_16 : decode cX0_findError 16 = .ok (.ifCond .ne 8, 3) := by decide +kernel
theorem dX0_findError_19 : decode cX0_findError 19 = .ok (.aload_n 0, 1) := by decide +kernel
theorem dX0_findError_20 : decode cX0_findError 20 = .ok (.getfield 19, 3) := by decide +kernel
theorem dX0_findError_23 : decode cX0_findError 23 = .ok (.ireturn, 1) := by decide +kernel
theorem dX0_findError_24 : decode cX0_findError 24 = .ok (.aload_n 0, 1) := by decide +kernel
theorem dX0_findError_25 : decode cX0_findError 25 = .ok (.getfield 19, 3) := by decide +kernel
theorem dX0_findError_28 : decode cX0_findError 28 = .ok (.aload_n 0, 1) := by decide +kernel
theorem dX0_findError_29 : decode cX0_findError 29 = .ok (.getfield 15, 3) := by decide +kernel
theorem dX0_findError_32 : decode cX0_findError 32 = .ok (.if_icmp .lt 5, 3) := by decide +kernel
theorem dX0_findError_35 : decode cX0_findError 35 = .ok (.iconst (-1), 1) := by decide +kernel
theorem dX0_findError_36 : decode cX0_findError 36 = .ok (.ireturn, 1) := by decide +kernel
theorem dX0_findError_37 : decode cX0_findError 37 = .ok (.aload_n 0, 1) := by decide +kernel
theorem dX0_findError_38 : decode cX0_findError 38 = .ok (.bipush 59, 2) := by decide +kernel
theorem dX0_findError_40 : decode cX0_findError 40 = .ok (.invokevirtual 44, 3) := by decide +kernel
theorem dX0_findError_43 : decode cX0_findError 43 = .ok (.ifCond .ne 8, 3) := by decide +kernel
theorem dX0_findError_46 : decode cX0_findError 46 = .ok (.aload_n 0, 1) := by decide +kernel
theorem dX0_findError_47 : decode cX0_findError 47 = .ok (.getfield 19, 3) := by decide +kernel
theorem dX0_findError_50 : decode cX0_findError 50 = .ok (.ireturn, 1) := by decide +kernel
theorem dX0_findError_51 : decode cX0_findError 51 = .ok (.iinc 1 1, 3) := by decide +kernel
theorem dX0_findError_54 : decode cX0_findError 54 = .ok (.goto (-48), 3) := by decide +kernel
theorem dX0_findError_57 : decode cX0_findError 57 = .ok (.aload_n 0, 1) := by decide +kernel
theorem dX0_findError_58 : decode cX0_findError 58 = .ok (.getfield 19, 3) := by decide +kernel
theorem dX0_findError_61 : decode cX0_findError 61 = .ok (.ireturn, 1) := by decide +kernel
theorem dX0_readCommand_0 : decode cX0_readCommand 0 = .ok (.aload_n 0, 1) := by decide +kernel
theorem dX0_readCommand_1 : decode cX0_readCommand 1 = .ok (.aload_n 0, 1) := by decide +kernel
theorem dX0_readCommand_2 : decode cX0_readCommand 2 = .ok (.invokevirtual 48, 3) := by decide +kernel
theorem dX0_readCommand_5 : decode cX0_readCommand 5 = .ok (.putfield 22, 3) := by decide +kernel
theorem dX0_readCommand_8 : decode cX0_readCommand 8 = .ok (.aload_n 0, 1) := by decide +kernel
theorem dX0_readCommand_9 : decode cX0_readCommand 9 = .ok (.getfield 22, 3) := by decide +kernel
theorem dX0_readCommand_12 : decode cX0_readCommand 12 = .ok (.lookupswitch 115 #[(99, 64), (100, 103), (114, 52), (116, 70), (119, 58)], 52) := by decide +kernel
theorem dX0_readCommand_64 : decode cX0_readCommand 64 = .ok (.aload_n 0, 1) := by decide +kernel
theorem dX0_readCommand_65 : decode cX0_readCommand 65 = .ok (.iconst 0, 1) := by decide +kernel
theorem dX0_readCommand_66 : decode cX0_readCommand 66 = .ok (.invokevirtual 52, 3) := by decide +kernel
theorem dX0_readCommand_69 : decode cX0_readCommand 69 = .ok (.ireturn, 1) := by decide +kernel
theorem dX0_readCommand_70 : decode cX0_readCommand 70 = .ok (.aload_n 0, 1) := by decide +kernel
theorem dX0_readCommand_71 : decode cX0_readCommand 71 = .ok (.iconst 1, 1) := by decide +kernel
theorem dX0_readCommand_72 : decode cX0_readCommand 72 = .ok (.invokevirtual 52, 3) := by decide +kernel
theorem dX0_readCommand_75 : decode cX0_readCommand 75 = .ok (.ireturn, 1) := by decide +kernel
theorem dX0_readCommand_76 : decode cX0_readCommand 76 = .ok (.aload_n 0, 1) := by decide +kernel
theorem dX0_readCommand_77 : decode cX0_readCommand 77 = .ok (.iconst 2, 1) := by decide +kernel
theorem dX0_readCommand_78 : decode cX0_readCommand 78 = .ok (.invokevirtual 52, 3) := by decide +kernel
theorem dX0_readCommand_81 : decode cX0_readCommand 81 = .ok (.ireturn, 1) := by decide +kernel
theorem dX0_readCommand_82 : decode cX0_readCommand 82 = .ok (.aload_n 0, 1) := by decide +kernel
theorem dX0_readCommand_83 : decode cX0_readCommand 83 = .ok (.dup, 1) := by decide +kernel
theorem dX0_readCommand_84 : decode cX0_readCommand 84 = .ok (.getfield 19, 3) := by decide +kernel
theorem dX0_readCommand_87 : decode cX0_readCommand 87 = .ok (.iconst 1, 1) := by decide +kernel
theorem dX0_readCommand_88 : decode cX0_readCommand 88 = .ok (.iadd, 1) := by decide +kernel
theorem dX0_readCommand_89 : decode cX0_readCommand 89 = .ok (.putfield 19, 3) := by decide +kernel
theorem dX0_readCommand_92 : decode cX0_readCommand 92 = .ok (.aload_n 0, 1) := by decide +kernel
theorem dX0_readCommand_93 : decode cX0_readCommand 93 = .ok (.aload_n 0, 1) := by decide +kernel
theorem dX0_readCommand_94 : decode cX0_readCommand 94 = .ok (.bipush 99, 2) := by decide +kernel
theorem dX0_readCommand_96 : decode cX0_readCommand 96 = .ok (.invokevirtual 56, 3) := by decide +kernel
theorem dX0_readCommand_99 : decode cX0_readCommand 99 = .ok (.putfield 31, 3) := by decide +kernel
theorem dX0_readCommand_102 : decode cX0_readCommand 102 = .ok (.aload_n 0, 1) := by decide +kernel
theorem dX0_readCommand_103 : decode cX0_readCommand 103 = .ok (.getfield 31, 3) := by decide +kernel
theorem dX0_readCommand_106 : decode cX0_readCommand 106 = .ok (.ifCond .le 7, 3) := by decide +kernel
theorem dX0_readCommand_109 : decode cX0_readCommand 109 = .ok (.iconst 1, 1) := by decide +kernel
theorem dX0_readCommand_110 : decode cX0_readCommand 110 = .ok (.goto 4, 3) := by decide +kernel
theorem dX0_readCommand_113 : decode cX0_readCommand 113 = .ok (.iconst 0, 1) := by decide +kernel
theorem dX0_readCommand_114 : decode cX0_readCommand 114 = .ok (.ireturn, 1) := by decide +kernel
theorem dX0_readCommand_115 : decode cX0_readCommand 115 = .ok (.aload_n 0, 1) := by decide +kernel
theorem dX0_readCommand_116 : decode cX0_readCommand 116 = .ok (.dup, 1) := by decide +kernel
theorem dX0_readCommand_117 : decode cX0_readCommand 117 = .ok (.getfield 19, 3) := by decide +kernel
theorem dX0_readCommand_120 : decode cX0_readCommand 120 = .ok (.iconst 1, 1) := by decide +kernel
theorem dX0_readCommand_121 : decode cX0_readCommand 121 = .ok (.iadd, 1) := by decide +kernel
theorem dX0_readCommand_122 : decode cX0_readCommand 122 = .ok (.putfield 19, 3) := by decide +kernel
theorem dX0_readCommand_125 : decode cX0_readCommand 125 = .ok (.iconst 1, 1) := by decide +kernel
theorem dX0_readCommand_126 : decode cX0_readCommand 126 = .ok (.ireturn, 1) := by decide +kernel
theorem dX0_readCommand_127 : decode cX0_readCommand 127 = .ok (.iconst 0, 1) := by decide +kernel
theorem dX0_readCommand_128 : decode cX0_readCommand 128 = .ok (.ireturn, 1) := by decide +kernel
theorem dX0_readSubmission_0 : decode cX0_readSubmission 0 = .ok (.aload_n 0, 1) := by decide +kernel
theorem dX0_readSubmission_1 : decode cX0_readSubmission 1 = .ok (.dup, 1) := by decide +kernel
theorem dX0_readSubmission_2 : decode cX0_readSubmission 2 = .ok (.getfield 19, 3) := by decide +kernel
theorem dX0_readSubmission_5 : decode cX0_readSubmission 5 = .ok (.iconst 1, 1) := by decide +kernel
theorem dX0_readSubmission_6 : decode cX0_readSubmission 6 = .ok (.iadd, 1) := by decide +kernel
theorem dX0_readSubmission_7 : decode cX0_readSubmission 7 = .ok (.putfield 19, 3) := by decide +kernel
theorem dX0_readSubmission_10 : decode cX0_readSubmission 10 = .ok (.aload_n 0, 1) := by decide +kernel
theorem dX0_readSubmission_11 : decode cX0_readSubmission 11 = .ok (.iload_n 1, 1) := by decide +kernel
theorem dX0_readSubmission_12 : decode cX0_readSubmission 12 = .ok (.putfield 25, 3) := by decide +kernel
theorem dX0_readSubmission_15 : decode cX0_readSubmission 15 = .ok (.aload_n 0, 1) := by decide +kernel
theorem dX0_readSubmission_16 : decode cX0_readSubmission 16 = .ok (.aload_n 0, 1) := by decide +kernel
theorem dX0_readSubmission_17 : decode cX0_readSubmission 17 = .ok (.bipush 99, 2) := by decide +kernel
theorem dX0_readSubmission_19 : decode cX0_readSubmission 19 = .ok (.invokevirtual 56, 3) := by decide +kernel
theorem dX0_readSubmission_22 : decode cX0_readSubmission 22 = .ok (.putfield 28, 3) := by decide +kernel
theorem dX0_readSubmission_25 : decode cX0_readSubmission 25 = .ok (.aload_n 0, 1) := by decide +kernel
theorem dX0_readSubmission_26 : decode cX0_readSubmission 26 = .ok (.getfield 28, 3) := by decide +kernel
theorem dX0_readSubmission_29 : decode cX0_readSubmission 29 = .ok (.ifCond .eq 12, 3) := by decide +kernel
theorem dX0_readSubmission_32 : decode cX0_readSubmission 32 = .ok (.aload_n 0, 1) := by decide +kernel
theorem dX0_readSubmission_33 : decode cX0_readSubmission 33 = .ok (.bipush 42, 2) := by decide +kernel
theorem dX0_readSubmission_35 : decode cX0_readSubmission 35 = .ok (.invokevirtual 44, 3) := by decide +kernel
theorem dX0_readSubmission_38 : decode cX0_readSubmission 38 = .ok (.ifCond .ne 5, 3) := by decide +kernel
theorem dX0_readSubmission_41 : decode cX0_readSubmission 41 = .ok (.iconst 0, 1) := by decide +kernel
theorem dX0_readSubmission_42 : decode cX0_readSubmission 42 = .ok (.ireturn, 1) := by decide +kernel
theorem dX0_readSubmission_43 : decode cX0_readSubmission 43 = .ok (.aload_n 0, 1) := by decide +kernel
theorem dX0_readSubmission_44 : decode cX0_readSubmission 44 = .ok (.aload_n 0, 1) := by decide +kernel
theorem dX0_readSubmission_45 : decode cX0_readSubmission 45 = .ok (.bipush 20, 2) := by decide +kernel
theorem dX0_readSubmission_47 : decode cX0_readSubmission 47 = .ok (.invokevirtual 56, 3) := by decide +kernel
theorem dX0_readSubmission_50 : decode cX0_readSubmission 50 = .ok (.putfield 31, 3) := by decide +kernel
theorem dX0_readSubmission_53 : decode cX0_readSubmission 53 = .ok (.aload_n 0, 1) := by decide +kernel
theorem dX0_readSubmission_54 : decode cX0_readSubmission 54 = .ok (.iconst 0, 1) := by decide +kernel
theorem dX0_readSubmission_55 : decode cX0_readSubmission 55 = .ok (.putfield 34, 3) := by decide +kernel
theorem dX0_readSubmission_58 : decode cX0_readSubmission 58 = .ok (.aload_n 0, 1) := by decide +kernel
theorem dX0_readSubmission_59 : decode cX0_readSubmission 59 = .ok (.getfield 31, 3) := by decide +kernel
theorem dX0_readSubmission_62 : decode cX0_readSubmission 62 = .ok (.ifCond .le 23, 3) := by decide +kernel
theorem dX0_readSubmission_65 : decode cX0_readSubmission 65 = .ok (.aload_n 0, 1) := by decide +kernel
theorem dX0_readSubmission_66 : decode cX0_readSubmission 66 = .ok (.bipush 33, 2) := by decide +kernel
theorem dX0_readSubmission_68 : decode cX0_readSubmission 68 = .ok (.invokevirtual 44, 3) := by decide +kernel
theorem dX0_readSubmission_71 : decode cX0_readSubmission 71 = .ok (.ifCond .eq 10, 3) := by decide +kernel
theorem dX0_readSubmission_74 : decode cX0_readSubmission 74 = .ok (.aload_n 0, 1) := by decide +kernel
theorem dX0_readSubmission_75 : decode cX0_readSubmission 75 = .ok (.invokevirtual 60, 3) := by decide +kernel
theorem dX0_readSubmission_78 : decode cX0_readSubmission 78 = .ok (.ifCond .eq 7, 3) := by decide +kernel
theorem dX0_readSubmission_81 : decode cX0_readSubmission 81 = .ok (.iconst 1, 1) := by decide +kernel
theorem dX0_readSubmission_82 : decode cX0_readSubmission 82 = .ok (.goto 4, 3) := by decide +kernel
theorem dX0_readSubmission_85 : decode cX0_readSubmission 85 = .ok (.iconst 0, 1) := by decide +kernel
theorem dX0_readSubmission_86 : decode cX0_readSubmission 86 = .ok (.ireturn, 1) := by decide +kernel
theorem dX0_readPriority_0 : decode cX0_readPriority 0 = .ok (.aload_n 0, 1) := by decide +kernel
theorem dX0_readPriority_1 : decode cX0_readPriority 1 = .ok (.invokevirtual 63, 3) := by decide +kernel
theorem dX0_readPriority_4 : decode cX0_readPriority 4 = .ok (.istore_n 1, 1) := by decide +kernel
theorem dX0_readPriority_5 : decode cX0_readPriority 5 = .ok (.iload_n 1, 1) := by decide +kernel
theorem dX0_readPriority_6 : decode cX0_readPriority 6 = .ok (.iconst (-1), 1) := by decide +kernel
theorem dX0_readPriority_7 : decode cX0_readPriority 7 = .ok (.if_icmp .ne 5, 3) := by decide +kernel
theorem dX0_readPriority_10 : decode cX0_readPriority 10 = .ok (.iconst 0, 1) := by decide +kernel
theorem dX0_readPriority_11 : decode cX0_readPriority 11 = .ok (.ireturn, 1) := by decide +kernel
theorem dX0_readPriority_12 : decode cX0_readPriority 12 = .ok (.aload_n 0, 1) := by decide +kernel
theorem dX0_readPriority_13 : decode cX0_readPriority 13 = .ok (.iload_n 1, 1) := by decide +kernel
theorem dX0_readPriority_14 : decode cX0_readPriority 14 = .ok (.putfield 34, 3) := by decide +kernel
theorem dX0_readPriority_17 : decode cX0_readPriority 17 = .ok (.aload_n 0, 1) := by decide +kernel
theorem dX0_readPriority_18 : decode cX0_readPriority 18 = .ok (.dup, 1) := by decide +kernel
theorem dX0_readPriority_19 : decode cX0_readPriority 19 = .ok (.getfield 19, 3) := by decide +kernel
theorem dX0_readPriority_22 : decode cX0_readPriority 22 = .ok (.iconst 1, 1) := by decide +kernel
theorem dX0_readPriority_23 : decode cX0_readPriority 23 = .ok (.iadd, 1) := by decide +kernel
theorem dX0_readPriority_24 : decode cX0_readPriority 24 = .ok (.putfield 19, 3) := by decide +kernel
theorem dX0_readPriority_27 : decode cX0_readPriority 27 = .ok (.iconst 1, 1) := by decide +kernel
theorem dX0_readPriority_28 : decode cX0_readPriority 28 = .ok (.ireturn, 1) := by decide +kernel
theorem dX0_readNumber_0 : decode cX0_readNumber 0 = .ok (.iconst 0, 1) := by decide +kernel
theorem dX0_readNumber_1 : decode cX0_readNumber 1 = .ok (.istore_n 2, 1) := by decide +kernel
theorem dX0_readNumber_2 : decode cX0_readNumber 2 = .ok (.aload_n 0, 1) := by decide +kernel
theorem dX0_readNumber_3 : decode cX0_readNumber 3 = .ok (.getfield 19, 3) := by decide +kernel
theorem dX0_readNumber_6 : decode cX0_readNumber 6 = .ok (.aload_n 0, 1) := by decide +kernel
theorem dX0_readNumber_7 : decode cX0_readNumber 7 = .ok (.getfield 15, 3) := by decide +kernel
theorem dX0_readNumber_10 : decode cX0_readNumber 10 = .ok (.if_icmp .ge 51, 3) := by decide +kernel
theorem dX0_readNumber_13 : decode cX0_readNumber 13 = .ok (.aload_n 0, 1) := by decide +kernel
theorem dX0_readNumber_14 : decode cX0_readNumber 14 = .ok (.invokevirtual 63, 3) := by decide +kernel
theorem dX0_readNumber_17 : decode cX0_readNumber 17 = .ok (.istore_n 3, 1) := by decide +kernel
theorem dX0_readNumber_18 : decode cX0_readNumber 18 = .ok (.iload_n 2, 1) := by decide +kernel
theorem dX0_readNumber_19 : decode cX0_readNumber 19 = .ok (.bipush 10, 2) := by decide +kernel
theorem dX0_readNumber_21 : decode cX0_readNumber 21 = .ok (.imul, 1) := by decide +kernel
theorem dX0_readNumber_22 : decode cX0_readNumber 22 = .ok (.iload_n 3, 1) := by decide +kernel
theorem dX0_readNumber_23 : decode cX0_readNumber 23 = .ok (.iadd, 1) := by decide +kernel
theorem dX0_readNumber_24 : decode cX0_readNumber 24 = .ok (.istore 4, 2) := by decide +kernel
theorem dX0_readNumber_26 : decode cX0_readNumber 26 = .ok (.iload_n 3, 1) := by decide +kernel
theorem dX0_readNumber_27 : decode cX0_readNumber 27 = .ok (.iconst (-1), 1) := by decide +kernel
theorem dX0_readNumber_28 : decode cX0_readNumber 28 = .ok (.if_icmp .eq 33, 3) := by decide +kernel
theorem dX0_readNumber_31 : decode cX0_readNumber 31 = .ok (.iload 4, 2) := by decide +kernel
theorem dX0_readNumber_33 : decode cX0_readNumber 33 = .ok (.ifCond .eq 28, 3) := by decide +kernel
theorem dX0_readNumber_36 : decode cX0_readNumber 36 = .ok (.iload 4, 2) := by decide +kernel
theorem dX0_readNumber_38 : decode cX0_readNumber 38 = .ok (.iload_n 1, 1) := by decide +kernel
theorem dX0_readNumber_39 : decode cX0_readNumber 39 = .ok (.if_icmp .le 6, 3) := by decide +kernel
theorem dX0_readNumber_42 : decode cX0_readNumber 42 = .ok (.goto 19, 3) := by decide +kernel
theorem dX0_readNumber_45 : decode cX0_readNumber 45 = .ok (.iload 4, 2) := by decide +kernel
theorem dX0_readNumber_47 : decode cX0_readNumber 47 = .ok (.istore_n 2, 1) := by decide +kernel
theorem dX0_readNumber_48 : decode cX0_readNumber 48 = .ok (.aload_n 0, 1) := by decide +kernel
theorem dX0_readNumber_49 : decode cX0_readNumber 49 = .ok (.dup, 1) := by decide +kernel
theorem dX0_readNumber_50 : decode cX0_readNumber 50 = .ok (.getfield 19, 3) := by decide +kernel
theorem dX0_readNumber_53 : decode cX0_readNumber 53 = .ok (.iconst 1, 1) := by decide +kernel
theorem dX0_readNumber_54 : decode cX0_readNumber 54 = .ok (.iadd, 1) := by decide +kernel
theorem dX0_readNumber_55 : decode cX0_readNumber 55 = .ok (.putfield 19, 3) := by decide +kernel
theorem dX0_readNumber_58 : decode cX0_readNumber 58 = .ok (.goto (-56), 3) := by decide +kernel
theorem dX0_readNumber_61 : decode cX0_readNumber 61 = .ok (.iload_n 2, 1) := by decide +kernel
theorem dX0_readNumber_62 : decode cX0_readNumber 62 = .ok (.ireturn, 1) := by decide +kernel
theorem dX0_skip_0 : decode cX0_skip 0 = .ok (.aload_n 0, 1) := by decide +kernel
theorem dX0_skip_1 : decode cX0_skip 1 = .ok (.invokevirtual 48, 3) := by decide +kernel
theorem dX0_skip_4 : decode cX0_skip 4 = .ok (.iload_n 1, 1) := by decide +kernel
theorem dX0_skip_5 : decode cX0_skip 5 = .ok (.if_icmp .eq 5, 3) := by decide +kernel
theorem dX0_skip_8 : decode cX0_skip 8 = .ok (.iconst 0, 1) := by decide +kernel
theorem dX0_skip_9 : decode cX0_skip 9 = .ok (.ireturn, 1) := by decide +kernel
theorem dX0_skip_10 : decode cX0_skip 10 = .ok (.aload_n 0, 1) := by decide +kernel
theorem dX0_skip_11 : decode cX0_skip 11 = .ok (.dup, 1) := by decide +kernel
theorem dX0_skip_12 : decode cX0_skip 12 = .ok (.getfield 19, 3) := by decide +kernel
theorem dX0_skip_15 : decode cX0_skip 15 = .ok (.iconst 1, 1) := by decide +kernel
theorem dX0_skip_16 : decode cX0_skip 16 = .ok (.iadd, 1) := by decide +kernel
theorem dX0_skip_17 : decode cX0_skip 17 = .ok (.putfield 19, 3) := by decide +kernel
theorem dX0_skip_20 : decode cX0_skip 20 = .ok (.iconst 1, 1) := by decide +kernel
theorem dX0_skip_21 : decode cX0_skip 21 = .ok (.ireturn, 1) := by decide +kernel
theorem dX0_digitHere_0 : decode cX0_digitHere 0 = .ok (.aload_n 0, 1) := by decide +kernel
theorem dX0_digitHere_1 : decode cX0_digitHere 1 = .ok (.invokevirtual 48, 3) := by decide +kernel
theorem dX0_digitHere_4 : decode cX0_digitHere 4 = .ok (.istore_n 1, 1) := by decide +kernel
theorem dX0_digitHere_5 : decode cX0_digitHere 5 = .ok (.iload_n 1, 1) := by decide +kernel
theorem dX0_digitHere_6 : decode cX0_digitHere 6 = .ok (.bipush 48, 2) := by decide +kernel
theorem dX0_digitHere_8 : decode cX0_digitHere 8 = .ok (.bipush 57, 2) := by decide +kernel
theorem dX0_digitHere_10 : decode cX0_digitHere 10 = .ok (.invokestatic 66, 3) := by decide +kernel
theorem dX0_digitHere_13 : decode cX0_digitHere 13 = .ok (.ifCond .eq 10, 3) := by decide +kernel
theorem dX0_digitHere_16 : decode cX0_digitHere 16 = .ok (.iload_n 1, 1) := by decide +kernel
theorem dX0_digitHere_17 : decode cX0_digitHere 17 = .ok (.bipush 48, 2) := by decide +kernel
theorem dX0_digitHere_19 : decode cX0_digitHere 19 = .ok (.isub, 1) := by decide +kernel
theorem dX0_digitHere_20 : decode cX0_digitHere 20 = .ok (.goto 4, 3) := by decide +kernel
theorem dX0_digitHere_23 : decode cX0_digitHere 23 = .ok (.iconst (-1), 1) := by decide +kernel
theorem dX0_digitHere_24 : decode cX0_digitHere 24 = .ok (.ireturn, 1) := by decide +kernel
theorem dX0_characterHere_0 : decode cX0_characterHere 0 = .ok (.aload_n 0, 1) := by decide +kernel
theorem dX0_characterHere_1 : decode cX0_characterHere 1 = .ok (.getfield 19, 3) := by decide +kernel
theorem dX0_characterHere_4 : decode cX0_characterHere 4 = .ok (.ifCond .lt 26, 3) := by decide +kernel
theorem dX0_characterHere_7 : decode cX0_characterHere 7 = .ok (.aload_n 0, 1) := by decide +kernel
theorem dX0_characterHere_8 : decode cX0_characterHere 8 = .ok (.getfield 19, 3) := by decide +kernel
theorem dX0_characterHere_11 : decode cX0_characterHere 11 = .ok (.aload_n 0, 1) := by decide +kernel
theorem dX0_characterHere_12 : decode cX0_characterHere 12 = .ok (.getfield 15, 3) := by decide +kernel
theorem dX0_characterHere_15 : decode cX0_characterHere 15 = .ok (.if_icmp .ge 15, 3) := by decide +kernel
theorem dX0_characterHere_18 : decode cX0_characterHere 18 = .ok (.aload_n 0, 1) := by decide +kernel
theorem dX0_characterHere_19 : decode cX0_characterHere 19 = .ok (.getfield 9, 3) := by decide +kernel
theorem dX0_characterHere_22 : decode cX0_characterHere 22 = .ok (.aload_n 0, 1) := by decide +kernel
theorem dX0_characterHere_23 : decode cX0_characterHere 23 = .ok (.getfield 19, 3) := by decide +kernel
theorem dX0_characterHere_26 : decode cX0_characterHere 26 = .ok (.iaload, 1) := by decide +kernel
theorem dX0_characterHere_27 : decode cX0_characterHere 27 = .ok (.goto 4, 3) := by decide +kernel
theorem dX0_characterHere_30 : decode cX0_characterHere 30 = .ok (.iconst (-1), 1) := by decide +kernel
theorem dX0_characterHere_31 : decode cX0_characterHere 31 = .ok (.ireturn, 1) := by decide +kernel
theorem dX1_init_0 : decode cX1_init 0 = .ok (.aload_n 0, 1) := by decide +kernel
theorem dX1_init_1 : decode cX1_init 1 = .ok (.invokespecial 3, 3) := by decide +kernel
theorem dX1_init_4 : decode cX1_init 4 = .ok (.aload_n 0, 1) := by decide +kernel
theorem dX1_init_5 : decode cX1_init 5 = .ok (.bipush 6, 2) := by decide +kernel
theorem dX1_init_7 : decode cX1_init 7 = .ok (.anewarray 9, 3) := by decide +kernel
theorem dX1_init_10 : decode cX1_init 10 = .ok (.putfield 11, 3) := by decide +kernel
theorem dX1_init_13 : decode cX1_init 13 = .ok (.aload_n 0, 1) := by decide +kernel
theorem dX1_init_14 : decode cX1_init 14 = .ok (.iconst 0, 1) := by decide +kernel
theorem dX1_init_15 : decode cX1_init 15 = .ok (.putfield 17, 3) := by decide +kernel
theorem dX1_init_18 : decode cX1_init 18 = .ok (.aload_n 0, 1) := by decide +kernel
theorem dX1_init_19 : decode cX1_init 19 = .ok (.iconst 0, 1) := by decide +kernel
theorem dX1_init_20 : decode cX1_init 20 = .ok (.putfield 21, 3) := by decide +kernel
theorem dX1_init_23 : decode cX1_init 23 = .ok (.iconst 0, 1) := by decide +kernel
theorem dX1_init_24 : decode cX1_init 24 = .ok (.istore_n 1, 1) := by decide +kernel
theorem dX1_init_25 : decode cX1_init 25 = .ok (.iload_n 1, 1) := by decide +kernel
theorem dX1_init_26 : decode cX1_init 26 = .ok (.bipush 6, 2) := by decide +kernel
theorem dX1_init_28 : decode cX1_init 28 = .ok (.if_icmp .ge 22, 3) := by decide +kernel
theorem dX1_init_31 : decode cX1_init 31 = .ok (.aload_n 0, 1) := by decide +kernel
theorem dX1_init_32 : decode cX1_init 32 = .ok (.getfield 11, 3) := by decide +kernel
theorem dX1_init_35 : decode cX1_init 35 = .ok (.iload_n 1, 1) := by decide +kernel
theorem dX1_init_36 : decode cX1_init 36 = .ok (.new 9, 3) := by decide +kernel
theorem dX1_init_39 : decode cX1_init 39 = .ok (.dup, 1) := by decide +kernel
theorem dX1_init_40 : decode cX1_init 40 = .ok (.invokespecial 24, 3) := by decide +kernel
theorem dX1_init_43 : decode cX1_init 43 = .ok (.aastore, 1) := by decide +kernel
theorem dX1_init_44 : decode cX1_init 44 = .ok (.iinc 1 1, 3) := by decide +kernel
theorem dX1_init_47 : decode cX1_init 47 = .ok (.goto (-22), 3) := by decide +kernel
theorem dX1_init_50 : decode cX1_init 50 = .ok (.return_, 1) := by decide +kernel
theorem dX1_save_0 : decode cX1_save 0 = .ok (.aload_n 0, 1) := by decide +kernel
theorem dX1_save_1 : decode cX1_save 1 = .ok (.getfield 11, 3) := by decide +kernel
theorem dX1_save_4 : decode cX1_save 4 = .ok (.aload_n 0, 1) := by decide +kernel
theorem dX1_save_5 : decode cX1_save 5 = .ok (.getfield 21, 3) := by decide +kernel
theorem dX1_save_8 : decode cX1_save 8 = .ok (.aaload, 1) := by decide +kernel
theorem dX1_save_9 : decode cX1_save 9 = .ok (.astore_n 2, 1) := by decide +kernel
theorem dX1_save_10 : decode cX1_save 10 = .ok (.aload_n 2, 1) := by decide +kernel
theorem dX1_save_11 : decode cX1_save 11 = .ok (.ifnonnull 4, 3) := by decide +kernel
theorem dX1_save_14 : decode cX1_save 14 = .ok (.return_, 1) := by decide +kernel
theorem dX1_save_15 : decode cX1_save 15 = .ok (.aload_n 2, 1) := by decide +kernel
theorem dX1_save_16 : decode cX1_save 16 = .ok (.aload_n 1, 1) := by decide +kernel
theorem dX1_save_17 : decode cX1_save 17 = .ok (.invokevirtual 25, 3) := by decide +kernel
theorem dX1_save_20 : decode cX1_save 20 = .ok (.aload_n 0, 1) := by decide +kernel
theorem dX1_save_21 : decode cX1_save 21 = .ok (.aload_n 0, 1) := by decide +kernel
theorem dX1_save_22 : decode cX1_save 22 = .ok (.getfield 21, 3) := by decide +kernel
theorem dX1_save_25 : decode cX1_save 25 = .ok (.iconst 1, 1) := by decide +kernel
theorem dX1_save_26 : decode cX1_save 26 = .ok (.iadd, 1) := by decide +kernel
theorem dX1_save_27 : decode cX1_save 27 = .ok (.bipush 6, 2) := by decide +kernel
theorem dX1_save_29 : decode cX1_save 29 = .ok (.invokestatic 29, 3) := by decide +kernel
theorem dX1_save_32 : decode cX1_save 32 = .ok (.putfield 21, 3) := by decide +kernel
theorem dX1_save_35 : decode cX1_save 35 = .ok (.aload_n 0, 1) := by decide +kernel
theorem dX1_save_36 : decode cX1_save 36 = .ok (.getfield 17, 3) := by decide +kernel
theorem dX1_save_39 : decode cX1_save 39 = .ok (.bipush 6, 2) := by decide +kernel
theorem dX1_save_41 : decode cX1_save 41 = .ok (.if_icmp .ge 13, 3) := by decide +kernel
theorem dX1_save_44 : decode cX1_save 44 = .ok (.aload_n 0, 1) := by decide +kernel
theorem dX1_save_45 : decode cX1_save 45 = .ok (.dup, 1) := by decide +kernel
theorem dX1_save_46 : decode cX1_save 46 = .ok (.getfield 17, 3) := by decide +kernel
theorem dX1_save_49 : decode cX1_save 49 = .ok (.iconst 1, 1) := by decide +kernel
theorem dX1_save_50 : decode cX1_save 50 = .ok (.iadd, 1) := by decide +kernel
theorem dX1_save_51 : decode cX1_save 51 = .ok (.putfield 17, 3) := by decide +kernel
theorem dX1_save_54 : decode cX1_save 54 = .ok (.return_, 1) := by decide +kernel
theorem dX1_restore_0 : decode cX1_restore 0 = .ok (.aload_n 0, 1) := by decide +kernel
theorem dX1_restore_1 : decode cX1_restore 1 = .ok (.aload_n 0, 1) := by decide +kernel
theorem dX1_restore_2 : decode cX1_restore 2 = .ok (.getfield 21, 3) := by decide +kernel
theorem dX1_restore_5 : decode cX1_restore 5 = .ok (.iconst 1, 1) := by decide +kernel
theorem dX1_restore_6 : decode cX1_restore 6 = .ok (.isub, 1) := by decide +kernel
theorem dX1_restore_7 : decode cX1_restore 7 = .ok (.bipush 6, 2) := by decide +kernel
theorem dX1_restore_9 : decode cX1_restore 9 = .ok (.invokestatic 29, 3) := by decide +kernel
theorem dX1_restore_12 : decode cX1_restore 12 = .ok (.putfield 21, 3) := by decide +kernel
theorem dX1_restore_15 : decode cX1_restore 15 = .ok (.aload_n 0, 1) := by decide +kernel
theorem dX1_restore_16 : decode cX1_restore 16 = .ok (.dup, 1) := by decide +kernel
theorem dX1_restore_17 : decode cX1_restore 17 = .ok (.getfield 17, 3) := by decide +kernel
theorem dX1_restore_20 : decode cX1_restore 20 = .ok (.iconst 1, 1) := by decide +kernel
theorem dX1_restore_21 : decode cX1_restore 21 = .ok (.isub, 1) := by decide +kernel
theorem dX1_restore_22 : decode cX1_restore 22 = .ok (.putfield 17, 3) := by decide +kernel
theorem dX1_restore_25 : decode cX1_restore 25 = .ok (.aload_n 0, 1) := by decide +kernel
theorem dX1_restore_26 : decode cX1_restore 26 = .ok (.getfield 11, 3) := by decide +kernel
theorem dX1_restore_29 : decode cX1_restore 29 = .ok (.aload_n 0, 1) := by decide +kernel
theorem dX1_restore_30 : decode cX1_restore 30 = .ok (.getfield 21, 3) := by decide +kernel
theorem dX1_restore_33 : decode cX1_restore 33 = .ok (.aaload, 1) := by decide +kernel
theorem dX1_restore_34 : decode cX1_restore 34 = .ok (.astore_n 2, 1) := by decide +kernel
theorem dX1_restore_35 : decode cX1_restore 35 = .ok (.aload_n 2, 1) := by decide +kernel
theorem dX1_restore_36 : decode cX1_restore 36 = .ok (.ifnull 8, 3) := by decide +kernel
theorem dX1_restore_39 : decode cX1_restore 39 = .ok (.aload_n 1, 1) := by decide +kernel
theorem dX1_restore_40 : decode cX1_restore 40 = .ok (.aload_n 2, 1) := by decide +kernel
theorem dX1_restore_41 : decode cX1_restore 41 = .ok (.invokevirtual 25, 3) := by decide +kernel
theorem dX1_restore_44 : decode cX1_restore 44 = .ok (.return_, 1) := by decide +kernel
theorem dX2_init_0 : decode cX2_init 0 = .ok (.aload_n 0, 1) := by decide +kernel
theorem dX2_init_1 : decode cX2_init 1 = .ok (.invokespecial 3, 3) := by decide +kernel
theorem dX2_init_4 : decode cX2_init 4 = .ok (.aload_n 0, 1) := by decide +kernel
theorem dX2_init_5 : decode cX2_init 5 = .ok (.bipush 12, 2) := by decide +kernel
theorem dX2_init_7 : decode cX2_init 7 = .ok (.newarray .int, 2) := by decide +kernel
theorem dX2_init_9 : decode cX2_init 9 = .ok (.putfield 9, 3) := by decide +kernel
theorem dX2_init_12 : decode cX2_init 12 = .ok (.aload_n 0, 1) := by decide +kernel
theorem dX2_init_13 : decode cX2_init 13 = .ok (.bipush 12, 2) := by decide +kernel
theorem dX2_init_15 : decode cX2_init 15 = .ok (.newarray .int, 2) := by decide +kernel
theorem dX2_init_17 : decode cX2_init 17 = .ok (.putfield 15, 3) := by decide +kernel
theorem dX2_init_20 : decode cX2_init 20 = .ok (.aload_n 0, 1) := by decide +kernel
theorem dX2_init_21 : decode cX2_init 21 = .ok (.bipush 12, 2) := by decide +kernel
theorem dX2_init_23 : decode cX2_init 23 = .ok (.newarray .int, 2) := by decide +kernel
theorem dX2_init_25 : decode cX2_init 25 = .ok (.putfield 18, 3) := by decide +kernel
theorem dX2_init_28 : decode cX2_init 28 = .ok (.aload_n 0, 1) := by decide +kernel
theorem dX2_init_29 : decode cX2_init 29 = .ok (.bipush 12, 2) := by decide +kernel
theorem dX2_init_31 : decode cX2_init 31 = .ok (.newarray .int, 2) := by decide +kernel
theorem dX2_init_33 : decode cX2_init 33 = .ok (.putfield 21, 3) := by decide +kernel
theorem dX2_init_36 : decode cX2_init 36 = .ok (.aload_n 0, 1) := by decide +kernel
theorem dX2_init_37 : decode cX2_init 37 = .ok (.bipush 12, 2) := by decide +kernel
theorem dX2_init_39 : decode cX2_init 39 = .ok (.newarray .int, 2) := by decide +kernel
theorem dX2_init_41 : decode cX2_init 41 = .ok (.putfield 24, 3) := by decide +kernel
theorem dX2_init_44 : decode cX2_init 44 = .ok (.aload_n 0, 1) := by decide +kernel
theorem dX2_init_45 : decode cX2_init 45 = .ok (.bipush 12, 2) := by decide +kernel
theorem dX2_init_47 : decode cX2_init 47 = .ok (.newarray .int, 2) := by decide +kernel
theorem dX2_init_49 : decode cX2_init 49 = .ok (.putfield 27, 3) := by decide +kernel
theorem dX2_init_52 : decode cX2_init 52 = .ok (.aload_n 0, 1) := by decide +kernel
theorem dX2_init_53 : decode cX2_init 53 = .ok (.bipush 12, 2) := by decide +kernel
theorem dX2_init_55 : decode cX2_init 55 = .ok (.newarray .int, 2) := by decide +kernel
theorem dX2_init_57 : decode cX2_init 57 = .ok (.putfield 30, 3) := by decide +kernel
theorem dX2_init_60 : decode cX2_init 60 = .ok (.aload_n 0, 1) := by decide +kernel
theorem dX2_init_61 : decode cX2_init 61 = .ok (.bipush 12, 2) := by decide +kernel
theorem dX2_init_63 : decode cX2_init 63 = .ok (.newarray .int, 2) := by decide +kernel
theorem dX2_init_65 : decode cX2_init 65 = .ok (.putfield 33, 3) := by decide +kernel
theorem dX2_init_68 : decode cX2_init 68 = .ok (.aload_n 0, 1) := by decide +kernel
theorem dX2_init_69 : decode cX2_init 69 = .ok (.iconst 0, 1) := by decide +kernel
theorem dX2_init_70 : decode cX2_init 70 = .ok (.putfield 36, 3) := by decide +kernel
theorem dX2_init_73 : decode cX2_init 73 = .ok (.return_, 1) := by decide +kernel
theorem dX2_copyFrom_0 : decode cX2_copyFrom 0 = .ok (.aload_n 1, 1) := by decide +kernel
theorem dX2_copyFrom_1 : decode cX2_copyFrom 1 = .ok (.getfield 9, 3) := by decide +kernel
theorem dX2_copyFrom_4 : decode cX2_copyFrom 4 = .ok (.iconst 0, 1) := by decide +kernel
theorem dX2_copyFrom_5 : decode cX2_copyFrom 5 = .ok (.aload_n 0, 1) := by decide +kernel
theorem dX2_copyFrom_6 : decode cX2_copyFrom 6 = .ok (.getfield 9, 3) := by decide +kernel
theorem dX2_copyFrom_9 : decode cX2_copyFrom 9 = .ok (.iconst 0, 1) := by decide +kernel
theorem dX2_copyFrom_10 : decode cX2_copyFrom 10 = .ok (.bipush 12, 2) := by decide +kernel
theorem dX2_copyFrom_12 : decode cX2_copyFrom 12 = .ok (.invokestatic 40, 3) := by decide +kernel
theorem dX2_copyFrom_15 : decode cX2_copyFrom 15 = .ok (.aload_n 1, 1) := by decide +kernel
theorem dX2_copyFrom_16 : decode cX2_copyFrom 16 = .ok (.getfield 15, 3) := by decide +kernel
theorem dX2_copyFrom_19 : decode cX2_copyFrom 19 = .ok (.iconst 0, 1) := by decide +kernel
theorem dX2_copyFrom_20 : decode cX2_copyFrom 20 = .ok (.aload_n 0, 1) := by decide +kernel
theorem dX2_copyFrom_21 : decode cX2_copyFrom 21 = .ok (.getfield 15, 3) := by decide +kernel
theorem dX2_copyFrom_24 : decode cX2_copyFrom 24 = .ok (.iconst 0, 1) := by decide +kernel
theorem dX2_copyFrom_25 : decode cX2_copyFrom 25 = .ok (.bipush 12, 2) := by decide +kernel
theorem dX2_copyFrom_27 : decode cX2_copyFrom 27 = .ok (.invokestatic 40, 3) := by decide +kernel
theorem dX2_copyFrom_30 : decode cX2_copyFrom 30 = .ok (.aload_n 1, 1) := by decide +kernel
theorem dX2_copyFrom_31 : decode cX2_copyFrom 31 = .ok (.getfield 18, 3) := by decide +kernel
theorem dX2_copyFrom_34 : decode cX2_copyFrom 34 = .ok (.iconst 0, 1) := by decide +kernel
theorem dX2_copyFrom_35 : decode cX2_copyFrom 35 = .ok (.aload_n 0, 1) := by decide +kernel
theorem dX2_copyFrom_36 : decode cX2_copyFrom 36 = .ok (.getfield 18, 3) := by decide +kernel
theorem dX2_copyFrom_39 : decode cX2_copyFrom 39 = .ok (.iconst 0, 1) := by decide +kernel
theorem dX2_copyFrom_40 : decode cX2_copyFrom 40 = .ok (.bipush 12, 2) := by decide +kernel
theorem dX2_copyFrom_42 : decode cX2_copyFrom 42 = .ok (.invokestatic 40, 3) := by decide +kernel
theorem dX2_copyFrom_45 : decode cX2_copyFrom 45 = .ok (.aload_n 1, 1) := by decide +kernel
theorem dX2_copyFrom_46 : decode cX2_copyFrom 46 = .ok (.getfield 21, 3) := by decide +kernel
theorem dX2_copyFrom_49 : decode cX2_copyFrom 49 = .ok (.iconst 0, 1) := by decide +kernel
theorem dX2_copyFrom_50 : decode cX2_copyFrom 50 = .ok (.aload_n 0, 1) := by decide +kernel
theorem dX2_copyFrom_51 : decode cX2_copyFrom 51 = .ok (.getfield 21, 3) := by decide +kernel
theorem dX2_copyFrom_54 : decode cX2_copyFrom 54 = .ok (.iconst 0, 1) := by decide +kernel
theorem dX2_copyFrom_55 : decode cX2_copyFrom 55 = .ok (.bipush 12, 2) := by decide +kernel
theorem dX2_copyFrom_57 : decode cX2_copyFrom 57 = .ok (.invokestatic 40, 3) := by decide +kernel
theorem dX2_copyFrom_60 : decode cX2_copyFrom 60 = .ok (.aload_n 1, 1) := by decide +kernel
theorem dX2_copyFrom_61 : decode cX2_copyFrom 61 = .ok (.getfield 24, 3) := by decide +kernel
theorem dX2_copyFrom_64 : decode cX2_copyFrom 64 = .ok (.iconst 0, 1) := by decide +kernel
theorem dX2_copyFrom_65 : decode cX2_copyFrom 65 = .ok (.aload_n 0, 1) := by decide +kernel
theorem dX2_copyFrom_66 : decode cX2_copyFrom 66 = .ok (.getfield 24, 3) := by decide +kernel
theorem dX2_copyFrom_69 : decode cX2_copyFrom 69 = .ok (.iconst 0, 1) := by decide +kernel
theorem dX2_copyFrom_70 : decode cX2_copyFrom 70 = .ok (.bipush 12, 2) := by decide +kernel
theorem dX2_copyFrom_72 : decode cX2_copyFrom 72 = .ok (.invokestatic 40, 3) := by decide +kernel
theorem dX2_copyFrom_75 : decode cX2_copyFrom 75 = .ok (.aload_n 1, 1) := by decide +kernel
theorem dX2_copyFrom_76 : decode cX2_copyFrom 76 = .ok (.getfield 27, 3) := by decide +kernel
theorem dX2_copyFrom_79 : decode cX2_copyFrom 79 = .ok (.iconst 0, 1) := by decide +kernel
theorem dX2_copyFrom_80 : decode cX2_copyFrom 80 = .ok (.aload_n 0, 1) := by decide +kernel
theorem dX2_copyFrom_81 : decode cX2_copyFrom 81 = .ok (.getfield 27, 3) := by decide +kernel
theorem dX2_copyFrom_84 : decode cX2_copyFrom 84 = .ok (.iconst 0, 1) := by decide +kernel
theorem dX2_copyFrom_85 : decode cX2_copyFrom 85 = .ok (.bipush 12, 2) := by decide +kernel
theorem dX2_copyFrom_87 : decode cX2_copyFrom 87 = .ok (.invokestatic 40, 3) := by decide +kernel
theorem dX2_copyFrom_90 : decode cX2_copyFrom 90 = .ok (.aload_n 1, 1) := by decide +kernel
theorem dX2_copyFrom_91 : decode cX2_copyFrom 91 = .ok (.getfield 30, 3) := by decide +kernel
theorem dX2_copyFrom_94 : decode cX2_copyFrom 94 = .ok (.iconst 0, 1) := by decide +kernel
theorem dX2_copyFrom_95 : decode cX2_copyFrom 95 = .ok (.aload_n 0, 1) := by decide +kernel
theorem dX2_copyFrom_96 : decode cX2_copyFrom 96 = .ok (.getfield 30, 3) := by decide +kernel
theorem dX2_copyFrom_99 : decode cX2_copyFrom 99 = .ok (.iconst 0, 1) := by decide +kernel
theorem dX2_copyFrom_100 : decode cX2_copyFrom 100 = .ok (.bipush 12, 2) := by decide +kernel
theorem dX2_copyFrom_102 : decode cX2_copyFrom 102 = .ok (.invokestatic 40, 3) := by decide +kernel
theorem dX2_copyFrom_105 : decode cX2_copyFrom 105 = .ok (.aload_n 1, 1) := by decide +kernel
theorem dX2_copyFrom_106 : decode cX2_copyFrom 106 = .ok (.getfield 33, 3) := by decide +kernel
theorem dX2_copyFrom_109 : decode cX2_copyFrom 109 = .ok (.iconst 0, 1) := by decide +kernel
theorem dX2_copyFrom_110 : decode cX2_copyFrom 110 = .ok (.aload_n 0, 1) := by decide +kernel
theorem dX2_copyFrom_111 : decode cX2_copyFrom 111 = .ok (.getfield 33, 3) := by decide +kernel
theorem dX2_copyFrom_114 : decode cX2_copyFrom 114 = .ok (.iconst 0, 1) := by decide +kernel
theorem dX2_copyFrom_115 : decode cX2_copyFrom 115 = .ok (.bipush 12, 2) := by decide +kernel
theorem dX2_copyFrom_117 : decode cX2_copyFrom 117 = .ok (.invokestatic 40, 3) := by decide +kernel
theorem dX2_copyFrom_120 : decode cX2_copyFrom 120 = .ok (.aload_n 0, 1) := by decide +kernel
theorem dX2_copyFrom_121 : decode cX2_copyFrom 121 = .ok (.aload_n 1, 1) := by decide +kernel
theorem dX2_copyFrom_122 : decode cX2_copyFrom 122 = .ok (.getfield 36, 3) := by decide +kernel
theorem dX2_copyFrom_125 : decode cX2_copyFrom 125 = .ok (.putfield 36, 3) := by decide +kernel
theorem dX2_copyFrom_128 : decode cX2_copyFrom 128 = .ok (.return_, 1) := by decide +kernel
theorem dX2_has_0 : decode cX2_has 0 = .ok (.iload_n 1, 1) := by decide +kernel
theorem dX2_has_1 : decode cX2_has 1 = .ok (.iconst 0, 1) := by decide +kernel
theorem dX2_has_2 : decode cX2_has 2 = .ok (.aload_n 0, 1) := by decide +kernel
theorem dX2_has_3 : decode cX2_has 3 = .ok (.getfield 36, 3) := by decide +kernel
theorem dX2_has_6 : decode cX2_has 6 = .ok (.iconst 1, 1) := by decide +kernel
theorem dX2_has_7 : decode cX2_has 7 = .ok (.isub, 1) := by decide +kernel
theorem dX2_has_8 : decode cX2_has 8 = .ok (.invokestatic 46, 3) := by decide +kernel
theorem dX2_has_11 : decode cX2_has 11 = .ok (.ireturn, 1) := by decide +kernel
theorem dX2_isFull_0 : decode cX2_isFull 0 = .ok (.aload_n 0, 1) := by decide +kernel
theorem dX2_isFull_1 : decode cX2_isFull 1 = .ok (.getfield 36, 3) := by decide +kernel
theorem dX2_isFull_4 : decode cX2_isFull 4 = .ok (.bipush 12, 2) := by decide +kernel
theorem dX2_isFull_6 : decode cX2_isFull 6 = .ok (.if_icmp .lt 7, 3) := by decide +kernel
theorem dX2_isFull_9 : decode cX2_isFull 9 = .ok (.iconst 1, 1) := by decide +kernel
theorem dX2_isFull_10 : decode cX2_isFull 10 = .ok (.goto 4, 3) := by decide +kernel
theorem dX2_isFull_13 : decode cX2_isFull 13 = .ok (.iconst 0, 1) := by decide +kernel
theorem dX2_isFull_14 : decode cX2_isFull 14 = .ok (.ireturn, 1) := by decide +kernel
theorem dX2_add_0 : decode cX2_add 0 = .ok (.aload_n 0, 1) := by decide +kernel
theorem dX2_add_1 : decode cX2_add 1 = .ok (.invokevirtual 50, 3) := by decide +kernel
theorem dX2_add_4 : decode cX2_add 4 = .ok (.ifCond .eq 5, 3) := by decide +kernel
theorem dX2_add_7 : decode cX2_add 7 = .ok (.iconst (-1), 1) := by decide +kernel
theorem dX2_add_8 : decode cX2_add 8 = .ok (.ireturn, 1) := by decide +kernel
theorem dX2_add_9 : decode cX2_add 9 = .ok (.aload_n 0, 1) := by decide +kernel
theorem dX2_add_10 : decode cX2_add 10 = .ok (.getfield 36, 3) := by decide +kernel
theorem dX2_add_13 : decode cX2_add 13 = .ok (.istore 5, 2) := by decide +kernel
theorem dX2_add_15 : decode cX2_add 15 = .ok (.aload_n 0, 1) := by decide +kernel
theorem dX2_add_16 : decode cX2_add 16 = .ok (.dup, 1) := by decide +kernel
theorem dX2_add_17 : decode cX2_add 17 = .ok (.getfield 36, 3) := by decide +kernel
theorem dX2_add_20 : decode cX2_add 20 = .ok (.iconst 1, 1) := by decide +kernel
theorem dX2_add_21 : decode cX2_add 21 = .ok (.iadd, 1) := by decide +kernel
theorem dX2_add_22 : decode cX2_add 22 = .ok (.putfield 36, 3) := by decide +kernel
theorem dX2_add_25 : decode cX2_add 25 = .ok (.aload_n 0, 1) := by decide +kernel
theorem dX2_add_26 : decode cX2_add 26 = .ok (.getfield 9, 3) := by decide +kernel
theorem dX2_add_29 : decode cX2_add 29 = .ok (.iload 5, 2) := by decide +kernel
theorem dX2_add_31 : decode cX2_add 31 = .ok (.iload_n 1, 1) := by decide +kernel
theorem dX2_add_32 : decode cX2_add 32 = .ok (.iastore, 1) := by decide +kernel
theorem dX2_add_33 : decode cX2_add 33 = .ok (.aload_n 0, 1) := by decide +kernel
theorem dX2_add_34 : decode cX2_add 34 = .ok (.getfield 15, 3) := by decide +kernel
theorem dX2_add_37 : decode cX2_add 37 = .ok (.iload 5, 2) := by decide +kernel
theorem dX2_add_39 : decode cX2_add 39 = .ok (.iload_n 2, 1) := by decide +kernel
theorem dX2_add_40 : decode cX2_add 40 = .ok (.iastore, 1) := by decide +kernel
theorem dX2_add_41 : decode cX2_add 41 = .ok (.aload_n 0, 1) := by decide +kernel
theorem dX2_add_42 : decode cX2_add 42 = .ok (.getfield 18, 3) := by decide +kernel
theorem dX2_add_45 : decode cX2_add 45 = .ok (.iload 5, 2) := by decide +kernel
theorem dX2_add_47 : decode cX2_add 47 = .ok (.iload_n 3, 1) := by decide +kernel
theorem dX2_add_48 : decode cX2_add 48 = .ok (.iastore, 1) := by decide +kernel
theorem dX2_add_49 : decode cX2_add 49 = .ok (.aload_n 0, 1) := by decide +kernel
theorem dX2_add_50 : decode cX2_add 50 = .ok (.getfield 21, 3) := by decide +kernel
theorem dX2_add_53 : decode cX2_add 53 = .ok (.iload 5, 2) := by decide +kernel
theorem dX2_add_55 : decode cX2_add 55 = .ok (.iload 4, 2) := by decide +kernel
theorem dX2_add_57 : decode cX2_add 57 = .ok (.iastore, 1) := by decide +kernel
theorem dX2_add_58 : decode cX2_add 58 = .ok (.aload_n 0, 1) := by decide +kernel
theorem dX2_add_59 : decode cX2_add 59 = .ok (.getfield 24, 3) := by decide +kernel
theorem dX2_add_62 : decode cX2_add 62 = .ok (.iload 5, 2) := by decide +kernel
theorem dX2_add_64 : decode cX2_add 64 = .ok (.iconst 0, 1) := by decide +kernel
theorem dX2_add_65 : decode cX2_add 65 = .ok (.iastore, 1) := by decide +kernel
theorem dX2_add_66 : decode cX2_add 66 = .ok (.aload_n 0, 1) := by decide +kernel
theorem dX2_add_67 : decode cX2_add 67 = .ok (.getfield 27, 3) := by decide +kernel
theorem dX2_add_70 : decode cX2_add 70 = .ok (.iload 5, 2) := by decide +kernel
theorem dX2_add_72 : decode cX2_add 72 = .ok (.iconst 0, 1) := by decide +kernel
theorem dX2_add_73 : decode cX2_add 73 = .ok (.iastore, 1) := by decide +kernel
theorem dX2_add_74 : decode cX2_add 74 = .ok (.aload_n 0, 1) := by decide +kernel
theorem dX2_add_75 : decode cX2_add 75 = .ok (.getfield 30, 3) := by decide +kernel
theorem dX2_add_78 : decode cX2_add 78 = .ok (.iload 5, 2) := by decide +kernel
theorem dX2_add_80 : decode cX2_add 80 = .ok (.iconst (-1), 1) := by decide +kernel
theorem dX2_add_81 : decode cX2_add 81 = .ok (.iastore, 1) := by decide +kernel
theorem dX2_add_82 : decode cX2_add 82 = .ok (.aload_n 0, 1) := by decide +kernel
theorem dX2_add_83 : decode cX2_add 83 = .ok (.getfield 33, 3) := by decide +kernel
theorem dX2_add_86 : decode cX2_add 86 = .ok (.iload 5, 2) := by decide +kernel
theorem dX2_add_88 : decode cX2_add 88 = .ok (.iconst 0, 1) := by decide +kernel
theorem dX2_add_89 : decode cX2_add 89 = .ok (.iastore, 1) := by decide +kernel
theorem dX2_add_90 : decode cX2_add 90 = .ok (.iload 5, 2) := by decide +kernel
theorem dX2_add_92 : decode cX2_add 92 = .ok (.ireturn, 1) := by decide +kernel
theorem dX2_countIn_0 : decode cX2_countIn 0 = .ok (.iconst 0, 1) := by decide +kernel
theorem dX2_countIn_1 : decode cX2_countIn 1 = .ok (.istore_n 2, 1) := by decide +kernel
theorem dX2_countIn_2 : decode cX2_countIn 2 = .ok (.iconst 0, 1) := by decide +kernel
theorem dX2_countIn_3 : decode cX2_countIn 3 = .ok (.istore_n 3, 1) := by decide +kernel
theorem dX2_countIn_4 : decode cX2_countIn 4 = .ok (.iload_n 3, 1) := by decide +kernel
theorem dX2_countIn_5 : decode cX2_countIn 5 = .ok (.aload_n 0, 1) := by decide +kernel
theorem dX2_countIn_6 : decode cX2_countIn 6 = .ok (.getfield 36, 3) := by decide +kernel
theorem dX2_countIn_9 : decode cX2_countIn 9 = .ok (.if_icmp .ge 22, 3) := by decide +kernel
theorem dX2_countIn_12 : decode cX2_countIn 12 = .ok (.aload_n 0, 1) := by decide +kernel
theorem dX2_countIn_13 : decode cX2_countIn 13 = .ok (.getfield 24, 3) := by decide +kernel
theorem dX2_countIn_16 : decode cX2_countIn 16 = .ok (.iload_n 3, 1) := by decide +kernel
theorem dX2_countIn_17 : decode cX2_countIn 17 = .ok (.iaload, 1) := by decide +kernel
theorem dX2_countIn_18 : decode cX2_countIn 18 = .ok (.iload_n 1, 1) := by decide +kernel
theorem dX2_countIn_19 : decode cX2_countIn 19 = .ok (.if_icmp .ne 6, 3) := by decide +kernel
theorem dX2_countIn_22 : decode cX2_countIn 22 = .ok (.iinc 2 1, 3) := by decide +kernel
theorem dX2_countIn_25 : decode cX2_countIn 25 = .ok (.iinc 3 1, 3) := by decide +kernel
theorem dX2_countIn_28 : decode cX2_countIn 28 = .ok (.goto (-24), 3) := by decide +kernel
theorem dX2_countIn_31 : decode cX2_countIn 31 = .ok (.iload_n 2, 1) := by decide +kernel
theorem dX2_countIn_32 : decode cX2_countIn 32 = .ok (.ireturn, 1) := by decide +kernel
theorem dX2_wantedSticker_0 : decode cX2_wantedSticker 0 = .ok (.aload_n 0, 1) := by decide +kernel
theorem dX2_wantedSticker_1 : decode cX2_wantedSticker 1 = .ok (.getfield 9, 3) := by decide +kernel
theorem dX2_wantedSticker_4 : decode cX2_wantedSticker 4 = .ok (.iload_n 1, 1) := by decide +kernel
theorem dX2_wantedSticker_5 : decode cX2_wantedSticker 5 = .ok (.iaload, 1) := by decide +kernel
theorem dX2_wantedSticker_6 : decode cX2_wantedSticker 6 = .ok (.iconst 2, 1) := by decide +kernel
theorem dX2_wantedSticker_7 : decode cX2_wantedSticker 7 = .ok (.if_icmp .ne 7, 3) := by decide +kernel
theorem dX2_wantedSticker_10 : decode cX2_wantedSticker 10 = .ok (.iconst 0, 1) := by decide +kernel
theorem dX2_wantedSticker_11 : decode cX2_wantedSticker 11 = .ok (.goto 9, 3) := by decide +kernel
theorem dX2_wantedSticker_14 : decode cX2_wantedSticker 14 = .ok (.aload_n 0, 1) := by decide +kernel
theorem dX2_wantedSticker_15 : decode cX2_wantedSticker 15 = .ok (.getfield 15, 3) := by decide +kernel
theorem dX2_wantedSticker_18 : decode cX2_wantedSticker 18 = .ok (.iload_n 1, 1) := by decide +kernel
theorem dX2_wantedSticker_19 : decode cX2_wantedSticker 19 = .ok (.iaload, 1) := by decide +kernel
theorem dX2_wantedSticker_20 : decode cX2_wantedSticker 20 = .ok (.ireturn, 1) := by decide +kernel
theorem dX2_hasWaitingCreate_0 : decode cX2_hasWaitingCreate 0 = .ok (.iconst 0, 1) := by decide +kernel
theorem dX2_hasWaitingCreate_1 : decode cX2_hasWaitingCreate 1 = .ok (.istore_n 2, 1) := by decide +kernel
theorem dX2_hasWaitingCreate_2 : decode cX2_hasWaitingCreate 2 = .ok (.iload_n 2, 1) := by decide +kernel
theorem dX2_hasWaitingCreate_3 : decode cX2_hasWaitingCreate 3 = .ok (.aload_n 0, 1) := by decide +kernel
theorem dX2_hasWaitingCreate_4 : decode cX2_hasWaitingCreate 4 = .ok (.getfield 36, 3) := by decide +kernel
theorem dX2_hasWaitingCreate_7 : decode cX2_hasWaitingCreate 7 = .ok (.if_icmp .ge 40, 3) := by decide +kernel
theorem dX2_hasWaitingCreate_10 : decode cX2_hasWaitingCreate 10 = .ok (.aload_n 0, 1) := by decide +kernel
theorem dX2_hasWaitingCreate_11 : decode cX2_hasWaitingCreate 11 = .ok (.getfield 24, 3) := by decide +kernel
theorem dX2_hasWaitingCreate_14 : decode cX2_hasWaitingCreate 14 = .ok (.iload_n 2, 1) := by decide +kernel
theorem dX2_hasWaitingCreate_15 : decode cX2_hasWaitingCreate 15 = .ok (.iaload, 1) := by decide +kernel
theorem dX2_hasWaitingCreate_16 : decode cX2_hasWaitingCreate 16 = .ok (.ifCond .ne 25, 3) := by decide +kernel
theorem dX2_hasWaitingCreate_19 : decode cX2_hasWaitingCreate 19 = .ok (.aload_n 0, 1) := by decide +kernel
theorem dX2_hasWaitingCreate_20 : decode cX2_hasWaitingCreate 20 = .ok (.getfield 9, 3) := by decide +kernel
theorem dX2_hasWaitingCreate_23 : decode cX2_hasWaitingCreate 23 = .ok (.iload_n 2, 1) := by decide +kernel
theorem dX2_hasWaitingCreate_24 : decode cX2_hasWaitingCreate 24 = .ok (.iaload, 1) := by decide +kernel
theorem dX2_hasWaitingCreate_25 : decode cX2_hasWaitingCreate 25 = .ok (.iconst 2, 1) := by decide +kernel
theorem dX2_hasWaitingCreate_26 : decode cX2_hasWaitingCreate 26 = .ok (.if_icmp .ne 15, 3) := by decide +kernel
theorem dX2_hasWaitingCreate_29 : decode cX2_hasWaitingCreate 29 = .ok (.aload_n 0, 1) := by decide +kernel
theorem dX2_hasWaitingCreate_30 : decode cX2_hasWaitingCreate 30 = .ok (.getfield 15, 3) := by decide +kernel
theorem dX2_hasWaitingCreate_33 : decode cX2_hasWaitingCreate 33 = .ok (.iload_n 2, 1) := by decide +kernel
theorem dX2_hasWaitingCreate_34 : decode cX2_hasWaitingCreate 34 = .ok (.iaload, 1) := by decide +kernel
theorem dX2_hasWaitingCreate_35 : decode cX2_hasWaitingCreate 35 = .ok (.iload_n 1, 1) := by decide +kernel
theorem dX2_hasWaitingCreate_36 : decode cX2_hasWaitingCreate 36 = .ok (.if_icmp .ne 5, 3) := by decide +kernel
theorem dX2_hasWaitingCreate_39 : decode cX2_hasWaitingCreate 39 = .ok (.iconst 1, 1) := by decide +kernel
theorem dX2_hasWaitingCreate_40 : decode cX2_hasWaitingCreate 40 = .ok (.ireturn, 1) := by decide +kernel
theorem dX2_hasWaitingCreate_41 : decode cX2_hasWaitingCreate 41 = .ok (.iinc 2 1, 3) := by decide +kernel
theorem dX2_hasWaitingCreate_44 : decode cX2_hasWaitingCreate 44 = .ok (.goto (-42), 3) := by decide +kernel
theorem dX2_hasWaitingCreate_47 : decode cX2_hasWaitingCreate 47 = .ok (.iconst 0, 1) := by decide +kernel
theorem dX2_hasWaitingCreate_48 : decode cX2_hasWaitingCreate 48 = .ok (.ireturn, 1) := by decide +kernel
theorem dX3_init_0 : decode cX3_init 0 = .ok (.aload_n 0, 1) := by decide +kernel
theorem dX3_init_1 : decode cX3_init 1 = .ok (.invokespecial 3, 3) := by decide +kernel
theorem dX3_init_4 : decode cX3_init 4 = .ok (.aload_n 0, 1) := by decide +kernel
theorem dX3_init_5 : decode cX3_init 5 = .ok (.bipush 12, 2) := by decide +kernel
theorem dX3_init_7 : decode cX3_init 7 = .ok (.newarray .int, 2) := by decide +kernel
theorem dX3_init_9 : decode cX3_init 9 = .ok (.putfield 9, 3) := by decide +kernel
theorem dX3_init_12 : decode cX3_init 12 = .ok (.aload_n 0, 1) := by decide +kernel
theorem dX3_init_13 : decode cX3_init 13 = .ok (.bipush 12, 2) := by decide +kernel
theorem dX3_init_15 : decode cX3_init 15 = .ok (.newarray .int, 2) := by decide +kernel
theorem dX3_init_17 : decode cX3_init 17 = .ok (.putfield 15, 3) := by decide +kernel
theorem dX3_init_20 : decode cX3_init 20 = .ok (.aload_n 0, 1) := by decide +kernel
theorem dX3_init_21 : decode cX3_init 21 = .ok (.bipush 12, 2) := by decide +kernel
theorem dX3_init_23 : decode cX3_init 23 = .ok (.newarray .boolean, 2) := by decide +kernel
theorem dX3_init_25 : decode cX3_init 25 = .ok (.putfield 18, 3) := by decide +kernel
theorem dX3_init_28 : decode cX3_init 28 = .ok (.aload_n 0, 1) := by decide +kernel
theorem dX3_init_29 : decode cX3_init 29 = .ok (.bipush 12, 2) := by decide +kernel
theorem dX3_init_31 : decode cX3_init 31 = .ok (.newarray .int, 2) := by decide +kernel
theorem dX3_init_33 : decode cX3_init 33 = .ok (.putfield 22, 3) := by decide +kernel
theorem dX3_init_36 : decode cX3_init 36 = .ok (.aload_n 0, 1) := by decide +kernel
theorem dX3_init_37 : decode cX3_init 37 = .ok (.bipush 12, 2) := by decide +kernel
theorem dX3_init_39 : decode cX3_init 39 = .ok (.newarray .int, 2) := by decide +kernel
theorem dX3_init_41 : decode cX3_init 41 = .ok (.putfield 25, 3) := by decide +kernel
theorem dX3_init_44 : decode cX3_init 44 = .ok (.aload_n 0, 1) := by decide +kernel
theorem dX3_init_45 : decode cX3_init 45 = .ok (.bipush 12, 2) := by decide +kernel
theorem dX3_init_47 : decode cX3_init 47 = .ok (.newarray .int, 2) := by decide +kernel
theorem dX3_init_49 : decode cX3_init 49 = .ok (.putfield 28, 3) := by decide +kernel
theorem dX3_init_52 : decode cX3_init 52 = .ok (.iconst 0, 1) := by decide +kernel
theorem dX3_init_53 : decode cX3_init 53 = .ok (.istore_n 1, 1) := by decide +kernel
theorem dX3_init_54 : decode cX3_init 54 = .ok (.iload_n 1, 1) := by decide +kernel
theorem dX3_init_55 : decode cX3_init 55 = .ok (.bipush 12, 2) := by decide +kernel
theorem dX3_init_57 : decode cX3_init 57 = .ok (.if_icmp .ge 44, 3) := by decide +kernel
theorem dX3_init_60 : decode cX3_init 60 = .ok (.iload_n 1, 1) := by decide +kernel
theorem dX3_init_61 : decode cX3_init 61 = .ok (.bipush 6, 2) := by decide +kernel
theorem dX3_init_63 : decode cX3_init 63 = .ok (.if_icmp .ge 9, 3) := by decide +kernel
theorem dX3_init_66 : decode cX3_init 66 = .ok (.iload_n 1, 1) := by decide +kernel
theorem dX3_init_67 : decode cX3_init 67 = .ok (.iconst 1, 1) := by decide +kernel
theorem dX3_init_68 : decode cX3_init 68 = .ok (.iadd, 1) := by decide +kernel
theorem dX3_init_69 : decode cX3_init 69 = .ok (.goto 4, 3) := by decide +kernel
theorem dX3_init_72 : decode cX3_init 72 = .ok (.iconst 0, 1) := by decide +kernel
theorem dX3_init_73 : decode cX3_init 73 = .ok (.istore_n 2, 1) := by decide +kernel
theorem dX3_init_74 : decode cX3_init 74 = .ok (.aload_n 0, 1) := by decide +kernel
theorem dX3_init_75 : decode cX3_init 75 = .ok (.getfield 9, 3) := by decide +kernel
theorem dX3_init_78 : decode cX3_init 78 = .ok (.iload_n 1, 1) := by decide +kernel
theorem dX3_init_79 : decode cX3_init 79 = .ok (.iload_n 2, 1) := by decide +kernel
theorem dX3_init_80 : decode cX3_init 80 = .ok (.iastore, 1) := by decide +kernel
theorem dX3_init_81 : decode cX3_init 81 = .ok (.aload_n 0, 1) := by decide +kernel
theorem dX3_init_82 : decode cX3_init 82 = .ok (.getfield 15, 3) := by decide +kernel
theorem dX3_init_85 : decode cX3_init 85 = .ok (.iload_n 1, 1) := by decide +kernel
theorem dX3_init_86 : decode cX3_init 86 = .ok (.iload_n 2, 1) := by decide +kernel
theorem dX3_init_87 : decode cX3_init 87 = .ok (.iastore, 1) := by decide +kernel
theorem dX3_init_88 : decode cX3_init 88 = .ok (.aload_n 0, 1) := by decide +kernel
theorem dX3_init_89 : decode cX3_init 89 = .ok (.getfield 28, 3) := by decide +kernel
theorem dX3_init_92 : decode cX3_init 92 = .ok (.iload_n 1, 1) := by decide +kernel
theorem dX3_init_93 : decode cX3_init 93 = .ok (.iconst (-1), 1) := by decide +kernel
theorem dX3_init_94 : decode cX3_init 94 = .ok (.iastore, 1) := by decide +kernel
theorem dX3_init_95 : decode cX3_init 95 = .ok (.iinc 1 1, 3) := by decide +kernel
theorem dX3_init_98 : decode cX3_init 98 = .ok (.goto (-44), 3) := by decide +kernel
theorem dX3_init_101 : decode cX3_init 101 = .ok (.return_, 1) := by decide +kernel
theorem dX3_copyFrom_0 : decode cX3_copyFrom 0 = .ok (.aload_n 1, 1) := by decide +kernel
theorem dX3_copyFrom_1 : decode cX3_copyFrom 1 = .ok (.getfield 9, 3) := by decide +kernel
theorem dX3_copyFrom_4 : decode cX3_copyFrom 4 = .ok (.iconst 0, 1) := by decide +kernel
theorem dX3_copyFrom_5 : decode cX3_copyFrom 5 = .ok (.aload_n 0, 1) := by decide +kernel
theorem dX3_copyFrom_6 : decode cX3_copyFrom 6 = .ok (.getfield 9, 3) := by decide +kernel
theorem dX3_copyFrom_9 : decode cX3_copyFrom 9 = .ok (.iconst 0, 1) := by decide +kernel
theorem dX3_copyFrom_10 : decode cX3_copyFrom 10 = .ok (.bipush 12, 2) := by decide +kernel
theorem dX3_copyFrom_12 : decode cX3_copyFrom 12 = .ok (.invokestatic 31, 3) := by decide +kernel
theorem dX3_copyFrom_15 : decode cX3_copyFrom 15 = .ok (.aload_n 1, 1) := by decide +kernel
theorem dX3_copyFrom_16 : decode cX3_copyFrom 16 = .ok (.getfield 15, 3) := by decide +kernel
theorem dX3_copyFrom_19 : decode cX3_copyFrom 19 = .ok (.iconst 0, 1) := by decide +kernel
theorem dX3_copyFrom_20 : decode cX3_copyFrom 20 = .ok (.aload_n 0, 1) := by decide +kernel
theorem dX3_copyFrom_21 : decode cX3_copyFrom 21 = .ok (.getfield 15, 3) := by decide +kernel
theorem dX3_copyFrom_24 : decode cX3_copyFrom 24 = .ok (.iconst 0, 1) := by decide +kernel
theorem dX3_copyFrom_25 : decode cX3_copyFrom 25 = .ok (.bipush 12, 2) := by decide +kernel
theorem dX3_copyFrom_27 : decode cX3_copyFrom 27 = .ok (.invokestatic 31, 3) := by decide +kernel
theorem dX3_copyFrom_30 : decode cX3_copyFrom 30 = .ok (.iconst 0, 1) := by decide +kernel
theorem dX3_copyFrom_31 : decode cX3_copyFrom 31 = .ok (.istore_n 2, 1) := by decide +kernel
theorem dX3_copyFrom_32 : decode cX3_copyFrom 32 = .ok (.iload_n 2, 1) := by decide +kernel
theorem dX3_copyFrom_33 : decode cX3_copyFrom 33 = .ok (.bipush 12, 2) := by decide +kernel
theorem dX3_copyFrom_35 : decode cX3_copyFrom 35 = .ok (.if_icmp .ge 21, 3) := by decide +kernel
theorem dX3_copyFrom_38 : decode cX3_copyFrom 38 = .ok (.aload_n 0, 1) := by decide +kernel
theorem dX3_copyFrom_39 : decode cX3_copyFrom 39 = .ok (.getfield 18, 3) := by decide +kernel
theorem dX3_copyFrom_42 : decode cX3_copyFrom 42 = .ok (.iload_n 2, 1) := by decide +kernel
theorem dX3_copyFrom_43 : decode cX3_copyFrom 43 = .ok (.aload_n 1, 1) := by decide +kernel
theorem dX3_copyFrom_44 : decode cX3_copyFrom 44 = .ok (.getfield 18, 3) := by decide +kernel
theorem dX3_copyFrom_47 : decode cX3_copyFrom 47 = .ok (.iload_n 2, 1) := by decide +kernel
theorem dX3_copyFrom_48 : decode cX3_copyFrom 48 = .ok (.baload, 1) := by decide +kernel
theorem dX3_copyFrom_49 : decode cX3_copyFrom 49 = .ok (.bastore, 1) := by decide +kernel
theorem dX3_copyFrom_50 : decode cX3_copyFrom 50 = .ok (.iinc 2 1, 3) := by decide +kernel
theorem dX3_copyFrom_53 : decode cX3_copyFrom 53 = .ok (.goto (-21), 3) := by decide +kernel
theorem dX3_copyFrom_56 : decode cX3_copyFrom 56 = .ok (.aload_n 1, 1) := by decide +kernel
theorem dX3_copyFrom_57 : decode cX3_copyFrom 57 = .ok (.getfield 22, 3) := by decide +kernel
theorem dX3_copyFrom_60 : decode cX3_copyFrom 60 = .ok (.iconst 0, 1) := by decide +kernel
theorem dX3_copyFrom_61 : decode cX3_copyFrom 61 = .ok (.aload_n 0, 1) := by decide +kernel
theorem dX3_copyFrom_62 : decode cX3_copyFrom 62 = .ok (.getfield 22, 3) := by decide +kernel
theorem dX3_copyFrom_65 : decode cX3_copyFrom 65 = .ok (.iconst 0, 1) := by decide +kernel
theorem dX3_copyFrom_66 : decode cX3_copyFrom 66 = .ok (.bipush 12, 2) := by decide +kernel
theorem dX3_copyFrom_68 : decode cX3_copyFrom 68 = .ok (.invokestatic 31, 3) := by decide +kernel
theorem dX3_copyFrom_71 : decode cX3_copyFrom 71 = .ok (.aload_n 1, 1) := by decide +kernel
theorem dX3_copyFrom_72 : decode cX3_copyFrom 72 = .ok (.getfield 25, 3) := by decide +kernel
theorem dX3_copyFrom_75 : decode cX3_copyFrom 75 = .ok (.iconst 0, 1) := by decide +kernel
theorem dX3_copyFrom_76 : decode cX3_copyFrom 76 = .ok (.aload_n 0, 1) := by decide +kernel
theorem dX3_copyFrom_77 : decode cX3_copyFrom 77 = .ok (.getfield 25, 3) := by decide +kernel
theorem dX3_copyFrom_80 : decode cX3_copyFrom 80 = .ok (.iconst 0, 1) := by decide +kernel
theorem dX3_copyFrom_81 : decode cX3_copyFrom 81 = .ok (.bipush 12, 2) := by decide +kernel
theorem dX3_copyFrom_83 : decode cX3_copyFrom 83 = .ok (.invokestatic 31, 3) := by decide +kernel
theorem dX3_copyFrom_86 : decode cX3_copyFrom 86 = .ok (.aload_n 1, 1) := by decide +kernel
theorem dX3_copyFrom_87 : decode cX3_copyFrom 87 = .ok (.getfield 28, 3) := by decide +kernel
theorem dX3_copyFrom_90 : decode cX3_copyFrom 90 = .ok (.iconst 0, 1) := by decide +kernel
theorem dX3_copyFrom_91 : decode cX3_copyFrom 91 = .ok (.aload_n 0, 1) := by decide +kernel
theorem dX3_copyFrom_92 : decode cX3_copyFrom 92 = .ok (.getfield 28, 3) := by decide +kernel
theorem dX3_copyFrom_95 : decode cX3_copyFrom 95 = .ok (.iconst 0, 1) := by decide +kernel
theorem dX3_copyFrom_96 : decode cX3_copyFrom 96 = .ok (.bipush 12, 2) := by decide +kernel
theorem dX3_copyFrom_98 : decode cX3_copyFrom 98 = .ok (.invokestatic 31, 3) := by decide +kernel
theorem dX3_copyFrom_101 : decode cX3_copyFrom 101 = .ok (.return_, 1) := by decide +kernel
theorem dX3_isScratch_0 : decode cX3_isScratch 0 = .ok (.aload_n 0, 1) := by decide +kernel
theorem dX3_isScratch_1 : decode cX3_isScratch 1 = .ok (.getfield 9, 3) := by decide +kernel
theorem dX3_isScratch_4 : decode cX3_isScratch 4 = .ok (.iload_n 1, 1) := by decide +kernel
theorem dX3_isScratch_5 : decode cX3_isScratch 5 = .ok (.iaload, 1) := by decide +kernel
theorem dX3_isScratch_6 : decode cX3_isScratch 6 = .ok (.ifCond .eq 13, 3) := by decide +kernel
theorem dX3_isScratch_9 : decode cX3_isScratch 9 = .ok (.aload_n 0, 1) := by decide +kernel
theorem dX3_isScratch_10 : decode cX3_isScratch 10 = .ok (.getfield 22, 3) := by decide +kernel
theorem dX3_isScratch_13 : decode cX3_isScratch 13 = .ok (.iload_n 1, 1) := by decide +kernel
theorem dX3_isScratch_14 : decode cX3_isScratch 14 = .ok (.iaload, 1) := by decide +kernel
theorem dX3_isScratch_15 : decode cX3_isScratch 15 = .ok (.iload_n 2, 1) := by decide +kernel
theorem dX3_isScratch_16 : decode cX3_isScratch 16 = .ok (.if_icmp .ge 7, 3) := by decide +kernel
theorem dX3_isScratch_19 : decode cX3_isScratch 19 = .ok (.iconst 1, 1) := by decide +kernel
theorem dX3_isScratch_20 : decode cX3_isScratch 20 = .ok (.goto 4, 3) := by decide +kernel
theorem dX3_isScratch_23 : decode cX3_isScratch 23 = .ok (.iconst 0, 1) := by decide +kernel
theorem dX3_isScratch_24 : decode cX3_isScratch 24 = .ok (.ireturn, 1) := by decide +kernel
theorem dX3_keepsLabel_0 : decode cX3_keepsLabel 0 = .ok (.iconst 0, 1) := by decide +kernel
theorem dX3_keepsLabel_1 : decode cX3_keepsLabel 1 = .ok (.istore_n 3, 1) := by decide +kernel
theorem dX3_keepsLabel_2 : decode cX3_keepsLabel 2 = .ok (.iload_n 3, 1) := by decide +kernel
theorem dX3_keepsLabel_3 : decode cX3_keepsLabel 3 = .ok (.bipush 12, 2) := by decide +kernel
theorem dX3_keepsLabel_5 : decode cX3_keepsLabel 5 = .ok (.if_icmp .ge 30, 3) := by decide +kernel
theorem dX3_keepsLabel_8 : decode cX3_keepsLabel 8 = .ok (.aload_n 0, 1) := by decide +kernel
theorem dX3_keepsLabel_9 : decode cX3_keepsLabel 9 = .ok (.getfield 9, 3) := by decide +kernel
theorem dX3_keepsLabel_12 : decode cX3_keepsLabel 12 = .ok (.iload_n 3, 1) := by decide +kernel
theorem dX3_keepsLabel_13 : decode cX3_keepsLabel 13 = .ok (.iaload, 1) := by decide +kernel
theorem dX3_keepsLabel_14 : decode cX3_keepsLabel 14 = .ok (.iload_n 1, 1) := by decide +kernel
theorem dX3_keepsLabel_15 : decode cX3_keepsLabel 15 = .ok (.if_icmp .ne 14, 3) := by decide +kernel
theorem dX3_keepsLabel_18 : decode cX3_keepsLabel 18 = .ok (.aload_n 0, 1) := by decide +kernel
theorem dX3_keepsLabel_19 : decode cX3_keepsLabel 19 = .ok (.iload_n 3, 1) := by decide +kernel
theorem dX3_keepsLabel_20 : decode cX3_keepsLabel 20 = .ok (.iload_n 2, 1) := by decide +kernel
theorem dX3_keepsLabel_21 : decode cX3_keepsLabel 21 = .ok (.invokevirtual 37, 3) := by decide +kernel
theorem dX3_keepsLabel_24 : decode cX3_keepsLabel 24 = .ok (.ifCond .ne 5, 3) := by decide +kernel
theorem dX3_keepsLabel_27 : decode cX3_keepsLabel 27 = .ok (.iconst 1, 1) := by decide +kernel
theorem dX3_keepsLabel_28 : decode cX3_keepsLabel 28 = .ok (.ireturn, 1) := by decide +kernel
theorem dX3_keepsLabel_29 : decode cX3_keepsLabel 29 = .ok (.iinc 3 1, 3) := by decide +kernel
theorem dX3_keepsLabel_32 : decode cX3_keepsLabel 32 = .ok (.goto (-30), 3) := by decide +kernel
theorem dX3_keepsLabel_35 : decode cX3_keepsLabel 35 = .ok (.iconst 0, 1) := by decide +kernel
theorem dX3_keepsLabel_36 : decode cX3_keepsLabel 36 = .ok (.ireturn, 1) := by decide +kernel
theorem dX3_findOn_0 : decode cX3_findOn 0 = .ok (.iconst 0, 1) := by decide +kernel
theorem dX3_findOn_1 : decode cX3_findOn 1 = .ok (.istore_n 2, 1) := by decide +kernel
theorem dX3_findOn_2 : decode cX3_findOn 2 = .ok (.iload_n 2, 1) := by decide +kernel
theorem dX3_findOn_3 : decode cX3_findOn 3 = .ok (.bipush 12, 2) := by decide +kernel
theorem dX3_findOn_5 : decode cX3_findOn 5 = .ok (.if_icmp .ge 21, 3) := by decide +kernel
theorem dX3_findOn_8 : decode cX3_findOn 8 = .ok (.aload_n 0, 1) := by decide +kernel
theorem dX3_findOn_9 : decode cX3_findOn 9 = .ok (.getfield 28, 3) := by decide +kernel
theorem dX3_findOn_12 : decode cX3_findOn 12 = .ok (.iload_n 2, 1) := by decide +kernel
theorem dX3_findOn_13 : decode cX3_findOn 13 = .ok (.iaload, 1) := by decide +kernel
theorem dX3_findOn_14 : decode cX3_findOn 14 = .ok (.iload_n 1, 1) := by decide +kernel
theorem dX3_findOn_15 : decode cX3_findOn 15 = .ok (.if_icmp .ne 5, 3) := by decide +kernel
theorem dX3_findOn_18 : decode cX3_findOn 18 = .ok (.iload_n 2, 1) := by decide +kernel
theorem dX3_findOn_19 : decode cX3_findOn 19 = .ok (.ireturn, 1) := by decide +kernel
theorem dX3_findOn_20 : decode cX3_findOn 20 = .ok (.iinc 2 1, 3) := by decide +kernel
theorem dX3_findOn_23 : decode cX3_findOn 23 = .ok (.goto (-21), 3) := by decide +kernel
theorem dX3_findOn_26 : decode cX3_findOn 26 = .ok (.iconst (-1), 1) := by decide +kernel
theorem dX3_findOn_27 : decode cX3_findOn 27 = .ok (.ireturn, 1) := by decide +kernel
theorem dX3_findEmptyDrive_0 : decode cX3_findEmptyDrive 0 = .ok (.iconst 0, 1) := by decide +kernel
theorem dX3_findEmptyDrive_1 : decode cX3_findEmptyDrive 1 = .ok (.istore_n 1, 1) := by decide +kernel
theorem dX3_findEmptyDrive_2 : decode cX3_findEmptyDrive 2 = .ok (.iload_n 1, 1) := by decide +kernel
theorem dX3_findEmptyDrive_3 : decode cX3_findEmptyDrive 3 = .ok (.iconst 3, 1) := by decide +kernel
theorem dX3_findEmptyDrive_4 : decode cX3_findEmptyDrive 4 = .ok (.if_icmp .ge 20, 3) := by decide +kernel
theorem dX3_findEmptyDrive_7 : decode cX3_findEmptyDrive 7 = .ok (.aload_n 0, 1) := by decide +kernel
theorem dX3_findEmptyDrive_8 : decode cX3_findEmptyDrive 8 = .ok (.iload_n 1, 1) := by decide +kernel
theorem dX3_findEmptyDrive_9 : decode cX3_findEmptyDrive 9 = .ok (.invokevirtual 41, 3) := by decide +kernel
theorem dX3_findEmptyDrive_12 : decode cX3_findEmptyDrive 12 = .ok (.iconst (-1), 1) := by decide +kernel
theorem dX3_findEmptyDrive_13 : decode cX3_findEmptyDrive 13 = .ok (.if_icmp .ne 5, 3) := by decide +kernel
theorem dX3_findEmptyDrive_16 : decode cX3_findEmptyDrive 16 = .ok (.iload_n 1, 1) := by decide +kernel
theorem dX3_findEmptyDrive_17 : decode cX3_findEmptyDrive 17 = .ok (.ireturn, 1) := by decide +kernel
theorem dX3_findEmptyDrive_18 : decode cX3_findEmptyDrive 18 = .ok (.iinc 1 1, 3) := by decide +kernel
theorem dX3_findEmptyDrive_21 : decode cX3_findEmptyDrive 21 = .ok (.goto (-19), 3) := by decide +kernel
theorem dX3_findEmptyDrive_24 : decode cX3_findEmptyDrive 24 = .ok (.iconst (-1), 1) := by decide +kernel
theorem dX3_findEmptyDrive_25 : decode cX3_findEmptyDrive 25 = .ok (.ireturn, 1) := by decide +kernel
theorem dX3_findOnShelf_0 : decode cX3_findOnShelf 0 = .ok (.iconst 0, 1) := by decide +kernel
theorem dX3_findOnShelf_1 : decode cX3_findOnShelf 1 = .ok (.istore_n 2, 1) := by decide +kernel
theorem dX3_findOnShelf_2 : decode cX3_findOnShelf 2 = .ok (.iload_n 2, 1) := by decide +kernel
theorem dX3_findOnShelf_3 : decode cX3_findOnShelf 3 = .ok (.bipush 12, 2) := by decide +kernel
theorem dX3_findOnShelf_5 : decode cX3_findOnShelf 5 = .ok (.if_icmp .ge 31, 3) := by decide +kernel
theorem dX3_findOnShelf_8 : decode cX3_findOnShelf 8 = .ok (.aload_n 0, 1) := by decide +kernel
theorem dX3_findOnShelf_9 : decode cX3_findOnShelf 9 = .ok (.getfield 28, 3) := by decide +kernel
theorem dX3_findOnShelf_12 : decode cX3_findOnShelf 12 = .ok (.iload_n 2, 1) := by decide +kernel
theorem dX3_findOnShelf_13 : decode cX3_findOnShelf 13 = .ok (.iaload, 1) := by decide +kernel
theorem dX3_findOnShelf_14 : decode cX3_findOnShelf 14 = .ok (.iconst (-1), 1) := by decide +kernel
theorem dX3_findOnShelf_15 : decode cX3_findOnShelf 15 = .ok (.if_icmp .ne 15, 3) := by decide +kernel
theorem dX3_findOnShelf_18 : decode cX3_findOnShelf 18 = .ok (.aload_n 0, 1) := by decide +kernel
theorem dX3_findOnShelf_19 : decode cX3_findOnShelf 19 = .ok (.getfield 15, 3) := by decide +kernel
theorem dX3_findOnShelf_22 : decode cX3_findOnShelf 22 = .ok (.iload_n 2, 1) := by decide +kernel
theorem dX3_findOnShelf_23 : decode cX3_findOnShelf 23 = .ok (.iaload, 1) := by decide +kernel
theorem dX3_findOnShelf_24 : decode cX3_findOnShelf 24 = .ok (.iload_n 1, 1) := by decide +kernel
theorem dX3_findOnShelf_25 : decode cX3_findOnShelf 25 = .ok (.if_icmp .ne 5, 3) := by decide +kernel
theorem dX3_findOnShelf_28 : decode cX3_findOnShelf 28 = .ok (.iload_n 2, 1) := by decide +kernel
theorem dX3_findOnShelf_29 : decode cX3_findOnShelf 29 = .ok (.ireturn, 1) := by decide +kernel
theorem dX3_findOnShelf_30 : decode cX3_findOnShelf 30 = .ok (.iinc 2 1, 3) := by decide +kernel
theorem dX3_findOnShelf_33 : decode cX3_findOnShelf 33 = .ok (.goto (-31), 3) := by decide +kernel
theorem dX3_findOnShelf_36 : decode cX3_findOnShelf 36 = .ok (.iconst (-1), 1) := by decide +kernel
theorem dX3_findOnShelf_37 : decode cX3_findOnShelf 37 = .ok (.ireturn, 1) := by decide +kernel
theorem dX3_findNextOnShelf_0 : decode cX3_findNextOnShelf 0 = .ok (.iconst (-1), 1) := by decide +kernel
theorem dX3_findNextOnShelf_1 : decode cX3_findNextOnShelf 1 = .ok (.istore_n 2, 1) := by decide +kernel
theorem dX3_findNextOnShelf_2 : decode cX3_findNextOnShelf 2 = .ok (.iconst 0, 1) := by decide +kernel
theorem dX3_findNextOnShelf_3 : decode cX3_findNextOnShelf 3 = .ok (.istore_n 3, 1) := by decide +kernel
theorem dX3_findNextOnShelf_4 : decode cX3_findNextOnShelf 4 = .ok (.iload_n 3, 1) := by decide +kernel
theorem dX3_findNextOnShelf_5 : decode cX3_findNextOnShelf 5 = .ok (.bipush 12, 2) := by decide +kernel
theorem dX3_findNextOnShelf_7 : decode cX3_findNextOnShelf 7 = .ok (.if_icmp .ge 33, 3) := by decide +kernel
theorem dX3_findNextOnShelf_10 : decode cX3_findNextOnShelf 10 = .ok (.aload_n 0, 1) := by decide +kernel
theorem dX3_findNextOnShelf_11 : decode cX3_findNextOnShelf 11 = .ok (.getfield 28, 3) := by decide +kernel
theorem dX3_findNextOnShelf_14 : decode cX3_findNextOnShelf 14 = .ok (.iload_n 3, 1) := by decide +kernel
theorem dX3_findNextOnShelf_15 : decode cX3_findNextOnShelf 15 = .ok (.iaload, 1) := by decide +kernel
theorem dX3_findNextOnShelf_16 : decode cX3_findNextOnShelf 16 = .ok (.iconst (-1), 1) := by decide +kernel
theorem dX3_findNextOnShelf_17 : decode cX3_findNextOnShelf 17 = .ok (.if_icmp .ne 17, 3) := by decide +kernel
theorem dX3_findNextOnShelf_20 : decode cX3_findNextOnShelf 20 = .ok (.iload_n 3, 1) := by decide +kernel
theorem dX3_findNextOnShelf_21 : decode cX3_findNextOnShelf 21 = .ok (.iload_n 1, 1) := by decide +kernel
theorem dX3_findNextOnShelf_22 : decode cX3_findNextOnShelf 22 = .ok (.if_icmp .le 5, 3) := by decide +kernel
theorem dX3_findNextOnShelf_25 : decode cX3_findNextOnShelf 25 = .ok (.iload_n 3, 1) := by decide +kernel
theorem dX3_findNextOnShelf_26 : decode cX3_findNextOnShelf 26 = .ok (.ireturn, 1) := by decide +kernel
theorem dX3_findNextOnShelf_27 : decode cX3_findNextOnShelf 27 = .ok (.iload_n 2, 1) := by decide +kernel
theorem dX3_findNextOnShelf_28 : decode cX3_findNextOnShelf 28 = .ok (.iconst (-1), 1) := by decide +kernel
theorem dX3_findNextOnShelf_29 : decode cX3_findNextOnShelf 29 = .ok (.if_icmp .ne 5, 3) := by decide +kernel
theorem dX3_findNextOnShelf_32 : decode cX3_findNextOnShelf 32 = .ok (.iload_n 3, 1) := by decide +kernel
theorem dX3_findNextOnShelf_33 : decode cX3_findNextOnShelf 33 = .ok (.istore_n 2, 1) := by decide +kernel
theorem dX3_findNextOnShelf_34 : decode cX3_findNextOnShelf 34 = .ok (.iinc 3 1, 3) := by decide +kernel
theorem dX3_findNextOnShelf_37 : decode cX3_findNextOnShelf 37 = .ok (.goto (-33), 3) := by decide +kernel
theorem dX3_findNextOnShelf_40 : decode cX3_findNextOnShelf 40 = .ok (.iload_n 2, 1) := by decide +kernel
theorem dX3_findNextOnShelf_41 : decode cX3_findNextOnShelf 41 = .ok (.ireturn, 1) := by decide +kernel
theorem dX4_init_0 : decode cX4_init 0 = .ok (.aload_n 0, 1) := by decide +kernel
theorem dX4_init_1 : decode cX4_init 1 = .ok (.invokespecial 3, 3) := by decide +kernel
theorem dX4_init_4 : decode cX4_init 4 = .ok (.aload_n 0, 1) := by decide +kernel
theorem dX4_init_5 : decode cX4_init 5 = .ok (.new 9, 3) := by decide +kernel
theorem dX4_init_8 : decode cX4_init 8 = .ok (.dup, 1) := by decide +kernel
theorem dX4_init_9 : decode cX4_init 9 = .ok (.invokespecial 11, 3) := by decide +kernel
theorem dX4_init_12 : decode cX4_init 12 = .ok (.putfield 12, 3) := by decide +kernel
theorem dX4_init_15 : decode cX4_init 15 = .ok (.aload_n 0, 1) := by decide +kernel
theorem dX4_init_16 : decode cX4_init 16 = .ok (.new 18, 3) := by decide +kernel
theorem dX4_init_19 : decode cX4_init 19 = .ok (.dup, 1) := by decide +kernel
theorem dX4_init_20 : decode cX4_init 20 = .ok (.invokespecial 20, 3) := by decide +kernel
theorem dX4_init_23 : decode cX4_init 23 = .ok (.putfield 21, 3) := by decide +kernel
theorem dX4_init_26 : decode cX4_init 26 = .ok (.aload_n 0, 1) := by decide +kernel
theorem dX4_init_27 : decode cX4_init 27 = .ok (.iconst 0, 1) := by decide +kernel
theorem dX4_init_28 : decode cX4_init 28 = .ok (.putfield 25, 3) := by decide +kernel
theorem dX4_init_31 : decode cX4_init 31 = .ok (.aload_n 0, 1) := by decide +kernel
theorem dX4_init_32 : decode cX4_init 32 = .ok (.iconst 0, 1) := by decide +kernel
theorem dX4_init_33 : decode cX4_init 33 = .ok (.putfield 29, 3) := by decide +kernel
theorem dX4_init_36 : decode cX4_init 36 = .ok (.aload_n 0, 1) := by decide +kernel
theorem dX4_init_37 : decode cX4_init 37 = .ok (.bipush 10, 2) := by decide +kernel
theorem dX4_init_39 : decode cX4_init 39 = .ok (.putfield 32, 3) := by decide +kernel
theorem dX4_init_42 : decode cX4_init 42 = .ok (.aload_n 0, 1) := by decide +kernel
theorem dX4_init_43 : decode cX4_init 43 = .ok (.iconst 0, 1) := by decide +kernel
theorem dX4_init_44 : decode cX4_init 44 = .ok (.putfield 35, 3) := by decide +kernel
theorem dX4_init_47 : decode cX4_init 47 = .ok (.aload_n 0, 1) := by decide +kernel
theorem dX4_init_48 : decode cX4_init 48 = .ok (.iconst 0, 1) := by decide +kernel
theorem dX4_init_49 : decode cX4_init 49 = .ok (.putfield 38, 3) := by decide +kernel
theorem dX4_init_52 : decode cX4_init 52 = .ok (.aload_n 0, 1) := by decide +kernel
theorem dX4_init_53 : decode cX4_init 53 = .ok (.iconst 0, 1) := by decide +kernel
theorem dX4_init_54 : decode cX4_init 54 = .ok (.putfield 41, 3) := by decide +kernel
theorem dX4_init_57 : decode cX4_init 57 = .ok (.aload_n 0, 1) := by decide +kernel
theorem dX4_init_58 : decode cX4_init 58 = .ok (.iconst 0, 1) := by decide +kernel
theorem dX4_init_59 : decode cX4_init 59 = .ok (.putfield 44, 3) := by decide +kernel
theorem dX4_init_62 : decode cX4_init 62 = .ok (.aload_n 0, 1) := by decide +kernel
theorem dX4_init_63 : decode cX4_init 63 = .ok (.iconst 0, 1) := by decide +kernel
theorem dX4_init_64 : decode cX4_init 64 = .ok (.putfield 47, 3) := by decide +kernel
theorem dX4_init_67 : decode cX4_init 67 = .ok (.aload_n 0, 1) := by decide +kernel
theorem dX4_init_68 : decode cX4_init 68 = .ok (.iconst 0, 1) := by decide +kernel
theorem dX4_init_69 : decode cX4_init 69 = .ok (.putfield 50, 3) := by decide +kernel
theorem dX4_init_72 : decode cX4_init 72 = .ok (.aload_n 0, 1) := by decide +kernel
theorem dX4_init_73 : decode cX4_init 73 = .ok (.iconst 0, 1) := by decide +kernel
theorem dX4_init_74 : decode cX4_init 74 = .ok (.putfield 53, 3) := by decide +kernel
theorem dX4_init_77 : decode cX4_init 77 = .ok (.return_, 1) := by decide +kernel
theorem dX4_copyFrom_0 : decode cX4_copyFrom 0 = .ok (.aload_n 0, 1) := by decide +kernel
theorem dX4_copyFrom_1 : decode cX4_copyFrom 1 = .ok (.getfield 12, 3) := by decide +kernel
theorem dX4_copyFrom_4 : decode cX4_copyFrom 4 = .ok (.aload_n 1, 1) := by decide +kernel
theorem dX4_copyFrom_5 : decode cX4_copyFrom 5 = .ok (.getfield 12, 3) := by decide +kernel
theorem dX4_copyFrom_8 : decode cX4_copyFrom 8 = .ok (.invokevirtual 56, 3) := by decide +kernel
theorem dX4_copyFrom_11 : decode cX4_copyFrom 11 = .ok (.aload_n 0, 1) := by decide +kernel
theorem dX4_copyFrom_12 : decode cX4_copyFrom 12 = .ok (.getfield 21, 3) := by decide +kernel
theorem dX4_copyFrom_15 : decode cX4_copyFrom 15 = .ok (.aload_n 1, 1) := by decide +kernel
theorem dX4_copyFrom_16 : decode cX4_copyFrom 16 = .ok (.getfield 21, 3) := by decide +kernel
theorem dX4_copyFrom_19 : decode cX4_copyFrom 19 = .ok (.invokevirtual 60, 3) := by decide +kernel
theorem dX4_copyFrom_22 : decode cX4_copyFrom 22 = .ok (.aload_n 0, 1) := by decide +kernel
theorem dX4_copyFrom_23 : decode cX4_copyFrom 23 = .ok (.aload_n 1, 1) := by decide +kernel
theorem dX4_copyFrom_24 : decode cX4_copyFrom 24 = .ok (.getfield 25, 3) := by decide +kernel
theorem dX4_copyFrom_27 : decode cX4_copyFrom 27 = .ok (.putfield 25, 3) := by decide +kernel
theorem dX4_copyFrom_30 : decode cX4_copyFrom 30 = .ok (.aload_n 0, 1) := by decide +kernel
theorem dX4_copyFrom_31 : decode cX4_copyFrom 31 = .ok (.aload_n 1, 1) := by decide +kernel
theorem dX4_copyFrom_32 : decode cX4_copyFrom 32 = .ok (.getfield 29, 3) := by decide +kernel
theorem dX4_copyFrom_35 : decode cX4_copyFrom 35 = .ok (.putfield 29, 3) := by decide +kernel
theorem dX4_copyFrom_38 : decode cX4_copyFrom 38 = .ok (.aload_n 0, 1) := by decide +kernel
theorem dX4_copyFrom_39 : decode cX4_copyFrom 39 = .ok (.aload_n 1, 1) := by decide +kernel
theorem dX4_copyFrom_40 : decode cX4_copyFrom 40 = .ok (.getfield 32, 3) := by decide +kernel
theorem dX4_copyFrom_43 : decode cX4_copyFrom 43 = .ok (.putfield 32, 3) := by decide +kernel
theorem dX4_copyFrom_46 : decode cX4_copyFrom 46 = .ok (.aload_n 0, 1) := by decide +kernel
theorem dX4_copyFrom_47 : decode cX4_copyFrom 47 = .ok (.aload_n 1, 1) := by decide +kernel
theorem dX4_copyFrom_48 : decode cX4_copyFrom 48 = .ok (.getfield 35, 3) := by decide +kernel
theorem dX4_copyFrom_51 : decode cX4_copyFrom 51 = .ok (.putfield 35, 3) := by decide +kernel
theorem dX4_copyFrom_54 : decode cX4_copyFrom 54 = .ok (.aload_n 0, 1) := by decide +kernel
theorem dX4_copyFrom_55 : decode cX4_copyFrom 55 = .ok (.aload_n 1, 1) := by decide +kernel
theorem dX4_copyFrom_56 : decode cX4_copyFrom 56 = .ok (.getfield 38, 3) := by decide +kernel
theorem dX4_copyFrom_59 : decode cX4_copyFrom 59 = .ok (.putfield 38, 3) := by decide +kernel
theorem dX4_copyFrom_62 : decode cX4_copyFrom 62 = .ok (.aload_n 0, 1) := by decide +kernel
theorem dX4_copyFrom_63 : decode cX4_copyFrom 63 = .ok (.aload_n 1, 1) := by decide +kernel
theorem dX4_copyFrom_64 : decode cX4_copyFrom 64 = .ok (.getfield 41, 3) := by decide +kernel
theorem dX4_copyFrom_67 : decode cX4_copyFrom 67 = .ok (.putfield 41, 3) := by decide +kernel
theorem dX4_copyFrom_70 : decode cX4_copyFrom 70 = .ok (.aload_n 0, 1) := by decide +kernel
theorem dX4_copyFrom_71 : decode cX4_copyFrom 71 = .ok (.aload_n 1, 1) := by decide +kernel
theorem dX4_copyFrom_72 : decode cX4_copyFrom 72 = .ok (.getfield 44, 3) := by decide +kernel
theorem dX4_copyFrom_75 : decode cX4_copyFrom 75 = .ok (.putfield 44, 3) := by decide +kernel
theorem dX4_copyFrom_78 : decode cX4_copyFrom 78 = .ok (.aload_n 0, 1) := by decide +kernel
theorem dX4_copyFrom_79 : decode cX4_copyFrom 79 = .ok (.aload_n 1, 1) := by decide +kernel
theorem dX4_copyFrom_80 : decode cX4_copyFrom 80 = .ok (.getfield 47, 3) := by decide +kernel
theorem dX4_copyFrom_83 : decode cX4_copyFrom 83 = .ok (.putfield 47, 3) := by decide +kernel
theorem dX4_copyFrom_86 : decode cX4_copyFrom 86 = .ok (.aload_n 0, 1) := by decide +kernel
theorem dX4_copyFrom_87 : decode cX4_copyFrom 87 = .ok (.aload_n 1, 1) := by decide +kernel
theorem dX4_copyFrom_88 : decode cX4_copyFrom 88 = .ok (.getfield 50, 3) := by decide +kernel
theorem dX4_copyFrom_91 : decode cX4_copyFrom 91 = .ok (.putfield 50, 3) := by decide +kernel
theorem dX4_copyFrom_94 : decode cX4_copyFrom 94 = .ok (.aload_n 0, 1) := by decide +kernel
theorem dX4_copyFrom_95 : decode cX4_copyFrom 95 = .ok (.aload_n 1, 1) := by decide +kernel
theorem dX4_copyFrom_96 : decode cX4_copyFrom 96 = .ok (.getfield 53, 3) := by decide +kernel
theorem dX4_copyFrom_99 : decode cX4_copyFrom 99 = .ok (.putfield 53, 3) := by decide +kernel
theorem dX4_copyFrom_102 : decode cX4_copyFrom 102 = .ok (.return_, 1) := by decide +kernel
theorem dX4_hasNextDay_0 : decode cX4_hasNextDay 0 = .ok (.aload_n 0, 1) := by decide +kernel
theorem dX4_hasNextDay_1 : decode cX4_hasNextDay 1 = .ok (.getfield 25, 3) := by decide +kernel
theorem dX4_hasNextDay_4 : decode cX4_hasNextDay 4 = .ok (.sipush 999, 3) := by decide +kernel
theorem dX4_hasNextDay_7 : decode cX4_hasNextDay 7 = .ok (.if_icmp .ge 7, 3) := by decide +kernel
theorem dX4_hasNextDay_10 : decode cX4_hasNextDay 10 = .ok (.iconst 1, 1) := by decide +kernel
theorem dX4_hasNextDay_11 : decode cX4_hasNextDay 11 = .ok (.goto 4, 3) := by decide +kernel
theorem dX4_hasNextDay_14 : decode cX4_hasNextDay 14 = .ok (.iconst 0, 1) := by decide +kernel
theorem dX4_hasNextDay_15 : decode cX4_hasNextDay 15 = .ok (.ireturn, 1) := by decide +kernel
theorem dX4_takesJob_0 : decode cX4_takesJob 0 = .ok (.aload_n 0, 1) := by decide +kernel
theorem dX4_takesJob_1 : decode cX4_takesJob 1 = .ok (.getfield 21, 3) := by decide +kernel
theorem dX4_takesJob_4 : decode cX4_takesJob 4 = .ok (.invokevirtual 63, 3) := by decide +kernel
theorem dX4_takesJob_7 : decode cX4_takesJob 7 = .ok (.ifCond .eq 5, 3) := by decide +kernel
theorem dX4_takesJob_10 : decode cX4_takesJob 10 = .ok (.iconst 0, 1) := by decide +kernel
theorem dX4_takesJob_11 : decode cX4_takesJob 11 = .ok (.ireturn, 1) := by decide +kernel
theorem dX4_takesJob_12 : decode cX4_takesJob 12 = .ok (.iload_n 1, 1) := by decide +kernel
theorem dX4_takesJob_13 : decode cX4_takesJob 13 = .ok (.iconst 2, 1) := by decide +kernel
theorem dX4_takesJob_14 : decode cX4_takesJob 14 = .ok (.if_icmp .ne 29, 3) := by decide +kernel
theorem dX4_takesJob_17 : decode cX4_takesJob 17 = .ok (.aload_n 0, 1) := by decide +kernel
theorem dX4_takesJob_18 : decode cX4_takesJob 18 = .ok (.getfield 12, 3) := by decide +kernel
theorem dX4_takesJob_21 : decode cX4_takesJob 21 = .ok (.iload_n 2, 1) := by decide +kernel
theorem dX4_takesJob_22 : decode cX4_takesJob 22 = .ok (.aload_n 0, 1) := by decide +kernel
theorem dX4_takesJob_23 : decode cX4_takesJob 23 = .ok (.getfield 25, 3) := by decide +kernel
theorem dX4_takesJob_26 : decode cX4_takesJob 26 = .ok (.invokevirtual 67, 3) := by decide +kernel
theorem dX4_takesJob_29 : decode cX4_takesJob 29 = .ok (.ifCond .ne 18, 3) := by decide +kernel
theorem dX4_takesJob_32 : decode cX4_takesJob 32 = .ok (.aload_n 0, 1) := by decide +kernel
theorem dX4_takesJob_33 : decode cX4_takesJob 33 = .ok (.getfield 21, 3) := by decide +kernel
theorem dX4_takesJob_36 : decode cX4_takesJob 36 = .ok (.iload_n 2, 1) := by decide +kernel
theorem dX4_takesJob_37 : decode cX4_takesJob 37 = .ok (.invokevirtual 71, 3) := by decide +kernel
theorem dX4_takesJob_40 : decode cX4_takesJob 40 = .ok (.ifCond .ne 7, 3) := by decide +kernel
theorem dX4_takesJob_43 : decode cX4_takesJob 43 = .ok (.iconst 1, 1) := by decide +kernel
theorem dX4_takesJob_44 : decode cX4_takesJob 44 = .ok (.goto 4, 3) := by decide +kernel
theorem dX4_takesJob_47 : decode cX4_takesJob 47 = .ok (.iconst 0, 1) := by decide +kernel
theorem dX4_takesJob_48 : decode cX4_takesJob 48 = .ok (.ireturn, 1) := by decide +kernel
theorem dX4_endJob_0 : decode cX4_endJob 0 = .ok (.aload_n 0, 1) := by decide +kernel
theorem dX4_endJob_1 : decode cX4_endJob 1 = .ok (.getfield 21, 3) := by decide +kernel
theorem dX4_endJob_4 : decode cX4_endJob 4 = .ok (.getfield 75, 3) := by decide +kernel
theorem dX4_endJob_7 : decode cX4_endJob 7 = .ok (.iload_n 1, 1) := by decide +kernel
theorem dX4_endJob_8 : decode cX4_endJob 8 = .ok (.iaload, 1) := by decide +kernel
theorem dX4_endJob_9 : decode cX4_endJob 9 = .ok (.istore_n 3, 1) := by decide +kernel
theorem dX4_endJob_10 : decode cX4_endJob 10 = .ok (.iload_n 3, 1) := by decide +kernel
theorem dX4_endJob_11 : decode cX4_endJob 11 = .ok (.invokestatic 79, 3) := by decide +kernel
theorem dX4_endJob_14 : decode cX4_endJob 14 = .ok (.ifCond .eq 13, 3) := by decide +kernel
theorem dX4_endJob_17 : decode cX4_endJob 17 = .ok (.aload_n 0, 1) := by decide +kernel
theorem dX4_endJob_18 : decode cX4_endJob 18 = .ok (.getfield 12, 3) := by decide +kernel
theorem dX4_endJob_21 : decode cX4_endJob 21 = .ok (.getfield 82, 3) := by decide +kernel
theorem dX4_endJob_24 : decode cX4_endJob 24 = .ok (.iload_n 3, 1) := by decide +kernel
theorem dX4_endJob_25 : decode cX4_endJob 25 = .ok (.iconst (-1), 1) := by decide +kernel
theorem dX4_endJob_26 : decode cX4_endJob 26 = .ok (.iastore, 1) := by decide +kernel
theorem dX4_endJob_27 : decode cX4_endJob 27 = .ok (.aload_n 0, 1) := by decide +kernel
theorem dX4_endJob_28 : decode cX4_endJob 28 = .ok (.getfield 21, 3) := by decide +kernel
theorem dX4_endJob_31 : decode cX4_endJob 31 = .ok (.getfield 75, 3) := by decide +kernel
theorem dX4_endJob_34 : decode cX4_endJob 34 = .ok (.iload_n 1, 1) := by decide +kernel
theorem dX4_endJob_35 : decode cX4_endJob 35 = .ok (.iconst (-1), 1) := by decide +kernel
theorem dX4_endJob_36 : decode cX4_endJob 36 = .ok (.iastore, 1) := by decide +kernel
theorem dX4_endJob_37 : decode cX4_endJob 37 = .ok (.aload_n 0, 1) := by decide +kernel
theorem dX4_endJob_38 : decode cX4_endJob 38 = .ok (.getfield 21, 3) := by decide +kernel
theorem dX4_endJob_41 : decode cX4_endJob 41 = .ok (.getfield 85, 3) := by decide +kernel
theorem dX4_endJob_44 : decode cX4_endJob 44 = .ok (.iload_n 1, 1) := by decide +kernel
theorem dX4_endJob_45 : decode cX4_endJob 45 = .ok (.iload_n 2, 1) := by decide +kernel
theorem dX4_endJob_46 : decode cX4_endJob 46 = .ok (.iastore, 1) := by decide +kernel
theorem dX4_endJob_47 : decode cX4_endJob 47 = .ok (.return_, 1) := by decide +kernel
theorem dX4_runMinutes_0 : decode cX4_runMinutes 0 = .ok (.iconst 0, 1) := by decide +kernel
theorem dX4_runMinutes_1 : decode cX4_runMinutes 1 = .ok (.istore_n 2, 1) := by decide +kernel
theorem dX4_runMinutes_2 : decode cX4_runMinutes 2 = .ok (.iconst 0, 1) := by decide +kernel
theorem dX4_runMinutes_3 : decode cX4_runMinutes 3 = .ok (.istore_n 3, 1) := by decide +kernel
theorem dX4_runMinutes_4 : decode cX4_runMinutes 4 = .ok (.iload_n 3, 1) := by decide +kernel
theorem dX4_runMinutes_5 : decode cX4_runMinutes 5 = .ok (.iload_n 1, 1) := by decide +kernel
theorem dX4_runMinutes_6 : decode cX4_runMinutes 6 = .ok (.if_icmp .ge 16, 3) := by decide +kernel
theorem dX4_runMinutes_9 : decode cX4_runMinutes 9 = .ok (.iload_n 2, 1) := by decide +kernel
theorem dX4_runMinutes_10 : decode cX4_runMinutes 10 = .ok (.aload_n 0, 1) := by decide +kernel
theorem dX4_runMinutes_11 : decode cX4_runMinutes 11 = .ok (.invokevirtual 88, 3) := by decide +kernel
theorem dX4_runMinutes_14 : decode cX4_runMinutes 14 = .ok (.iadd, 1) := by decide +kernel
theorem dX4_runMinutes_15 : decode cX4_runMinutes 15 = .ok (.istore_n 2, 1) := by decide +kernel
theorem dX4_runMinutes_16 : decode cX4_runMinutes 16 = .ok (.iinc 3 1, 3) := by decide +kernel
theorem dX4_runMinutes_19 : decode cX4_runMinutes 19 = .ok (.goto (-15), 3) := by decide +kernel
theorem dX4_runMinutes_22 : decode cX4_runMinutes 22 = .ok (.iload_n 2, 1) := by decide +kernel
theorem dX4_runMinutes_23 : decode cX4_runMinutes 23 = .ok (.ireturn, 1) := by decide +kernel
theorem dX4_runMinute_0 : decode cX4_runMinute 0 = .ok (.aload_n 0, 1) := by decide +kernel
theorem dX4_runMinute_1 : decode cX4_runMinute 1 = .ok (.dup, 1) := by decide +kernel
theorem dX4_runMinute_2 : decode cX4_runMinute 2 = .ok (.getfield 35, 3) := by decide +kernel
theorem dX4_runMinute_5 : decode cX4_runMinute 5 = .ok (.iconst 1, 1) := by decide +kernel
theorem dX4_runMinute_6 : decode cX4_runMinute 6 = .ok (.iadd, 1) := by decide +kernel
theorem dX4_runMinute_7 : decode cX4_runMinute 7 = .ok (.putfield 35, 3) := by decide +kernel
theorem dX4_runMinute_10 : decode cX4_runMinute 10 = .ok (.iconst 0, 1) := by decide +kernel
theorem dX4_runMinute_11 : decode cX4_runMinute 11 = .ok (.istore_n 1, 1) := by decide +kernel
theorem dX4_runMinute_12 : decode cX4_runMinute 12 = .ok (.iconst 0, 1) := by decide +kernel
theorem dX4_runMinute_13 : decode cX4_runMinute 13 = .ok (.istore_n 2, 1) := by decide +kernel
theorem dX4_runMinute_14 : decode cX4_runMinute 14 = .ok (.iload_n 2, 1) := by decide +kernel
theorem dX4_runMinute_15 : decode cX4_runMinute 15 = .ok (.aload_n 0, 1) := by decide +kernel
theorem dX4_runMinute_16 : decode cX4_runMinute 16 = .ok (.getfield 21, 3) := by decide +kernel
theorem dX4_runMinute_19 : decode cX4_runMinute 19 = .ok (.getfield 92, 3) := by decide +kernel
theorem dX4_runMinute_22 : decode cX4_runMinute 22 = .ok (.if_icmp .ge 57, 3) := by decide +kernel
theorem dX4_runMinute_25 : decode cX4_runMinute 25 = .ok (.aload_n 0, 1) := by decide +kernel
theorem dX4_runMinute_26 : decode cX4_runMinute 26 = .ok (.getfield 21, 3) := by decide +kernel
theorem dX4_runMinute_29 : decode cX4_runMinute 29 = .ok (.getfield 85, 3) := by decide +kernel
theorem dX4_runMinute_32 : decode cX4_runMinute 32 = .ok (.iload_n 2, 1) := by decide +kernel
theorem dX4_runMinute_33 : decode cX4_runMinute 33 = .ok (.iaload, 1) := by decide +kernel
theorem dX4_runMinute_34 : decode cX4_runMinute 34 = .ok (.iconst 1, 1) := by decide +kernel
theorem dX4_runMinute_35 : decode cX4_runMinute 35 = .ok (.if_icmp .ne 38, 3) := by decide +kernel
theorem dX4_runMinute_38 : decode cX4_runMinute 38 = .ok (.aload_n 0, 1) := by decide +kernel
theorem dX4_runMinute_39 : decode cX4_runMinute 39 = .ok (.iload_n 2, 1) := by decide +kernel
theorem dX4_runMinute_40 : decode cX4_runMinute 40 = .ok (.invokevirtual 95, 3) := by decide +kernel
theorem dX4_runMinute_43 : decode cX4_runMinute 43 = .ok (.aload_n 0, 1) := by decide +kernel
theorem dX4_runMinute_44 : decode cX4_runMinute 44 = .ok (.getfield 21, 3) := by decide +kernel
theorem dX4_runMinute_47 : decode cX4_runMinute 47 = .ok (.getfield 99, 3) := by decide +kernel
theorem dX4_runMinute_50 : decode cX4_runMinute 50 = .ok (.iload_n 2, 1) := by decide +kernel
theorem dX4_runMinute_51 : decode cX4_runMinute 51 = .ok (.iaload, 1) := by decide +kernel
theorem dX4_runMinute_52 : decode cX4_runMinute 52 = .ok (.aload_n 0, 1) := by decide +kernel
theorem dX4_runMinute_53 : decode cX4_runMinute 53 = .ok (.getfield 21, 3) := by decide +kernel
theorem dX4_runMinute_56 : decode cX4_runMinute 56 = .ok (.getfield 102, 3) := by decide +kernel
theorem dX4_runMinute_59 : decode cX4_runMinute 59 = .ok (.iload_n 2, 1) := by decide +kernel
theorem dX4_runMinute_60 : decode cX4_runMinute 60 = .ok (.iaload, 1) := by decide +kernel
theorem dX4_runMinute_61 : decode cX4_runMinute 61 = .ok (.if_icmp .lt 12, 3) := by decide +kernel
theorem dX4_runMinute_64 : decode cX4_runMinute 64 = .ok (.aload_n 0, 1) := by decide +kernel
theorem dX4_runMinute_65 : decode cX4_runMinute 65 = .ok (.iload_n 2, 1) := by decide +kernel
theorem dX4_runMinute_66 : decode cX4_runMinute 66 = .ok (.iconst 2, 1) := by decide +kernel
theorem dX4_runMinute_67 : decode cX4_runMinute 67 = .ok (.invokevirtual 104, 3) := by decide +kernel
theorem dX4_runMinute_70 : decode cX4_runMinute 70 = .ok (.iinc 1 1, 3) := by decide +kernel
theorem dX4_runMinute_73 : decode cX4_runMinute 73 = .ok (.iinc 2 1, 3) := by decide +kernel
theorem dX4_runMinute_76 : decode cX4_runMinute 76 = .ok (.goto (-62), 3) := by decide +kernel
theorem dX4_runMinute_79 : decode cX4_runMinute 79 = .ok (.aload_n 0, 1) := by decide +kernel
theorem dX4_runMinute_80 : decode cX4_runMinute 80 = .ok (.getfield 12, 3) := by decide +kernel
theorem dX4_runMinute_83 : decode cX4_runMinute 83 = .ok (.invokevirtual 108, 3) := by decide +kernel
theorem dX4_runMinute_86 : decode cX4_runMinute 86 = .ok (.istore_n 2, 1) := by decide +kernel
theorem dX4_runMinute_87 : decode cX4_runMinute 87 = .ok (.iload_n 2, 1) := by decide +kernel
theorem dX4_runMinute_88 : decode cX4_runMinute 88 = .ok (.iconst (-1), 1) := by decide +kernel
theorem dX4_runMinute_89 : decode cX4_runMinute 89 = .ok (.if_icmp .ne 7, 3) := by decide +kernel
theorem dX4_runMinute_92 : decode cX4_runMinute 92 = .ok (.iconst (-1), 1) := by decide +kernel
theorem dX4_runMinute_93 : decode cX4_runMinute 93 = .ok (.goto 7, 3) := by decide +kernel
theorem dX4_runMinute_96 : decode cX4_runMinute 96 = .ok (.aload_n 0, 1) := by decide +kernel
theorem dX4_runMinute_97 : decode cX4_runMinute 97 = .ok (.invokevirtual 111, 3) := by decide +kernel
theorem dX4_runMinute_100 : decode cX4_runMinute 100 = .ok (.istore_n 3, 1) := by decide +kernel
theorem dX4_runMinute_101 : decode cX4_runMinute 101 = .ok (.iload_n 3, 1) := by decide +kernel
theorem dX4_runMinute_102 : decode cX4_runMinute 102 = .ok (.iconst (-1), 1) := by decide +kernel
theorem dX4_runMinute_103 : decode cX4_runMinute 103 = .ok (.if_icmp .eq 9, 3) := by decide +kernel
theorem dX4_runMinute_106 : decode cX4_runMinute 106 = .ok (.aload_n 0, 1) := by decide +kernel
theorem dX4_runMinute_107 : decode cX4_runMinute 107 = .ok (.iload_n 3, 1) := by decide +kernel
theorem dX4_runMinute_108 : decode cX4_runMinute 108 = .ok (.iload_n 2, 1) := by decide +kernel
theorem dX4_runMinute_109 : decode cX4_runMinute 109 = .ok (.invokevirtual 114, 3) := by decide +kernel
theorem dX4_runMinute_112 : decode cX4_runMinute 112 = .ok (.iload_n 1, 1) := by decide +kernel
theorem dX4_runMinute_113 : decode cX4_runMinute 113 = .ok (.ireturn, 1) := by decide +kernel
theorem dX4_moveBlock_0 : decode cX4_moveBlock 0 = .ok (.aload_n 0, 1) := by decide +kernel
theorem dX4_moveBlock_1 : decode cX4_moveBlock 1 = .ok (.getfield 21, 3) := by decide +kernel
theorem dX4_moveBlock_4 : decode cX4_moveBlock 4 = .ok (.getfield 75, 3) := by decide +kernel
theorem dX4_moveBlock_7 : decode cX4_moveBlock 7 = .ok (.iload_n 1, 1) := by decide +kernel
theorem dX4_moveBlock_8 : decode cX4_moveBlock 8 = .ok (.iaload, 1) := by decide +kernel
theorem dX4_moveBlock_9 : decode cX4_moveBlock 9 = .ok (.istore_n 2, 1) := by decide +kernel
theorem dX4_moveBlock_10 : decode cX4_moveBlock 10 = .ok (.aload_n 0, 1) := by decide +kernel
theorem dX4_moveBlock_11 : decode cX4_moveBlock 11 = .ok (.getfield 21, 3) := by decide +kernel
theorem dX4_moveBlock_14 : decode cX4_moveBlock 14 = .ok (.getfield 99, 3) := by decide +kernel
theorem dX4_moveBlock_17 : decode cX4_moveBlock 17 = .ok (.iload_n 1, 1) := by decide +kernel
theorem dX4_moveBlock_18 : decode cX4_moveBlock 18 = .ok (.dup2, 1) := by decide +kernel
theorem dX4_moveBlock_19 : decode cX4_moveBlock 19 = .ok (.iaload, 1) := by decide +kernel
theorem dX4_moveBlock_20 : decode cX4_moveBlock 20 = .ok (.iconst 1, 1) := by decide +kernel
theorem dX4_moveBlock_21 : decode cX4_moveBlock 21 = .ok (.iadd, 1) := by decide +kernel
theorem dX4_moveBlock_22 : decode cX4_moveBlock 22 = .ok (.iastore, 1) := by decide +kernel
theorem dX4_moveBlock_23 : decode cX4_moveBlock 23 = .ok (.aload_n 0, 1) := by decide +kernel
theorem dX4_moveBlock_24 : decode cX4_moveBlock 24 = .ok (.getfield 21, 3) := by decide +kernel
theorem dX4_moveBlock_27 : decode cX4_moveBlock 27 = .ok (.getfield 117, 3) := by decide +kernel
theorem dX4_moveBlock_30 : decode cX4_moveBlock 30 = .ok (.iload_n 1, 1) := by decide +kernel
theorem dX4_moveBlock_31 : decode cX4_moveBlock 31 = .ok (.iaload, 1) := by decide +kernel
theorem dX4_moveBlock_32 : decode cX4_moveBlock 32 = .ok (.ifCond .ne 16, 3) := by decide +kernel
theorem dX4_moveBlock_35 : decode cX4_moveBlock 35 = .ok (.aload_n 0, 1) := by decide +kernel
theorem dX4_moveBlock_36 : decode cX4_moveBlock 36 = .ok (.dup, 1) := by decide +kernel
theorem dX4_moveBlock_37 : decode cX4_moveBlock 37 = .ok (.getfield 47, 3) := by decide +kernel
theorem dX4_moveBlock_40 : decode cX4_moveBlock 40 = .ok (.iconst 1, 1) := by decide +kernel
theorem dX4_moveBlock_41 : decode cX4_moveBlock 41 = .ok (.iadd, 1) := by decide +kernel
theorem dX4_moveBlock_42 : decode cX4_moveBlock 42 = .ok (.putfield 47, 3) := by decide +kernel
theorem dX4_moveBlock_45 : decode cX4_moveBlock 45 = .ok (.goto 60, 3) := by decide +kernel
theorem dX4_moveBlock_48 : decode cX4_moveBlock 48 = .ok (.iload_n 2, 1) := by decide +kernel
theorem dX4_moveBlock_49 : decode cX4_moveBlock 49 = .ok (.invokestatic 79, 3) := by decide +kernel
theorem dX4_moveBlock_52 : decode cX4_moveBlock 52 = .ok (.ifCond .eq 43, 3) := by decide +kernel
theorem dX4_moveBlock_55 : decode cX4_moveBlock 55 = .ok (.aload_n 0, 1) := by decide +kernel
theorem dX4_moveBlock_56 : decode cX4_moveBlock 56 = .ok (.getfield 12, 3) := by decide +kernel
theorem dX4_moveBlock_59 : decode cX4_moveBlock 59 = .ok (.getfield 120, 3) := by decide +kernel
theorem dX4_moveBlock_62 : decode cX4_moveBlock 62 = .ok (.iload_n 2, 1) := by decide +kernel
theorem dX4_moveBlock_63 : decode cX4_moveBlock 63 = .ok (.iaload, 1) := by decide +kernel
theorem dX4_moveBlock_64 : decode cX4_moveBlock 64 = .ok (.bipush 99, 2) := by decide +kernel
theorem dX4_moveBlock_66 : decode cX4_moveBlock 66 = .ok (.if_icmp .ge 29, 3) := by decide +kernel
theorem dX4_moveBlock_69 : decode cX4_moveBlock 69 = .ok (.aload_n 0, 1) := by decide +kernel
theorem dX4_moveBlock_70 : decode cX4_moveBlock 70 = .ok (.getfield 12, 3) := by decide +kernel
theorem dX4_moveBlock_73 : decode cX4_moveBlock 73 = .ok (.getfield 120, 3) := by decide +kernel
theorem dX4_moveBlock_76 : decode cX4_moveBlock 76 = .ok (.iload_n 2, 1) := by decide +kernel
theorem dX4_moveBlock_77 : decode cX4_moveBlock 77 = .ok (.dup2, 1) := by decide +kernel
theorem dX4_moveBlock_78 : decode cX4_moveBlock 78 = .ok (.iaload, 1) := by decide +kernel
theorem dX4_moveBlock_79 : decode cX4_moveBlock 79 = .ok (.iconst 1, 1) := by decide +kernel
theorem dX4_moveBlock_80 : decode cX4_moveBlock 80 = .ok (.iadd, 1) := by decide +kernel
theorem dX4_moveBlock_81 : decode cX4_moveBlock 81 = .ok (.iastore, 1) := by decide +kernel
theorem dX4_moveBlock_82 : decode cX4_moveBlock 82 = .ok (.aload_n 0, 1) := by decide +kernel
theorem dX4_moveBlock_83 : decode cX4_moveBlock 83 = .ok (.dup, 1) := by decide +kernel
theorem dX4_moveBlock_84 : decode cX4_moveBlock 84 = .ok (.getfield 50, 3) := by decide +kernel
theorem dX4_moveBlock_87 : decode cX4_moveBlock 87 = .ok (.iconst 1, 1) := by decide +kernel
theorem dX4_moveBlock_88 : decode cX4_moveBlock 88 = .ok (.iadd, 1) := by decide +kernel
theorem dX4_moveBlock_89 : decode cX4_moveBlock 89 = .ok (.putfield 50, 3) := by decide +kernel
theorem dX4_moveBlock_92 : decode cX4_moveBlock 92 = .ok (.goto 13, 3) := by decide +kernel
theorem dX4_moveBlock_95 : decode cX4_moveBlock 95 = .ok (.aload_n 0, 1) := by decide +kernel
theorem dX4_moveBlock_96 : decode cX4_moveBlock 96 = .ok (.dup, 1) := by decide +kernel
theorem dX4_moveBlock_97 : decode cX4_moveBlock 97 = .ok (.getfield 53, 3) := by decide +kernel
theorem dX4_moveBlock_100 : decode cX4_moveBlock 100 = .ok (.iconst 1, 1) := by decide +kernel
theorem dX4_moveBlock_101 : decode cX4_moveBlock 101 = .ok (.iadd, 1) := by decide +kernel
theorem dX4_moveBlock_102 : decode cX4_moveBlock 102 = .ok (.putfield 53, 3) := by decide +kernel
theorem dX4_moveBlock_105 : decode cX4_moveBlock 105 = .ok (.return_, 1) := by decide +kernel
theorem dX4_lacksReel_0 : decode cX4_lacksReel 0 = .ok (.aload_n 0, 1) := by decide +kernel
theorem dX4_lacksReel_1 : decode cX4_lacksReel 1 = .ok (.getfield 12, 3) := by decide +kernel
theorem dX4_lacksReel_4 : decode cX4_lacksReel 4 = .ok (.aload_n 0, 1) := by decide +kernel
theorem dX4_lacksReel_5 : decode cX4_lacksReel 5 = .ok (.getfield 21, 3) := by decide +kernel
theorem dX4_lacksReel_8 : decode cX4_lacksReel 8 = .ok (.iload_n 1, 1) := by decide +kernel
theorem dX4_lacksReel_9 : decode cX4_lacksReel 9 = .ok (.invokevirtual 121, 3) := by decide +kernel
theorem dX4_lacksReel_12 : decode cX4_lacksReel 12 = .ok (.invokevirtual 125, 3) := by decide +kernel
theorem dX4_lacksReel_15 : decode cX4_lacksReel 15 = .ok (.iconst (-1), 1) := by decide +kernel
theorem dX4_lacksReel_16 : decode cX4_lacksReel 16 = .ok (.if_icmp .ne 7, 3) := by decide +kernel
theorem dX4_lacksReel_19 : decode cX4_lacksReel 19 = .ok (.iconst 1, 1) := by decide +kernel
theorem dX4_lacksReel_20 : decode cX4_lacksReel 20 = .ok (.goto 4, 3) := by decide +kernel
theorem dX4_lacksReel_23 : decode cX4_lacksReel 23 = .ok (.iconst 0, 1) := by decide +kernel
theorem dX4_lacksReel_24 : decode cX4_lacksReel 24 = .ok (.ireturn, 1) := by decide +kernel
theorem dX4_findNextJob_0 : decode cX4_findNextJob 0 = .ok (.iconst (-1), 1) := by decide +kernel
theorem dX4_findNextJob_1 : decode cX4_findNextJob 1 = .ok (.istore_n 1, 1) := by decide +kernel
theorem dX4_findNextJob_2 : decode cX4_findNextJob 2 = .ok (.iconst (-1), 1) := by decide +kernel
theorem dX4_findNextJob_3 : decode cX4_findNextJob 3 = .ok (.istore_n 2, 1) := by decide +kernel
theorem dX4_findNextJob_4 : decode cX4_findNextJob 4 = .ok (.iconst 0, 1) := by decide +kernel
theorem dX4_findNextJob_5 : decode cX4_findNextJob 5 = .ok (.istore_n 3, 1) := by decide +kernel
theorem dX4_findNextJob_6 : decode cX4_findNextJob 6 = .ok (.iload_n 3, 1) := by decide +kernel
theorem dX4_findNextJob_7 : decode cX4_findNextJob 7 = .ok (.aload_n 0, 1) := by decide +kernel
theorem dX4_findNextJob_8 : decode cX4_findNextJob 8 = .ok (.getfield 21, 3) := by decide +kernel
theorem dX4_findNextJob_11 : decode cX4_findNextJob 11 = .ok (.getfield 92, 3) := by decide +kernel
theorem dX4_findNextJob_14 : decode cX4_findNextJob 14 = .ok (.if_icmp .ge 54, 3) := by decide +kernel
theorem dX4_findNextJob_17 : decode cX4_findNextJob 17 = .ok (.aload_n 0, 1) := by decide +kernel
theorem dX4_findNextJob_18 : decode cX4_findNextJob 18 = .ok (.getfield 21, 3) := by decide +kernel
theorem dX4_findNextJob_21 : decode cX4_findNextJob 21 = .ok (.getfield 85, 3) := by decide +kernel
theorem dX4_findNextJob_24 : decode cX4_findNextJob 24 = .ok (.iload_n 3, 1) := by decide +kernel
theorem dX4_findNextJob_25 : decode cX4_findNextJob 25 = .ok (.iaload, 1) := by decide +kernel
theorem dX4_findNextJob_26 : decode cX4_findNextJob 26 = .ok (.ifCond .ne 36, 3) := by decide +kernel
theorem dX4_findNextJob_29 : decode cX4_findNextJob 29 = .ok (.aload_n 0, 1) := by decide +kernel
theorem dX4_findNextJob_30 : decode cX4_findNextJob 30 = .ok (.getfield 21, 3) := by decide +kernel
theorem dX4_findNextJob_33 : decode cX4_findNextJob 33 = .ok (.getfield 128, 3) := by decide +kernel
theorem dX4_findNextJob_36 : decode cX4_findNextJob 36 = .ok (.iload_n 3, 1) := by decide +kernel
theorem dX4_findNextJob_37 : decode cX4_findNextJob 37 = .ok (.iaload, 1) := by decide +kernel
theorem dX4_findNextJob_38 : decode cX4_findNextJob 38 = .ok (.iload_n 2, 1) := by decide +kernel
theorem dX4_findNextJob_39 : decode cX4_findNextJob 39 = .ok (.if_icmp .le 23, 3) := by decide +kernel
theorem dX4_findNextJob_42 : decode cX4_findNextJob 42 = .ok (.aload_n 0, 1) := by decide +kernel
theorem dX4_findNextJob_43 : decode cX4_findNextJob 43 = .ok (.iload_n 3, 1) := by decide +kernel
theorem dX4_findNextJob_44 : decode cX4_findNextJob 44 = .ok (.invokevirtual 131, 3) := by decide +kernel
theorem dX4_findNextJob_47 : decode cX4_findNextJob 47 = .ok (.ifCond .ne 15, 3) := by decide +kernel
theorem dX4_findNextJob_50 : decode cX4_findNextJob 50 = .ok (.iload_n 3, 1) := by decide +kernel
theorem dX4_findNextJob_51 : decode cX4_findNextJob 51 = .ok (.istore_n 1, 1) := by decide +kernel
theorem dX4_findNextJob_52 : decode cX4_findNextJob 52 = .ok (.aload_n 0, 1) := by decide +kernel
theorem dX4_findNextJob_53 : decode cX4_findNextJob 53 = .ok (.getfield 21, 3) := by decide +kernel
theorem dX4_findNextJob_56 : decode cX4_findNextJob 56 = .ok (.getfield 128, 3) := by decide +kernel
theorem dX4_findNextJob_59 : decode cX4_findNextJob 59 = .ok (.iload_n 3, 1) := by decide +kernel
theorem dX4_findNextJob_60 : decode cX4_findNextJob 60 = .ok (.iaload, 1) := by decide +kernel
theorem dX4_findNextJob_61 : decode cX4_findNextJob 61 = .ok (.istore_n 2, 1) := by decide +kernel
theorem dX4_findNextJob_62 : decode cX4_findNextJob 62 = .ok (.iinc 3 1, 3) := by decide +kernel
theorem dX4_findNextJob_65 : decode cX4_findNextJob 65 = .ok (.goto (-59), 3) := by decide +kernel
theorem dX4_findNextJob_68 : decode cX4_findNextJob 68 = .ok (.iload_n 1, 1) := by decide +kernel
theorem dX4_findNextJob_69 : decode cX4_findNextJob 69 = .ok (.ireturn, 1) := by decide +kernel
theorem dX4_isSlip_0 : decode cX4_isSlip 0 = .ok (.aload_n 0, 1) := by decide +kernel
theorem dX4_isSlip_1 : decode cX4_isSlip 1 = .ok (.getfield 29, 3) := by decide +kernel
theorem dX4_isSlip_4 : decode cX4_isSlip 4 = .ok (.ifCond .eq 16, 3) := by decide +kernel
theorem dX4_isSlip_7 : decode cX4_isSlip 7 = .ok (.iload_n 1, 1) := by decide +kernel
theorem dX4_isSlip_8 : decode cX4_isSlip 8 = .ok (.aload_n 0, 1) := by decide +kernel
theorem dX4_isSlip_9 : decode cX4_isSlip 9 = .ok (.getfield 29, 3) := by decide +kernel
theorem dX4_isSlip_12 : decode cX4_isSlip 12 = .ok (.irem, 1) := by decide +kernel
theorem dX4_isSlip_13 : decode cX4_isSlip 13 = .ok (.ifCond .ne 7, 3) := by decide +kernel
theorem dX4_isSlip_16 : decode cX4_isSlip 16 = .ok (.iconst 1, 1) := by decide +kernel
theorem dX4_isSlip_17 : decode cX4_isSlip 17 = .ok (.goto 4, 3) := by decide +kernel
theorem dX4_isSlip_20 : decode cX4_isSlip 20 = .ok (.iconst 0, 1) := by decide +kernel
theorem dX4_isSlip_21 : decode cX4_isSlip 21 = .ok (.ireturn, 1) := by decide +kernel
theorem dX4_chooseReel_0 : decode cX4_chooseReel 0 = .ok (.aload_n 0, 1) := by decide +kernel
theorem dX4_chooseReel_1 : decode cX4_chooseReel 1 = .ok (.getfield 12, 3) := by decide +kernel
theorem dX4_chooseReel_4 : decode cX4_chooseReel 4 = .ok (.aload_n 0, 1) := by decide +kernel
theorem dX4_chooseReel_5 : decode cX4_chooseReel 5 = .ok (.getfield 21, 3) := by decide +kernel
theorem dX4_chooseReel_8 : decode cX4_chooseReel 8 = .ok (.iload_n 1, 1) := by decide +kernel
theorem dX4_chooseReel_9 : decode cX4_chooseReel 9 = .ok (.invokevirtual 121, 3) := by decide +kernel
theorem dX4_chooseReel_12 : decode cX4_chooseReel 12 = .ok (.invokevirtual 125, 3) := by decide +kernel
theorem dX4_chooseReel_15 : decode cX4_chooseReel 15 = .ok (.istore_n 3, 1) := by decide +kernel
theorem dX4_chooseReel_16 : decode cX4_chooseReel 16 = .ok (.iload_n 2, 1) := by decide +kernel
theorem dX4_chooseReel_17 : decode cX4_chooseReel 17 = .ok (.ifCond .eq 19, 3) := by decide +kernel
theorem dX4_chooseReel_20 : decode cX4_chooseReel 20 = .ok (.iload_n 3, 1) := by decide +kernel
theorem dX4_chooseReel_21 : decode cX4_chooseReel 21 = .ok (.iconst (-1), 1) := by decide +kernel
theorem dX4_chooseReel_22 : decode cX4_chooseReel 22 = .ok (.if_icmp .eq 14, 3) := by decide +kernel
theorem dX4_chooseReel_25 : decode cX4_chooseReel 25 = .ok (.aload_n 0, 1) := by decide +kernel
theorem dX4_chooseReel_26 : decode cX4_chooseReel 26 = .ok (.getfield 12, 3) := by decide +kernel
theorem dX4_chooseReel_29 : decode cX4_chooseReel 29 = .ok (.iload_n 3, 1) := by decide +kernel
theorem dX4_chooseReel_30 : decode cX4_chooseReel 30 = .ok (.invokevirtual 134, 3) := by decide +kernel
theorem dX4_chooseReel_33 : decode cX4_chooseReel 33 = .ok (.goto 4, 3) := by decide +kernel
theorem dX4_chooseReel_36 : decode cX4_chooseReel 36 = .ok (.iload_n 3, 1) := by decide +kernel
theorem dX4_chooseReel_37 : decode cX4_chooseReel 37 = .ok (.ireturn, 1) := by decide +kernel
theorem dX4_serve_0 : decode cX4_serve 0 = .ok (.aload_n 0, 1) := by decide +kernel
theorem dX4_serve_1 : decode cX4_serve 1 = .ok (.dup, 1) := by decide +kernel
theorem dX4_serve_2 : decode cX4_serve 2 = .ok (.getfield 38, 3) := by decide +kernel
theorem dX4_serve_5 : decode cX4_serve 5 = .ok (.iconst 1, 1) := by decide +kernel
theorem dX4_serve_6 : decode cX4_serve 6 = .ok (.iadd, 1) := by decide +kernel
theorem dX4_serve_7 : decode cX4_serve 7 = .ok (.putfield 38, 3) := by decide +kernel
theorem dX4_serve_10 : decode cX4_serve 10 = .ok (.aload_n 0, 1) := by decide +kernel
theorem dX4_serve_11 : decode cX4_serve 11 = .ok (.aload_n 0, 1) := by decide +kernel
theorem dX4_serve_12 : decode cX4_serve 12 = .ok (.getfield 38, 3) := by decide +kernel
theorem dX4_serve_15 : decode cX4_serve 15 = .ok (.invokevirtual 137, 3) := by decide +kernel
theorem dX4_serve_18 : decode cX4_serve 18 = .ok (.istore_n 3, 1) := by decide +kernel
theorem dX4_serve_19 : decode cX4_serve 19 = .ok (.aload_n 0, 1) := by decide +kernel
theorem dX4_serve_20 : decode cX4_serve 20 = .ok (.iload_n 1, 1) := by decide +kernel
theorem dX4_serve_21 : decode cX4_serve 21 = .ok (.iload_n 3, 1) := by decide +kernel
theorem dX4_serve_22 : decode cX4_serve 22 = .ok (.invokevirtual 140, 3) := by decide +kernel
theorem dX4_serve_25 : decode cX4_serve 25 = .ok (.istore 4, 2) := by decide +kernel
theorem dX4_serve_27 : decode cX4_serve 27 = .ok (.iload 4, 2) := by decide +kernel
theorem dX4_serve_29 : decode cX4_serve 29 = .ok (.invokestatic 79, 3) := by decide +kernel
theorem dX4_serve_32 : decode cX4_serve 32 = .ok (.ifCond .ne 4, 3) := by decide +kernel
theorem dX4_serve_35 : decode cX4_serve 35 = .ok (.return_, 1) := by decide +kernel
theorem dX4_serve_36 : decode cX4_serve 36 = .ok (.iload_n 3, 1) := by decide +kernel
theorem dX4_serve_37 : decode cX4_serve 37 = .ok (.ifCond .eq 16, 3) := by decide +kernel
theorem dX4_serve_40 : decode cX4_serve 40 = .ok (.aload_n 0, 1) := by decide +kernel
theorem dX4_serve_41 : decode cX4_serve 41 = .ok (.dup, 1) := by decide +kernel
theorem dX4_serve_42 : decode cX4_serve 42 = .ok (.getfield 41, 3) := by decide +kernel
theorem dX4_serve_45 : decode cX4_serve 45 = .ok (.iconst 1, 1) := by decide +kernel
theorem dX4_serve_46 : decode cX4_serve 46 = .ok (.iadd, 1) := by decide +kernel
theorem dX4_serve_47 : decode cX4_serve 47 = .ok (.putfield 41, 3) := by decide +kernel
theorem dX4_serve_50 : decode cX4_serve 50 = .ok (.goto 30, 3) := by decide +kernel
theorem dX4_serve_53 : decode cX4_serve 53 = .ok (.aload_n 0, 1) := by decide +kernel
theorem dX4_serve_54 : decode cX4_serve 54 = .ok (.getfield 12, 3) := by decide +kernel
theorem dX4_serve_57 : decode cX4_serve 57 = .ok (.getfield 144, 3) := by decide +kernel
theorem dX4_serve_60 : decode cX4_serve 60 = .ok (.iload 4, 2) := by decide +kernel
theorem dX4_serve_62 : decode cX4_serve 62 = .ok (.aload_n 0, 1) := by decide +kernel
theorem dX4_serve_63 : decode cX4_serve 63 = .ok (.getfield 21, 3) := by decide +kernel
theorem dX4_serve_66 : decode cX4_serve 66 = .ok (.getfield 117, 3) := by decide +kernel
theorem dX4_serve_69 : decode cX4_serve 69 = .ok (.iload_n 1, 1) := by decide +kernel
theorem dX4_serve_70 : decode cX4_serve 70 = .ok (.iaload, 1) := by decide +kernel
theorem dX4_serve_71 : decode cX4_serve 71 = .ok (.ifCond .eq 7, 3) := by decide +kernel
theorem dX4_serve_74 : decode cX4_serve 74 = .ok (.iconst 1, 1) := by decide +kernel
theorem dX4_serve_75 : decode cX4_serve 75 = .ok (.goto 4, 3) := by decide +kernel
theorem dX4_serve_78 : decode cX4_serve 78 = .ok (.iconst 0, 1) := by decide +kernel
theorem dX4_serve_79 : decode cX4_serve 79 = .ok (.bastore, 1) := by decide +kernel
theorem dX4_serve_80 : decode cX4_serve 80 = .ok (.aload_n 0, 1) := by decide +kernel
theorem dX4_serve_81 : decode cX4_serve 81 = .ok (.iload_n 1, 1) := by decide +kernel
theorem dX4_serve_82 : decode cX4_serve 82 = .ok (.iload 4, 2) := by decide +kernel
theorem dX4_serve_84 : decode cX4_serve 84 = .ok (.invokevirtual 148, 3) := by decide +kernel
theorem dX4_serve_87 : decode cX4_serve 87 = .ok (.ifCond .ne 14, 3) := by decide +kernel
theorem dX4_serve_90 : decode cX4_serve 90 = .ok (.aload_n 0, 1) := by decide +kernel
theorem dX4_serve_91 : decode cX4_serve 91 = .ok (.iload_n 1, 1) := by decide +kernel
theorem dX4_serve_92 : decode cX4_serve 92 = .ok (.iload 4, 2) := by decide +kernel
theorem dX4_serve_94 : decode cX4_serve 94 = .ok (.iload_n 2, 1) := by decide +kernel
theorem dX4_serve_95 : decode cX4_serve 95 = .ok (.invokevirtual 152, 3) := by decide +kernel
theorem dX4_serve_98 : decode cX4_serve 98 = .ok (.goto 10, 3) := by decide +kernel
theorem dX4_serve_101 : decode cX4_serve 101 = .ok (.aload_n 0, 1) := by decide +kernel
theorem dX4_serve_102 : decode cX4_serve 102 = .ok (.iload_n 1, 1) := by decide +kernel
theorem dX4_serve_103 : decode cX4_serve 103 = .ok (.iload 4, 2) := by decide +kernel
theorem dX4_serve_105 : decode cX4_serve 105 = .ok (.invokevirtual 156, 3) := by decide +kernel
theorem dX4_serve_108 : decode cX4_serve 108 = .ok (.return_, 1) := by decide +kernel
theorem dX4_check_0 : decode cX4_check 0 = .ok (.aload_n 0, 1) := by decide +kernel
theorem dX4_check_1 : decode cX4_check 1 = .ok (.getfield 21, 3) := by decide +kernel
theorem dX4_check_4 : decode cX4_check 4 = .ok (.getfield 117, 3) := by decide +kernel
theorem dX4_check_7 : decode cX4_check 7 = .ok (.iload_n 1, 1) := by decide +kernel
theorem dX4_check_8 : decode cX4_check 8 = .ok (.iaload, 1) := by decide +kernel
theorem dX4_check_9 : decode cX4_check 9 = .ok (.istore_n 3, 1) := by decide +kernel
theorem dX4_check_10 : decode cX4_check 10 = .ok (.iload_n 3, 1) := by decide +kernel
theorem dX4_check_11 : decode cX4_check 11 = .ok (.iconst 2, 1) := by decide +kernel
theorem dX4_check_12 : decode cX4_check 12 = .ok (.if_icmp .eq 26, 3) := by decide +kernel
theorem dX4_check_15 : decode cX4_check 15 = .ok (.aload_n 0, 1) := by decide +kernel
theorem dX4_check_16 : decode cX4_check 16 = .ok (.getfield 12, 3) := by decide +kernel
theorem dX4_check_19 : decode cX4_check 19 = .ok (.getfield 159, 3) := by decide +kernel
theorem dX4_check_22 : decode cX4_check 22 = .ok (.iload_n 2, 1) := by decide +kernel
theorem dX4_check_23 : decode cX4_check 23 = .ok (.iaload, 1) := by decide +kernel
theorem dX4_check_24 : decode cX4_check 24 = .ok (.aload_n 0, 1) := by decide +kernel
theorem dX4_check_25 : decode cX4_check 25 = .ok (.getfield 21, 3) := by decide +kernel
theorem dX4_check_28 : decode cX4_check 28 = .ok (.getfield 162, 3) := by decide +kernel
theorem dX4_check_31 : decode cX4_check 31 = .ok (.iload_n 1, 1) := by decide +kernel
theorem dX4_check_32 : decode cX4_check 32 = .ok (.iaload, 1) := by decide +kernel
theorem dX4_check_33 : decode cX4_check 33 = .ok (.if_icmp .eq 5, 3) := by decide +kernel
theorem dX4_check_36 : decode cX4_check 36 = .ok (.iconst 1, 1) := by decide +kernel
theorem dX4_check_37 : decode cX4_check 37 = .ok (.ireturn, 1) := by decide +kernel
theorem dX4_check_38 : decode cX4_check 38 = .ok (.iload_n 3, 1) := by decide +kernel
theorem dX4_check_39 : decode cX4_check 39 = .ok (.iconst 2, 1) := by decide +kernel
theorem dX4_check_40 : decode cX4_check 40 = .ok (.if_icmp .ne 20, 3) := by decide +kernel
theorem dX4_check_43 : decode cX4_check 43 = .ok (.aload_n 0, 1) := by decide +kernel
theorem dX4_check_44 : decode cX4_check 44 = .ok (.getfield 12, 3) := by decide +kernel
theorem dX4_check_47 : decode cX4_check 47 = .ok (.iload_n 2, 1) := by decide +kernel
theorem dX4_check_48 : decode cX4_check 48 = .ok (.aload_n 0, 1) := by decide +kernel
theorem dX4_check_49 : decode cX4_check 49 = .ok (.getfield 25, 3) := by decide +kernel
theorem dX4_check_52 : decode cX4_check 52 = .ok (.invokevirtual 165, 3) := by decide +kernel
theorem dX4_check_55 : decode cX4_check 55 = .ok (.ifCond .ne 5, 3) := by decide +kernel
theorem dX4_check_58 : decode cX4_check 58 = .ok (.iconst 2, 1) := by decide +kernel
theorem dX4_check_59 : decode cX4_check 59 = .ok (.ireturn, 1) := by decide +kernel
theorem dX4_check_60 : decode cX4_check 60 = .ok (.iload_n 3, 1) := by decide +kernel
theorem dX4_check_61 : decode cX4_check 61 = .ok (.ifCond .ne 17, 3) := by decide +kernel
theorem dX4_check_64 : decode cX4_check 64 = .ok (.aload_n 0, 1) := by decide +kernel
theorem dX4_check_65 : decode cX4_check 65 = .ok (.getfield 12, 3) := by decide +kernel
theorem dX4_check_68 : decode cX4_check 68 = .ok (.getfield 144, 3) := by decide +kernel
theorem dX4_check_71 : decode cX4_check 71 = .ok (.iload_n 2, 1) := by decide +kernel
theorem dX4_check_72 : decode cX4_check 72 = .ok (.baload, 1) := by decide +kernel
theorem dX4_check_73 : decode cX4_check 73 = .ok (.ifCond .eq 5, 3) := by decide +kernel
theorem dX4_check_76 : decode cX4_check 76 = .ok (.iconst 3, 1) := by decide +kernel
theorem dX4_check_77 : decode cX4_check 77 = .ok (.ireturn, 1) := by decide +kernel
theorem dX4_check_78 : decode cX4_check 78 = .ok (.iload_n 3, 1) := by decide +kernel
theorem dX4_check_79 : decode cX4_check 79 = .ok (.ifCond .eq 17, 3) := by decide +kernel
theorem dX4_check_82 : decode cX4_check 82 = .ok (.aload_n 0, 1) := by decide +kernel
theorem dX4_check_83 : decode cX4_check 83 = .ok (.getfield 12, 3) := by decide +kernel
theorem dX4_check_86 : decode cX4_check 86 = .ok (.getfield 144, 3) := by decide +kernel
theorem dX4_check_89 : decode cX4_check 89 = .ok (.iload_n 2, 1) := by decide +kernel
theorem dX4_check_90 : decode cX4_check 90 = .ok (.baload, 1) := by decide +kernel
theorem dX4_check_91 : decode cX4_check 91 = .ok (.ifCond .ne 5, 3) := by decide +kernel
theorem dX4_check_94 : decode cX4_check 94 = .ok (.iconst 4, 1) := by decide +kernel
theorem dX4_check_95 : decode cX4_check 95 = .ok (.ireturn, 1) := by decide +kernel
theorem dX4_check_96 : decode cX4_check 96 = .ok (.iconst 0, 1) := by decide +kernel
theorem dX4_check_97 : decode cX4_check 97 = .ok (.ireturn, 1) := by decide +kernel
theorem dX4_mount_0 : decode cX4_mount 0 = .ok (.aload_n 0, 1) := by decide +kernel
theorem dX4_mount_1 : decode cX4_mount 1 = .ok (.getfield 12, 3) := by decide +kernel
theorem dX4_mount_4 : decode cX4_mount 4 = .ok (.getfield 82, 3) := by decide +kernel
theorem dX4_mount_7 : decode cX4_mount 7 = .ok (.iload_n 2, 1) := by decide +kernel
theorem dX4_mount_8 : decode cX4_mount 8 = .ok (.iload_n 3, 1) := by decide +kernel
theorem dX4_mount_9 : decode cX4_mount 9 = .ok (.iastore, 1) := by decide +kernel
theorem dX4_mount_10 : decode cX4_mount 10 = .ok (.aload_n 0, 1) := by decide +kernel
theorem dX4_mount_11 : decode cX4_mount 11 = .ok (.getfield 21, 3) := by decide +kernel
theorem dX4_mount_14 : decode cX4_mount 14 = .ok (.getfield 75, 3) := by decide +kernel
theorem dX4_mount_17 : decode cX4_mount 17 = .ok (.iload_n 1, 1) := by decide +kernel
theorem dX4_mount_18 : decode cX4_mount 18 = .ok (.iload_n 2, 1) := by decide +kernel
theorem dX4_mount_19 : decode cX4_mount 19 = .ok (.iastore, 1) := by decide +kernel
theorem dX4_mount_20 : decode cX4_mount 20 = .ok (.aload_n 0, 1) := by decide +kernel
theorem dX4_mount_21 : decode cX4_mount 21 = .ok (.getfield 21, 3) := by decide +kernel
theorem dX4_mount_24 : decode cX4_mount 24 = .ok (.getfield 85, 3) := by decide +kernel
theorem dX4_mount_27 : decode cX4_mount 27 = .ok (.iload_n 1, 1) := by decide +kernel
theorem dX4_mount_28 : decode cX4_mount 28 = .ok (.iconst 1, 1) := by decide +kernel
theorem dX4_mount_29 : decode cX4_mount 29 = .ok (.iastore, 1) := by decide +kernel
theorem dX4_mount_30 : decode cX4_mount 30 = .ok (.aload_n 0, 1) := by decide +kernel
theorem dX4_mount_31 : decode cX4_mount 31 = .ok (.getfield 21, 3) := by decide +kernel
theorem dX4_mount_34 : decode cX4_mount 34 = .ok (.getfield 117, 3) := by decide +kernel
theorem dX4_mount_37 : decode cX4_mount 37 = .ok (.iload_n 1, 1) := by decide +kernel
theorem dX4_mount_38 : decode cX4_mount 38 = .ok (.iaload, 1) := by decide +kernel
theorem dX4_mount_39 : decode cX4_mount 39 = .ok (.iconst 2, 1) := by decide +kernel
theorem dX4_mount_40 : decode cX4_mount 40 = .ok (.if_icmp .ne 67, 3) := by decide +kernel
theorem dX4_mount_43 : decode cX4_mount 43 = .ok (.aload_n 0, 1) := by decide +kernel
theorem dX4_mount_44 : decode cX4_mount 44 = .ok (.getfield 12, 3) := by decide +kernel
theorem dX4_mount_47 : decode cX4_mount 47 = .ok (.getfield 159, 3) := by decide +kernel
theorem dX4_mount_50 : decode cX4_mount 50 = .ok (.iload_n 2, 1) := by decide +kernel
theorem dX4_mount_51 : decode cX4_mount 51 = .ok (.aload_n 0, 1) := by decide +kernel
theorem dX4_mount_52 : decode cX4_mount 52 = .ok (.getfield 21, 3) := by decide +kernel
theorem dX4_mount_55 : decode cX4_mount 55 = .ok (.getfield 162, 3) := by decide +kernel
theorem dX4_mount_58 : decode cX4_mount 58 = .ok (.iload_n 1, 1) := by decide +kernel
theorem dX4_mount_59 : decode cX4_mount 59 = .ok (.iaload, 1) := by decide +kernel
theorem dX4_mount_60 : decode cX4_mount 60 = .ok (.iastore, 1) := by decide +kernel
theorem dX4_mount_61 : decode cX4_mount 61 = .ok (.aload_n 0, 1) := by decide +kernel
theorem dX4_mount_62 : decode cX4_mount 62 = .ok (.getfield 12, 3) := by decide +kernel
theorem dX4_mount_65 : decode cX4_mount 65 = .ok (.getfield 168, 3) := by decide +kernel
theorem dX4_mount_68 : decode cX4_mount 68 = .ok (.iload_n 2, 1) := by decide +kernel
theorem dX4_mount_69 : decode cX4_mount 69 = .ok (.aload_n 0, 1) := by decide +kernel
theorem dX4_mount_70 : decode cX4_mount 70 = .ok (.getfield 21, 3) := by decide +kernel
theorem dX4_mount_73 : decode cX4_mount 73 = .ok (.getfield 162, 3) := by decide +kernel
theorem dX4_mount_76 : decode cX4_mount 76 = .ok (.iload_n 1, 1) := by decide +kernel
theorem dX4_mount_77 : decode cX4_mount 77 = .ok (.iaload, 1) := by decide +kernel
theorem dX4_mount_78 : decode cX4_mount 78 = .ok (.iastore, 1) := by decide +kernel
theorem dX4_mount_79 : decode cX4_mount 79 = .ok (.aload_n 0, 1) := by decide +kernel
theorem dX4_mount_80 : decode cX4_mount 80 = .ok (.getfield 12, 3) := by decide +kernel
theorem dX4_mount_83 : decode cX4_mount 83 = .ok (.getfield 171, 3) := by decide +kernel
theorem dX4_mount_86 : decode cX4_mount 86 = .ok (.iload_n 2, 1) := by decide +kernel
theorem dX4_mount_87 : decode cX4_mount 87 = .ok (.aload_n 0, 1) := by decide +kernel
theorem dX4_mount_88 : decode cX4_mount 88 = .ok (.getfield 25, 3) := by decide +kernel
theorem dX4_mount_91 : decode cX4_mount 91 = .ok (.aload_n 0, 1) := by decide +kernel
theorem dX4_mount_92 : decode cX4_mount 92 = .ok (.getfield 32, 3) := by decide +kernel
theorem dX4_mount_95 : decode cX4_mount 95 = .ok (.iadd, 1) := by decide +kernel
theorem dX4_mount_96 : decode cX4_mount 96 = .ok (.iastore, 1) := by decide +kernel
theorem dX4_mount_97 : decode cX4_mount 97 = .ok (.aload_n 0, 1) := by decide +kernel
theorem dX4_mount_98 : decode cX4_mount 98 = .ok (.getfield 12, 3) := by decide +kernel
theorem dX4_mount_101 : decode cX4_mount 101 = .ok (.getfield 120, 3) := by decide +kernel
theorem dX4_mount_104 : decode cX4_mount 104 = .ok (.iload_n 2, 1) := by decide +kernel
theorem dX4_mount_105 : decode cX4_mount 105 = .ok (.iconst 0, 1) := by decide +kernel
theorem dX4_mount_106 : decode cX4_mount 106 = .ok (.iastore, 1) := by decide +kernel
theorem dX4_mount_107 : decode cX4_mount 107 = .ok (.return_, 1) := by decide +kernel
theorem dX4_sendBack_0 : decode cX4_sendBack 0 = .ok (.aload_n 0, 1) := by decide +kernel
theorem dX4_sendBack_1 : decode cX4_sendBack 1 = .ok (.dup, 1) := by decide +kernel
theorem dX4_sendBack_2 : decode cX4_sendBack 2 = .ok (.getfield 44, 3) := by decide +kernel
theorem dX4_sendBack_5 : decode cX4_sendBack 5 = .ok (.iconst 1, 1) := by decide +kernel
theorem dX4_sendBack_6 : decode cX4_sendBack 6 = .ok (.iadd, 1) := by decide +kernel
theorem dX4_sendBack_7 : decode cX4_sendBack 7 = .ok (.putfield 44, 3) := by decide +kernel
theorem dX4_sendBack_10 : decode cX4_sendBack 10 = .ok (.aload_n 0, 1) := by decide +kernel
theorem dX4_sendBack_11 : decode cX4_sendBack 11 = .ok (.getfield 21, 3) := by decide +kernel
theorem dX4_sendBack_14 : decode cX4_sendBack 14 = .ok (.getfield 174, 3) := by decide +kernel
theorem dX4_sendBack_17 : decode cX4_sendBack 17 = .ok (.iload_n 1, 1) := by decide +kernel
theorem dX4_sendBack_18 : decode cX4_sendBack 18 = .ok (.dup2, 1) := by decide +kernel
theorem dX4_sendBack_19 : decode cX4_sendBack 19 = .ok (.iaload, 1) := by decide +kernel
theorem dX4_sendBack_20 : decode cX4_sendBack 20 = .ok (.iconst 1, 1) := by decide +kernel
theorem dX4_sendBack_21 : decode cX4_sendBack 21 = .ok (.iadd, 1) := by decide +kernel
theorem dX4_sendBack_22 : decode cX4_sendBack 22 = .ok (.iastore, 1) := by decide +kernel
theorem dX4_sendBack_23 : decode cX4_sendBack 23 = .ok (.aload_n 0, 1) := by decide +kernel
theorem dX4_sendBack_24 : decode cX4_sendBack 24 = .ok (.getfield 12, 3) := by decide +kernel
theorem dX4_sendBack_27 : decode cX4_sendBack 27 = .ok (.getfield 168, 3) := by decide +kernel
theorem dX4_sendBack_30 : decode cX4_sendBack 30 = .ok (.iload_n 2, 1) := by decide +kernel
theorem dX4_sendBack_31 : decode cX4_sendBack 31 = .ok (.aload_n 0, 1) := by decide +kernel
theorem dX4_sendBack_32 : decode cX4_sendBack 32 = .ok (.getfield 12, 3) := by decide +kernel
theorem dX4_sendBack_35 : decode cX4_sendBack 35 = .ok (.iload_n 2, 1) := by decide +kernel
theorem dX4_sendBack_36 : decode cX4_sendBack 36 = .ok (.aload_n 0, 1) := by decide +kernel
theorem dX4_sendBack_37 : decode cX4_sendBack 37 = .ok (.getfield 25, 3) := by decide +kernel
theorem dX4_sendBack_40 : decode cX4_sendBack 40 = .ok (.invokevirtual 165, 3) := by decide +kernel
theorem dX4_sendBack_43 : decode cX4_sendBack 43 = .ok (.ifCond .eq 7, 3) := by decide +kernel
theorem dX4_sendBack_46 : decode cX4_sendBack 46 = .ok (.iconst 0, 1) := by decide +kernel
theorem dX4_sendBack_47 : decode cX4_sendBack 47 = .ok (.goto 12, 3) := by decide +kernel
theorem dX4_sendBack_50 : decode cX4_sendBack 50 = .ok (.aload_n 0, 1) := by decide +kernel
theorem dX4_sendBack_51 : decode cX4_sendBack 51 = .ok (.getfield 12, 3) := by decide +kernel
theorem dX4_sendBack_54 : decode cX4_sendBack 54 = .ok (.getfield 159, 3) := by decide +kernel
theorem dX4_sendBack_57 : decode cX4_sendBack 57 = .ok (.iload_n 2, 1) := by decide +kernel
theorem dX4_sendBack_58 : decode cX4_sendBack 58 = .ok (.iaload, 1) := by decide +kernel
theorem dX4_sendBack_59 : decode cX4_sendBack 59 = .ok (.iastore, 1) := by decide +kernel
theorem dX4_sendBack_60 : decode cX4_sendBack 60 = .ok (.return_, 1) := by decide +kernel
theorem dX5_init_0 : decode cX5_init 0 = .ok (.aload_n 0, 1) := by decide +kernel
theorem dX5_init_1 : decode cX5_init 1 = .ok (.invokespecial 1, 3) := by decide +kernel
theorem dX5_init_4 : decode cX5_init 4 = .ok (.aload_n 0, 1) := by decide +kernel
theorem dX5_init_5 : decode cX5_init 5 = .ok (.new 7, 3) := by decide +kernel
theorem dX5_init_8 : decode cX5_init 8 = .ok (.dup, 1) := by decide +kernel
theorem dX5_init_9 : decode cX5_init 9 = .ok (.invokespecial 9, 3) := by decide +kernel
theorem dX5_init_12 : decode cX5_init 12 = .ok (.putfield 10, 3) := by decide +kernel
theorem dX5_init_15 : decode cX5_init 15 = .ok (.aload_n 0, 1) := by decide +kernel
theorem dX5_init_16 : decode cX5_init 16 = .ok (.new 7, 3) := by decide +kernel
theorem dX5_init_19 : decode cX5_init 19 = .ok (.dup, 1) := by decide +kernel
theorem dX5_init_20 : decode cX5_init 20 = .ok (.invokespecial 9, 3) := by decide +kernel
theorem dX5_init_23 : decode cX5_init 23 = .ok (.putfield 16, 3) := by decide +kernel
theorem dX5_init_26 : decode cX5_init 26 = .ok (.aload_n 0, 1) := by decide +kernel
theorem dX5_init_27 : decode cX5_init 27 = .ok (.new 19, 3) := by decide +kernel
theorem dX5_init_30 : decode cX5_init 30 = .ok (.dup, 1) := by decide +kernel
theorem dX5_init_31 : decode cX5_init 31 = .ok (.invokespecial 21, 3) := by decide +kernel
theorem dX5_init_34 : decode cX5_init 34 = .ok (.putfield 22, 3) := by decide +kernel
theorem dX5_init_37 : decode cX5_init 37 = .ok (.aload_n 0, 1) := by decide +kernel
theorem dX5_init_38 : decode cX5_init 38 = .ok (.new 26, 3) := by decide +kernel
theorem dX5_init_41 : decode cX5_init 41 = .ok (.dup, 1) := by decide +kernel
theorem dX5_init_42 : decode cX5_init 42 = .ok (.invokespecial 28, 3) := by decide +kernel
theorem dX5_init_45 : decode cX5_init 45 = .ok (.putfield 29, 3) := by decide +kernel
theorem dX5_init_48 : decode cX5_init 48 = .ok (.return_, 1) := by decide +kernel
theorem dX5_submit_0 : decode cX5_submit 0 = .ok (.iload_n 1, 1) := by decide +kernel
theorem dX5_submit_1 : decode cX5_submit 1 = .ok (.iconst 0, 1) := by decide +kernel
theorem dX5_submit_2 : decode cX5_submit 2 = .ok (.iconst 2, 1) := by decide +kernel
theorem dX5_submit_3 : decode cX5_submit 3 = .ok (.invokestatic 33, 3) := by decide +kernel
theorem dX5_submit_6 : decode cX5_submit 6 = .ok (.ifCond .eq 34, 3) := by decide +kernel
theorem dX5_submit_9 : decode cX5_submit 9 = .ok (.iload_n 2, 1) := by decide +kernel
theorem dX5_submit_10 : decode cX5_submit 10 = .ok (.iconst 1, 1) := by decide +kernel
theorem dX5_submit_11 : decode cX5_submit 11 = .ok (.bipush 99, 2) := by decide +kernel
theorem dX5_submit_13 : decode cX5_submit 13 = .ok (.invokestatic 33, 3) := by decide +kernel
theorem dX5_submit_16 : decode cX5_submit 16 = .ok (.ifCond .eq 24, 3) := by decide +kernel
theorem dX5_submit_19 : decode cX5_submit 19 = .ok (.iload_n 3, 1) := by decide +kernel
theorem dX5_submit_20 : decode cX5_submit 20 = .ok (.iconst 1, 1) := by decide +kernel
theorem dX5_submit_21 : decode cX5_submit 21 = .ok (.bipush 20, 2) := by decide +kernel
theorem dX5_submit_23 : decode cX5_submit 23 = .ok (.invokestatic 33, 3) := by decide +kernel
theorem dX5_submit_26 : decode cX5_submit 26 = .ok (.ifCond .eq 14, 3) := by decide +kernel
theorem dX5_submit_29 : decode cX5_submit 29 = .ok (.iload 4, 2) := by decide +kernel
theorem dX5_submit_31 : decode cX5_submit 31 = .ok (.iconst 0, 1) := by decide +kernel
theorem dX5_submit_32 : decode cX5_submit 32 = .ok (.bipush 9, 2) := by decide +kernel
theorem dX5_submit_34 : decode cX5_submit 34 = .ok (.invokestatic 33, 3) := by decide +kernel
theorem dX5_submit_37 : decode cX5_submit 37 = .ok (.ifCond .ne 13, 3) := by decide +kernel
theorem dX5_submit_40 : decode cX5_submit 40 = .ok (.new 37, 3) := by decide +kernel
theorem dX5_submit_43 : decode cX5_submit 43 = .ok (.dup, 1) := by decide +kernel
theorem dX5_submit_44 : decode cX5_submit 44 = .ok (.ldc 39, 2) := by decide +kernel
theorem dX5_submit_46 : decode cX5_submit 46 = .ok (.invokespecial 41, 3) := by decide +kernel
theorem dX5_submit_49 : decode cX5_submit 49 = .ok (.athrow, 1) := by decide +kernel
theorem dX5_submit_50 : decode cX5_submit 50 = .ok (.aload_n 0, 1) := by decide +kernel
theorem dX5_submit_51 : decode cX5_submit 51 = .ok (.getfield 10, 3) := by decide +kernel
theorem dX5_submit_54 : decode cX5_submit 54 = .ok (.iload_n 1, 1) := by decide +kernel
theorem dX5_submit_55 : decode cX5_submit 55 = .ok (.iload_n 2, 1) := by decide +kernel
theorem dX5_submit_56 : decode cX5_submit 56 = .ok (.invokevirtual 44, 3) := by decide +kernel
theorem dX5_submit_59 : decode cX5_submit 59 = .ok (.ifCond .ne 13, 3) := by decide +kernel
theorem dX5_submit_62 : decode cX5_submit 62 = .ok (.new 48, 3) := by decide +kernel
theorem dX5_submit_65 : decode cX5_submit 65 = .ok (.dup, 1) := by decide +kernel
theorem dX5_submit_66 : decode cX5_submit 66 = .ok (.ldc 50, 2) := by decide +kernel
theorem dX5_submit_68 : decode cX5_submit 68 = .ok (.invokespecial 52, 3) := by decide +kernel
theorem dX5_submit_71 : decode cX5_submit 71 = .ok (.athrow, 1) := by decide +kernel
theorem dX5_submit_72 : decode cX5_submit 72 = .ok (.aload_n 0, 1) := by decide +kernel
theorem dX5_submit_73 : decode cX5_submit 73 = .ok (.getfield 22, 3) := by decide +kernel
theorem dX5_submit_76 : decode cX5_submit 76 = .ok (.aload_n 0, 1) := by decide +kernel
theorem dX5_submit_77 : decode cX5_submit 77 = .ok (.getfield 10, 3) := by decide +kernel
theorem dX5_submit_80 : decode cX5_submit 80 = .ok (.invokevirtual 53, 3) := by decide +kernel
theorem dX5_submit_83 : decode cX5_submit 83 = .ok (.aload_n 0, 1) := by decide +kernel
theorem dX5_submit_84 : decode cX5_submit 84 = .ok (.getfield 10, 3) := by decide +kernel
theorem dX5_submit_87 : decode cX5_submit 87 = .ok (.getfield 57, 3) := by decide +kernel
theorem dX5_submit_90 : decode cX5_submit 90 = .ok (.iload_n 1, 1) := by decide +kernel
theorem dX5_submit_91 : decode cX5_submit 91 = .ok (.iload_n 2, 1) := by decide +kernel
theorem dX5_submit_92 : decode cX5_submit 92 = .ok (.iload_n 3, 1) := by decide +kernel
theorem dX5_submit_93 : decode cX5_submit 93 = .ok (.iload 4, 2) := by decide +kernel
theorem dX5_submit_95 : decode cX5_submit 95 = .ok (.invokevirtual 61, 3) := by decide +kernel
theorem dX5_submit_98 : decode cX5_submit 98 = .ok (.ireturn, 1) := by decide +kernel
theorem dX5_cancel_0 : decode cX5_cancel 0 = .ok (.aload_n 0, 1) := by decide +kernel
theorem dX5_cancel_1 : decode cX5_cancel 1 = .ok (.getfield 10, 3) := by decide +kernel
theorem dX5_cancel_4 : decode cX5_cancel 4 = .ok (.getfield 57, 3) := by decide +kernel
theorem dX5_cancel_7 : decode cX5_cancel 7 = .ok (.iload_n 1, 1) := by decide +kernel
theorem dX5_cancel_8 : decode cX5_cancel 8 = .ok (.invokevirtual 67, 3) := by decide +kernel
theorem dX5_cancel_11 : decode cX5_cancel 11 = .ok (.ifCond .ne 13, 3) := by decide +kernel
theorem dX5_cancel_14 : decode cX5_cancel 14 = .ok (.new 71, 3) := by decide +kernel
theorem dX5_cancel_17 : decode cX5_cancel 17 = .ok (.dup, 1) := by decide +kernel
theorem dX5_cancel_18 : decode cX5_cancel 18 = .ok (.ldc 73, 2) := by decide +kernel
theorem dX5_cancel_20 : decode cX5_cancel 20 = .ok (.invokespecial 75, 3) := by decide +kernel
theorem dX5_cancel_23 : decode cX5_cancel 23 = .ok (.athrow, 1) := by decide +kernel
theorem dX5_cancel_24 : decode cX5_cancel 24 = .ok (.aload_n 0, 1) := by decide +kernel
theorem dX5_cancel_25 : decode cX5_cancel 25 = .ok (.getfield 10, 3) := by decide +kernel
theorem dX5_cancel_28 : decode cX5_cancel 28 = .ok (.getfield 57, 3) := by decide +kernel
theorem dX5_cancel_31 : decode cX5_cancel 31 = .ok (.getfield 76, 3) := by decide +kernel
theorem dX5_cancel_34 : decode cX5_cancel 34 = .ok (.iload_n 1, 1) := by decide +kernel
theorem dX5_cancel_35 : decode cX5_cancel 35 = .ok (.iaload, 1) := by decide +kernel
theorem dX5_cancel_36 : decode cX5_cancel 36 = .ok (.ifCond .eq 29, 3) := by decide +kernel
theorem dX5_cancel_39 : decode cX5_cancel 39 = .ok (.aload_n 0, 1) := by decide +kernel
theorem dX5_cancel_40 : decode cX5_cancel 40 = .ok (.getfield 10, 3) := by decide +kernel
theorem dX5_cancel_43 : decode cX5_cancel 43 = .ok (.getfield 57, 3) := by decide +kernel
theorem dX5_cancel_46 : decode cX5_cancel 46 = .ok (.getfield 76, 3) := by decide +kernel
theorem dX5_cancel_49 : decode cX5_cancel 49 = .ok (.iload_n 1, 1) := by decide +kernel
theorem dX5_cancel_50 : decode cX5_cancel 50 = .ok (.iaload, 1) := by decide +kernel
theorem dX5_cancel_51 : decode cX5_cancel 51 = .ok (.iconst 1, 1) := by decide +kernel
theorem dX5_cancel_52 : decode cX5_cancel 52 = .ok (.if_icmp .eq 13, 3) := by decide +kernel
theorem dX5_cancel_55 : decode cX5_cancel 55 = .ok (.new 48, 3) := by decide +kernel
theorem dX5_cancel_58 : decode cX5_cancel 58 = .ok (.dup, 1) := by decide +kernel
theorem dX5_cancel_59 : decode cX5_cancel 59 = .ok (.ldc 80, 2) := by decide +kernel
theorem dX5_cancel_61 : decode cX5_cancel 61 = .ok (.invokespecial 52, 3) := by decide +kernel
theorem dX5_cancel_64 : decode cX5_cancel 64 = .ok (.athrow, 1) := by decide +kernel
theorem dX5_cancel_65 : decode cX5_cancel 65 = .ok (.aload_n 0, 1) := by decide +kernel
theorem dX5_cancel_66 : decode cX5_cancel 66 = .ok (.getfield 22, 3) := by decide +kernel
theorem dX5_cancel_69 : decode cX5_cancel 69 = .ok (.aload_n 0, 1) := by decide +kernel
theorem dX5_cancel_70 : decode cX5_cancel 70 = .ok (.getfield 10, 3) := by decide +kernel
theorem dX5_cancel_73 : decode cX5_cancel 73 = .ok (.invokevirtual 53, 3) := by decide +kernel
theorem dX5_cancel_76 : decode cX5_cancel 76 = .ok (.aload_n 0, 1) := by decide +kernel
theorem dX5_cancel_77 : decode cX5_cancel 77 = .ok (.getfield 10, 3) := by decide +kernel
theorem dX5_cancel_80 : decode cX5_cancel 80 = .ok (.iload_n 1, 1) := by decide +kernel
theorem dX5_cancel_81 : decode cX5_cancel 81 = .ok (.iconst 3, 1) := by decide +kernel
theorem dX5_cancel_82 : decode cX5_cancel 82 = .ok (.invokevirtual 82, 3) := by decide +kernel
theorem dX5_cancel_85 : decode cX5_cancel 85 = .ok (.aload_n 0, 1) := by decide +kernel
theorem dX5_cancel_86 : decode cX5_cancel 86 = .ok (.getfield 10, 3) := by decide +kernel
theorem dX5_cancel_89 : decode cX5_cancel 89 = .ok (.getfield 57, 3) := by decide +kernel
theorem dX5_cancel_92 : decode cX5_cancel 92 = .ok (.getfield 86, 3) := by decide +kernel
theorem dX5_cancel_95 : decode cX5_cancel 95 = .ok (.iload_n 1, 1) := by decide +kernel
theorem dX5_cancel_96 : decode cX5_cancel 96 = .ok (.iaload, 1) := by decide +kernel
theorem dX5_cancel_97 : decode cX5_cancel 97 = .ok (.ireturn, 1) := by decide +kernel
theorem dX5_setSticker_0 : decode cX5_setSticker 0 = .ok (.iload_n 1, 1) := by decide +kernel
theorem dX5_setSticker_1 : decode cX5_setSticker 1 = .ok (.invokestatic 89, 3) := by decide +kernel
theorem dX5_setSticker_4 : decode cX5_setSticker 4 = .ok (.ifCond .ne 13, 3) := by decide +kernel
theorem dX5_setSticker_7 : decode cX5_setSticker 7 = .ok (.new 71, 3) := by decide +kernel
theorem dX5_setSticker_10 : decode cX5_setSticker 10 = .ok (.dup, 1) := by decide +kernel
theorem dX5_setSticker_11 : decode cX5_setSticker 11 = .ok (.ldc 92, 2) := by decide +kernel
theorem dX5_setSticker_13 : decode cX5_setSticker 13 = .ok (.invokespecial 75, 3) := by decide +kernel
theorem dX5_setSticker_16 : decode cX5_setSticker 16 = .ok (.athrow, 1) := by decide +kernel
theorem dX5_setSticker_17 : decode cX5_setSticker 17 = .ok (.iload_n 2, 1) := by decide +kernel
theorem dX5_setSticker_18 : decode cX5_setSticker 18 = .ok (.iconst 0, 1) := by decide +kernel
theorem dX5_setSticker_19 : decode cX5_setSticker 19 = .ok (.bipush 99, 2) := by decide +kernel
theorem dX5_setSticker_21 : decode cX5_setSticker 21 = .ok (.invokestatic 33, 3) := by decide +kernel
theorem dX5_setSticker_24 : decode cX5_setSticker 24 = .ok (.ifCond .ne 13, 3) := by decide +kernel
theorem dX5_setSticker_27 : decode cX5_setSticker 27 = .ok (.new 37, 3) := by decide +kernel
theorem dX5_setSticker_30 : decode cX5_setSticker 30 = .ok (.dup, 1) := by decide +kernel
theorem dX5_setSticker_31 : decode cX5_setSticker 31 = .ok (.ldc 94, 2) := by decide +kernel
theorem dX5_setSticker_33 : decode cX5_setSticker 33 = .ok (.invokespecial 41, 3) := by decide +kernel
theorem dX5_setSticker_36 : decode cX5_setSticker 36 = .ok (.athrow, 1) := by decide +kernel
theorem dX5_setSticker_37 : decode cX5_setSticker 37 = .ok (.aload_n 0, 1) := by decide +kernel
theorem dX5_setSticker_38 : decode cX5_setSticker 38 = .ok (.getfield 22, 3) := by decide +kernel
theorem dX5_setSticker_41 : decode cX5_setSticker 41 = .ok (.aload_n 0, 1) := by decide +kernel
theorem dX5_setSticker_42 : decode cX5_setSticker 42 = .ok (.getfield 10, 3) := by decide +kernel
theorem dX5_setSticker_45 : decode cX5_setSticker 45 = .ok (.invokevirtual 53, 3) := by decide +kernel
theorem dX5_setSticker_48 : decode cX5_setSticker 48 = .ok (.aload_n 0, 1) := by decide +kernel
theorem dX5_setSticker_49 : decode cX5_setSticker 49 = .ok (.getfield 10, 3) := by decide +kernel
theorem dX5_setSticker_52 : decode cX5_setSticker 52 = .ok (.getfield 96, 3) := by decide +kernel
theorem dX5_setSticker_55 : decode cX5_setSticker 55 = .ok (.getfield 100, 3) := by decide +kernel
theorem dX5_setSticker_58 : decode cX5_setSticker 58 = .ok (.iload_n 1, 1) := by decide +kernel
theorem dX5_setSticker_59 : decode cX5_setSticker 59 = .ok (.iaload, 1) := by decide +kernel
theorem dX5_setSticker_60 : decode cX5_setSticker 60 = .ok (.istore_n 3, 1) := by decide +kernel
theorem dX5_setSticker_61 : decode cX5_setSticker 61 = .ok (.aload_n 0, 1) := by decide +kernel
theorem dX5_setSticker_62 : decode cX5_setSticker 62 = .ok (.getfield 10, 3) := by decide +kernel
theorem dX5_setSticker_65 : decode cX5_setSticker 65 = .ok (.getfield 96, 3) := by decide +kernel
theorem dX5_setSticker_68 : decode cX5_setSticker 68 = .ok (.getfield 100, 3) := by decide +kernel
theorem dX5_setSticker_71 : decode cX5_setSticker 71 = .ok (.iload_n 1, 1) := by decide +kernel
theorem dX5_setSticker_72 : decode cX5_setSticker 72 = .ok (.iload_n 2, 1) := by decide +kernel
theorem dX5_setSticker_73 : decode cX5_setSticker 73 = .ok (.iastore, 1) := by decide +kernel
theorem dX5_setSticker_74 : decode cX5_setSticker 74 = .ok (.iload_n 3, 1) := by decide +kernel
theorem dX5_setSticker_75 : decode cX5_setSticker 75 = .ok (.ireturn, 1) := by decide +kernel
theorem dX5_setRing_0 : decode cX5_setRing 0 = .ok (.iload_n 1, 1) := by decide +kernel
theorem dX5_setRing_1 : decode cX5_setRing 1 = .ok (.invokestatic 89, 3) := by decide +kernel
theorem dX5_setRing_4 : decode cX5_setRing 4 = .ok (.ifCond .ne 13, 3) := by decide +kernel
theorem dX5_setRing_7 : decode cX5_setRing 7 = .ok (.new 71, 3) := by decide +kernel
theorem dX5_setRing_10 : decode cX5_setRing 10 = .ok (.dup, 1) := by decide +kernel
theorem dX5_setRing_11 : decode cX5_setRing 11 = .ok (.ldc 92, 2) := by decide +kernel
theorem dX5_setRing_13 : decode cX5_setRing 13 = .ok (.invokespecial 75, 3) := by decide +kernel
theorem dX5_setRing_16 : decode cX5_setRing 16 = .ok (.athrow, 1) := by decide +kernel
theorem dX5_setRing_17 : decode cX5_setRing 17 = .ok (.aload_n 0, 1) := by decide +kernel
theorem dX5_setRing_18 : decode cX5_setRing 18 = .ok (.getfield 10, 3) := by decide +kernel
theorem dX5_setRing_21 : decode cX5_setRing 21 = .ok (.getfield 96, 3) := by decide +kernel
theorem dX5_setRing_24 : decode cX5_setRing 24 = .ok (.getfield 105, 3) := by decide +kernel
theorem dX5_setRing_27 : decode cX5_setRing 27 = .ok (.iload_n 1, 1) := by decide +kernel
theorem dX5_setRing_28 : decode cX5_setRing 28 = .ok (.iaload, 1) := by decide +kernel
theorem dX5_setRing_29 : decode cX5_setRing 29 = .ok (.iconst (-1), 1) := by decide +kernel
theorem dX5_setRing_30 : decode cX5_setRing 30 = .ok (.if_icmp .eq 13, 3) := by decide +kernel
theorem dX5_setRing_33 : decode cX5_setRing 33 = .ok (.new 48, 3) := by decide +kernel
theorem dX5_setRing_36 : decode cX5_setRing 36 = .ok (.dup, 1) := by decide +kernel
theorem dX5_setRing_37 : decode cX5_setRing 37 = .ok (.ldc 108, 2) := by decide +kernel
theorem dX5_setRing_39 : decode cX5_setRing 39 = .ok (.invokespecial 52, 3) := by decide +kernel
theorem dX5_setRing_42 : decode cX5_setRing 42 = .ok (.athrow, 1) := by decide +kernel
theorem dX5_setRing_43 : decode cX5_setRing 43 = .ok (.aload_n 0, 1) := by decide +kernel
theorem dX5_setRing_44 : decode cX5_setRing 44 = .ok (.getfield 22, 3) := by decide +kernel
theorem dX5_setRing_47 : decode cX5_setRing 47 = .ok (.aload_n 0, 1) := by decide +kernel
theorem dX5_setRing_48 : decode cX5_setRing 48 = .ok (.getfield 10, 3) := by decide +kernel
theorem dX5_setRing_51 : decode cX5_setRing 51 = .ok (.invokevirtual 53, 3) := by decide +kernel
theorem dX5_setRing_54 : decode cX5_setRing 54 = .ok (.aload_n 0, 1) := by decide +kernel
theorem dX5_setRing_55 : decode cX5_setRing 55 = .ok (.getfield 10, 3) := by decide +kernel
theorem dX5_setRing_58 : decode cX5_setRing 58 = .ok (.getfield 96, 3) := by decide +kernel
theorem dX5_setRing_61 : decode cX5_setRing 61 = .ok (.getfield 110, 3) := by decide +kernel
theorem dX5_setRing_64 : decode cX5_setRing 64 = .ok (.iload_n 1, 1) := by decide +kernel
theorem dX5_setRing_65 : decode cX5_setRing 65 = .ok (.baload, 1) := by decide +kernel
theorem dX5_setRing_66 : decode cX5_setRing 66 = .ok (.istore_n 3, 1) := by decide +kernel
theorem dX5_setRing_67 : decode cX5_setRing 67 = .ok (.aload_n 0, 1) := by decide +kernel
theorem dX5_setRing_68 : decode cX5_setRing 68 = .ok (.getfield 10, 3) := by decide +kernel
theorem dX5_setRing_71 : decode cX5_setRing 71 = .ok (.getfield 96, 3) := by decide +kernel
theorem dX5_setRing_74 : decode cX5_setRing 74 = .ok (.getfield 110, 3) := by decide +kernel
theorem dX5_setRing_77 : decode cX5_setRing 77 = .ok (.iload_n 1, 1) := by decide +kernel
theorem dX5_setRing_78 : decode cX5_setRing 78 = .ok (.iload_n 2, 1) := by decide +kernel
theorem dX5_setRing_79 : decode cX5_setRing 79 = .ok (.bastore, 1) := by decide +kernel
theorem dX5_setRing_80 : decode cX5_setRing 80 = .ok (.iload_n 3, 1) := by decide +kernel
theorem dX5_setRing_81 : decode cX5_setRing 81 = .ok (.ireturn, 1) := by decide +kernel
theorem dX5_pass_0 : decode cX5_pass 0 = .ok (.iload_n 1, 1) := by decide +kernel
theorem dX5_pass_1 : decode cX5_pass 1 = .ok (.iconst 1, 1) := by decide +kernel
theorem dX5_pass_2 : decode cX5_pass 2 = .ok (.bipush 99, 2) := by decide +kernel
theorem dX5_pass_4 : decode cX5_pass 4 = .ok (.invokestatic 33, 3) := by decide +kernel
theorem dX5_pass_7 : decode cX5_pass 7 = .ok (.ifCond .ne 13, 3) := by decide +kernel
theorem dX5_pass_10 : decode cX5_pass 10 = .ok (.new 37, 3) := by decide +kernel
theorem dX5_pass_13 : decode cX5_pass 13 = .ok (.dup, 1) := by decide +kernel
theorem dX5_pass_14 : decode cX5_pass 14 = .ok (.ldc 114, 2) := by decide +kernel
theorem dX5_pass_16 : decode cX5_pass 16 = .ok (.invokespecial 41, 3) := by decide +kernel
theorem dX5_pass_19 : decode cX5_pass 19 = .ok (.athrow, 1) := by decide +kernel
theorem dX5_pass_20 : decode cX5_pass 20 = .ok (.aload_n 0, 1) := by decide +kernel
theorem dX5_pass_21 : decode cX5_pass 21 = .ok (.getfield 22, 3) := by decide +kernel
theorem dX5_pass_24 : decode cX5_pass 24 = .ok (.aload_n 0, 1) := by decide +kernel
theorem dX5_pass_25 : decode cX5_pass 25 = .ok (.getfield 10, 3) := by decide +kernel
theorem dX5_pass_28 : decode cX5_pass 28 = .ok (.invokevirtual 53, 3) := by decide +kernel
theorem dX5_pass_31 : decode cX5_pass 31 = .ok (.aload_n 0, 1) := by decide +kernel
theorem dX5_pass_32 : decode cX5_pass 32 = .ok (.getfield 10, 3) := by decide +kernel
theorem dX5_pass_35 : decode cX5_pass 35 = .ok (.iload_n 1, 1) := by decide +kernel
theorem dX5_pass_36 : decode cX5_pass 36 = .ok (.invokevirtual 116, 3) := by decide +kernel
theorem dX5_pass_39 : decode cX5_pass 39 = .ok (.ireturn, 1) := by decide +kernel
theorem dX5_nextDay_0 : decode cX5_nextDay 0 = .ok (.aload_n 0, 1) := by decide +kernel
theorem dX5_nextDay_1 : decode cX5_nextDay 1 = .ok (.getfield 10, 3) := by decide +kernel
theorem dX5_nextDay_4 : decode cX5_nextDay 4 = .ok (.invokevirtual 120, 3) := by decide +kernel
theorem dX5_nextDay_7 : decode cX5_nextDay 7 = .ok (.ifCond .ne 13, 3) := by decide +kernel
theorem dX5_nextDay_10 : decode cX5_nextDay 10 = .ok (.new 48, 3) := by decide +kernel
theorem dX5_nextDay_13 : decode cX5_nextDay 13 = .ok (.dup, 1) := by decide +kernel
theorem dX5_nextDay_14 : decode cX5_nextDay 14 = .ok (.ldc 124, 2) := by decide +kernel
theorem dX5_nextDay_16 : decode cX5_nextDay 16 = .ok (.invokespecial 52, 3) := by decide +kernel
theorem dX5_nextDay_19 : decode cX5_nextDay 19 = .ok (.athrow, 1) := by decide +kernel
theorem dX5_nextDay_20 : decode cX5_nextDay 20 = .ok (.aload_n 0, 1) := by decide +kernel
theorem dX5_nextDay_21 : decode cX5_nextDay 21 = .ok (.getfield 22, 3) := by decide +kernel
theorem dX5_nextDay_24 : decode cX5_nextDay 24 = .ok (.aload_n 0, 1) := by decide +kernel
theorem dX5_nextDay_25 : decode cX5_nextDay 25 = .ok (.getfield 10, 3) := by decide +kernel
theorem dX5_nextDay_28 : decode cX5_nextDay 28 = .ok (.invokevirtual 53, 3) := by decide +kernel
theorem dX5_nextDay_31 : decode cX5_nextDay 31 = .ok (.aload_n 0, 1) := by decide +kernel
theorem dX5_nextDay_32 : decode cX5_nextDay 32 = .ok (.getfield 10, 3) := by decide +kernel
theorem dX5_nextDay_35 : decode cX5_nextDay 35 = .ok (.dup, 1) := by decide +kernel
theorem dX5_nextDay_36 : decode cX5_nextDay 36 = .ok (.getfield 126, 3) := by decide +kernel
theorem dX5_nextDay_39 : decode cX5_nextDay 39 = .ok (.iconst 1, 1) := by decide +kernel
theorem dX5_nextDay_40 : decode cX5_nextDay 40 = .ok (.iadd, 1) := by decide +kernel
theorem dX5_nextDay_41 : decode cX5_nextDay 41 = .ok (.putfield 126, 3) := by decide +kernel
theorem dX5_nextDay_44 : decode cX5_nextDay 44 = .ok (.aload_n 0, 1) := by decide +kernel
theorem dX5_nextDay_45 : decode cX5_nextDay 45 = .ok (.getfield 10, 3) := by decide +kernel
theorem dX5_nextDay_48 : decode cX5_nextDay 48 = .ok (.getfield 126, 3) := by decide +kernel
theorem dX5_nextDay_51 : decode cX5_nextDay 51 = .ok (.ireturn, 1) := by decide +kernel
theorem dX5_set_0 : decode cX5_set 0 = .ok (.iload_n 1, 1) := by decide +kernel
theorem dX5_set_1 : decode cX5_set 1 = .ok (.ifCond .eq 18, 3) := by decide +kernel
theorem dX5_set_4 : decode cX5_set 4 = .ok (.iload_n 1, 1) := by decide +kernel
theorem dX5_set_5 : decode cX5_set 5 = .ok (.iconst 1, 1) := by decide +kernel
theorem dX5_set_6 : decode cX5_set 6 = .ok (.if_icmp .eq 13, 3) := by decide +kernel
theorem dX5_set_9 : decode cX5_set 9 = .ok (.new 71, 3) := by decide +kernel
theorem dX5_set_12 : decode cX5_set 12 = .ok (.dup, 1) := by decide +kernel
theorem dX5_set_13 : decode cX5_set 13 = .ok (.ldc 130, 2) := by decide +kernel
theorem dX5_set_15 : decode cX5_set 15 = .ok (.invokespecial 75, 3) := by decide +kernel
theorem dX5_set_18 : decode cX5_set 18 = .ok (.athrow, 1) := by decide +kernel
theorem dX5_set_19 : decode cX5_set 19 = .ok (.iload_n 2, 1) := by decide +kernel
theorem dX5_set_20 : decode cX5_set 20 = .ok (.iconst 0, 1) := by decide +kernel
theorem dX5_set_21 : decode cX5_set 21 = .ok (.iload_n 1, 1) := by decide +kernel
theorem dX5_set_22 : decode cX5_set 22 = .ok (.ifCond .ne 8, 3) := by decide +kernel
theorem dX5_set_25 : decode cX5_set 25 = .ok (.bipush 9, 2) := by decide +kernel
theorem dX5_set_27 : decode cX5_set 27 = .ok (.goto 5, 3) := by decide +kernel
theorem dX5_set_30 : decode cX5_set 30 = .ok (.bipush 99, 2) := by decide +kernel
theorem dX5_set_32 : decode cX5_set 32 = .ok (.invokestatic 33, 3) := by decide +kernel
theorem dX5_set_35 : decode cX5_set 35 = .ok (.ifCond .ne 13, 3) := by decide +kernel
theorem dX5_set_38 : decode cX5_set 38 = .ok (.new 37, 3) := by decide +kernel
theorem dX5_set_41 : decode cX5_set 41 = .ok (.dup, 1) := by decide +kernel
theorem dX5_set_42 : decode cX5_set 42 = .ok (.ldc 132, 2) := by decide +kernel
theorem dX5_set_44 : decode cX5_set 44 = .ok (.invokespecial 41, 3) := by decide +kernel
theorem dX5_set_47 : decode cX5_set 47 = .ok (.athrow, 1) := by decide +kernel
theorem dX5_set_48 : decode cX5_set 48 = .ok (.aload_n 0, 1) := by decide +kernel
theorem dX5_set_49 : decode cX5_set 49 = .ok (.getfield 22, 3) := by decide +kernel
theorem dX5_set_52 : decode cX5_set 52 = .ok (.aload_n 0, 1) := by decide +kernel
theorem dX5_set_53 : decode cX5_set 53 = .ok (.getfield 10, 3) := by decide +kernel
theorem dX5_set_56 : decode cX5_set 56 = .ok (.invokevirtual 53, 3) := by decide +kernel
theorem dX5_set_59 : decode cX5_set 59 = .ok (.iload_n 1, 1) := by decide +kernel
theorem dX5_set_60 : decode cX5_set 60 = .ok (.ifCond .ne 22, 3) := by decide +kernel
theorem dX5_set_63 : decode cX5_set 63 = .ok (.aload_n 0, 1) := by decide +kernel
theorem dX5_set_64 : decode cX5_set 64 = .ok (.getfield 10, 3) := by decide +kernel
theorem dX5_set_67 : decode cX5_set 67 = .ok (.getfield 134, 3) := by decide +kernel
theorem dX5_set_70 : decode cX5_set 70 = .ok (.istore_n 3, 1) := by decide +kernel
theorem dX5_set_71 : decode cX5_set 71 = .ok (.aload_n 0, 1) := by decide +kernel
theorem dX5_set_72 : decode cX5_set 72 = .ok (.getfield 10, 3) := by decide +kernel
theorem dX5_set_75 : decode cX5_set 75 = .ok (.iload_n 2, 1) := by decide +kernel
theorem dX5_set_76 : decode cX5_set 76 = .ok (.putfield 134, 3) := by decide +kernel
theorem dX5_set_79 : decode cX5_set 79 = .ok (.goto 19, 3) := by decide +kernel
theorem dX5_set_82 : decode cX5_set 82 = .ok (.aload_n 0, 1) := by decide +kernel
theorem dX5_set_83 : decode cX5_set 83 = .ok (.getfield 10, 3) := by decide +kernel
theorem dX5_set_86 : decode cX5_set 86 = .ok (.getfield 137, 3) := by decide +kernel
theorem dX5_set_89 : decode cX5_set 89 = .ok (.istore_n 3, 1) := by decide +kernel
theorem dX5_set_90 : decode cX5_set 90 = .ok (.aload_n 0, 1) := by decide +kernel
theorem dX5_set_91 : decode cX5_set 91 = .ok (.getfield 10, 3) := by decide +kernel
theorem dX5_set_94 : decode cX5_set 94 = .ok (.iload_n 2, 1) := by decide +kernel
theorem dX5_set_95 : decode cX5_set 95 = .ok (.putfield 137, 3) := by decide +kernel
theorem dX5_set_98 : decode cX5_set 98 = .ok (.iload_n 3, 1) := by decide +kernel
theorem dX5_set_99 : decode cX5_set 99 = .ok (.ireturn, 1) := by decide +kernel
theorem dX5_appendText_0 : decode cX5_appendText 0 = .ok (.iload_n 1, 1) := by decide +kernel
theorem dX5_appendText_1 : decode cX5_appendText 1 = .ok (.bipush 32, 2) := by decide +kernel
theorem dX5_appendText_3 : decode cX5_appendText 3 = .ok (.bipush 126, 2) := by decide +kernel
theorem dX5_appendText_5 : decode cX5_appendText 5 = .ok (.invokestatic 33, 3) := by decide +kernel
theorem dX5_appendText_8 : decode cX5_appendText 8 = .ok (.ifCond .ne 13, 3) := by decide +kernel
theorem dX5_appendText_11 : decode cX5_appendText 11 = .ok (.new 37, 3) := by decide +kernel
theorem dX5_appendText_14 : decode cX5_appendText 14 = .ok (.dup, 1) := by decide +kernel
theorem dX5_appendText_15 : decode cX5_appendText 15 = .ok (.ldc 140, 2) := by decide +kernel
theorem dX5_appendText_17 : decode cX5_appendText 17 = .ok (.invokespecial 41, 3) := by decide +kernel
theorem dX5_appendText_20 : decode cX5_appendText 20 = .ok (.athrow, 1) := by decide +kernel
theorem dX5_appendText_21 : decode cX5_appendText 21 = .ok (.aload_n 0, 1) := by decide +kernel
theorem dX5_appendText_22 : decode cX5_appendText 22 = .ok (.getfield 29, 3) := by decide +kernel
theorem dX5_appendText_25 : decode cX5_appendText 25 = .ok (.getfield 142, 3) := by decide +kernel
theorem dX5_appendText_28 : decode cX5_appendText 28 = .ok (.bipush 80, 2) := by decide +kernel
theorem dX5_appendText_30 : decode cX5_appendText 30 = .ok (.if_icmp .lt 13, 3) := by decide +kernel
theorem dX5_appendText_33 : decode cX5_appendText 33 = .ok (.new 48, 3) := by decide +kernel
theorem dX5_appendText_36 : decode cX5_appendText 36 = .ok (.dup, 1) := by decide +kernel
theorem dX5_appendText_37 : decode cX5_appendText 37 = .ok (.ldc 145, 2) := by decide +kernel
theorem dX5_appendText_39 : decode cX5_appendText 39 = .ok (.invokespecial 52, 3) := by decide +kernel
theorem dX5_appendText_42 : decode cX5_appendText 42 = .ok (.athrow, 1) := by decide +kernel
theorem dX5_appendText_43 : decode cX5_appendText 43 = .ok (.aload_n 0, 1) := by decide +kernel
theorem dX5_appendText_44 : decode cX5_appendText 44 = .ok (.getfield 29, 3) := by decide +kernel
theorem dX5_appendText_47 : decode cX5_appendText 47 = .ok (.iload_n 1, 1) := by decide +kernel
theorem dX5_appendText_48 : decode cX5_appendText 48 = .ok (.invokevirtual 147, 3) := by decide +kernel
theorem dX5_appendText_51 : decode cX5_appendText 51 = .ok (.aload_n 0, 1) := by decide +kernel
theorem dX5_appendText_52 : decode cX5_appendText 52 = .ok (.getfield 29, 3) := by decide +kernel
theorem dX5_appendText_55 : decode cX5_appendText 55 = .ok (.getfield 142, 3) := by decide +kernel
theorem dX5_appendText_58 : decode cX5_appendText 58 = .ok (.ireturn, 1) := by decide +kernel
theorem dX5_clearText_0 : decode cX5_clearText 0 = .ok (.aload_n 0, 1) := by decide +kernel
theorem dX5_clearText_1 : decode cX5_clearText 1 = .ok (.getfield 29, 3) := by decide +kernel
theorem dX5_clearText_4 : decode cX5_clearText 4 = .ok (.getfield 142, 3) := by decide +kernel
theorem dX5_clearText_7 : decode cX5_clearText 7 = .ok (.istore_n 1, 1) := by decide +kernel
theorem dX5_clearText_8 : decode cX5_clearText 8 = .ok (.aload_n 0, 1) := by decide +kernel
theorem dX5_clearText_9 : decode cX5_clearText 9 = .ok (.getfield 29, 3) := by decide +kernel
theorem dX5_clearText_12 : decode cX5_clearText 12 = .ok (.iconst 0, 1) := by decide +kernel
theorem dX5_clearText_13 : decode cX5_clearText 13 = .ok (.putfield 142, 3) := by decide +kernel
theorem dX5_clearText_16 : decode cX5_clearText 16 = .ok (.iload_n 1, 1) := by decide +kernel
theorem dX5_clearText_17 : decode cX5_clearText 17 = .ok (.ireturn, 1) := by decide +kernel
theorem dX5_errorPosition_0 : decode cX5_errorPosition 0 = .ok (.aload_n 0, 1) := by decide +kernel
theorem dX5_errorPosition_1 : decode cX5_errorPosition 1 = .ok (.getfield 29, 3) := by decide +kernel
theorem dX5_errorPosition_4 : decode cX5_errorPosition 4 = .ok (.invokevirtual 151, 3) := by decide +kernel
theorem dX5_errorPosition_7 : decode cX5_errorPosition 7 = .ok (.ireturn, 1) := by decide +kernel
theorem dX5_runText_0 : decode cX5_runText 0 = .ok (.aload_n 0, 1) := by decide +kernel
theorem dX5_runText_1 : decode cX5_runText 1 = .ok (.getfield 29, 3) := by decide +kernel
theorem dX5_runText_4 : decode cX5_runText 4 = .ok (.invokevirtual 151, 3) := by decide +kernel
theorem dX5_runText_7 : decode cX5_runText 7 = .ok (.iconst (-1), 1) := by decide +kernel
theorem dX5_runText_8 : decode cX5_runText 8 = .ok (.if_icmp .eq 13, 3) := by decide +kernel
theorem dX5_runText_11 : decode cX5_runText 11 = .ok (.new 48, 3) := by decide +kernel
theorem dX5_runText_14 : decode cX5_runText 14 = .ok (.dup, 1) := by decide +kernel
theorem dX5_runText_15 : decode cX5_runText 15 = .ok (.ldc 155, 2) := by decide +kernel
theorem dX5_runText_17 : decode cX5_runText 17 = .ok (.invokespecial 52, 3) := by decide +kernel
theorem dX5_runText_20 : decode cX5_runText 20 = .ok (.athrow, 1) := by decide +kernel
theorem dX5_runText_21 : decode cX5_runText 21 = .ok (.aload_n 0, 1) := by decide +kernel
theorem dX5_runText_22 : decode cX5_runText 22 = .ok (.getfield 22, 3) := by decide +kernel
theorem dX5_runText_25 : decode cX5_runText 25 = .ok (.aload_n 0, 1) := by decide +kernel
theorem dX5_runText_26 : decode cX5_runText 26 = .ok (.getfield 10, 3) := by decide +kernel
theorem dX5_runText_29 : decode cX5_runText 29 = .ok (.invokevirtual 53, 3) := by decide +kernel
theorem dX5_runText_32 : decode cX5_runText 32 = .ok (.aload_n 0, 1) := by decide +kernel
theorem dX5_runText_33 : decode cX5_runText 33 = .ok (.getfield 29, 3) := by decide +kernel
theorem dX5_runText_36 : decode cX5_runText 36 = .ok (.invokevirtual 157, 3) := by decide +kernel
theorem dX5_runText_39 : decode cX5_runText 39 = .ok (.iconst 0, 1) := by decide +kernel
theorem dX5_runText_40 : decode cX5_runText 40 = .ok (.istore_n 1, 1) := by decide +kernel
theorem dX5_runText_41 : decode cX5_runText 41 = .ok (.iload_n 1, 1) := by decide +kernel
theorem dX5_runText_42 : decode cX5_runText 42 = .ok (.bipush 80, 2) := by decide +kernel
theorem dX5_runText_44 : decode cX5_runText 44 = .ok (.if_icmp .ge 36, 3) := by decide +kernel
theorem dX5_runText_47 : decode cX5_runText 47 = .ok (.aload_n 0, 1) := by decide +kernel
theorem dX5_runText_48 : decode cX5_runText 48 = .ok (.getfield 29, 3) := by decide +kernel
theorem dX5_runText_51 : decode cX5_runText 51 = .ok (.invokevirtual 160, 3) := by decide +kernel
theorem dX5_runText_54 : decode cX5_runText 54 = .ok (.ifCond .eq 26, 3) := by decide +kernel
theorem dX5_runText_57 : decode cX5_runText 57 = .ok (.aload_n 0, 1) := by decide +kernel
theorem dX5_runText_58 : decode cX5_runText 58 = .ok (.invokevirtual 163, 3) := by decide +kernel
theorem dX5_runText_61 : decode cX5_runText 61 = .ok (.ifCond .eq 19, 3) := by decide +kernel
theorem dX5_runText_64 : decode cX5_runText 64 = .ok (.iinc 1 1, 3) := by decide +kernel
theorem dX5_runText_67 : decode cX5_runText 67 = .ok (.aload_n 0, 1) := by decide +kernel
theorem dX5_runText_68 : decode cX5_runText 68 = .ok (.getfield 29, 3) := by decide +kernel
theorem dX5_runText_71 : decode cX5_runText 71 = .ok (.bipush 59, 2) := by decide +kernel
theorem dX5_runText_73 : decode cX5_runText 73 = .ok (.invokevirtual 166, 3) := by decide +kernel
theorem dX5_runText_76 : decode cX5_runText 76 = .ok (.pop, 1) := by decide +kernel
theorem dX5_runText_77 : decode cX5_runText 77 = .ok (.goto (-36), 3) := by decide +kernel
theorem dX5_runText_80 : decode cX5_runText 80 = .ok (.iload_n 1, 1) := by decide +kernel
theorem dX5_runText_81 : decode cX5_runText 81 = .ok (.ireturn, 1) := by decide +kernel
theorem dX5_execute_0 : decode cX5_execute 0 = .ok (.aload_n 0, 1) := by decide +kernel
theorem dX5_execute_1 : decode cX5_execute 1 = .ok (.getfield 29, 3) := by decide +kernel
theorem dX5_execute_4 : decode cX5_execute 4 = .ok (.getfield 170, 3) := by decide +kernel
theorem dX5_execute_7 : decode cX5_execute 7 = .ok (.lookupswitch 69 #[(100, 42), (116, 25)], 25) := by decide +kernel
theorem dX5_execute_32 : decode cX5_execute 32 = .ok (.aload_n 0, 1) := by decide +kernel
theorem dX5_execute_33 : decode cX5_execute 33 = .ok (.getfield 10, 3) := by decide +kernel
theorem dX5_execute_36 : decode cX5_execute 36 = .ok (.aload_n 0, 1) := by decide +kernel
theorem dX5_execute_37 : decode cX5_execute 37 = .ok (.getfield 29, 3) := by decide +kernel
theorem dX5_execute_40 : decode cX5_execute 40 = .ok (.getfield 173, 3) := by decide +kernel
theorem dX5_execute_43 : decode cX5_execute 43 = .ok (.invokevirtual 116, 3) := by decide +kernel
theorem dX5_execute_46 : decode cX5_execute 46 = .ok (.pop, 1) := by decide +kernel
theorem dX5_execute_47 : decode cX5_execute 47 = .ok (.iconst 1, 1) := by decide +kernel
theorem dX5_execute_48 : decode cX5_execute 48 = .ok (.ireturn, 1) := by decide +kernel
theorem dX5_execute_49 : decode cX5_execute 49 = .ok (.aload_n 0, 1) := by decide +kernel
theorem dX5_execute_50 : decode cX5_execute 50 = .ok (.getfield 10, 3) := by decide +kernel
theorem dX5_execute_53 : decode cX5_execute 53 = .ok (.invokevirtual 120, 3) := by decide +kernel
theorem dX5_execute_56 : decode cX5_execute 56 = .ok (.ifCond .ne 5, 3) := by decide +kernel
theorem dX5_execute_59 : decode cX5_execute 59 = .ok (.iconst 0, 1) := by decide +kernel
theorem dX5_execute_60 : decode cX5_execute 60 = .ok (.ireturn, 1) := by decide +kernel
theorem dX5_execute_61 : decode cX5_execute 61 = .ok (.aload_n 0, 1) := by decide +kernel
theorem dX5_execute_62 : decode cX5_execute 62 = .ok (.getfield 10, 3) := by decide +kernel
theorem dX5_execute_65 : decode cX5_execute 65 = .ok (.dup, 1) := by decide +kernel
theorem dX5_execute_66 : decode cX5_execute 66 = .ok (.getfield 126, 3) := by decide +kernel
theorem dX5_execute_69 : decode cX5_execute 69 = .ok (.iconst 1, 1) := by decide +kernel
theorem dX5_execute_70 : decode cX5_execute 70 = .ok (.iadd, 1) := by decide +kernel
theorem dX5_execute_71 : decode cX5_execute 71 = .ok (.putfield 126, 3) := by decide +kernel
theorem dX5_execute_74 : decode cX5_execute 74 = .ok (.iconst 1, 1) := by decide +kernel
theorem dX5_execute_75 : decode cX5_execute 75 = .ok (.ireturn, 1) := by decide +kernel
theorem dX5_execute_76 : decode cX5_execute 76 = .ok (.aload_n 0, 1) := by decide +kernel
theorem dX5_execute_77 : decode cX5_execute 77 = .ok (.getfield 10, 3) := by decide +kernel
theorem dX5_execute_80 : decode cX5_execute 80 = .ok (.aload_n 0, 1) := by decide +kernel
theorem dX5_execute_81 : decode cX5_execute 81 = .ok (.getfield 29, 3) := by decide +kernel
theorem dX5_execute_84 : decode cX5_execute 84 = .ok (.getfield 176, 3) := by decide +kernel
theorem dX5_execute_87 : decode cX5_execute 87 = .ok (.aload_n 0, 1) := by decide +kernel
theorem dX5_execute_88 : decode cX5_execute 88 = .ok (.getfield 29, 3) := by decide +kernel
theorem dX5_execute_91 : decode cX5_execute 91 = .ok (.getfield 179, 3) := by decide +kernel
theorem dX5_execute_94 : decode cX5_execute 94 = .ok (.invokevirtual 44, 3) := by decide +kernel
theorem dX5_execute_97 : decode cX5_execute 97 = .ok (.ifCond .ne 5, 3) := by decide +kernel
theorem dX5_execute_100 : decode cX5_execute 100 = .ok (.iconst 0, 1) := by decide +kernel
theorem dX5_execute_101 : decode cX5_execute 101 = .ok (.ireturn, 1) := by decide +kernel
theorem dX5_execute_102 : decode cX5_execute 102 = .ok (.aload_n 0, 1) := by decide +kernel
theorem dX5_execute_103 : decode cX5_execute 103 = .ok (.getfield 10, 3) := by decide +kernel
theorem dX5_execute_106 : decode cX5_execute 106 = .ok (.getfield 57, 3) := by decide +kernel
theorem dX5_execute_109 : decode cX5_execute 109 = .ok (.aload_n 0, 1) := by decide +kernel
theorem dX5_execute_110 : decode cX5_execute 110 = .ok (.getfield 29, 3) := by decide +kernel
theorem dX5_execute_113 : decode cX5_execute 113 = .ok (.getfield 176, 3) := by decide +kernel
theorem dX5_execute_116 : decode cX5_execute 116 = .ok (.aload_n 0, 1) := by decide +kernel
theorem dX5_execute_117 : decode cX5_execute 117 = .ok (.getfield 29, 3) := by decide +kernel
theorem dX5_execute_120 : decode cX5_execute 120 = .ok (.getfield 179, 3) := by decide +kernel
theorem dX5_execute_123 : decode cX5_execute 123 = .ok (.aload_n 0, 1) := by decide +kernel
theorem dX5_execute_124 : decode cX5_execute 124 = .ok (.getfield 29, 3) := by decide +kernel
theorem dX5_execute_127 : decode cX5_execute 127 = .ok (.getfield 173, 3) := by decide +kernel
theorem dX5_execute_130 : decode cX5_execute 130 = .ok (.aload_n 0, 1) := by decide +kernel
theorem dX5_execute_131 : decode cX5_execute 131 = .ok (.getfield 29, 3) := by decide +kernel
theorem dX5_execute_134 : decode cX5_execute 134 = .ok (.getfield 182, 3) := by decide +kernel
theorem dX5_execute_137 : decode cX5_execute 137 = .ok (.invokevirtual 61, 3) := by decide +kernel
theorem dX5_execute_140 : decode cX5_execute 140 = .ok (.pop, 1) := by decide +kernel
theorem dX5_execute_141 : decode cX5_execute 141 = .ok (.iconst 1, 1) := by decide +kernel
theorem dX5_execute_142 : decode cX5_execute 142 = .ok (.ireturn, 1) := by decide +kernel
theorem dX5_undo_0 : decode cX5_undo 0 = .ok (.aload_n 0, 1) := by decide +kernel
theorem dX5_undo_1 : decode cX5_undo 1 = .ok (.getfield 22, 3) := by decide +kernel
theorem dX5_undo_4 : decode cX5_undo 4 = .ok (.getfield 185, 3) := by decide +kernel
theorem dX5_undo_7 : decode cX5_undo 7 = .ok (.ifCond .gt 13, 3) := by decide +kernel
theorem dX5_undo_10 : decode cX5_undo 10 = .ok (.new 48, 3) := by decide +kernel
theorem dX5_undo_13 : decode cX5_undo 13 = .ok (.dup, 1) := by decide +kernel
theorem dX5_undo_14 : decode cX5_undo 14 = .ok (.ldc 188, 2) := by decide +kernel
theorem dX5_undo_16 : decode cX5_undo 16 = .ok (.invokespecial 52, 3) := by decide +kernel
theorem dX5_undo_19 : decode cX5_undo 19 = .ok (.athrow, 1) := by decide +kernel
theorem dX5_undo_20 : decode cX5_undo 20 = .ok (.aload_n 0, 1) := by decide +kernel
theorem dX5_undo_21 : decode cX5_undo 21 = .ok (.getfield 22, 3) := by decide +kernel
theorem dX5_undo_24 : decode cX5_undo 24 = .ok (.aload_n 0, 1) := by decide +kernel
theorem dX5_undo_25 : decode cX5_undo 25 = .ok (.getfield 10, 3) := by decide +kernel
theorem dX5_undo_28 : decode cX5_undo 28 = .ok (.invokevirtual 190, 3) := by decide +kernel
theorem dX5_undo_31 : decode cX5_undo 31 = .ok (.aload_n 0, 1) := by decide +kernel
theorem dX5_undo_32 : decode cX5_undo 32 = .ok (.getfield 22, 3) := by decide +kernel
theorem dX5_undo_35 : decode cX5_undo 35 = .ok (.getfield 185, 3) := by decide +kernel
theorem dX5_undo_38 : decode cX5_undo 38 = .ok (.ireturn, 1) := by decide +kernel
theorem dX5_reel_0 : decode cX5_reel 0 = .ok (.iload_n 1, 1) := by decide +kernel
theorem dX5_reel_1 : decode cX5_reel 1 = .ok (.invokestatic 89, 3) := by decide +kernel
theorem dX5_reel_4 : decode cX5_reel 4 = .ok (.ifCond .ne 13, 3) := by decide +kernel
theorem dX5_reel_7 : decode cX5_reel 7 = .ok (.new 71, 3) := by decide +kernel
theorem dX5_reel_10 : decode cX5_reel 10 = .ok (.dup, 1) := by decide +kernel
theorem dX5_reel_11 : decode cX5_reel 11 = .ok (.ldc 92, 2) := by decide +kernel
theorem dX5_reel_13 : decode cX5_reel 13 = .ok (.invokespecial 75, 3) := by decide +kernel
theorem dX5_reel_16 : decode cX5_reel 16 = .ok (.athrow, 1) := by decide +kernel
theorem dX5_reel_17 : decode cX5_reel 17 = .ok (.iload_n 2, 1) := by decide +kernel
theorem dX5_reel_18 : decode cX5_reel 18 = .ok (.tableswitch 155 0 6 #[42, 55, 68, 89, 102, 115, 128], 42) := by decide +kernel
theorem dX5_reel_60 : decode cX5_reel 60 = .ok (.aload_n 0, 1) := by decide +kernel
theorem dX5_reel_61 : decode cX5_reel 61 = .ok (.getfield 10, 3) := by decide +kernel
theorem dX5_reel_64 : decode cX5_reel 64 = .ok (.getfield 96, 3) := by decide +kernel
theorem dX5_reel_67 : decode cX5_reel 67 = .ok (.getfield 193, 3) := by decide +kernel
theorem dX5_reel_70 : decode cX5_reel 70 = .ok (.iload_n 1, 1) := by decide +kernel
theorem dX5_reel_71 : decode cX5_reel 71 = .ok (.iaload, 1) := by decide +kernel
theorem dX5_reel_72 : decode cX5_reel 72 = .ok (.ireturn, 1) := by decide +kernel
theorem dX5_reel_73 : decode cX5_reel 73 = .ok (.aload_n 0, 1) := by decide +kernel
theorem dX5_reel_74 : decode cX5_reel 74 = .ok (.getfield 10, 3) := by decide +kernel
theorem dX5_reel_77 : decode cX5_reel 77 = .ok (.getfield 96, 3) := by decide +kernel
theorem dX5_reel_80 : decode cX5_reel 80 = .ok (.getfield 100, 3) := by decide +kernel
theorem dX5_reel_83 : decode cX5_reel 83 = .ok (.iload_n 1, 1) := by decide +kernel
theorem dX5_reel_84 : decode cX5_reel 84 = .ok (.iaload, 1) := by decide +kernel
theorem dX5_reel_85 : decode cX5_reel 85 = .ok (.ireturn, 1) := by decide +kernel
theorem dX5_reel_86 : decode cX5_reel 86 = .ok (.aload_n 0, 1) := by decide +kernel
theorem dX5_reel_87 : decode cX5_reel 87 = .ok (.getfield 10, 3) := by decide +kernel
theorem dX5_reel_90 : decode cX5_reel 90 = .ok (.getfield 96, 3) := by decide +kernel
theorem dX5_reel_93 : decode cX5_reel 93 = .ok (.getfield 110, 3) := by decide +kernel
theorem dX5_reel_96 : decode cX5_reel 96 = .ok (.iload_n 1, 1) := by decide +kernel
theorem dX5_reel_97 : decode cX5_reel 97 = .ok (.baload, 1) := by decide +kernel
theorem dX5_reel_98 : decode cX5_reel 98 = .ok (.ifCond .eq 7, 3) := by decide +kernel
theorem dX5_reel_101 : decode cX5_reel 101 = .ok (.iconst 1, 1) := by decide +kernel
theorem dX5_reel_102 : decode cX5_reel 102 = .ok (.goto 4, 3) := by decide +kernel
theorem dX5_reel_105 : decode cX5_reel 105 = .ok (.iconst 0, 1) := by decide +kernel
theorem dX5_reel_106 : decode cX5_reel 106 = .ok (.ireturn, 1) := by decide +kernel
theorem dX5_reel_107 : decode cX5_reel 107 = .ok (.aload_n 0, 1) := by decide +kernel
theorem dX5_reel_108 : decode cX5_reel 108 = .ok (.getfield 10, 3) := by decide +kernel
theorem dX5_reel_111 : decode cX5_reel 111 = .ok (.getfield 96, 3) := by decide +kernel
theorem dX5_reel_114 : decode cX5_reel 114 = .ok (.getfield 196, 3) := by decide +kernel
theorem dX5_reel_117 : decode cX5_reel 117 = .ok (.iload_n 1, 1) := by decide +kernel
theorem dX5_reel_118 : decode cX5_reel 118 = .ok (.iaload, 1) := by decide +kernel
theorem dX5_reel_119 : decode cX5_reel 119 = .ok (.ireturn, 1) := by decide +kernel
theorem dX5_reel_120 : decode cX5_reel 120 = .ok (.aload_n 0, 1) := by decide +kernel
theorem dX5_reel_121 : decode cX5_reel 121 = .ok (.getfield 10, 3) := by decide +kernel
theorem dX5_reel_124 : decode cX5_reel 124 = .ok (.getfield 96, 3) := by decide +kernel
theorem dX5_reel_127 : decode cX5_reel 127 = .ok (.getfield 199, 3) := by decide +kernel
theorem dX5_reel_130 : decode cX5_reel 130 = .ok (.iload_n 1, 1) := by decide +kernel
theorem dX5_reel_131 : decode cX5_reel 131 = .ok (.iaload, 1) := by decide +kernel
theorem dX5_reel_132 : decode cX5_reel 132 = .ok (.ireturn, 1) := by decide +kernel
theorem dX5_reel_133 : decode cX5_reel 133 = .ok (.aload_n 0, 1) := by decide +kernel
theorem dX5_reel_134 : decode cX5_reel 134 = .ok (.getfield 10, 3) := by decide +kernel
theorem dX5_reel_137 : decode cX5_reel 137 = .ok (.getfield 96, 3) := by decide +kernel
theorem dX5_reel_140 : decode cX5_reel 140 = .ok (.getfield 105, 3) := by decide +kernel
theorem dX5_reel_143 : decode cX5_reel 143 = .ok (.iload_n 1, 1) := by decide +kernel
theorem dX5_reel_144 : decode cX5_reel 144 = .ok (.iaload, 1) := by decide +kernel
theorem dX5_reel_145 : decode cX5_reel 145 = .ok (.ireturn, 1) := by decide +kernel
theorem dX5_reel_146 : decode cX5_reel 146 = .ok (.aload_n 0, 1) := by decide +kernel
theorem dX5_reel_147 : decode cX5_reel 147 = .ok (.getfield 10, 3) := by decide +kernel
theorem dX5_reel_150 : decode cX5_reel 150 = .ok (.getfield 96, 3) := by decide +kernel
theorem dX5_reel_153 : decode cX5_reel 153 = .ok (.iload_n 1, 1) := by decide +kernel
theorem dX5_reel_154 : decode cX5_reel 154 = .ok (.aload_n 0, 1) := by decide +kernel
theorem dX5_reel_155 : decode cX5_reel 155 = .ok (.getfield 10, 3) := by decide +kernel
theorem dX5_reel_158 : decode cX5_reel 158 = .ok (.getfield 126, 3) := by decide +kernel
theorem dX5_reel_161 : decode cX5_reel 161 = .ok (.invokevirtual 200, 3) := by decide +kernel
theorem dX5_reel_164 : decode cX5_reel 164 = .ok (.ifCond .eq 7, 3) := by decide +kernel
theorem dX5_reel_167 : decode cX5_reel 167 = .ok (.iconst 1, 1) := by decide +kernel
theorem dX5_reel_168 : decode cX5_reel 168 = .ok (.goto 4, 3) := by decide +kernel
theorem dX5_reel_171 : decode cX5_reel 171 = .ok (.iconst 0, 1) := by decide +kernel
theorem dX5_reel_172 : decode cX5_reel 172 = .ok (.ireturn, 1) := by decide +kernel
theorem dX5_reel_173 : decode cX5_reel 173 = .ok (.new 37, 3) := by decide +kernel
theorem dX5_reel_176 : decode cX5_reel 176 = .ok (.dup, 1) := by decide +kernel
theorem dX5_reel_177 : decode cX5_reel 177 = .ok (.ldc 203, 2) := by decide +kernel
theorem dX5_reel_179 : decode cX5_reel 179 = .ok (.invokespecial 41, 3) := by decide +kernel
theorem dX5_reel_182 : decode cX5_reel 182 = .ok (.athrow, 1) := by decide +kernel
theorem dX5_reelOn_0 : decode cX5_reelOn 0 = .ok (.iload_n 1, 1) := by decide +kernel
theorem dX5_reelOn_1 : decode cX5_reelOn 1 = .ok (.iconst 0, 1) := by decide +kernel
theorem dX5_reelOn_2 : decode cX5_reelOn 2 = .ok (.iconst 2, 1) := by decide +kernel
theorem dX5_reelOn_3 : decode cX5_reelOn 3 = .ok (.invokestatic 33, 3) := by decide +kernel
theorem dX5_reelOn_6 : decode cX5_reelOn 6 = .ok (.ifCond .ne 13, 3) := by decide +kernel
theorem dX5_reelOn_9 : decode cX5_reelOn 9 = .ok (.new 71, 3) := by decide +kernel
theorem dX5_reelOn_12 : decode cX5_reelOn 12 = .ok (.dup, 1) := by decide +kernel
theorem dX5_reelOn_13 : decode cX5_reelOn 13 = .ok (.ldc 205, 2) := by decide +kernel
theorem dX5_reelOn_15 : decode cX5_reelOn 15 = .ok (.invokespecial 75, 3) := by decide +kernel
theorem dX5_reelOn_18 : decode cX5_reelOn 18 = .ok (.athrow, 1) := by decide +kernel
theorem dX5_reelOn_19 : decode cX5_reelOn 19 = .ok (.aload_n 0, 1) := by decide +kernel
theorem dX5_reelOn_20 : decode cX5_reelOn 20 = .ok (.getfield 10, 3) := by decide +kernel
theorem dX5_reelOn_23 : decode cX5_reelOn 23 = .ok (.getfield 96, 3) := by decide +kernel
theorem dX5_reelOn_26 : decode cX5_reelOn 26 = .ok (.iload_n 1, 1) := by decide +kernel
theorem dX5_reelOn_27 : decode cX5_reelOn 27 = .ok (.invokevirtual 207, 3) := by decide +kernel
theorem dX5_reelOn_30 : decode cX5_reelOn 30 = .ok (.ireturn, 1) := by decide +kernel
theorem dX5_scratchReels_0 : decode cX5_scratchReels 0 = .ok (.iconst 0, 1) := by decide +kernel
theorem dX5_scratchReels_1 : decode cX5_scratchReels 1 = .ok (.istore_n 1, 1) := by decide +kernel
theorem dX5_scratchReels_2 : decode cX5_scratchReels 2 = .ok (.iconst 0, 1) := by decide +kernel
theorem dX5_scratchReels_3 : decode cX5_scratchReels 3 = .ok (.istore_n 2, 1) := by decide +kernel
theorem dX5_scratchReels_4 : decode cX5_scratchReels 4 = .ok (.iload_n 2, 1) := by decide +kernel
theorem dX5_scratchReels_5 : decode cX5_scratchReels 5 = .ok (.bipush 12, 2) := by decide +kernel
theorem dX5_scratchReels_7 : decode cX5_scratchReels 7 = .ok (.if_icmp .ge 33, 3) := by decide +kernel
theorem dX5_scratchReels_10 : decode cX5_scratchReels 10 = .ok (.aload_n 0, 1) := by decide +kernel
theorem dX5_scratchReels_11 : decode cX5_scratchReels 11 = .ok (.getfield 10, 3) := by decide +kernel
theorem dX5_scratchReels_14 : decode cX5_scratchReels 14 = .ok (.getfield 96, 3) := by decide +kernel
theorem dX5_scratchReels_17 : decode cX5_scratchReels 17 = .ok (.iload_n 2, 1) := by decide +kernel
theorem dX5_scratchReels_18 : decode cX5_scratchReels 18 = .ok (.aload_n 0, 1) := by decide +kernel
theorem dX5_scratchReels_19 : decode cX5_scratchReels 19 = .ok (.getfield 10, 3) := by decide +kernel
theorem dX5_scratchReels_22 : decode cX5_scratchReels 22 = .ok (.getfield 126, 3) := by decide +kernel
theorem dX5_scratchReels_25 : decode cX5_scratchReels 25 = .ok (.invokevirtual 200, 3) := by decide +kernel
theorem dX5_scratchReels_28 : decode cX5_scratchReels 28 = .ok (.ifCond .eq 6, 3) := by decide +kernel
theorem dX5_scratchReels_31 : decode cX5_scratchReels 31 = .ok (.iinc 1 1, 3) := by decide +kernel
theorem dX5_scratchReels_34 : decode cX5_scratchReels 34 = .ok (.iinc 2 1, 3) := by decide +kernel
theorem dX5_scratchReels_37 : decode cX5_scratchReels 37 = .ok (.goto (-33), 3) := by decide +kernel
theorem dX5_scratchReels_40 : decode cX5_scratchReels 40 = .ok (.iload_n 1, 1) := by decide +kernel
theorem dX5_scratchReels_41 : decode cX5_scratchReels 41 = .ok (.ireturn, 1) := by decide +kernel
theorem dX5_jobs_0 : decode cX5_jobs 0 = .ok (.aload_n 0, 1) := by decide +kernel
theorem dX5_jobs_1 : decode cX5_jobs 1 = .ok (.getfield 10, 3) := by decide +kernel
theorem dX5_jobs_4 : decode cX5_jobs 4 = .ok (.getfield 57, 3) := by decide +kernel
theorem dX5_jobs_7 : decode cX5_jobs 7 = .ok (.getfield 210, 3) := by decide +kernel
theorem dX5_jobs_10 : decode cX5_jobs 10 = .ok (.ireturn, 1) := by decide +kernel
theorem dX5_job_0 : decode cX5_job 0 = .ok (.aload_n 0, 1) := by decide +kernel
theorem dX5_job_1 : decode cX5_job 1 = .ok (.getfield 10, 3) := by decide +kernel
theorem dX5_job_4 : decode cX5_job 4 = .ok (.getfield 57, 3) := by decide +kernel
theorem dX5_job_7 : decode cX5_job 7 = .ok (.iload_n 1, 1) := by decide +kernel
theorem dX5_job_8 : decode cX5_job 8 = .ok (.invokevirtual 67, 3) := by decide +kernel
theorem dX5_job_11 : decode cX5_job 11 = .ok (.ifCond .ne 13, 3) := by decide +kernel
theorem dX5_job_14 : decode cX5_job 14 = .ok (.new 71, 3) := by decide +kernel
theorem dX5_job_17 : decode cX5_job 17 = .ok (.dup, 1) := by decide +kernel
theorem dX5_job_18 : decode cX5_job 18 = .ok (.ldc 73, 2) := by decide +kernel
theorem dX5_job_20 : decode cX5_job 20 = .ok (.invokespecial 75, 3) := by decide +kernel
theorem dX5_job_23 : decode cX5_job 23 = .ok (.athrow, 1) := by decide +kernel
theorem dX5_job_24 : decode cX5_job 24 = .ok (.iload_n 2, 1) := by decide +kernel
theorem dX5_job_25 : decode cX5_job 25 = .ok (.tableswitch 151 0 7 #[47, 60, 73, 86, 99, 112, 125, 138], 47) := by decide +kernel
theorem dX5_job_72 : decode cX5_job 72 = .ok (.aload_n 0, 1) := by decide +kernel
theorem dX5_job_73 : decode cX5_job 73 = .ok (.getfield 10, 3) := by decide +kernel
theorem dX5_job_76 : decode cX5_job 76 = .ok (.getfield 57, 3) := by decide +kernel
theorem dX5_job_79 : decode cX5_job 79 = .ok (.getfield 213, 3) := by decide +kernel
theorem dX5_job_82 : decode cX5_job 82 = .ok (.iload_n 1, 1) := by decide +kernel
theorem dX5_job_83 : decode cX5_job 83 = .ok (.iaload, 1) := by decide +kernel
theorem dX5_job_84 : decode cX5_job 84 = .ok (.ireturn, 1) := by decide +kernel
theorem dX5_job_85 : decode cX5_job 85 = .ok (.aload_n 0, 1) := by decide +kernel
theorem dX5_job_86 : decode cX5_job 86 = .ok (.getfield 10, 3) := by decide +kernel
theorem dX5_job_89 : decode cX5_job 89 = .ok (.getfield 57, 3) := by decide +kernel
theorem dX5_job_92 : decode cX5_job 92 = .ok (.getfield 216, 3) := by decide +kernel
theorem dX5_job_95 : decode cX5_job 95 = .ok (.iload_n 1, 1) := by decide +kernel
theorem dX5_job_96 : decode cX5_job 96 = .ok (.iaload, 1) := by decide +kernel
theorem dX5_job_97 : decode cX5_job 97 = .ok (.ireturn, 1) := by decide +kernel
theorem dX5_job_98 : decode cX5_job 98 = .ok (.aload_n 0, 1) := by decide +kernel
theorem dX5_job_99 : decode cX5_job 99 = .ok (.getfield 10, 3) := by decide +kernel
theorem dX5_job_102 : decode cX5_job 102 = .ok (.getfield 57, 3) := by decide +kernel
theorem dX5_job_105 : decode cX5_job 105 = .ok (.getfield 219, 3) := by decide +kernel
theorem dX5_job_108 : decode cX5_job 108 = .ok (.iload_n 1, 1) := by decide +kernel
theorem dX5_job_109 : decode cX5_job 109 = .ok (.iaload, 1) := by decide +kernel
theorem dX5_job_110 : decode cX5_job 110 = .ok (.ireturn, 1) := by decide +kernel
theorem dX5_job_111 : decode cX5_job 111 = .ok (.aload_n 0, 1) := by decide +kernel
theorem dX5_job_112 : decode cX5_job 112 = .ok (.getfield 10, 3) := by decide +kernel
theorem dX5_job_115 : decode cX5_job 115 = .ok (.getfield 57, 3) := by decide +kernel
theorem dX5_job_118 : decode cX5_job 118 = .ok (.getfield 221, 3) := by decide +kernel
theorem dX5_job_121 : decode cX5_job 121 = .ok (.iload_n 1, 1) := by decide +kernel
theorem dX5_job_122 : decode cX5_job 122 = .ok (.iaload, 1) := by decide +kernel
theorem dX5_job_123 : decode cX5_job 123 = .ok (.ireturn, 1) := by decide +kernel
theorem dX5_job_124 : decode cX5_job 124 = .ok (.aload_n 0, 1) := by decide +kernel
theorem dX5_job_125 : decode cX5_job 125 = .ok (.getfield 10, 3) := by decide +kernel
theorem dX5_job_128 : decode cX5_job 128 = .ok (.getfield 57, 3) := by decide +kernel
theorem dX5_job_131 : decode cX5_job 131 = .ok (.getfield 76, 3) := by decide +kernel
theorem dX5_job_134 : decode cX5_job 134 = .ok (.iload_n 1, 1) := by decide +kernel
theorem dX5_job_135 : decode cX5_job 135 = .ok (.iaload, 1) := by decide +kernel
theorem dX5_job_136 : decode cX5_job 136 = .ok (.ireturn, 1) := by decide +kernel
theorem dX5_job_137 : decode cX5_job 137 = .ok (.aload_n 0, 1) := by decide +kernel
theorem dX5_job_138 : decode cX5_job 138 = .ok (.getfield 10, 3) := by decide +kernel
theorem dX5_job_141 : decode cX5_job 141 = .ok (.getfield 57, 3) := by decide +kernel
theorem dX5_job_144 : decode cX5_job 144 = .ok (.getfield 86, 3) := by decide +kernel
theorem dX5_job_147 : decode cX5_job 147 = .ok (.iload_n 1, 1) := by decide +kernel
theorem dX5_job_148 : decode cX5_job 148 = .ok (.iaload, 1) := by decide +kernel
theorem dX5_job_149 : decode cX5_job 149 = .ok (.ireturn, 1) := by decide +kernel
theorem dX5_job_150 : decode cX5_job 150 = .ok (.aload_n 0, 1) := by decide +kernel
theorem dX5_job_151 : decode cX5_job 151 = .ok (.getfield 10, 3) := by decide +kernel
theorem dX5_job_154 : decode cX5_job 154 = .ok (.getfield 57, 3) := by decide +kernel
theorem dX5_job_157 : decode cX5_job 157 = .ok (.getfield 224, 3) := by decide +kernel
theorem dX5_job_160 : decode cX5_job 160 = .ok (.iload_n 1, 1) := by decide +kernel
theorem dX5_job_161 : decode cX5_job 161 = .ok (.iaload, 1) := by decide +kernel
theorem dX5_job_162 : decode cX5_job 162 = .ok (.ireturn, 1) := by decide +kernel
theorem dX5_job_163 : decode cX5_job 163 = .ok (.aload_n 0, 1) := by decide +kernel
theorem dX5_job_164 : decode cX5_job 164 = .ok (.getfield 10, 3) := by decide +kernel
theorem dX5_job_167 : decode cX5_job 167 = .ok (.getfield 57, 3) := by decide +kernel
theorem dX5_job_170 : decode cX5_job 170 = .ok (.getfield 227, 3) := by decide +kernel
theorem dX5_job_173 : decode cX5_job 173 = .ok (.iload_n 1, 1) := by decide +kernel
theorem dX5_job_174 : decode cX5_job 174 = .ok (.iaload, 1) := by decide +kernel
theorem dX5_job_175 : decode cX5_job 175 = .ok (.ireturn, 1) := by decide +kernel
theorem dX5_job_176 : decode cX5_job 176 = .ok (.new 37, 3) := by decide +kernel
theorem dX5_job_179 : decode cX5_job 179 = .ok (.dup, 1) := by decide +kernel
theorem dX5_job_180 : decode cX5_job 180 = .ok (.ldc 230, 2) := by decide +kernel
theorem dX5_job_182 : decode cX5_job 182 = .ok (.invokespecial 41, 3) := by decide +kernel
theorem dX5_job_185 : decode cX5_job 185 = .ok (.athrow, 1) := by decide +kernel
theorem dX5_isStuck_0 : decode cX5_isStuck 0 = .ok (.aload_n 0, 1) := by decide +kernel
theorem dX5_isStuck_1 : decode cX5_isStuck 1 = .ok (.getfield 10, 3) := by decide +kernel
theorem dX5_isStuck_4 : decode cX5_isStuck 4 = .ok (.getfield 57, 3) := by decide +kernel
theorem dX5_isStuck_7 : decode cX5_isStuck 7 = .ok (.iload_n 1, 1) := by decide +kernel
theorem dX5_isStuck_8 : decode cX5_isStuck 8 = .ok (.invokevirtual 67, 3) := by decide +kernel
theorem dX5_isStuck_11 : decode cX5_isStuck 11 = .ok (.ifCond .ne 13, 3) := by decide +kernel
theorem dX5_isStuck_14 : decode cX5_isStuck 14 = .ok (.new 71, 3) := by decide +kernel
theorem dX5_isStuck_17 : decode cX5_isStuck 17 = .ok (.dup, 1) := by decide +kernel
theorem dX5_isStuck_18 : decode cX5_isStuck 18 = .ok (.ldc 73, 2) := by decide +kernel
theorem dX5_isStuck_20 : decode cX5_isStuck 20 = .ok (.invokespecial 75, 3) := by decide +kernel
theorem dX5_isStuck_23 : decode cX5_isStuck 23 = .ok (.athrow, 1) := by decide +kernel
theorem dX5_isStuck_24 : decode cX5_isStuck 24 = .ok (.aload_n 0, 1) := by decide +kernel
theorem dX5_isStuck_25 : decode cX5_isStuck 25 = .ok (.getfield 10, 3) := by decide +kernel
theorem dX5_isStuck_28 : decode cX5_isStuck 28 = .ok (.getfield 57, 3) := by decide +kernel
theorem dX5_isStuck_31 : decode cX5_isStuck 31 = .ok (.getfield 76, 3) := by decide +kernel
theorem dX5_isStuck_34 : decode cX5_isStuck 34 = .ok (.iload_n 1, 1) := by decide +kernel
theorem dX5_isStuck_35 : decode cX5_isStuck 35 = .ok (.iaload, 1) := by decide +kernel
theorem dX5_isStuck_36 : decode cX5_isStuck 36 = .ok (.ifCond .ne 18, 3) := by decide +kernel
theorem dX5_isStuck_39 : decode cX5_isStuck 39 = .ok (.aload_n 0, 1) := by decide +kernel
theorem dX5_isStuck_40 : decode cX5_isStuck 40 = .ok (.getfield 10, 3) := by decide +kernel
theorem dX5_isStuck_43 : decode cX5_isStuck 43 = .ok (.iload_n 1, 1) := by decide +kernel
theorem dX5_isStuck_44 : decode cX5_isStuck 44 = .ok (.invokevirtual 232, 3) := by decide +kernel
theorem dX5_isStuck_47 : decode cX5_isStuck 47 = .ok (.ifCond .eq 7, 3) := by decide +kernel
theorem dX5_isStuck_50 : decode cX5_isStuck 50 = .ok (.iconst 1, 1) := by decide +kernel
theorem dX5_isStuck_51 : decode cX5_isStuck 51 = .ok (.goto 4, 3) := by decide +kernel
theorem dX5_isStuck_54 : decode cX5_isStuck 54 = .ok (.iconst 0, 1) := by decide +kernel
theorem dX5_isStuck_55 : decode cX5_isStuck 55 = .ok (.ireturn, 1) := by decide +kernel
theorem dX5_verdict_0 : decode cX5_verdict 0 = .ok (.aload_n 0, 1) := by decide +kernel
theorem dX5_verdict_1 : decode cX5_verdict 1 = .ok (.getfield 10, 3) := by decide +kernel
theorem dX5_verdict_4 : decode cX5_verdict 4 = .ok (.getfield 57, 3) := by decide +kernel
theorem dX5_verdict_7 : decode cX5_verdict 7 = .ok (.iload_n 1, 1) := by decide +kernel
theorem dX5_verdict_8 : decode cX5_verdict 8 = .ok (.invokevirtual 67, 3) := by decide +kernel
theorem dX5_verdict_11 : decode cX5_verdict 11 = .ok (.ifCond .eq 10, 3) := by decide +kernel
theorem dX5_verdict_14 : decode cX5_verdict 14 = .ok (.iload_n 2, 1) := by decide +kernel
theorem dX5_verdict_15 : decode cX5_verdict 15 = .ok (.invokestatic 89, 3) := by decide +kernel
theorem dX5_verdict_18 : decode cX5_verdict 18 = .ok (.ifCond .ne 13, 3) := by decide +kernel
theorem dX5_verdict_21 : decode cX5_verdict 21 = .ok (.new 71, 3) := by decide +kernel
theorem dX5_verdict_24 : decode cX5_verdict 24 = .ok (.dup, 1) := by decide +kernel
theorem dX5_verdict_25 : decode cX5_verdict 25 = .ok (.ldc 235, 2) := by decide +kernel
theorem dX5_verdict_27 : decode cX5_verdict 27 = .ok (.invokespecial 75, 3) := by decide +kernel
theorem dX5_verdict_30 : decode cX5_verdict 30 = .ok (.athrow, 1) := by decide +kernel
theorem dX5_verdict_31 : decode cX5_verdict 31 = .ok (.aload_n 0, 1) := by decide +kernel
theorem dX5_verdict_32 : decode cX5_verdict 32 = .ok (.getfield 10, 3) := by decide +kernel
theorem dX5_verdict_35 : decode cX5_verdict 35 = .ok (.iload_n 1, 1) := by decide +kernel
theorem dX5_verdict_36 : decode cX5_verdict 36 = .ok (.iload_n 2, 1) := by decide +kernel
theorem dX5_verdict_37 : decode cX5_verdict 37 = .ok (.invokevirtual 237, 3) := by decide +kernel
theorem dX5_verdict_40 : decode cX5_verdict 40 = .ok (.ireturn, 1) := by decide +kernel
theorem dX5_nextJob_0 : decode cX5_nextJob 0 = .ok (.aload_n 0, 1) := by decide +kernel
theorem dX5_nextJob_1 : decode cX5_nextJob 1 = .ok (.getfield 10, 3) := by decide +kernel
theorem dX5_nextJob_4 : decode cX5_nextJob 4 = .ok (.invokevirtual 241, 3) := by decide +kernel
theorem dX5_nextJob_7 : decode cX5_nextJob 7 = .ok (.ireturn, 1) := by decide +kernel
theorem dX5_nextReel_0 : decode cX5_nextReel 0 = .ok (.aload_n 0, 1) := by decide +kernel
theorem dX5_nextReel_1 : decode cX5_nextReel 1 = .ok (.getfield 10, 3) := by decide +kernel
theorem dX5_nextReel_4 : decode cX5_nextReel 4 = .ok (.invokevirtual 241, 3) := by decide +kernel
theorem dX5_nextReel_7 : decode cX5_nextReel 7 = .ok (.istore_n 1, 1) := by decide +kernel
theorem dX5_nextReel_8 : decode cX5_nextReel 8 = .ok (.iload_n 1, 1) := by decide +kernel
theorem dX5_nextReel_9 : decode cX5_nextReel 9 = .ok (.iconst (-1), 1) := by decide +kernel
theorem dX5_nextReel_10 : decode cX5_nextReel 10 = .ok (.if_icmp .ne 7, 3) := by decide +kernel
theorem dX5_nextReel_13 : decode cX5_nextReel 13 = .ok (.iconst (-1), 1) := by decide +kernel
theorem dX5_nextReel_14 : decode cX5_nextReel 14 = .ok (.goto 27, 3) := by decide +kernel
theorem dX5_nextReel_17 : decode cX5_nextReel 17 = .ok (.aload_n 0, 1) := by decide +kernel
theorem dX5_nextReel_18 : decode cX5_nextReel 18 = .ok (.getfield 10, 3) := by decide +kernel
theorem dX5_nextReel_21 : decode cX5_nextReel 21 = .ok (.iload_n 1, 1) := by decide +kernel
theorem dX5_nextReel_22 : decode cX5_nextReel 22 = .ok (.aload_n 0, 1) := by decide +kernel
theorem dX5_nextReel_23 : decode cX5_nextReel 23 = .ok (.getfield 10, 3) := by decide +kernel
theorem dX5_nextReel_26 : decode cX5_nextReel 26 = .ok (.aload_n 0, 1) := by decide +kernel
theorem dX5_nextReel_27 : decode cX5_nextReel 27 = .ok (.getfield 10, 3) := by decide +kernel
theorem dX5_nextReel_30 : decode cX5_nextReel 30 = .ok (.getfield 244, 3) := by decide +kernel
theorem dX5_nextReel_33 : decode cX5_nextReel 33 = .ok (.iconst 1, 1) := by decide +kernel
theorem dX5_nextReel_34 : decode cX5_nextReel 34 = .ok (.iadd, 1) := by decide +kernel
theorem dX5_nextReel_35 : decode cX5_nextReel 35 = .ok (.invokevirtual 247, 3) := by decide +kernel
theorem dX5_nextReel_38 : decode cX5_nextReel 38 = .ok (.invokevirtual 250, 3) := by decide +kernel
theorem dX5_nextReel_41 : decode cX5_nextReel 41 = .ok (.ireturn, 1) := by decide +kernel
theorem dX5_minutesToDone_0 : decode cX5_minutesToDone 0 = .ok (.aload_n 0, 1) := by decide +kernel
theorem dX5_minutesToDone_1 : decode cX5_minutesToDone 1 = .ok (.getfield 10, 3) := by decide +kernel
theorem dX5_minutesToDone_4 : decode cX5_minutesToDone 4 = .ok (.getfield 57, 3) := by decide +kernel
theorem dX5_minutesToDone_7 : decode cX5_minutesToDone 7 = .ok (.iload_n 1, 1) := by decide +kernel
theorem dX5_minutesToDone_8 : decode cX5_minutesToDone 8 = .ok (.invokevirtual 67, 3) := by decide +kernel
theorem dX5_minutesToDone_11 : decode cX5_minutesToDone 11 = .ok (.ifCond .ne 13, 3) := by decide +kernel
theorem dX5_minutesToDone_14 : decode cX5_minutesToDone 14 = .ok (.new 71, 3) := by decide +kernel
theorem dX5_minutesToDone_17 : decode cX5_minutesToDone 17 = .ok (.dup, 1) := by decide +kernel
theorem dX5_minutesToDone_18 : decode cX5_minutesToDone 18 = .ok (.ldc 73, 2) := by decide +kernel
theorem dX5_minutesToDone_20 : decode cX5_minutesToDone 20 = .ok (.invokespecial 75, 3) := by decide +kernel
theorem dX5_minutesToDone_23 : decode cX5_minutesToDone 23 = .ok (.athrow, 1) := by decide +kernel
theorem dX5_minutesToDone_24 : decode cX5_minutesToDone 24 = .ok (.aload_n 0, 1) := by decide +kernel
theorem dX5_minutesToDone_25 : decode cX5_minutesToDone 25 = .ok (.getfield 10, 3) := by decide +kernel
theorem dX5_minutesToDone_28 : decode cX5_minutesToDone 28 = .ok (.getfield 57, 3) := by decide +kernel
theorem dX5_minutesToDone_31 : decode cX5_minutesToDone 31 = .ok (.getfield 76, 3) := by decide +kernel
theorem dX5_minutesToDone_34 : decode cX5_minutesToDone 34 = .ok (.iload_n 1, 1) := by decide +kernel
theorem dX5_minutesToDone_35 : decode cX5_minutesToDone 35 = .ok (.iaload, 1) := by decide +kernel
theorem dX5_minutesToDone_36 : decode cX5_minutesToDone 36 = .ok (.iconst 2, 1) := by decide +kernel
theorem dX5_minutesToDone_37 : decode cX5_minutesToDone 37 = .ok (.if_icmp .ne 5, 3) := by decide +kernel
theorem dX5_minutesToDone_40 : decode cX5_minutesToDone 40 = .ok (.iconst 0, 1) := by decide +kernel
theorem dX5_minutesToDone_41 : decode cX5_minutesToDone 41 = .ok (.ireturn, 1) := by decide +kernel
theorem dX5_minutesToDone_42 : decode cX5_minutesToDone 42 = .ok (.aload_n 0, 1) := by decide +kernel
theorem dX5_minutesToDone_43 : decode cX5_minutesToDone 43 = .ok (.getfield 10, 3) := by decide +kernel
theorem dX5_minutesToDone_46 : decode cX5_minutesToDone 46 = .ok (.getfield 57, 3) := by decide +kernel
theorem dX5_minutesToDone_49 : decode cX5_minutesToDone 49 = .ok (.getfield 76, 3) := by decide +kernel
theorem dX5_minutesToDone_52 : decode cX5_minutesToDone 52 = .ok (.iload_n 1, 1) := by decide +kernel
theorem dX5_minutesToDone_53 : decode cX5_minutesToDone 53 = .ok (.iaload, 1) := by decide +kernel
theorem dX5_minutesToDone_54 : decode cX5_minutesToDone 54 = .ok (.iconst 3, 1) := by decide +kernel
theorem dX5_minutesToDone_55 : decode cX5_minutesToDone 55 = .ok (.if_icmp .ne 5, 3) := by decide +kernel
theorem dX5_minutesToDone_58 : decode cX5_minutesToDone 58 = .ok (.iconst (-1), 1) := by decide +kernel
theorem dX5_minutesToDone_59 : decode cX5_minutesToDone 59 = .ok (.ireturn, 1) := by decide +kernel
theorem dX5_minutesToDone_60 : decode cX5_minutesToDone 60 = .ok (.aload_n 0, 1) := by decide +kernel
theorem dX5_minutesToDone_61 : decode cX5_minutesToDone 61 = .ok (.getfield 16, 3) := by decide +kernel
theorem dX5_minutesToDone_64 : decode cX5_minutesToDone 64 = .ok (.aload_n 0, 1) := by decide +kernel
theorem dX5_minutesToDone_65 : decode cX5_minutesToDone 65 = .ok (.getfield 10, 3) := by decide +kernel
theorem dX5_minutesToDone_68 : decode cX5_minutesToDone 68 = .ok (.invokevirtual 254, 3) := by decide +kernel
theorem dX5_minutesToDone_71 : decode cX5_minutesToDone 71 = .ok (.iconst 1, 1) := by decide +kernel
theorem dX5_minutesToDone_72 : decode cX5_minutesToDone 72 = .ok (.istore_n 2, 1) := by decide +kernel
theorem dX5_minutesToDone_73 : decode cX5_minutesToDone 73 = .ok (.iload_n 2, 1) := by decide +kernel
theorem dX5_minutesToDone_74 : decode cX5_minutesToDone 74 = .ok (.sipush 300, 3) := by decide +kernel
theorem dX5_minutesToDone_77 : decode cX5_minutesToDone 77 = .ok (.if_icmp .gt 35, 3) := by decide +kernel
theorem dX5_minutesToDone_80 : decode cX5_minutesToDone 80 = .ok (.aload_n 0, 1) := by decide +kernel
theorem dX5_minutesToDone_81 : decode cX5_minutesToDone 81 = .ok (.getfield 16, 3) := by decide +kernel
theorem dX5_minutesToDone_84 : decode cX5_minutesToDone 84 = .ok (.invokevirtual 257, 3) := by decide +kernel
theorem dX5_minutesToDone_87 : decode cX5_minutesToDone 87 = .ok (.pop, 1) := by decide +kernel
theorem dX5_minutesToDone_88 : decode cX5_minutesToDone 88 = .ok (.aload_n 0, 1) := by decide +kernel
theorem dX5_minutesToDone_89 : decode cX5_minutesToDone 89 = .ok (.getfield 16, 3) := by decide +kernel
theorem dX5_minutesToDone_92 : decode cX5_minutesToDone 92 = .ok (.getfield 57, 3) := by decide +kernel
theorem dX5_minutesToDone_95 : decode cX5_minutesToDone 95 = .ok (.getfield 76, 3) := by decide +kernel
theorem dX5_minutesToDone_98 : decode cX5_minutesToDone 98 = .ok (.iload_n 1, 1) := by decide +kernel
theorem dX5_minutesToDone_99 : decode cX5_minutesToDone 99 = .ok (.iaload, 1) := by decide +kernel
theorem dX5_minutesToDone_100 : decode cX5_minutesToDone 100 = .ok (.iconst 2, 1) := by decide +kernel
theorem dX5_minutesToDone_101 : decode cX5_minutesToDone 101 = .ok (.if_icmp .ne 5, 3) := by decide +kernel
theorem dX5_minutesToDone_104 : decode cX5_minutesToDone 104 = .ok (.iload_n 2, 1) := by decide +kernel
theorem dX5_minutesToDone_105 : decode cX5_minutesToDone 105 = .ok (.ireturn, 1) := by decide +kernel
theorem dX5_minutesToDone_106 : decode cX5_minutesToDone 106 = .ok (.iinc 2 1, 3) := by decide +kernel
theorem dX5_minutesToDone_109 : decode cX5_minutesToDone 109 = .ok (.goto (-36), 3) := by decide +kernel
theorem dX5_minutesToDone_112 : decode cX5_minutesToDone 112 = .ok (.iconst (-1), 1) := by decide +kernel
theorem dX5_minutesToDone_113 : decode cX5_minutesToDone 113 = .ok (.ireturn, 1) := by decide +kernel
theorem dX5_count_0 : decode cX5_count 0 = .ok (.iload_n 1, 1) := by decide +kernel
theorem dX5_count_1 : decode cX5_count 1 = .ok (.tableswitch 159 0 10 #[59, 67, 75, 83, 91, 99, 107, 115, 123, 135, 147], 59) := by decide +kernel
theorem dX5_count_60 : decode cX5_count 60 = .ok (.aload_n 0, 1) := by decide +kernel
theorem dX5_count_61 : decode cX5_count 61 = .ok (.getfield 10, 3) := by decide +kernel
theorem dX5_count_64 : decode cX5_count 64 = .ok (.getfield 126, 3) := by decide +kernel
theorem dX5_count_67 : decode cX5_count 67 = .ok (.ireturn, 1) := by decide +kernel
theorem dX5_count_68 : decode cX5_count 68 = .ok (.aload_n 0, 1) := by decide +kernel
theorem dX5_count_69 : decode cX5_count 69 = .ok (.getfield 10, 3) := by decide +kernel
theorem dX5_count_72 : decode cX5_count 72 = .ok (.getfield 260, 3) := by decide +kernel
theorem dX5_count_75 : decode cX5_count 75 = .ok (.ireturn, 1) := by decide +kernel
theorem dX5_count_76 : decode cX5_count 76 = .ok (.aload_n 0, 1) := by decide +kernel
theorem dX5_count_77 : decode cX5_count 77 = .ok (.getfield 10, 3) := by decide +kernel
theorem dX5_count_80 : decode cX5_count 80 = .ok (.getfield 244, 3) := by decide +kernel
theorem dX5_count_83 : decode cX5_count 83 = .ok (.ireturn, 1) := by decide +kernel
theorem dX5_count_84 : decode cX5_count 84 = .ok (.aload_n 0, 1) := by decide +kernel
theorem dX5_count_85 : decode cX5_count 85 = .ok (.getfield 10, 3) := by decide +kernel
theorem dX5_count_88 : decode cX5_count 88 = .ok (.getfield 261, 3) := by decide +kernel
theorem dX5_count_91 : decode cX5_count 91 = .ok (.ireturn, 1) := by decide +kernel
theorem dX5_count_92 : decode cX5_count 92 = .ok (.aload_n 0, 1) := by decide +kernel
theorem dX5_count_93 : decode cX5_count 93 = .ok (.getfield 10, 3) := by decide +kernel
theorem dX5_count_96 : decode cX5_count 96 = .ok (.getfield 264, 3) := by decide +kernel
theorem dX5_count_99 : decode cX5_count 99 = .ok (.ireturn, 1) := by decide +kernel
theorem dX5_count_100 : decode cX5_count 100 = .ok (.aload_n 0, 1) := by decide +kernel
theorem dX5_count_101 : decode cX5_count 101 = .ok (.getfield 10, 3) := by decide +kernel
theorem dX5_count_104 : decode cX5_count 104 = .ok (.getfield 266, 3) := by decide +kernel
theorem dX5_count_107 : decode cX5_count 107 = .ok (.ireturn, 1) := by decide +kernel
theorem dX5_count_108 : decode cX5_count 108 = .ok (.aload_n 0, 1) := by decide +kernel
theorem dX5_count_109 : decode cX5_count 109 = .ok (.getfield 10, 3) := by decide +kernel
theorem dX5_count_112 : decode cX5_count 112 = .ok (.getfield 269, 3) := by decide +kernel
theorem dX5_count_115 : decode cX5_count 115 = .ok (.ireturn, 1) := by decide +kernel
theorem dX5_count_116 : decode cX5_count 116 = .ok (.aload_n 0, 1) := by decide +kernel
theorem dX5_count_117 : decode cX5_count 117 = .ok (.getfield 10, 3) := by decide +kernel
theorem dX5_count_120 : decode cX5_count 120 = .ok (.getfield 272, 3) := by decide +kernel
theorem dX5_count_123 : decode cX5_count 123 = .ok (.ireturn, 1) := by decide +kernel
theorem dX5_count_124 : decode cX5_count 124 = .ok (.aload_n 0, 1) := by decide +kernel
theorem dX5_count_125 : decode cX5_count 125 = .ok (.getfield 10, 3) := by decide +kernel
theorem dX5_count_128 : decode cX5_count 128 = .ok (.getfield 57, 3) := by decide +kernel
theorem dX5_count_131 : decode cX5_count 131 = .ok (.iconst 0, 1) := by decide +kernel
theorem dX5_count_132 : decode cX5_count 132 = .ok (.invokevirtual 275, 3) := by decide +kernel
theorem dX5_count_135 : decode cX5_count 135 = .ok (.ireturn, 1) := by decide +kernel
theorem dX5_count_136 : decode cX5_count 136 = .ok (.aload_n 0, 1) := by decide +kernel
theorem dX5_count_137 : decode cX5_count 137 = .ok (.getfield 10, 3) := by decide +kernel
theorem dX5_count_140 : decode cX5_count 140 = .ok (.getfield 57, 3) := by decide +kernel
theorem dX5_count_143 : decode cX5_count 143 = .ok (.iconst 1, 1) := by decide +kernel
theorem dX5_count_144 : decode cX5_count 144 = .ok (.invokevirtual 275, 3) := by decide +kernel
theorem dX5_count_147 : decode cX5_count 147 = .ok (.ireturn, 1) := by decide +kernel
theorem dX5_count_148 : decode cX5_count 148 = .ok (.aload_n 0, 1) := by decide +kernel
theorem dX5_count_149 : decode cX5_count 149 = .ok (.getfield 10, 3) := by decide +kernel
theorem dX5_count_152 : decode cX5_count 152 = .ok (.getfield 57, 3) := by decide +kernel
theorem dX5_count_155 : decode cX5_count 155 = .ok (.iconst 2, 1) := by decide +kernel
theorem dX5_count_156 : decode cX5_count 156 = .ok (.invokevirtual 275, 3) := by decide +kernel
theorem dX5_count_159 : decode cX5_count 159 = .ok (.ireturn, 1) := by decide +kernel
theorem dX5_count_160 : decode cX5_count 160 = .ok (.new 37, 3) := by decide +kernel
theorem dX5_count_163 : decode cX5_count 163 = .ok (.dup, 1) := by decide +kernel
theorem dX5_count_164 : decode cX5_count 164 = .ok (.ldc_w 278, 3) := by decide +kernel
theorem dX5_count_167 : decode cX5_count 167 = .ok (.invokespecial 41, 3) := by decide +kernel
theorem dX5_count_170 : decode cX5_count 170 = .ok (.athrow, 1) := by decide +kernel
theorem dX5_success_0 : decode cX5_success 0 = .ok (.aload_n 0, 1) := by decide +kernel
theorem dX5_success_1 : decode cX5_success 1 = .ok (.getfield 10, 3) := by decide +kernel
theorem dX5_success_4 : decode cX5_success 4 = .ok (.getfield 244, 3) := by decide +kernel
theorem dX5_success_7 : decode cX5_success 7 = .ok (.ifCond .ne 5, 3) := by decide +kernel
theorem dX5_success_10 : decode cX5_success 10 = .ok (.dconst 1, 1) := by decide +kernel
theorem dX5_success_11 : decode cX5_success 11 = .ok (.dreturn, 1) := by decide +kernel
theorem dX5_success_12 : decode cX5_success 12 = .ok (.aload_n 0, 1) := by decide +kernel
theorem dX5_success_13 : decode cX5_success 13 = .ok (.getfield 10, 3) := by decide +kernel
theorem dX5_success_16 : decode cX5_success 16 = .ok (.getfield 244, 3) := by decide +kernel
theorem dX5_success_19 : decode cX5_success 19 = .ok (.aload_n 0, 1) := by decide +kernel
theorem dX5_success_20 : decode cX5_success 20 = .ok (.getfield 10, 3) := by decide +kernel
theorem dX5_success_23 : decode cX5_success 23 = .ok (.getfield 264, 3) := by decide +kernel
theorem dX5_success_26 : decode cX5_success 26 = .ok (.isub, 1) := by decide +kernel
theorem dX5_success_27 : decode cX5_success 27 = .ok (.i2d, 1) := by decide +kernel
theorem dX5_success_28 : decode cX5_success 28 = .ok (.aload_n 0, 1) := by decide +kernel
theorem dX5_success_29 : decode cX5_success 29 = .ok (.getfield 10, 3) := by decide +kernel
theorem dX5_success_32 : decode cX5_success 32 = .ok (.getfield 244, 3) := by decide +kernel
theorem dX5_success_35 : decode cX5_success 35 = .ok (.i2d, 1) := by decide +kernel
theorem dX5_success_36 : decode cX5_success 36 = .ok (.ddiv, 1) := by decide +kernel
theorem dX5_success_37 : decode cX5_success 37 = .ok (.dreturn, 1) := by decide +kernel
theorem dX5_savedStates_0 : decode cX5_savedStates 0 = .ok (.aload_n 0, 1) := by decide +kernel
theorem dX5_savedStates_1 : decode cX5_savedStates 1 = .ok (.getfield 22, 3) := by decide +kernel
theorem dX5_savedStates_4 : decode cX5_savedStates 4 = .ok (.getfield 185, 3) := by decide +kernel
theorem dX5_savedStates_7 : decode cX5_savedStates 7 = .ok (.ireturn, 1) := by decide +kernel
theorem dX5_textLength_0 : decode cX5_textLength 0 = .ok (.aload_n 0, 1) := by decide +kernel
theorem dX5_textLength_1 : decode cX5_textLength 1 = .ok (.getfield 29, 3) := by decide +kernel
theorem dX5_textLength_4 : decode cX5_textLength 4 = .ok (.getfield 142, 3) := by decide +kernel
theorem dX5_textLength_7 : decode cX5_textLength 7 = .ok (.ireturn, 1) := by decide +kernel
theorem dX5_isWithin_0 : decode cX5_isWithin 0 = .ok (.iload_n 0, 1) := by decide +kernel
theorem dX5_isWithin_1 : decode cX5_isWithin 1 = .ok (.iload_n 1, 1) := by decide +kernel
theorem dX5_isWithin_2 : decode cX5_isWithin 2 = .ok (.if_icmp .lt 12, 3) := by decide +kernel
theorem dX5_isWithin_5 : decode cX5_isWithin 5 = .ok (.iload_n 0, 1) := by decide +kernel
theorem dX5_isWithin_6 : decode cX5_isWithin 6 = .ok (.iload_n 2, 1) := by decide +kernel
theorem dX5_isWithin_7 : decode cX5_isWithin 7 = .ok (.if_icmp .gt 7, 3) := by decide +kernel
theorem dX5_isWithin_10 : decode cX5_isWithin 10 = .ok (.iconst 1, 1) := by decide +kernel
theorem dX5_isWithin_11 : decode cX5_isWithin 11 = .ok (.goto 4, 3) := by decide +kernel
theorem dX5_isWithin_14 : decode cX5_isWithin 14 = .ok (.iconst 0, 1) := by decide +kernel
theorem dX5_isWithin_15 : decode cX5_isWithin 15 = .ok (.ireturn, 1) := by decide +kernel
theorem dX5_isReel_0 : decode cX5_isReel 0 = .ok (.iload_n 0, 1) := by decide +kernel
theorem dX5_isReel_1 : decode cX5_isReel 1 = .ok (.iconst 0, 1) := by decide +kernel
theorem dX5_isReel_2 : decode cX5_isReel 2 = .ok (.bipush 11, 2) := by decide +kernel
theorem dX5_isReel_4 : decode cX5_isReel 4 = .ok (.invokestatic 33, 3) := by decide +kernel
theorem dX5_isReel_7 : decode cX5_isReel 7 = .ok (.ireturn, 1) := by decide +kernel
theorem dX6_init_0 : decode cX6_init 0 = .ok (.aload_n 0, 1) := by decide +kernel
theorem dX6_init_1 : decode cX6_init 1 = .ok (.invokespecial 1, 3) := by decide +kernel
theorem dX6_init_4 : decode cX6_init 4 = .ok (.aload_n 0, 1) := by decide +kernel
theorem dX6_init_5 : decode cX6_init 5 = .ok (.sipush 179, 3) := by decide +kernel
theorem dX6_init_8 : decode cX6_init 8 = .ok (.newarray .int, 2) := by decide +kernel
theorem dX6_init_10 : decode cX6_init 10 = .ok (.putfield 7, 3) := by decide +kernel
theorem dX6_init_13 : decode cX6_init 13 = .ok (.aload_n 0, 1) := by decide +kernel
theorem dX6_init_14 : decode cX6_init 14 = .ok (.sipush 1074, 3) := by decide +kernel
theorem dX6_init_17 : decode cX6_init 17 = .ok (.newarray .int, 2) := by decide +kernel
theorem dX6_init_19 : decode cX6_init 19 = .ok (.putfield 13, 3) := by decide +kernel
theorem dX6_init_22 : decode cX6_init 22 = .ok (.aload_n 0, 1) := by decide +kernel
theorem dX6_init_23 : decode cX6_init 23 = .ok (.sipush 179, 3) := by decide +kernel
theorem dX6_init_26 : decode cX6_init 26 = .ok (.newarray .int, 2) := by decide +kernel
theorem dX6_init_28 : decode cX6_init 28 = .ok (.putfield 16, 3) := by decide +kernel
theorem dX6_init_31 : decode cX6_init 31 = .ok (.aload_n 0, 1) := by decide +kernel
theorem dX6_init_32 : decode cX6_init 32 = .ok (.bipush 80, 2) := by decide +kernel
theorem dX6_init_34 : decode cX6_init 34 = .ok (.newarray .int, 2) := by decide +kernel
theorem dX6_init_36 : decode cX6_init 36 = .ok (.putfield 19, 3) := by decide +kernel
theorem dX6_init_39 : decode cX6_init 39 = .ok (.aload_n 0, 1) := by decide +kernel
theorem dX6_init_40 : decode cX6_init 40 = .ok (.bipush 48, 2) := by decide +kernel
theorem dX6_init_42 : decode cX6_init 42 = .ok (.newarray .int, 2) := by decide +kernel
theorem dX6_init_44 : decode cX6_init 44 = .ok (.putfield 22, 3) := by decide +kernel
theorem dX6_init_47 : decode cX6_init 47 = .ok (.aload_n 0, 1) := by decide +kernel
theorem dX6_init_48 : decode cX6_init 48 = .ok (.bipush 48, 2) := by decide +kernel
theorem dX6_init_50 : decode cX6_init 50 = .ok (.newarray .int, 2) := by decide +kernel
theorem dX6_init_52 : decode cX6_init 52 = .ok (.putfield 25, 3) := by decide +kernel
theorem dX6_init_55 : decode cX6_init 55 = .ok (.aload_n 0, 1) := by decide +kernel
theorem dX6_init_56 : decode cX6_init 56 = .ok (.bipush 48, 2) := by decide +kernel
theorem dX6_init_58 : decode cX6_init 58 = .ok (.newarray .int, 2) := by decide +kernel
theorem dX6_init_60 : decode cX6_init 60 = .ok (.putfield 28, 3) := by decide +kernel
theorem dX6_init_63 : decode cX6_init 63 = .ok (.aload_n 0, 1) := by decide +kernel
theorem dX6_init_64 : decode cX6_init 64 = .ok (.bipush 48, 2) := by decide +kernel
theorem dX6_init_66 : decode cX6_init 66 = .ok (.newarray .int, 2) := by decide +kernel
theorem dX6_init_68 : decode cX6_init 68 = .ok (.putfield 31, 3) := by decide +kernel
theorem dX6_init_71 : decode cX6_init 71 = .ok (.aload_n 0, 1) := by decide +kernel
theorem dX6_init_72 : decode cX6_init 72 = .ok (.getfield 7, 3) := by decide +kernel
theorem dX6_init_75 : decode cX6_init 75 = .ok (.bipush 9, 2) := by decide +kernel
theorem dX6_init_77 : decode cX6_init 77 = .ok (.bipush 10, 2) := by decide +kernel
theorem dX6_init_79 : decode cX6_init 79 = .ok (.iastore, 1) := by decide +kernel
theorem dX6_init_80 : decode cX6_init 80 = .ok (.iconst 0, 1) := by decide +kernel
theorem dX6_init_81 : decode cX6_init 81 = .ok (.istore_n 1, 1) := by decide +kernel
theorem dX6_init_82 : decode cX6_init 82 = .ok (.iload_n 1, 1) := by decide +kernel
theorem dX6_init_83 : decode cX6_init 83 = .ok (.bipush 12, 2) := by decide +kernel
theorem dX6_init_85 : decode cX6_init 85 = .ok (.if_icmp .ge 54, 3) := by decide +kernel
theorem dX6_init_88 : decode cX6_init 88 = .ok (.aload_n 0, 1) := by decide +kernel
theorem dX6_init_89 : decode cX6_init 89 = .ok (.iload_n 1, 1) := by decide +kernel
theorem dX6_init_90 : decode cX6_init 90 = .ok (.iconst 0, 1) := by decide +kernel
theorem dX6_init_91 : decode cX6_init 91 = .ok (.iload_n 1, 1) := by decide +kernel
theorem dX6_init_92 : decode cX6_init 92 = .ok (.bipush 6, 2) := by decide +kernel
theorem dX6_init_94 : decode cX6_init 94 = .ok (.if_icmp .ge 9, 3) := by decide +kernel
theorem dX6_init_97 : decode cX6_init 97 = .ok (.iload_n 1, 1) := by decide +kernel
theorem dX6_init_98 : decode cX6_init 98 = .ok (.iconst 1, 1) := by decide +kernel
theorem dX6_init_99 : decode cX6_init 99 = .ok (.iadd, 1) := by decide +kernel
theorem dX6_init_100 : decode cX6_init 100 = .ok (.goto 4, 3) := by decide +kernel
theorem dX6_init_103 : decode cX6_init 103 = .ok (.iconst 0, 1) := by decide +kernel
theorem dX6_init_104 : decode cX6_init 104 = .ok (.invokevirtual 34, 3) := by decide +kernel
theorem dX6_init_107 : decode cX6_init 107 = .ok (.aload_n 0, 1) := by decide +kernel
theorem dX6_init_108 : decode cX6_init 108 = .ok (.iload_n 1, 1) := by decide +kernel
theorem dX6_init_109 : decode cX6_init 109 = .ok (.iconst 1, 1) := by decide +kernel
theorem dX6_init_110 : decode cX6_init 110 = .ok (.iload_n 1, 1) := by decide +kernel
theorem dX6_init_111 : decode cX6_init 111 = .ok (.bipush 6, 2) := by decide +kernel
theorem dX6_init_113 : decode cX6_init 113 = .ok (.if_icmp .ge 9, 3) := by decide +kernel
theorem dX6_init_116 : decode cX6_init 116 = .ok (.iload_n 1, 1) := by decide +kernel
theorem dX6_init_117 : decode cX6_init 117 = .ok (.iconst 1, 1) := by decide +kernel
theorem dX6_init_118 : decode cX6_init 118 = .ok (.iadd, 1) := by decide +kernel
theorem dX6_init_119 : decode cX6_init 119 = .ok (.goto 4, 3) := by decide +kernel
theorem dX6_init_122 : decode cX6_init 122 = .ok (.iconst 0, 1) := by decide +kernel
theorem dX6_init_123 : decode cX6_init 123 = .ok (.invokevirtual 34, 3) := by decide +kernel
theorem dX6_init_126 : decode cX6_init 126 = .ok (.aload_n 0, 1) := by decide +kernel
theorem dX6_init_127 : decode cX6_init 127 = .ok (.iload_n 1, 1) := by decide +kernel
theorem dX6_init_128 : decode cX6_init 128 = .ok (.iconst 5, 1) := by decide +kernel
theorem dX6_init_129 : decode cX6_init 129 = .ok (.iconst (-1), 1) := by decide +kernel
theorem dX6_init_130 : decode cX6_init 130 = .ok (.invokevirtual 34, 3) := by decide +kernel
theorem dX6_init_133 : decode cX6_init 133 = .ok (.iinc 1 1, 3) := by decide +kernel
theorem dX6_init_136 : decode cX6_init 136 = .ok (.goto (-54), 3) := by decide +kernel
theorem dX6_init_139 : decode cX6_init 139 = .ok (.return_, 1) := by decide +kernel
theorem dX6_thrown_0 : decode cX6_thrown 0 = .ok (.aload_n 0, 1) := by decide +kernel
theorem dX6_thrown_1 : decode cX6_thrown 1 = .ok (.getfield 38, 3) := by decide +kernel
theorem dX6_thrown_4 : decode cX6_thrown 4 = .ok (.ireturn, 1) := by decide +kernel
theorem dX6_fails_0 : decode cX6_fails 0 = .ok (.aload_n 0, 1) := by decide +kernel
theorem dX6_fails_1 : decode cX6_fails 1 = .ok (.iload_n 1, 1) := by decide +kernel
theorem dX6_fails_2 : decode cX6_fails 2 = .ok (.putfield 38, 3) := by decide +kernel
theorem dX6_fails_5 : decode cX6_fails 5 = .ok (.iconst 0, 1) := by decide +kernel
theorem dX6_fails_6 : decode cX6_fails 6 = .ok (.ireturn, 1) := by decide +kernel
theorem dX6_in_0 : decode cX6_in 0 = .ok (.iload_n 0, 1) := by decide +kernel
theorem dX6_in_1 : decode cX6_in 1 = .ok (.iload_n 1, 1) := by decide +kernel
theorem dX6_in_2 : decode cX6_in 2 = .ok (.if_icmp .lt 12, 3) := by decide +kernel
theorem dX6_in_5 : decode cX6_in 5 = .ok (.iload_n 0, 1) := by decide +kernel
theorem dX6_in_6 : decode cX6_in 6 = .ok (.iload_n 2, 1) := by decide +kernel
theorem dX6_in_7 : decode cX6_in 7 = .ok (.if_icmp .gt 7, 3) := by decide +kernel
theorem dX6_in_10 : decode cX6_in 10 = .ok (.iconst 1, 1) := by decide +kernel
theorem dX6_in_11 : decode cX6_in 11 = .ok (.goto 4, 3) := by decide +kernel
theorem dX6_in_14 : decode cX6_in 14 = .ok (.iconst 0, 1) := by decide +kernel
theorem dX6_in_15 : decode cX6_in 15 = .ok (.ireturn, 1) := by decide +kernel
theorem dX6_isReel_0 : decode cX6_isReel 0 = .ok (.iload_n 0, 1) := by decide +kernel
theorem dX6_isReel_1 : decode cX6_isReel 1 = .ok (.iconst 0, 1) := by decide +kernel
theorem dX6_isReel_2 : decode cX6_isReel 2 = .ok (.bipush 11, 2) := by decide +kernel
theorem dX6_isReel_4 : decode cX6_isReel 4 = .ok (.invokestatic 42, 3) := by decide +kernel
theorem dX6_isReel_7 : decode cX6_isReel 7 = .ok (.ireturn, 1) := by decide +kernel
theorem dX6_isJob_0 : decode cX6_isJob 0 = .ok (.iload_n 1, 1) := by decide +kernel
theorem dX6_isJob_1 : decode cX6_isJob 1 = .ok (.iconst 0, 1) := by decide +kernel
theorem dX6_isJob_2 : decode cX6_isJob 2 = .ok (.aload_n 0, 1) := by decide +kernel
theorem dX6_isJob_3 : decode cX6_isJob 3 = .ok (.getfield 7, 3) := by decide +kernel
theorem dX6_isJob_6 : decode cX6_isJob 6 = .ok (.bipush 82, 2) := by decide +kernel
theorem dX6_isJob_8 : decode cX6_isJob 8 = .ok (.iaload, 1) := by decide +kernel
theorem dX6_isJob_9 : decode cX6_isJob 9 = .ok (.iconst 1, 1) := by decide +kernel
theorem dX6_isJob_10 : decode cX6_isJob 10 = .ok (.isub, 1) := by decide +kernel
theorem dX6_isJob_11 : decode cX6_isJob 11 = .ok (.invokestatic 42, 3) := by decide +kernel
theorem dX6_isJob_14 : decode cX6_isJob 14 = .ok (.ireturn, 1) := by decide +kernel
theorem dX6_of_0 : decode cX6_of 0 = .ok (.aload_n 0, 1) := by decide +kernel
theorem dX6_of_1 : decode cX6_of 1 = .ok (.getfield 7, 3) := by decide +kernel
theorem dX6_of_4 : decode cX6_of 4 = .ok (.bipush 10, 2) := by decide +kernel
theorem dX6_of_6 : decode cX6_of 6 = .ok (.bipush 6, 2) := by decide +kernel
theorem dX6_of_8 : decode cX6_of 8 = .ok (.iload_n 1, 1) := by decide +kernel
theorem dX6_of_9 : decode cX6_of 9 = .ok (.imul, 1) := by decide +kernel
theorem dX6_of_10 : decode cX6_of 10 = .ok (.iadd, 1) := by decide +kernel
theorem dX6_of_11 : decode cX6_of 11 = .ok (.iload_n 2, 1) := by decide +kernel
theorem dX6_of_12 : decode cX6_of 12 = .ok (.iadd, 1) := by decide +kernel
theorem dX6_of_13 : decode cX6_of 13 = .ok (.iaload, 1) := by decide +kernel
theorem dX6_of_14 : decode cX6_of 14 = .ok (.ireturn, 1) := by decide +kernel
theorem dX6_put_0 : decode cX6_put 0 = .ok (.aload_n 0, 1) := by decide +kernel
theorem dX6_put_1 : decode cX6_put 1 = .ok (.getfield 7, 3) := by decide +kernel
theorem dX6_put_4 : decode cX6_put 4 = .ok (.bipush 10, 2) := by decide +kernel
theorem dX6_put_6 : decode cX6_put 6 = .ok (.bipush 6, 2) := by decide +kernel
theorem dX6_put_8 : decode cX6_put 8 = .ok (.iload_n 1, 1) := by decide +kernel
theorem dX6_put_9 : decode cX6_put 9 = .ok (.imul, 1) := by decide +kernel
theorem dX6_put_10 : decode cX6_put 10 = .ok (.iadd, 1) := by decide +kernel
theorem dX6_put_11 : decode cX6_put 11 = .ok (.iload_n 2, 1) := by decide +kernel
theorem dX6_put_12 : decode cX6_put 12 = .ok (.iadd, 1) := by decide +kernel
theorem dX6_put_13 : decode cX6_put 13 = .ok (.iload_n 3, 1) := by decide +kernel
theorem dX6_put_14 : decode cX6_put 14 = .ok (.iastore, 1) := by decide +kernel
theorem dX6_put_15 : decode cX6_put 15 = .ok (.return_, 1) := by decide +kernel
theorem dX6_ofJob_0 : decode cX6_ofJob 0 = .ok (.aload_n 0, 1) := by decide +kernel
theorem dX6_ofJob_1 : decode cX6_ofJob 1 = .ok (.getfield 7, 3) := by decide +kernel
theorem dX6_ofJob_4 : decode cX6_ofJob 4 = .ok (.bipush 83, 2) := by decide +kernel
theorem dX6_ofJob_6 : decode cX6_ofJob 6 = .ok (.bipush 8, 2) := by decide +kernel
theorem dX6_ofJob_8 : decode cX6_ofJob 8 = .ok (.iload_n 1, 1) := by decide +kernel
theorem dX6_ofJob_9 : decode cX6_ofJob 9 = .ok (.imul, 1) := by decide +kernel
theorem dX6_ofJob_10 : decode cX6_ofJob 10 = .ok (.iadd, 1) := by decide +kernel
theorem dX6_ofJob_11 : decode cX6_ofJob 11 = .ok (.iload_n 2, 1) := by decide +kernel
theorem dX6_ofJob_12 : decode cX6_ofJob 12 = .ok (.iadd, 1) := by decide +kernel
theorem dX6_ofJob_13 : decode cX6_ofJob 13 = .ok (.iaload, 1) := by decide +kernel
theorem dX6_ofJob_14 : decode cX6_ofJob 14 = .ok (.ireturn, 1) := by decide +kernel
theorem dX6_putJob_0 : decode cX6_putJob 0 = .ok (.aload_n 0, 1) := by decide +kernel
theorem dX6_putJob_1 : decode cX6_putJob 1 = .ok (.getfield 7, 3) := by decide +kernel
theorem dX6_putJob_4 : decode cX6_putJob 4 = .ok (.bipush 83, 2) := by decide +kernel
theorem dX6_putJob_6 : decode cX6_putJob 6 = .ok (.bipush 8, 2) := by decide +kernel
theorem dX6_putJob_8 : decode cX6_putJob 8 = .ok (.iload_n 1, 1) := by decide +kernel
theorem dX6_putJob_9 : decode cX6_putJob 9 = .ok (.imul, 1) := by decide +kernel
theorem dX6_putJob_10 : decode cX6_putJob 10 = .ok (.iadd, 1) := by decide +kernel
theorem dX6_putJob_11 : decode cX6_putJob 11 = .ok (.iload_n 2, 1) := by decide +kernel
theorem dX6_putJob_12 : decode cX6_putJob 12 = .ok (.iadd, 1) := by decide +kernel
theorem dX6_putJob_13 : decode cX6_putJob 13 = .ok (.iload_n 3, 1) := by decide +kernel
theorem dX6_putJob_14 : decode cX6_putJob 14 = .ok (.iastore, 1) := by decide +kernel
theorem dX6_putJob_15 : decode cX6_putJob 15 = .ok (.return_, 1) := by decide +kernel
theorem dX6_isOnShelf_0 : decode cX6_isOnShelf 0 = .ok (.aload_n 0, 1) := by decide +kernel
theorem dX6_isOnShelf_1 : decode cX6_isOnShelf 1 = .ok (.iload_n 1, 1) := by decide +kernel
theorem dX6_isOnShelf_2 : decode cX6_isOnShelf 2 = .ok (.iconst 5, 1) := by decide +kernel
theorem dX6_isOnShelf_3 : decode cX6_isOnShelf 3 = .ok (.invokevirtual 46, 3) := by decide +kernel
theorem dX6_isOnShelf_6 : decode cX6_isOnShelf 6 = .ok (.iconst (-1), 1) := by decide +kernel
theorem dX6_isOnShelf_7 : decode cX6_isOnShelf 7 = .ok (.if_icmp .ne 7, 3) := by decide +kernel
theorem dX6_isOnShelf_10 : decode cX6_isOnShelf 10 = .ok (.iconst 1, 1) := by decide +kernel
theorem dX6_isOnShelf_11 : decode cX6_isOnShelf 11 = .ok (.goto 4, 3) := by decide +kernel
theorem dX6_isOnShelf_14 : decode cX6_isOnShelf 14 = .ok (.iconst 0, 1) := by decide +kernel
theorem dX6_isOnShelf_15 : decode cX6_isOnShelf 15 = .ok (.ireturn, 1) := by decide +kernel
theorem dX6_isScratch_0 : decode cX6_isScratch 0 = .ok (.aload_n 0, 1) := by decide +kernel
theorem dX6_isScratch_1 : decode cX6_isScratch 1 = .ok (.iload_n 1, 1) := by decide +kernel
theorem dX6_isScratch_2 : decode cX6_isScratch 2 = .ok (.iconst 0, 1) := by decide +kernel
theorem dX6_isScratch_3 : decode cX6_isScratch 3 = .ok (.invokevirtual 46, 3) := by decide +kernel
theorem dX6_isScratch_6 : decode cX6_isScratch 6 = .ok (.ifCond .eq 18, 3) := by decide +kernel
theorem dX6_isScratch_9 : decode cX6_isScratch 9 = .ok (.aload_n 0, 1) := by decide +kernel
theorem dX6_isScratch_10 : decode cX6_isScratch 10 = .ok (.iload_n 1, 1) := by decide +kernel
theorem dX6_isScratch_11 : decode cX6_isScratch 11 = .ok (.iconst 3, 1) := by decide +kernel
theorem dX6_isScratch_12 : decode cX6_isScratch 12 = .ok (.invokevirtual 46, 3) := by decide +kernel
theorem dX6_isScratch_15 : decode cX6_isScratch 15 = .ok (.aload_n 0, 1) := by decide +kernel
theorem dX6_isScratch_16 : decode cX6_isScratch 16 = .ok (.getfield 7, 3) := by decide +kernel
theorem dX6_isScratch_19 : decode cX6_isScratch 19 = .ok (.iconst 0, 1) := by decide +kernel
theorem dX6_isScratch_20 : decode cX6_isScratch 20 = .ok (.iaload, 1) := by decide +kernel
theorem dX6_isScratch_21 : decode cX6_isScratch 21 = .ok (.if_icmp .ge 7, 3) := by decide +kernel
theorem dX6_isScratch_24 : decode cX6_isScratch 24 = .ok (.iconst 1, 1) := by decide +kernel
theorem dX6_isScratch_25 : decode cX6_isScratch 25 = .ok (.goto 4, 3) := by decide +kernel
theorem dX6_isScratch_28 : decode cX6_isScratch 28 = .ok (.iconst 0, 1) := by decide +kernel
theorem dX6_isScratch_29 : decode cX6_isScratch 29 = .ok (.ireturn, 1) := by decide +kernel
theorem dX6_save_0 : decode cX6_save 0 = .ok (.aload_n 0, 1) := by decide +kernel
theorem dX6_save_1 : decode cX6_save 1 = .ok (.getfield 50, 3) := by decide +kernel
theorem dX6_save_4 : decode cX6_save 4 = .ok (.bipush 6, 2) := by decide +kernel
theorem dX6_save_6 : decode cX6_save 6 = .ok (.if_icmp .ne 44, 3) := by decide +kernel
theorem dX6_save_9 : decode cX6_save 9 = .ok (.iconst 0, 1) := by decide +kernel
theorem dX6_save_10 : decode cX6_save 10 = .ok (.istore_n 1, 1) := by decide +kernel
theorem dX6_save_11 : decode cX6_save 11 = .ok (.iload_n 1, 1) := by decide +kernel
theorem dX6_save_12 : decode cX6_save 12 = .ok (.sipush 895, 3) := by decide +kernel
theorem dX6_save_15 : decode cX6_save 15 = .ok (.if_icmp .ge 25, 3) := by decide +kernel
theorem dX6_save_18 : decode cX6_save 18 = .ok (.aload_n 0, 1) := by decide +kernel
theorem dX6_save_19 : decode cX6_save 19 = .ok (.getfield 13, 3) := by decide +kernel
theorem dX6_save_22 : decode cX6_save 22 = .ok (.iload_n 1, 1) := by decide +kernel
theorem dX6_save_23 : decode cX6_save 23 = .ok (.aload_n 0, 1) := by decide +kernel
theorem dX6_save_24 : decode cX6_save 24 = .ok (.getfield 13, 3) := by decide +kernel
theorem dX6_save_27 : decode cX6_save 27 = .ok (.iload_n 1, 1) := by decide +kernel
theorem dX6_save_28 : decode cX6_save 28 = .ok (.sipush 179, 3) := by decide +kernel
theorem dX6_save_31 : decode cX6_save 31 = .ok (.iadd, 1) := by decide +kernel
theorem dX6_save_32 : decode cX6_save 32 = .ok (.iaload, 1) := by decide +kernel
theorem dX6_save_33 : decode cX6_save 33 = .ok (.iastore, 1) := by decide +kernel
theorem dX6_save_34 : decode cX6_save 34 = .ok (.iinc 1 1, 3) := by decide +kernel
theorem dX6_save_37 : decode cX6_save 37 = .ok (.goto (-26), 3) := by decide +kernel
theorem dX6_save_40 : decode cX6_save 40 = .ok (.aload_n 0, 1) := by decide +kernel
theorem dX6_save_41 : decode cX6_save 41 = .ok (.dup, 1) := by decide +kernel
theorem dX6_save_42 : decode cX6_save 42 = .ok (.getfield 50, 3) := by decide +kernel
theorem dX6_save_45 : decode cX6_save 45 = .ok (.iconst 1, 1) := by decide +kernel
theorem dX6_save_46 : decode cX6_save 46 = .ok (.isub, 1) := by decide +kernel
theorem dX6_save_47 : decode cX6_save 47 = .ok (.putfield 50, 3) := by decide +kernel
theorem dX6_save_50 : decode cX6_save 50 = .ok (.iconst 0, 1) := by decide +kernel
theorem dX6_save_51 : decode cX6_save 51 = .ok (.istore_n 1, 1) := by decide +kernel
theorem dX6_save_52 : decode cX6_save 52 = .ok (.iload_n 1, 1) := by decide +kernel
theorem dX6_save_53 : decode cX6_save 53 = .ok (.sipush 179, 3) := by decide +kernel
theorem dX6_save_56 : decode cX6_save 56 = .ok (.if_icmp .ge 30, 3) := by decide +kernel
theorem dX6_save_59 : decode cX6_save 59 = .ok (.aload_n 0, 1) := by decide +kernel
theorem dX6_save_60 : decode cX6_save 60 = .ok (.getfield 13, 3) := by decide +kernel
theorem dX6_save_63 : decode cX6_save 63 = .ok (.sipush 179, 3) := by decide +kernel
theorem dX6_save_66 : decode cX6_save 66 = .ok (.aload_n 0, 1) := by decide +kernel
theorem dX6_save_67 : decode cX6_save 67 = .ok (.getfield 50, 3) := by decide +kernel
theorem dX6_save_70 : decode cX6_save 70 = .ok (.imul, 1) := by decide +kernel
theorem dX6_save_71 : decode cX6_save 71 = .ok (.iload_n 1, 1) := by decide +kernel
theorem dX6_save_72 : decode cX6_save 72 = .ok (.iadd, 1) := by decide +kernel
theorem dX6_save_73 : decode cX6_save 73 = .ok (.aload_n 0, 1) := by decide +kernel
theorem dX6_save_74 : decode cX6_save 74 = .ok (.getfield 7, 3) := by decide +kernel
theorem dX6_save_77 : decode cX6_save 77 = .ok (.iload_n 1, 1) := by decide +kernel
theorem dX6_save_78 : decode cX6_save 78 = .ok (.iaload, 1) := by decide +kernel
theorem dX6_save_79 : decode cX6_save 79 = .ok (.iastore, 1) := by decide +kernel
theorem dX6_save_80 : decode cX6_save 80 = .ok (.iinc 1 1, 3) := by decide +kernel
theorem dX6_save_83 : decode cX6_save 83 = .ok (.goto (-31), 3) := by decide +kernel
theorem dX6_save_86 : decode cX6_save 86 = .ok (.aload_n 0, 1) := by decide +kernel
theorem dX6_save_87 : decode cX6_save 87 = .ok (.dup, 1) := by decide +kernel
theorem dX6_save_88 : decode cX6_save 88 = .ok (.getfield 50, 3) := by decide +kernel
theorem dX6_save_91 : decode cX6_save 91 = .ok (.iconst 1, 1) := by decide +kernel
theorem dX6_save_92 : decode cX6_save 92 = .ok (.iadd, 1) := by decide +kernel
theorem dX6_save_93 : decode cX6_save 93 = .ok (.putfield 50, 3) := by decide +kernel
theorem dX6_save_96 : decode cX6_save 96 = .ok (.return_, 1) := by decide +kernel
theorem dX6_undo_0 : decode cX6_undo 0 = .ok (.aload_n 0, 1) := by decide +kernel
theorem dX6_undo_1 : decode cX6_undo 1 = .ok (.iconst 0, 1) := by decide +kernel
theorem dX6_undo_2 : decode cX6_undo 2 = .ok (.putfield 38, 3) := by decide +kernel
theorem dX6_undo_5 : decode cX6_undo 5 = .ok (.aload_n 0, 1) := by decide +kernel
theorem dX6_undo_6 : decode cX6_undo 6 = .ok (.getfield 50, 3) := by decide +kernel
theorem dX6_undo_9 : decode cX6_undo 9 = .ok (.ifCond .ne 9, 3) := by decide +kernel
theorem dX6_undo_12 : decode cX6_undo 12 = .ok (.aload_n 0, 1) := by decide +kernel
theorem dX6_undo_13 : decode cX6_undo 13 = .ok (.iconst 1, 1) := by decide +kernel
theorem dX6_undo_14 : decode cX6_undo 14 = .ok (.invokevirtual 53, 3) := by decide +kernel
theorem dX6_undo_17 : decode cX6_undo 17 = .ok (.ireturn, 1) := by decide +kernel
theorem dX6_undo_18 : decode cX6_undo 18 = .ok (.aload_n 0, 1) := by decide +kernel
theorem dX6_undo_19 : decode cX6_undo 19 = .ok (.dup, 1) := by decide +kernel
theorem dX6_undo_20 : decode cX6_undo 20 = .ok (.getfield 50, 3) := by decide +kernel
theorem dX6_undo_23 : decode cX6_undo 23 = .ok (.iconst 1, 1) := by decide +kernel
theorem dX6_undo_24 : decode cX6_undo 24 = .ok (.isub, 1) := by decide +kernel
theorem dX6_undo_25 : decode cX6_undo 25 = .ok (.putfield 50, 3) := by decide +kernel
theorem dX6_undo_28 : decode cX6_undo 28 = .ok (.iconst 0, 1) := by decide +kernel
theorem dX6_undo_29 : decode cX6_undo 29 = .ok (.istore_n 1, 1) := by decide +kernel
theorem dX6_undo_30 : decode cX6_undo 30 = .ok (.iload_n 1, 1) := by decide +kernel
theorem dX6_undo_31 : decode cX6_undo 31 = .ok (.sipush 179, 3) := by decide +kernel
theorem dX6_undo_34 : decode cX6_undo 34 = .ok (.if_icmp .ge 30, 3) := by decide +kernel
theorem dX6_undo_37 : decode cX6_undo 37 = .ok (.aload_n 0, 1) := by decide +kernel
theorem dX6_undo_38 : decode cX6_undo 38 = .ok (.getfield 7, 3) := by decide +kernel
theorem dX6_undo_41 : decode cX6_undo 41 = .ok (.iload_n 1, 1) := by decide +kernel
theorem dX6_undo_42 : decode cX6_undo 42 = .ok (.aload_n 0, 1) := by decide +kernel
theorem dX6_undo_43 : decode cX6_undo 43 = .ok (.getfield 13, 3) := by decide +kernel
theorem dX6_undo_46 : decode cX6_undo 46 = .ok (.sipush 179, 3) := by decide +kernel
theorem dX6_undo_49 : decode cX6_undo 49 = .ok (.aload_n 0, 1) := by decide +kernel
theorem dX6_undo_50 : decode cX6_undo 50 = .ok (.getfield 50, 3) := by decide +kernel
theorem dX6_undo_53 : decode cX6_undo 53 = .ok (.imul, 1) := by decide +kernel
theorem dX6_undo_54 : decode cX6_undo 54 = .ok (.iload_n 1, 1) := by decide +kernel
theorem dX6_undo_55 : decode cX6_undo 55 = .ok (.iadd, 1) := by decide +kernel
theorem dX6_undo_56 : decode cX6_undo 56 = .ok (.iaload, 1) := by decide +kernel
theorem dX6_undo_57 : decode cX6_undo 57 = .ok (.iastore, 1) := by decide +kernel
theorem dX6_undo_58 : decode cX6_undo 58 = .ok (.iinc 1 1, 3) := by decide +kernel
theorem dX6_undo_61 : decode cX6_undo 61 = .ok (.goto (-31), 3) := by decide +kernel
theorem dX6_undo_64 : decode cX6_undo 64 = .ok (.aload_n 0, 1) := by decide +kernel
theorem dX6_undo_65 : decode cX6_undo 65 = .ok (.getfield 50, 3) := by decide +kernel
theorem dX6_undo_68 : decode cX6_undo 68 = .ok (.ireturn, 1) := by decide +kernel
theorem dX6_found_0 : decode cX6_found 0 = .ok (.aload_n 0, 1) := by decide +kernel
theorem dX6_found_1 : decode cX6_found 1 = .ok (.iload_n 1, 1) := by decide +kernel
theorem dX6_found_2 : decode cX6_found 2 = .ok (.iconst 0, 1) := by decide +kernel
theorem dX6_found_3 : decode cX6_found 3 = .ok (.invokevirtual 57, 3) := by decide +kernel
theorem dX6_found_6 : decode cX6_found 6 = .ok (.iconst 2, 1) := by decide +kernel
theorem dX6_found_7 : decode cX6_found 7 = .ok (.if_icmp .ne 7, 3) := by decide +kernel
theorem dX6_found_10 : decode cX6_found 10 = .ok (.iconst 0, 1) := by decide +kernel
theorem dX6_found_11 : decode cX6_found 11 = .ok (.goto 9, 3) := by decide +kernel
theorem dX6_found_14 : decode cX6_found 14 = .ok (.aload_n 0, 1) := by decide +kernel
theorem dX6_found_15 : decode cX6_found 15 = .ok (.iload_n 1, 1) := by decide +kernel
theorem dX6_found_16 : decode cX6_found 16 = .ok (.iconst 1, 1) := by decide +kernel
theorem dX6_found_17 : decode cX6_found 17 = .ok (.invokevirtual 57, 3) := by decide +kernel
theorem dX6_found_20 : decode cX6_found 20 = .ok (.istore_n 2, 1) := by decide +kernel
theorem dX6_found_21 : decode cX6_found 21 = .ok (.iconst (-1), 1) := by decide +kernel
theorem dX6_found_22 : decode cX6_found 22 = .ok (.istore_n 3, 1) := by decide +kernel
theorem dX6_found_23 : decode cX6_found 23 = .ok (.bipush 11, 2) := by decide +kernel
theorem dX6_found_25 : decode cX6_found 25 = .ok (.istore 4, 2) := by decide +kernel
theorem dX6_found_27 : decode cX6_found 27 = .ok (.iload 4, 2) := by decide +kernel
theorem dX6_found_29 : decode cX6_found 29 = .ok (.ifCond .lt 36, 3) := by decide +kernel
theorem dX6_found_32 : decode cX6_found 32 = .ok (.aload_n 0, 1) := by decide +kernel
theorem dX6_found_33 : decode cX6_found 33 = .ok (.iload 4, 2) := by decide +kernel
theorem dX6_found_35 : decode cX6_found 35 = .ok (.invokevirtual 60, 3) := by decide +kernel
theorem dX6_found_38 : decode cX6_found 38 = .ok (.ifCond .eq 19, 3) := by decide +kernel
theorem dX6_found_41 : decode cX6_found 41 = .ok (.aload_n 0, 1) := by decide +kernel
theorem dX6_found_42 : decode cX6_found 42 = .ok (.iload 4, 2) := by decide +kernel
theorem dX6_found_44 : decode cX6_found 44 = .ok (.iconst 1, 1) := by decide +kernel
theorem dX6_found_45 : decode cX6_found 45 = .ok (.invokevirtual 46, 3) := by decide +kernel
theorem dX6_found_48 : decode cX6_found 48 = .ok (.iload_n 2, 1) := by decide +kernel
theorem dX6_found_49 : decode cX6_found 49 = .ok (.if_icmp .ne 8, 3) := by decide +kernel
theorem dX6_found_52 : decode cX6_found 52 = .ok (.iload 4, 2) := by decide +kernel
theorem dX6_found_54 : decode cX6_found 54 = .ok (.goto 4, 3) := by decide +kernel
theorem dX6_found_57 : decode cX6_found 57 = .ok (.iload_n 3, 1) := by decide +kernel
theorem dX6_found_58 : decode cX6_found 58 = .ok (.istore_n 3, 1) := by decide +kernel
theorem dX6_found_59 : decode cX6_found 59 = .ok (.iinc 4 (-1), 3) := by decide +kernel
theorem dX6_found_62 : decode cX6_found 62 = .ok (.goto (-35), 3) := by decide +kernel
theorem dX6_found_65 : decode cX6_found 65 = .ok (.iload_n 3, 1) := by decide +kernel
theorem dX6_found_66 : decode cX6_found 66 = .ok (.ireturn, 1) := by decide +kernel
theorem dX6_next_0 : decode cX6_next 0 = .ok (.iconst (-1), 1) := by decide +kernel
theorem dX6_next_1 : decode cX6_next 1 = .ok (.istore_n 1, 1) := by decide +kernel
theorem dX6_next_2 : decode cX6_next 2 = .ok (.aload_n 0, 1) := by decide +kernel
theorem dX6_next_3 : decode cX6_next 3 = .ok (.getfield 7, 3) := by decide +kernel
theorem dX6_next_6 : decode cX6_next 6 = .ok (.bipush 82, 2) := by decide +kernel
theorem dX6_next_8 : decode cX6_next 8 = .ok (.iaload, 1) := by decide +kernel
theorem dX6_next_9 : decode cX6_next 9 = .ok (.iconst 1, 1) := by decide +kernel
theorem dX6_next_10 : decode cX6_next 10 = .ok (.isub, 1) := by decide +kernel
theorem dX6_next_11 : decode cX6_next 11 = .ok (.istore_n 2, 1) := by decide +kernel
theorem dX6_next_12 : decode cX6_next 12 = .ok (.iload_n 2, 1) := by decide +kernel
theorem dX6_next_13 : decode cX6_next 13 = .ok (.ifCond .lt 63, 3) := by decide +kernel
theorem dX6_next_16 : decode cX6_next 16 = .ok (.aload_n 0, 1) := by decide +kernel
theorem dX6_next_17 : decode cX6_next 17 = .ok (.iload_n 2, 1) := by decide +kernel
theorem dX6_next_18 : decode cX6_next 18 = .ok (.iconst 4, 1) := by decide +kernel
theorem dX6_next_19 : decode cX6_next 19 = .ok (.invokevirtual 57, 3) := by decide +kernel
theorem dX6_next_22 : decode cX6_next 22 = .ok (.ifCond .ne 16, 3) := by decide +kernel
theorem dX6_next_25 : decode cX6_next 25 = .ok (.aload_n 0, 1) := by decide +kernel
theorem dX6_next_26 : decode cX6_next 26 = .ok (.iload_n 2, 1) := by decide +kernel
theorem dX6_next_27 : decode cX6_next 27 = .ok (.invokevirtual 64, 3) := by decide +kernel
theorem dX6_next_30 : decode cX6_next 30 = .ok (.iconst (-1), 1) := by decide +kernel
theorem dX6_next_31 : decode cX6_next 31 = .ok (.if_icmp .eq 7, 3) := by decide +kernel
theorem dX6_next_34 : decode cX6_next 34 = .ok (.iconst 1, 1) := by decide +kernel
theorem dX6_next_35 : decode cX6_next 35 = .ok (.goto 4, 3) := by decide +kernel
theorem dX6_next_38 : decode cX6_next 38 = .ok (.iconst 0, 1) := by decide +kernel
theorem dX6_next_39 : decode cX6_next 39 = .ok (.istore_n 3, 1) := by decide +kernel
theorem dX6_next_40 : decode cX6_next 40 = .ok (.iload_n 3, 1) := by decide +kernel
theorem dX6_next_41 : decode cX6_next 41 = .ok (.ifCond .eq 27, 3) := by decide +kernel
theorem dX6_next_44 : decode cX6_next 44 = .ok (.iload_n 1, 1) := by decide +kernel
theorem dX6_next_45 : decode cX6_next 45 = .ok (.iconst (-1), 1) := by decide +kernel
theorem dX6_next_46 : decode cX6_next 46 = .ok (.if_icmp .eq 18, 3) := by decide +kernel
theorem dX6_next_49 : decode cX6_next 49 = .ok (.aload_n 0, 1) := by decide +kernel
theorem dX6_next_50 : decode cX6_next 50 = .ok (.iload_n 2, 1) := by decide +kernel
theorem dX6_next_51 : decode cX6_next 51 = .ok (.iconst 3, 1) := by decide +kernel
theorem dX6_next_52 : decode cX6_next 52 = .ok (.invokevirtual 57, 3) := by decide +kernel
theorem dX6_next_55 : decode cX6_next 55 = .ok (.aload_n 0, 1) := by decide +kernel
theorem dX6_next_56 : decode cX6_next 56 = .ok (.iload_n 1, 1) := by decide +kernel
theorem dX6_next_57 : decode cX6_next 57 = .ok (.iconst 3, 1) := by decide +kernel
theorem dX6_next_58 : decode cX6_next 58 = .ok (.invokevirtual 57, 3) := by decide +kernel
theorem dX6_next_61 : decode cX6_next 61 = .ok (.if_icmp .lt 7, 3) := by decide +kernel
theorem dX6_next_64 : decode cX6_next 64 = .ok (.iload_n 2, 1) := by decide +kernel
theorem dX6_next_65 : decode cX6_next 65 = .ok (.goto 4, 3) := by decide +kernel
theorem dX6_next_68 : decode cX6_next 68 = .ok (.iload_n 1, 1) := by decide +kernel
theorem dX6_next_69 : decode cX6_next 69 = .ok (.istore_n 1, 1) := by decide +kernel
theorem dX6_next_70 : decode cX6_next 70 = .ok (.iinc 2 (-1), 3) := by decide +kernel
theorem dX6_next_73 : decode cX6_next 73 = .ok (.goto (-61), 3) := by decide +kernel
theorem dX6_next_76 : decode cX6_next 76 = .ok (.iload_n 1, 1) := by decide +kernel
theorem dX6_next_77 : decode cX6_next 77 = .ok (.ireturn, 1) := by decide +kernel
theorem dX6_isSlip_0 : decode cX6_isSlip 0 = .ok (.aload_n 0, 1) := by decide +kernel
theorem dX6_isSlip_1 : decode cX6_isSlip 1 = .ok (.getfield 7, 3) := by decide +kernel
theorem dX6_isSlip_4 : decode cX6_isSlip 4 = .ok (.bipush 8, 2) := by decide +kernel
theorem dX6_isSlip_6 : decode cX6_isSlip 6 = .ok (.iaload, 1) := by decide +kernel
theorem dX6_isSlip_7 : decode cX6_isSlip 7 = .ok (.ifCond .eq 19, 3) := by decide +kernel
theorem dX6_isSlip_10 : decode cX6_isSlip 10 = .ok (.iload_n 1, 1) := by decide +kernel
theorem dX6_isSlip_11 : decode cX6_isSlip 11 = .ok (.aload_n 0, 1) := by decide +kernel
theorem dX6_isSlip_12 : decode cX6_isSlip 12 = .ok (.getfield 7, 3) := by decide +kernel
theorem dX6_isSlip_15 : decode cX6_isSlip 15 = .ok (.bipush 8, 2) := by decide +kernel
theorem dX6_isSlip_17 : decode cX6_isSlip 17 = .ok (.iaload, 1) := by decide +kernel
theorem dX6_isSlip_18 : decode cX6_isSlip 18 = .ok (.irem, 1) := by decide +kernel
theorem dX6_isSlip_19 : decode cX6_isSlip 19 = .ok (.ifCond .ne 7, 3) := by decide +kernel
theorem dX6_isSlip_22 : decode cX6_isSlip 22 = .ok (.iconst 1, 1) := by decide +kernel
theorem dX6_isSlip_23 : decode cX6_isSlip 23 = .ok (.goto 4, 3) := by decide +kernel
theorem dX6_isSlip_26 : decode cX6_isSlip 26 = .ok (.iconst 0, 1) := by decide +kernel
theorem dX6_isSlip_27 : decode cX6_isSlip 27 = .ok (.ireturn, 1) := by decide +kernel
theorem dX6_after_0 : decode cX6_after 0 = .ok (.iconst (-1), 1) := by decide +kernel
theorem dX6_after_1 : decode cX6_after 1 = .ok (.istore_n 2, 1) := by decide +kernel
theorem dX6_after_2 : decode cX6_after 2 = .ok (.iconst (-1), 1) := by decide +kernel
theorem dX6_after_3 : decode cX6_after 3 = .ok (.istore_n 3, 1) := by decide +kernel
theorem dX6_after_4 : decode cX6_after 4 = .ok (.bipush 11, 2) := by decide +kernel
theorem dX6_after_6 : decode cX6_after 6 = .ok (.istore 4, 2) := by decide +kernel
theorem dX6_after_8 : decode cX6_after 8 = .ok (.iload 4, 2) := by decide +kernel
theorem dX6_after_10 : decode cX6_after 10 = .ok (.ifCond .lt 47, 3) := by decide +kernel
theorem dX6_after_13 : decode cX6_after 13 = .ok (.aload_n 0, 1) := by decide +kernel
theorem dX6_after_14 : decode cX6_after 14 = .ok (.iload 4, 2) := by decide +kernel
theorem dX6_after_16 : decode cX6_after 16 = .ok (.invokevirtual 60, 3) := by decide +kernel
theorem dX6_after_19 : decode cX6_after 19 = .ok (.ifCond .eq 14, 3) := by decide +kernel
theorem dX6_after_22 : decode cX6_after 22 = .ok (.iload 4, 2) := by decide +kernel
theorem dX6_after_24 : decode cX6_after 24 = .ok (.iload_n 1, 1) := by decide +kernel
theorem dX6_after_25 : decode cX6_after 25 = .ok (.if_icmp .le 8, 3) := by decide +kernel
theorem dX6_after_28 : decode cX6_after 28 = .ok (.iload 4, 2) := by decide +kernel
theorem dX6_after_30 : decode cX6_after 30 = .ok (.goto 4, 3) := by decide +kernel
theorem dX6_after_33 : decode cX6_after 33 = .ok (.iload_n 2, 1) := by decide +kernel
theorem dX6_after_34 : decode cX6_after 34 = .ok (.istore_n 2, 1) := by decide +kernel
theorem dX6_after_35 : decode cX6_after 35 = .ok (.aload_n 0, 1) := by decide +kernel
theorem dX6_after_36 : decode cX6_after 36 = .ok (.iload 4, 2) := by decide +kernel
theorem dX6_after_38 : decode cX6_after 38 = .ok (.invokevirtual 60, 3) := by decide +kernel
theorem dX6_after_41 : decode cX6_after 41 = .ok (.ifCond .eq 8, 3) := by decide +kernel
theorem dX6_after_44 : decode cX6_after 44 = .ok (.iload 4, 2) := by decide +kernel
theorem dX6_after_46 : decode cX6_after 46 = .ok (.goto 4, 3) := by decide +kernel
theorem dX6_after_49 : decode cX6_after 49 = .ok (.iload_n 3, 1) := by decide +kernel
theorem dX6_after_50 : decode cX6_after 50 = .ok (.istore_n 3, 1) := by decide +kernel
theorem dX6_after_51 : decode cX6_after 51 = .ok (.iinc 4 (-1), 3) := by decide +kernel
theorem dX6_after_54 : decode cX6_after 54 = .ok (.goto (-46), 3) := by decide +kernel
theorem dX6_after_57 : decode cX6_after 57 = .ok (.iload_n 2, 1) := by decide +kernel
theorem dX6_after_58 : decode cX6_after 58 = .ok (.iconst (-1), 1) := by decide +kernel
theorem dX6_after_59 : decode cX6_after 59 = .ok (.if_icmp .ne 7, 3) := by decide +kernel
theorem dX6_after_62 : decode cX6_after 62 = .ok (.iload_n 3, 1) := by decide +kernel
theorem dX6_after_63 : decode cX6_after 63 = .ok (.goto 4, 3) := by decide +kernel
theorem dX6_after_66 : decode cX6_after 66 = .ok (.iload_n 2, 1) := by decide +kernel
theorem dX6_after_67 : decode cX6_after 67 = .ok (.ireturn, 1) := by decide +kernel
theorem dX6_check_0 : decode cX6_check 0 = .ok (.aload_n 0, 1) := by decide +kernel
theorem dX6_check_1 : decode cX6_check 1 = .ok (.iload_n 1, 1) := by decide +kernel
theorem dX6_check_2 : decode cX6_check 2 = .ok (.iconst 0, 1) := by decide +kernel
theorem dX6_check_3 : decode cX6_check 3 = .ok (.invokevirtual 57, 3) := by decide +kernel
theorem dX6_check_6 : decode cX6_check 6 = .ok (.iconst 2, 1) := by decide +kernel
theorem dX6_check_7 : decode cX6_check 7 = .ok (.if_icmp .ne 7, 3) := by decide +kernel
theorem dX6_check_10 : decode cX6_check 10 = .ok (.iconst 1, 1) := by decide +kernel
theorem dX6_check_11 : decode cX6_check 11 = .ok (.goto 4, 3) := by decide +kernel
theorem dX6_check_14 : decode cX6_check 14 = .ok (.iconst 0, 1) := by decide +kernel
theorem dX6_check_15 : decode cX6_check 15 = .ok (.istore_n 3, 1) := by decide +kernel
theorem dX6_check_16 : decode cX6_check 16 = .ok (.aload_n 0, 1) := by decide +kernel
theorem dX6_check_17 : decode cX6_check 17 = .ok (.iload_n 1, 1) := by decide +kernel
theorem dX6_check_18 : decode cX6_check 18 = .ok (.iconst 0, 1) := by decide +kernel
theorem dX6_check_19 : decode cX6_check 19 = .ok (.invokevirtual 57, 3) := by decide +kernel
theorem dX6_check_22 : decode cX6_check 22 = .ok (.ifCond .ne 7, 3) := by decide +kernel
theorem dX6_check_25 : decode cX6_check 25 = .ok (.iconst 1, 1) := by decide +kernel
theorem dX6_check_26 : decode cX6_check 26 = .ok (.goto 4, 3) := by decide +kernel
theorem dX6_check_29 : decode cX6_check 29 = .ok (.iconst 0, 1) := by decide +kernel
theorem dX6_check_30 : decode cX6_check 30 = .ok (.istore 4, 2) := by decide +kernel
theorem dX6_check_32 : decode cX6_check 32 = .ok (.iload_n 3, 1) := by decide +kernel
theorem dX6_check_33 : decode cX6_check 33 = .ok (.ifCond .ne 20, 3) := by decide +kernel
theorem dX6_check_36 : decode cX6_check 36 = .ok (.aload_n 0, 1) := by decide +kernel
theorem dX6_check_37 : decode cX6_check 37 = .ok (.iload_n 2, 1) := by decide +kernel
theorem dX6_check_38 : decode cX6_check 38 = .ok (.iconst 0, 1) := by decide +kernel
theorem dX6_check_39 : decode cX6_check 39 = .ok (.invokevirtual 46, 3) := by decide +kernel
theorem dX6_check_42 : decode cX6_check 42 = .ok (.aload_n 0, 1) := by decide +kernel
theorem dX6_check_43 : decode cX6_check 43 = .ok (.iload_n 1, 1) := by decide +kernel
theorem dX6_check_44 : decode cX6_check 44 = .ok (.iconst 1, 1) := by decide +kernel
theorem dX6_check_45 : decode cX6_check 45 = .ok (.invokevirtual 57, 3) := by decide +kernel
theorem dX6_check_48 : decode cX6_check 48 = .ok (.if_icmp .eq 5, 3) := by decide +kernel
theorem dX6_check_51 : decode cX6_check 51 = .ok (.iconst 1, 1) := by decide +kernel
theorem dX6_check_52 : decode cX6_check 52 = .ok (.ireturn, 1) := by decide +kernel
theorem dX6_check_53 : decode cX6_check 53 = .ok (.iload_n 3, 1) := by decide +kernel
theorem dX6_check_54 : decode cX6_check 54 = .ok (.ifCond .eq 13, 3) := by decide +kernel
theorem dX6_check_57 : decode cX6_check 57 = .ok (.aload_n 0, 1) := by decide +kernel
theorem dX6_check_58 : decode cX6_check 58 = .ok (.iload_n 2, 1) := by decide +kernel
theorem dX6_check_59 : decode cX6_check 59 = .ok (.invokevirtual 67, 3) := by decide +kernel
theorem dX6_check_62 : decode cX6_check 62 = .ok (.ifCond .ne 5, 3) := by decide +kernel
theorem dX6_check_65 : decode cX6_check 65 = .ok (.iconst 2, 1) := by decide +kernel
theorem dX6_check_66 : decode cX6_check 66 = .ok (.ireturn, 1) := by decide +kernel
theorem dX6_check_67 : decode cX6_check 67 = .ok (.iload 4, 2) := by decide +kernel
theorem dX6_check_69 : decode cX6_check 69 = .ok (.ifCond .eq 17, 3) := by decide +kernel
theorem dX6_check_72 : decode cX6_check 72 = .ok (.aload_n 0, 1) := by decide +kernel
theorem dX6_check_73 : decode cX6_check 73 = .ok (.iload_n 2, 1) := by decide +kernel
theorem dX6_check_74 : decode cX6_check 74 = .ok (.iconst 2, 1) := by decide +kernel
theorem dX6_check_75 : decode cX6_check 75 = .ok (.invokevirtual 46, 3) := by decide +kernel
theorem dX6_check_78 : decode cX6_check 78 = .ok (.iconst 1, 1) := by decide +kernel
theorem dX6_check_79 : decode cX6_check 79 = .ok (.if_icmp .ne 7, 3) := by decide +kernel
theorem dX6_check_82 : decode cX6_check 82 = .ok (.iconst 3, 1) := by decide +kernel
theorem dX6_check_83 : decode cX6_check 83 = .ok (.goto 22, 3) := by decide +kernel
theorem dX6_check_86 : decode cX6_check 86 = .ok (.iload 4, 2) := by decide +kernel
theorem dX6_check_88 : decode cX6_check 88 = .ok (.ifCond .ne 16, 3) := by decide +kernel
theorem dX6_check_91 : decode cX6_check 91 = .ok (.aload_n 0, 1) := by decide +kernel
theorem dX6_check_92 : decode cX6_check 92 = .ok (.iload_n 2, 1) := by decide +kernel
theorem dX6_check_93 : decode cX6_check 93 = .ok (.iconst 2, 1) := by decide +kernel
theorem dX6_check_94 : decode cX6_check 94 = .ok (.invokevirtual 46, 3) := by decide +kernel
theorem dX6_check_97 : decode cX6_check 97 = .ok (.ifCond .ne 7, 3) := by decide +kernel
theorem dX6_check_100 : decode cX6_check 100 = .ok (.iconst 4, 1) := by decide +kernel
theorem dX6_check_101 : decode cX6_check 101 = .ok (.goto 4, 3) := by decide +kernel
theorem dX6_check_104 : decode cX6_check 104 = .ok (.iconst 0, 1) := by decide +kernel
theorem dX6_check_105 : decode cX6_check 105 = .ok (.ireturn, 1) := by decide +kernel
theorem dX6_onDrive_0 : decode cX6_onDrive 0 = .ok (.iconst (-1), 1) := by decide +kernel
theorem dX6_onDrive_1 : decode cX6_onDrive 1 = .ok (.istore_n 2, 1) := by decide +kernel
theorem dX6_onDrive_2 : decode cX6_onDrive 2 = .ok (.iconst 0, 1) := by decide +kernel
theorem dX6_onDrive_3 : decode cX6_onDrive 3 = .ok (.istore_n 3, 1) := by decide +kernel
theorem dX6_onDrive_4 : decode cX6_onDrive 4 = .ok (.iload_n 3, 1) := by decide +kernel
theorem dX6_onDrive_5 : decode cX6_onDrive 5 = .ok (.bipush 12, 2) := by decide +kernel
theorem dX6_onDrive_7 : decode cX6_onDrive 7 = .ok (.if_icmp .ge 25, 3) := by decide +kernel
theorem dX6_onDrive_10 : decode cX6_onDrive 10 = .ok (.aload_n 0, 1) := by decide +kernel
theorem dX6_onDrive_11 : decode cX6_onDrive 11 = .ok (.iload_n 3, 1) := by decide +kernel
theorem dX6_onDrive_12 : decode cX6_onDrive 12 = .ok (.iconst 5, 1) := by decide +kernel
theorem dX6_onDrive_13 : decode cX6_onDrive 13 = .ok (.invokevirtual 46, 3) := by decide +kernel
theorem dX6_onDrive_16 : decode cX6_onDrive 16 = .ok (.iload_n 1, 1) := by decide +kernel
theorem dX6_onDrive_17 : decode cX6_onDrive 17 = .ok (.if_icmp .ne 7, 3) := by decide +kernel
theorem dX6_onDrive_20 : decode cX6_onDrive 20 = .ok (.iload_n 3, 1) := by decide +kernel
theorem dX6_onDrive_21 : decode cX6_onDrive 21 = .ok (.goto 4, 3) := by decide +kernel
theorem dX6_onDrive_24 : decode cX6_onDrive 24 = .ok (.iload_n 2, 1) := by decide +kernel
theorem dX6_onDrive_25 : decode cX6_onDrive 25 = .ok (.istore_n 2, 1) := by decide +kernel
theorem dX6_onDrive_26 : decode cX6_onDrive 26 = .ok (.iinc 3 1, 3) := by decide +kernel
theorem dX6_onDrive_29 : decode cX6_onDrive 29 = .ok (.goto (-25), 3) := by decide +kernel
theorem dX6_onDrive_32 : decode cX6_onDrive 32 = .ok (.iload_n 2, 1) := by decide +kernel
theorem dX6_onDrive_33 : decode cX6_onDrive 33 = .ok (.ireturn, 1) := by decide +kernel
theorem dX6_emptyDrive_0 : decode cX6_emptyDrive 0 = .ok (.iconst (-1), 1) := by decide +kernel
theorem dX6_emptyDrive_1 : decode cX6_emptyDrive 1 = .ok (.istore_n 1, 1) := by decide +kernel
theorem dX6_emptyDrive_2 : decode cX6_emptyDrive 2 = .ok (.iconst 2, 1) := by decide +kernel
theorem dX6_emptyDrive_3 : decode cX6_emptyDrive 3 = .ok (.istore_n 2, 1) := by decide +kernel
theorem dX6_emptyDrive_4 : decode cX6_emptyDrive 4 = .ok (.iload_n 2, 1) := by decide +kernel
theorem dX6_emptyDrive_5 : decode cX6_emptyDrive 5 = .ok (.ifCond .lt 24, 3) := by decide +kernel
theorem dX6_emptyDrive_8 : decode cX6_emptyDrive 8 = .ok (.aload_n 0, 1) := by decide +kernel
theorem dX6_emptyDrive_9 : decode cX6_emptyDrive 9 = .ok (.iload_n 2, 1) := by decide +kernel
theorem dX6_emptyDrive_10 : decode cX6_emptyDrive 10 = .ok (.invokevirtual 70, 3) := by decide +kernel
theorem dX6_emptyDrive_13 : decode cX6_emptyDrive 13 = .ok (.iconst (-1), 1) := by decide +kernel
theorem dX6_emptyDrive_14 : decode cX6_emptyDrive 14 = .ok (.if_icmp .ne 7, 3) := by decide +kernel
theorem dX6_emptyDrive_17 : decode cX6_emptyDrive 17 = .ok (.iload_n 2, 1) := by decide +kernel
theorem dX6_emptyDrive_18 : decode cX6_emptyDrive 18 = .ok (.goto 4, 3) := by decide +kernel
theorem dX6_emptyDrive_21 : decode cX6_emptyDrive 21 = .ok (.iload_n 1, 1) := by decide +kernel
theorem dX6_emptyDrive_22 : decode cX6_emptyDrive 22 = .ok (.istore_n 1, 1) := by decide +kernel
theorem dX6_emptyDrive_23 : decode cX6_emptyDrive 23 = .ok (.iinc 2 (-1), 3) := by decide +kernel
theorem dX6_emptyDrive_26 : decode cX6_emptyDrive 26 = .ok (.goto (-22), 3) := by decide +kernel
theorem dX6_emptyDrive_29 : decode cX6_emptyDrive 29 = .ok (.iload_n 1, 1) := by decide +kernel
theorem dX6_emptyDrive_30 : decode cX6_emptyDrive 30 = .ok (.ireturn, 1) := by decide +kernel
theorem dX6_mount_0 : decode cX6_mount 0 = .ok (.aload_n 0, 1) := by decide +kernel
theorem dX6_mount_1 : decode cX6_mount 1 = .ok (.iload_n 2, 1) := by decide +kernel
theorem dX6_mount_2 : decode cX6_mount 2 = .ok (.iconst 5, 1) := by decide +kernel
theorem dX6_mount_3 : decode cX6_mount 3 = .ok (.iload_n 3, 1) := by decide +kernel
theorem dX6_mount_4 : decode cX6_mount 4 = .ok (.invokevirtual 34, 3) := by decide +kernel
theorem dX6_mount_7 : decode cX6_mount 7 = .ok (.aload_n 0, 1) := by decide +kernel
theorem dX6_mount_8 : decode cX6_mount 8 = .ok (.iload_n 1, 1) := by decide +kernel
theorem dX6_mount_9 : decode cX6_mount 9 = .ok (.iconst 4, 1) := by decide +kernel
theorem dX6_mount_10 : decode cX6_mount 10 = .ok (.iconst 1, 1) := by decide +kernel
theorem dX6_mount_11 : decode cX6_mount 11 = .ok (.invokevirtual 73, 3) := by decide +kernel
theorem dX6_mount_14 : decode cX6_mount 14 = .ok (.aload_n 0, 1) := by decide +kernel
theorem dX6_mount_15 : decode cX6_mount 15 = .ok (.iload_n 1, 1) := by decide +kernel
theorem dX6_mount_16 : decode cX6_mount 16 = .ok (.bipush 6, 2) := by decide +kernel
theorem dX6_mount_18 : decode cX6_mount 18 = .ok (.iload_n 2, 1) := by decide +kernel
theorem dX6_mount_19 : decode cX6_mount 19 = .ok (.invokevirtual 73, 3) := by decide +kernel
theorem dX6_mount_22 : decode cX6_mount 22 = .ok (.aload_n 0, 1) := by decide +kernel
theorem dX6_mount_23 : decode cX6_mount 23 = .ok (.iload_n 1, 1) := by decide +kernel
theorem dX6_mount_24 : decode cX6_mount 24 = .ok (.iconst 0, 1) := by decide +kernel
theorem dX6_mount_25 : decode cX6_mount 25 = .ok (.invokevirtual 57, 3) := by decide +kernel
theorem dX6_mount_28 : decode cX6_mount 28 = .ok (.iconst 2, 1) := by decide +kernel
theorem dX6_mount_29 : decode cX6_mount 29 = .ok (.if_icmp .ne 54, 3) := by decide +kernel
theorem dX6_mount_32 : decode cX6_mount 32 = .ok (.aload_n 0, 1) := by decide +kernel
theorem dX6_mount_33 : decode cX6_mount 33 = .ok (.iload_n 2, 1) := by decide +kernel
theorem dX6_mount_34 : decode cX6_mount 34 = .ok (.iconst 0, 1) := by decide +kernel
theorem dX6_mount_35 : decode cX6_mount 35 = .ok (.aload_n 0, 1) := by decide +kernel
theorem dX6_mount_36 : decode cX6_mount 36 = .ok (.iload_n 1, 1) := by decide +kernel
theorem dX6_mount_37 : decode cX6_mount 37 = .ok (.iconst 1, 1) := by decide +kernel
theorem dX6_mount_38 : decode cX6_mount 38 = .ok (.invokevirtual 57, 3) := by decide +kernel
theorem dX6_mount_41 : decode cX6_mount 41 = .ok (.invokevirtual 34, 3) := by decide +kernel
theorem dX6_mount_44 : decode cX6_mount 44 = .ok (.aload_n 0, 1) := by decide +kernel
theorem dX6_mount_45 : decode cX6_mount 45 = .ok (.iload_n 2, 1) := by decide +kernel
theorem dX6_mount_46 : decode cX6_mount 46 = .ok (.iconst 1, 1) := by decide +kernel
theorem dX6_mount_47 : decode cX6_mount 47 = .ok (.aload_n 0, 1) := by decide +kernel
theorem dX6_mount_48 : decode cX6_mount 48 = .ok (.iload_n 1, 1) := by decide +kernel
theorem dX6_mount_49 : decode cX6_mount 49 = .ok (.iconst 1, 1) := by decide +kernel
theorem dX6_mount_50 : decode cX6_mount 50 = .ok (.invokevirtual 57, 3) := by decide +kernel
theorem dX6_mount_53 : decode cX6_mount 53 = .ok (.invokevirtual 34, 3) := by decide +kernel
theorem dX6_mount_56 : decode cX6_mount 56 = .ok (.aload_n 0, 1) := by decide +kernel
theorem dX6_mount_57 : decode cX6_mount 57 = .ok (.iload_n 2, 1) := by decide +kernel
theorem dX6_mount_58 : decode cX6_mount 58 = .ok (.iconst 3, 1) := by decide +kernel
theorem dX6_mount_59 : decode cX6_mount 59 = .ok (.aload_n 0, 1) := by decide +kernel
theorem dX6_mount_60 : decode cX6_mount 60 = .ok (.getfield 7, 3) := by decide +kernel
theorem dX6_mount_63 : decode cX6_mount 63 = .ok (.iconst 0, 1) := by decide +kernel
theorem dX6_mount_64 : decode cX6_mount 64 = .ok (.iaload, 1) := by decide +kernel
theorem dX6_mount_65 : decode cX6_mount 65 = .ok (.aload_n 0, 1) := by decide +kernel
theorem dX6_mount_66 : decode cX6_mount 66 = .ok (.getfield 7, 3) := by decide +kernel
theorem dX6_mount_69 : decode cX6_mount 69 = .ok (.bipush 9, 2) := by decide +kernel
theorem dX6_mount_71 : decode cX6_mount 71 = .ok (.iaload, 1) := by decide +kernel
theorem dX6_mount_72 : decode cX6_mount 72 = .ok (.iadd, 1) := by decide +kernel
theorem dX6_mount_73 : decode cX6_mount 73 = .ok (.invokevirtual 34, 3) := by decide +kernel
theorem dX6_mount_76 : decode cX6_mount 76 = .ok (.aload_n 0, 1) := by decide +kernel
theorem dX6_mount_77 : decode cX6_mount 77 = .ok (.iload_n 2, 1) := by decide +kernel
theorem dX6_mount_78 : decode cX6_mount 78 = .ok (.iconst 4, 1) := by decide +kernel
theorem dX6_mount_79 : decode cX6_mount 79 = .ok (.iconst 0, 1) := by decide +kernel
theorem dX6_mount_80 : decode cX6_mount 80 = .ok (.invokevirtual 34, 3) := by decide +kernel
theorem dX6_mount_83 : decode cX6_mount 83 = .ok (.return_, 1) := by decide +kernel
theorem dX6_serve_0 : decode cX6_serve 0 = .ok (.aload_n 0, 1) := by decide +kernel
theorem dX6_serve_1 : decode cX6_serve 1 = .ok (.getfield 7, 3) := by decide +kernel
theorem dX6_serve_4 : decode cX6_serve 4 = .ok (.iconst 2, 1) := by decide +kernel
theorem dX6_serve_5 : decode cX6_serve 5 = .ok (.dup2, 1) := by decide +kernel
theorem dX6_serve_6 : decode cX6_serve 6 = .ok (.iaload, 1) := by decide +kernel
theorem dX6_serve_7 : decode cX6_serve 7 = .ok (.iconst 1, 1) := by decide +kernel
theorem dX6_serve_8 : decode cX6_serve 8 = .ok (.iadd, 1) := by decide +kernel
theorem dX6_serve_9 : decode cX6_serve 9 = .ok (.iastore, 1) := by decide +kernel
theorem dX6_serve_10 : decode cX6_serve 10 = .ok (.aload_n 0, 1) := by decide +kernel
theorem dX6_serve_11 : decode cX6_serve 11 = .ok (.iload_n 1, 1) := by decide +kernel
theorem dX6_serve_12 : decode cX6_serve 12 = .ok (.invokevirtual 64, 3) := by decide +kernel
theorem dX6_serve_15 : decode cX6_serve 15 = .ok (.istore_n 3, 1) := by decide +kernel
theorem dX6_serve_16 : decode cX6_serve 16 = .ok (.aload_n 0, 1) := by decide +kernel
theorem dX6_serve_17 : decode cX6_serve 17 = .ok (.aload_n 0, 1) := by decide +kernel
theorem dX6_serve_18 : decode cX6_serve 18 = .ok (.getfield 7, 3) := by decide +kernel
theorem dX6_serve_21 : decode cX6_serve 21 = .ok (.iconst 2, 1) := by decide +kernel
theorem dX6_serve_22 : decode cX6_serve 22 = .ok (.iaload, 1) := by decide +kernel
theorem dX6_serve_23 : decode cX6_serve 23 = .ok (.invokevirtual 76, 3) := by decide +kernel
theorem dX6_serve_26 : decode cX6_serve 26 = .ok (.ifCond .eq 22, 3) := by decide +kernel
theorem dX6_serve_29 : decode cX6_serve 29 = .ok (.aload_n 0, 1) := by decide +kernel
theorem dX6_serve_30 : decode cX6_serve 30 = .ok (.getfield 7, 3) := by decide +kernel
theorem dX6_serve_33 : decode cX6_serve 33 = .ok (.iconst 3, 1) := by decide +kernel
theorem dX6_serve_34 : decode cX6_serve 34 = .ok (.dup2, 1) := by decide +kernel
theorem dX6_serve_35 : decode cX6_serve 35 = .ok (.iaload, 1) := by decide +kernel
theorem dX6_serve_36 : decode cX6_serve 36 = .ok (.iconst 1, 1) := by decide +kernel
theorem dX6_serve_37 : decode cX6_serve 37 = .ok (.iadd, 1) := by decide +kernel
theorem dX6_serve_38 : decode cX6_serve 38 = .ok (.iastore, 1) := by decide +kernel
theorem dX6_serve_39 : decode cX6_serve 39 = .ok (.aload_n 0, 1) := by decide +kernel
theorem dX6_serve_40 : decode cX6_serve 40 = .ok (.iload_n 3, 1) := by decide +kernel
theorem dX6_serve_41 : decode cX6_serve 41 = .ok (.invokevirtual 79, 3) := by decide +kernel
theorem dX6_serve_44 : decode cX6_serve 44 = .ok (.istore_n 3, 1) := by decide +kernel
theorem dX6_serve_45 : decode cX6_serve 45 = .ok (.goto 23, 3) := by decide +kernel
theorem dX6_serve_48 : decode cX6_serve 48 = .ok (.aload_n 0, 1) := by decide +kernel
theorem dX6_serve_49 : decode cX6_serve 49 = .ok (.iload_n 3, 1) := by decide +kernel
theorem dX6_serve_50 : decode cX6_serve 50 = .ok (.iconst 2, 1) := by decide +kernel
theorem dX6_serve_51 : decode cX6_serve 51 = .ok (.aload_n 0, 1) := by decide +kernel
theorem dX6_serve_52 : decode cX6_serve 52 = .ok (.iload_n 1, 1) := by decide +kernel
theorem dX6_serve_53 : decode cX6_serve 53 = .ok (.iconst 0, 1) := by decide +kernel
theorem dX6_serve_54 : decode cX6_serve 54 = .ok (.invokevirtual 57, 3) := by decide +kernel
theorem dX6_serve_57 : decode cX6_serve 57 = .ok (.ifCond .ne 7, 3) := by decide +kernel
theorem dX6_serve_60 : decode cX6_serve 60 = .ok (.iconst 0, 1) := by decide +kernel
theorem dX6_serve_61 : decode cX6_serve 61 = .ok (.goto 4, 3) := by decide +kernel
theorem dX6_serve_64 : decode cX6_serve 64 = .ok (.iconst 1, 1) := by decide +kernel
theorem dX6_serve_65 : decode cX6_serve 65 = .ok (.invokevirtual 34, 3) := by decide +kernel
theorem dX6_serve_68 : decode cX6_serve 68 = .ok (.aload_n 0, 1) := by decide +kernel
theorem dX6_serve_69 : decode cX6_serve 69 = .ok (.iload_n 1, 1) := by decide +kernel
theorem dX6_serve_70 : decode cX6_serve 70 = .ok (.iload_n 3, 1) := by decide +kernel
theorem dX6_serve_71 : decode cX6_serve 71 = .ok (.invokevirtual 82, 3) := by decide +kernel
theorem dX6_serve_74 : decode cX6_serve 74 = .ok (.ifCond .ne 13, 3) := by decide +kernel
theorem dX6_serve_77 : decode cX6_serve 77 = .ok (.aload_n 0, 1) := by decide +kernel
theorem dX6_serve_78 : decode cX6_serve 78 = .ok (.iload_n 1, 1) := by decide +kernel
theorem dX6_serve_79 : decode cX6_serve 79 = .ok (.iload_n 3, 1) := by decide +kernel
theorem dX6_serve_80 : decode cX6_serve 80 = .ok (.iload_n 2, 1) := by decide +kernel
theorem dX6_serve_81 : decode cX6_serve 81 = .ok (.invokevirtual 85, 3) := by decide +kernel
theorem dX6_serve_84 : decode cX6_serve 84 = .ok (.goto 53, 3) := by decide +kernel
theorem dX6_serve_87 : decode cX6_serve 87 = .ok (.aload_n 0, 1) := by decide +kernel
theorem dX6_serve_88 : decode cX6_serve 88 = .ok (.iload_n 3, 1) := by decide +kernel
theorem dX6_serve_89 : decode cX6_serve 89 = .ok (.iconst 1, 1) := by decide +kernel
theorem dX6_serve_90 : decode cX6_serve 90 = .ok (.aload_n 0, 1) := by decide +kernel
theorem dX6_serve_91 : decode cX6_serve 91 = .ok (.iload_n 3, 1) := by decide +kernel
theorem dX6_serve_92 : decode cX6_serve 92 = .ok (.invokevirtual 67, 3) := by decide +kernel
theorem dX6_serve_95 : decode cX6_serve 95 = .ok (.ifCond .eq 7, 3) := by decide +kernel
theorem dX6_serve_98 : decode cX6_serve 98 = .ok (.iconst 0, 1) := by decide +kernel
theorem dX6_serve_99 : decode cX6_serve 99 = .ok (.goto 9, 3) := by decide +kernel
theorem dX6_serve_102 : decode cX6_serve 102 = .ok (.aload_n 0, 1) := by decide +kernel
theorem dX6_serve_103 : decode cX6_serve 103 = .ok (.iload_n 3, 1) := by decide +kernel
theorem dX6_serve_104 : decode cX6_serve 104 = .ok (.iconst 0, 1) := by decide +kernel
theorem dX6_serve_105 : decode cX6_serve 105 = .ok (.invokevirtual 46, 3) := by decide +kernel
theorem dX6_serve_108 : decode cX6_serve 108 = .ok (.invokevirtual 34, 3) := by decide +kernel
theorem dX6_serve_111 : decode cX6_serve 111 = .ok (.aload_n 0, 1) := by decide +kernel
theorem dX6_serve_112 : decode cX6_serve 112 = .ok (.iload_n 1, 1) := by decide +kernel
theorem dX6_serve_113 : decode cX6_serve 113 = .ok (.bipush 7, 2) := by decide +kernel
theorem dX6_serve_115 : decode cX6_serve 115 = .ok (.aload_n 0, 1) := by decide +kernel
theorem dX6_serve_116 : decode cX6_serve 116 = .ok (.iload_n 1, 1) := by decide +kernel
theorem dX6_serve_117 : decode cX6_serve 117 = .ok (.bipush 7, 2) := by decide +kernel
theorem dX6_serve_119 : decode cX6_serve 119 = .ok (.invokevirtual 57, 3) := by decide +kernel
theorem dX6_serve_122 : decode cX6_serve 122 = .ok (.iconst 1, 1) := by decide +kernel
theorem dX6_serve_123 : decode cX6_serve 123 = .ok (.iadd, 1) := by decide +kernel
theorem dX6_serve_124 : decode cX6_serve 124 = .ok (.invokevirtual 73, 3) := by decide +kernel
theorem dX6_serve_127 : decode cX6_serve 127 = .ok (.aload_n 0, 1) := by decide +kernel
theorem dX6_serve_128 : decode cX6_serve 128 = .ok (.getfield 7, 3) := by decide +kernel
theorem dX6_serve_131 : decode cX6_serve 131 = .ok (.iconst 4, 1) := by decide +kernel
theorem dX6_serve_132 : decode cX6_serve 132 = .ok (.dup2, 1) := by decide +kernel
theorem dX6_serve_133 : decode cX6_serve 133 = .ok (.iaload, 1) := by decide +kernel
theorem dX6_serve_134 : decode cX6_serve 134 = .ok (.iconst 1, 1) := by decide +kernel
theorem dX6_serve_135 : decode cX6_serve 135 = .ok (.iadd, 1) := by decide +kernel
theorem dX6_serve_136 : decode cX6_serve 136 = .ok (.iastore, 1) := by decide +kernel
theorem dX6_serve_137 : decode cX6_serve 137 = .ok (.return_, 1) := by decide +kernel
theorem dX6_takeOff_0 : decode cX6_takeOff 0 = .ok (.aload_n 0, 1) := by decide +kernel
theorem dX6_takeOff_1 : decode cX6_takeOff 1 = .ok (.aload_n 0, 1) := by decide +kernel
theorem dX6_takeOff_2 : decode cX6_takeOff 2 = .ok (.iload_n 1, 1) := by decide +kernel
theorem dX6_takeOff_3 : decode cX6_takeOff 3 = .ok (.bipush 6, 2) := by decide +kernel
theorem dX6_takeOff_5 : decode cX6_takeOff 5 = .ok (.invokevirtual 57, 3) := by decide +kernel
theorem dX6_takeOff_8 : decode cX6_takeOff 8 = .ok (.iconst 5, 1) := by decide +kernel
theorem dX6_takeOff_9 : decode cX6_takeOff 9 = .ok (.iconst (-1), 1) := by decide +kernel
theorem dX6_takeOff_10 : decode cX6_takeOff 10 = .ok (.invokevirtual 34, 3) := by decide +kernel
theorem dX6_takeOff_13 : decode cX6_takeOff 13 = .ok (.aload_n 0, 1) := by decide +kernel
theorem dX6_takeOff_14 : decode cX6_takeOff 14 = .ok (.iload_n 1, 1) := by decide +kernel
theorem dX6_takeOff_15 : decode cX6_takeOff 15 = .ok (.bipush 6, 2) := by decide +kernel
theorem dX6_takeOff_17 : decode cX6_takeOff 17 = .ok (.iconst (-1), 1) := by decide +kernel
theorem dX6_takeOff_18 : decode cX6_takeOff 18 = .ok (.invokevirtual 73, 3) := by decide +kernel
theorem dX6_takeOff_21 : decode cX6_takeOff 21 = .ok (.return_, 1) := by decide +kernel
theorem dX6_isDoneNow_0 : decode cX6_isDoneNow 0 = .ok (.aload_n 0, 1) := by decide +kernel
theorem dX6_isDoneNow_1 : decode cX6_isDoneNow 1 = .ok (.iload_n 1, 1) := by decide +kernel
theorem dX6_isDoneNow_2 : decode cX6_isDoneNow 2 = .ok (.bipush 6, 2) := by decide +kernel
theorem dX6_isDoneNow_4 : decode cX6_isDoneNow 4 = .ok (.invokevirtual 57, 3) := by decide +kernel
theorem dX6_isDoneNow_7 : decode cX6_isDoneNow 7 = .ok (.istore_n 2, 1) := by decide +kernel
theorem dX6_isDoneNow_8 : decode cX6_isDoneNow 8 = .ok (.aload_n 0, 1) := by decide +kernel
theorem dX6_isDoneNow_9 : decode cX6_isDoneNow 9 = .ok (.iload_n 1, 1) := by decide +kernel
theorem dX6_isDoneNow_10 : decode cX6_isDoneNow 10 = .ok (.iconst 0, 1) := by decide +kernel
theorem dX6_isDoneNow_11 : decode cX6_isDoneNow 11 = .ok (.invokevirtual 57, 3) := by decide +kernel
theorem dX6_isDoneNow_14 : decode cX6_isDoneNow 14 = .ok (.ifCond .ne 16, 3) := by decide +kernel
theorem dX6_isDoneNow_17 : decode cX6_isDoneNow 17 = .ok (.aload_n 0, 1) := by decide +kernel
theorem dX6_isDoneNow_18 : decode cX6_isDoneNow 18 = .ok (.getfield 7, 3) := by decide +kernel
theorem dX6_isDoneNow_21 : decode cX6_isDoneNow 21 = .ok (.iconst 5, 1) := by decide +kernel
theorem dX6_isDoneNow_22 : decode cX6_isDoneNow 22 = .ok (.dup2, 1) := by decide +kernel
theorem dX6_isDoneNow_23 : decode cX6_isDoneNow 23 = .ok (.iaload, 1) := by decide +kernel
theorem dX6_isDoneNow_24 : decode cX6_isDoneNow 24 = .ok (.iconst 1, 1) := by decide +kernel
theorem dX6_isDoneNow_25 : decode cX6_isDoneNow 25 = .ok (.iadd, 1) := by decide +kernel
theorem dX6_isDoneNow_26 : decode cX6_isDoneNow 26 = .ok (.iastore, 1) := by decide +kernel
theorem dX6_isDoneNow_27 : decode cX6_isDoneNow 27 = .ok (.goto 53, 3) := by decide +kernel
theorem dX6_isDoneNow_30 : decode cX6_isDoneNow 30 = .ok (.aload_n 0, 1) := by decide +kernel
theorem dX6_isDoneNow_31 : decode cX6_isDoneNow 31 = .ok (.iload_n 2, 1) := by decide +kernel
theorem dX6_isDoneNow_32 : decode cX6_isDoneNow 32 = .ok (.iconst 4, 1) := by decide +kernel
theorem dX6_isDoneNow_33 : decode cX6_isDoneNow 33 = .ok (.invokevirtual 46, 3) := by decide +kernel
theorem dX6_isDoneNow_36 : decode cX6_isDoneNow 36 = .ok (.bipush 99, 2) := by decide +kernel
theorem dX6_isDoneNow_38 : decode cX6_isDoneNow 38 = .ok (.if_icmp .ne 17, 3) := by decide +kernel
theorem dX6_isDoneNow_41 : decode cX6_isDoneNow 41 = .ok (.aload_n 0, 1) := by decide +kernel
theorem dX6_isDoneNow_42 : decode cX6_isDoneNow 42 = .ok (.getfield 7, 3) := by decide +kernel
theorem dX6_isDoneNow_45 : decode cX6_isDoneNow 45 = .ok (.bipush 7, 2) := by decide +kernel
theorem dX6_isDoneNow_47 : decode cX6_isDoneNow 47 = .ok (.dup2, 1) := by decide +kernel
theorem dX6_isDoneNow_48 : decode cX6_isDoneNow 48 = .ok (.iaload, 1) := by decide +kernel
theorem dX6_isDoneNow_49 : decode cX6_isDoneNow 49 = .ok (.iconst 1, 1) := by decide +kernel
theorem dX6_isDoneNow_50 : decode cX6_isDoneNow 50 = .ok (.iadd, 1) := by decide +kernel
theorem dX6_isDoneNow_51 : decode cX6_isDoneNow 51 = .ok (.iastore, 1) := by decide +kernel
theorem dX6_isDoneNow_52 : decode cX6_isDoneNow 52 = .ok (.goto 28, 3) := by decide +kernel
theorem dX6_isDoneNow_55 : decode cX6_isDoneNow 55 = .ok (.aload_n 0, 1) := by decide +kernel
theorem dX6_isDoneNow_56 : decode cX6_isDoneNow 56 = .ok (.iload_n 2, 1) := by decide +kernel
theorem dX6_isDoneNow_57 : decode cX6_isDoneNow 57 = .ok (.iconst 4, 1) := by decide +kernel
theorem dX6_isDoneNow_58 : decode cX6_isDoneNow 58 = .ok (.aload_n 0, 1) := by decide +kernel
theorem dX6_isDoneNow_59 : decode cX6_isDoneNow 59 = .ok (.iload_n 2, 1) := by decide +kernel
theorem dX6_isDoneNow_60 : decode cX6_isDoneNow 60 = .ok (.iconst 4, 1) := by decide +kernel
theorem dX6_isDoneNow_61 : decode cX6_isDoneNow 61 = .ok (.invokevirtual 46, 3) := by decide +kernel
theorem dX6_isDoneNow_64 : decode cX6_isDoneNow 64 = .ok (.iconst 1, 1) := by decide +kernel
theorem dX6_isDoneNow_65 : decode cX6_isDoneNow 65 = .ok (.iadd, 1) := by decide +kernel
theorem dX6_isDoneNow_66 : decode cX6_isDoneNow 66 = .ok (.invokevirtual 34, 3) := by decide +kernel
theorem dX6_isDoneNow_69 : decode cX6_isDoneNow 69 = .ok (.aload_n 0, 1) := by decide +kernel
theorem dX6_isDoneNow_70 : decode cX6_isDoneNow 70 = .ok (.getfield 7, 3) := by decide +kernel
theorem dX6_isDoneNow_73 : decode cX6_isDoneNow 73 = .ok (.bipush 6, 2) := by decide +kernel
theorem dX6_isDoneNow_75 : decode cX6_isDoneNow 75 = .ok (.dup2, 1) := by decide +kernel
theorem dX6_isDoneNow_76 : decode cX6_isDoneNow 76 = .ok (.iaload, 1) := by decide +kernel
theorem dX6_isDoneNow_77 : decode cX6_isDoneNow 77 = .ok (.iconst 1, 1) := by decide +kernel
theorem dX6_isDoneNow_78 : decode cX6_isDoneNow 78 = .ok (.iadd, 1) := by decide +kernel
theorem dX6_isDoneNow_79 : decode cX6_isDoneNow 79 = .ok (.iastore, 1) := by decide +kernel
theorem dX6_isDoneNow_80 : decode cX6_isDoneNow 80 = .ok (.aload_n 0, 1) := by decide +kernel
theorem dX6_isDoneNow_81 : decode cX6_isDoneNow 81 = .ok (.iload_n 1, 1) := by decide +kernel
theorem dX6_isDoneNow_82 : decode cX6_isDoneNow 82 = .ok (.iconst 5, 1) := by decide +kernel
theorem dX6_isDoneNow_83 : decode cX6_isDoneNow 83 = .ok (.aload_n 0, 1) := by decide +kernel
theorem dX6_isDoneNow_84 : decode cX6_isDoneNow 84 = .ok (.iload_n 1, 1) := by decide +kernel
theorem dX6_isDoneNow_85 : decode cX6_isDoneNow 85 = .ok (.iconst 5, 1) := by decide +kernel
theorem dX6_isDoneNow_86 : decode cX6_isDoneNow 86 = .ok (.invokevirtual 57, 3) := by decide +kernel
theorem dX6_isDoneNow_89 : decode cX6_isDoneNow 89 = .ok (.iconst 1, 1) := by decide +kernel
theorem dX6_isDoneNow_90 : decode cX6_isDoneNow 90 = .ok (.iadd, 1) := by decide +kernel
theorem dX6_isDoneNow_91 : decode cX6_isDoneNow 91 = .ok (.invokevirtual 73, 3) := by decide +kernel
theorem dX6_isDoneNow_94 : decode cX6_isDoneNow 94 = .ok (.aload_n 0, 1) := by decide +kernel
theorem dX6_isDoneNow_95 : decode cX6_isDoneNow 95 = .ok (.iload_n 1, 1) := by decide +kernel
theorem dX6_isDoneNow_96 : decode cX6_isDoneNow 96 = .ok (.iconst 5, 1) := by decide +kernel
theorem dX6_isDoneNow_97 : decode cX6_isDoneNow 97 = .ok (.invokevirtual 57, 3) := by decide +kernel
theorem dX6_isDoneNow_100 : decode cX6_isDoneNow 100 = .ok (.aload_n 0, 1) := by decide +kernel
theorem dX6_isDoneNow_101 : decode cX6_isDoneNow 101 = .ok (.iload_n 1, 1) := by decide +kernel
theorem dX6_isDoneNow_102 : decode cX6_isDoneNow 102 = .ok (.iconst 2, 1) := by decide +kernel
theorem dX6_isDoneNow_103 : decode cX6_isDoneNow 103 = .ok (.invokevirtual 57, 3) := by decide +kernel
theorem dX6_isDoneNow_106 : decode cX6_isDoneNow 106 = .ok (.if_icmp .ne 7, 3) := by decide +kernel
theorem dX6_isDoneNow_109 : decode cX6_isDoneNow 109 = .ok (.iconst 1, 1) := by decide +kernel
theorem dX6_isDoneNow_110 : decode cX6_isDoneNow 110 = .ok (.goto 4, 3) := by decide +kernel
theorem dX6_isDoneNow_113 : decode cX6_isDoneNow 113 = .ok (.iconst 0, 1) := by decide +kernel
theorem dX6_isDoneNow_114 : decode cX6_isDoneNow 114 = .ok (.ireturn, 1) := by decide +kernel
theorem dX6_minute_0 : decode cX6_minute 0 = .ok (.iconst 0, 1) := by decide +kernel
theorem dX6_minute_1 : decode cX6_minute 1 = .ok (.istore_n 1, 1) := by decide +kernel
theorem dX6_minute_2 : decode cX6_minute 2 = .ok (.iconst 0, 1) := by decide +kernel
theorem dX6_minute_3 : decode cX6_minute 3 = .ok (.istore_n 2, 1) := by decide +kernel
theorem dX6_minute_4 : decode cX6_minute 4 = .ok (.iload_n 2, 1) := by decide +kernel
theorem dX6_minute_5 : decode cX6_minute 5 = .ok (.aload_n 0, 1) := by decide +kernel
theorem dX6_minute_6 : decode cX6_minute 6 = .ok (.getfield 7, 3) := by decide +kernel
theorem dX6_minute_9 : decode cX6_minute 9 = .ok (.bipush 82, 2) := by decide +kernel
theorem dX6_minute_11 : decode cX6_minute 11 = .ok (.iaload, 1) := by decide +kernel
theorem dX6_minute_12 : decode cX6_minute 12 = .ok (.if_icmp .ge 42, 3) := by decide +kernel
theorem dX6_minute_15 : decode cX6_minute 15 = .ok (.aload_n 0, 1) := by decide +kernel
theorem dX6_minute_16 : decode cX6_minute 16 = .ok (.iload_n 2, 1) := by decide +kernel
theorem dX6_minute_17 : decode cX6_minute 17 = .ok (.iconst 4, 1) := by decide +kernel
theorem dX6_minute_18 : decode cX6_minute 18 = .ok (.invokevirtual 57, 3) := by decide +kernel
theorem dX6_minute_21 : decode cX6_minute 21 = .ok (.iconst 1, 1) := by decide +kernel
theorem dX6_minute_22 : decode cX6_minute 22 = .ok (.if_icmp .ne 26, 3) := by decide +kernel
theorem dX6_minute_25 : decode cX6_minute 25 = .ok (.aload_n 0, 1) := by decide +kernel
theorem dX6_minute_26 : decode cX6_minute 26 = .ok (.iload_n 2, 1) := by decide +kernel
theorem dX6_minute_27 : decode cX6_minute 27 = .ok (.invokevirtual 88, 3) := by decide +kernel
theorem dX6_minute_30 : decode cX6_minute 30 = .ok (.ifCond .eq 18, 3) := by decide +kernel
theorem dX6_minute_33 : decode cX6_minute 33 = .ok (.aload_n 0, 1) := by decide +kernel
theorem dX6_minute_34 : decode cX6_minute 34 = .ok (.iload_n 2, 1) := by decide +kernel
theorem dX6_minute_35 : decode cX6_minute 35 = .ok (.iconst 4, 1) := by decide +kernel
theorem dX6_minute_36 : decode cX6_minute 36 = .ok (.iconst 2, 1) := by decide +kernel
theorem dX6_minute_37 : decode cX6_minute 37 = .ok (.invokevirtual 73, 3) := by decide +kernel
theorem dX6_minute_40 : decode cX6_minute 40 = .ok (.aload_n 0, 1) := by decide +kernel
theorem dX6_minute_41 : decode cX6_minute 41 = .ok (.iload_n 2, 1) := by decide +kernel
theorem dX6_minute_42 : decode cX6_minute 42 = .ok (.invokevirtual 91, 3) := by decide +kernel
theorem dX6_minute_45 : decode cX6_minute 45 = .ok (.iinc 1 1, 3) := by decide +kernel
theorem dX6_minute_48 : decode cX6_minute 48 = .ok (.iinc 2 1, 3) := by decide +kernel
theorem dX6_minute_51 : decode cX6_minute 51 = .ok (.goto (-47), 3) := by decide +kernel
theorem dX6_minute_54 : decode cX6_minute 54 = .ok (.aload_n 0, 1) := by decide +kernel
theorem dX6_minute_55 : decode cX6_minute 55 = .ok (.invokevirtual 95, 3) := by decide +kernel
theorem dX6_minute_58 : decode cX6_minute 58 = .ok (.istore_n 2, 1) := by decide +kernel
theorem dX6_minute_59 : decode cX6_minute 59 = .ok (.aload_n 0, 1) := by decide +kernel
theorem dX6_minute_60 : decode cX6_minute 60 = .ok (.invokevirtual 99, 3) := by decide +kernel
theorem dX6_minute_63 : decode cX6_minute 63 = .ok (.istore_n 3, 1) := by decide +kernel
theorem dX6_minute_64 : decode cX6_minute 64 = .ok (.iload_n 2, 1) := by decide +kernel
theorem dX6_minute_65 : decode cX6_minute 65 = .ok (.iconst (-1), 1) := by decide +kernel
theorem dX6_minute_66 : decode cX6_minute 66 = .ok (.if_icmp .eq 14, 3) := by decide +kernel
theorem dX6_minute_69 : decode cX6_minute 69 = .ok (.iload_n 3, 1) := by decide +kernel
theorem dX6_minute_70 : decode cX6_minute 70 = .ok (.iconst (-1), 1) := by decide +kernel
theorem dX6_minute_71 : decode cX6_minute 71 = .ok (.if_icmp .eq 9, 3) := by decide +kernel
theorem dX6_minute_74 : decode cX6_minute 74 = .ok (.aload_n 0, 1) := by decide +kernel
theorem dX6_minute_75 : decode cX6_minute 75 = .ok (.iload_n 2, 1) := by decide +kernel
theorem dX6_minute_76 : decode cX6_minute 76 = .ok (.iload_n 3, 1) := by decide +kernel
theorem dX6_minute_77 : decode cX6_minute 77 = .ok (.invokevirtual 102, 3) := by decide +kernel
theorem dX6_minute_80 : decode cX6_minute 80 = .ok (.aload_n 0, 1) := by decide +kernel
theorem dX6_minute_81 : decode cX6_minute 81 = .ok (.getfield 7, 3) := by decide +kernel
theorem dX6_minute_84 : decode cX6_minute 84 = .ok (.iconst 1, 1) := by decide +kernel
theorem dX6_minute_85 : decode cX6_minute 85 = .ok (.dup2, 1) := by decide +kernel
theorem dX6_minute_86 : decode cX6_minute 86 = .ok (.iaload, 1) := by decide +kernel
theorem dX6_minute_87 : decode cX6_minute 87 = .ok (.iconst 1, 1) := by decide +kernel
theorem dX6_minute_88 : decode cX6_minute 88 = .ok (.iadd, 1) := by decide +kernel
theorem dX6_minute_89 : decode cX6_minute 89 = .ok (.iastore, 1) := by decide +kernel
theorem dX6_minute_90 : decode cX6_minute 90 = .ok (.iload_n 1, 1) := by decide +kernel
theorem dX6_minute_91 : decode cX6_minute 91 = .ok (.ireturn, 1) := by decide +kernel
theorem dX6_passNow_0 : decode cX6_passNow 0 = .ok (.iconst 0, 1) := by decide +kernel
theorem dX6_passNow_1 : decode cX6_passNow 1 = .ok (.istore_n 2, 1) := by decide +kernel
theorem dX6_passNow_2 : decode cX6_passNow 2 = .ok (.iconst 0, 1) := by decide +kernel
theorem dX6_passNow_3 : decode cX6_passNow 3 = .ok (.istore_n 3, 1) := by decide +kernel
theorem dX6_passNow_4 : decode cX6_passNow 4 = .ok (.iload_n 3, 1) := by decide +kernel
theorem dX6_passNow_5 : decode cX6_passNow 5 = .ok (.iload_n 1, 1) := by decide +kernel
theorem dX6_passNow_6 : decode cX6_passNow 6 = .ok (.if_icmp .ge 16, 3) := by decide +kernel
theorem dX6_passNow_9 : decode cX6_passNow 9 = .ok (.iload_n 2, 1) := by decide +kernel
theorem dX6_passNow_10 : decode cX6_passNow 10 = .ok (.aload_n 0, 1) := by decide +kernel
theorem dX6_passNow_11 : decode cX6_passNow 11 = .ok (.invokevirtual 106, 3) := by decide +kernel
theorem dX6_passNow_14 : decode cX6_passNow 14 = .ok (.iadd, 1) := by decide +kernel
theorem dX6_passNow_15 : decode cX6_passNow 15 = .ok (.istore_n 2, 1) := by decide +kernel
theorem dX6_passNow_16 : decode cX6_passNow 16 = .ok (.iinc 3 1, 3) := by decide +kernel
theorem dX6_passNow_19 : decode cX6_passNow 19 = .ok (.goto (-15), 3) := by decide +kernel
theorem dX6_passNow_22 : decode cX6_passNow 22 = .ok (.iload_n 2, 1) := by decide +kernel
theorem dX6_passNow_23 : decode cX6_passNow 23 = .ok (.ireturn, 1) := by decide +kernel
theorem dX6_areRight_0 : decode cX6_areRight 0 = .ok (.iload_n 0, 1) := by decide +kernel
theorem dX6_areRight_1 : decode cX6_areRight 1 = .ok (.iconst 0, 1) := by decide +kernel
theorem dX6_areRight_2 : decode cX6_areRight 2 = .ok (.iconst 2, 1) := by decide +kernel
theorem dX6_areRight_3 : decode cX6_areRight 3 = .ok (.invokestatic 42, 3) := by decide +kernel
theorem dX6_areRight_6 : decode cX6_areRight 6 = .ok (.ifCond .eq 37, 3) := by decide +kernel
theorem dX6_areRight_9 : decode cX6_areRight 9 = .ok (.iload_n 1, 1) := by decide +kernel
theorem dX6_areRight_10 : decode cX6_areRight 10 = .ok (.iconst 1, 1) := by decide +kernel
theorem dX6_areRight_11 : decode cX6_areRight 11 = .ok (.bipush 99, 2) := by decide +kernel
theorem dX6_areRight_13 : decode cX6_areRight 13 = .ok (.invokestatic 42, 3) := by decide +kernel
theorem dX6_areRight_16 : decode cX6_areRight 16 = .ok (.ifCond .eq 27, 3) := by decide +kernel
theorem dX6_areRight_19 : decode cX6_areRight 19 = .ok (.iload_n 2, 1) := by decide +kernel
theorem dX6_areRight_20 : decode cX6_areRight 20 = .ok (.iconst 1, 1) := by decide +kernel
theorem dX6_areRight_21 : decode cX6_areRight 21 = .ok (.bipush 20, 2) := by decide +kernel
theorem dX6_areRight_23 : decode cX6_areRight 23 = .ok (.invokestatic 42, 3) := by decide +kernel
theorem dX6_areRight_26 : decode cX6_areRight 26 = .ok (.ifCond .eq 17, 3) := by decide +kernel
theorem dX6_areRight_29 : decode cX6_areRight 29 = .ok (.iload_n 3, 1) := by decide +kernel
theorem dX6_areRight_30 : decode cX6_areRight 30 = .ok (.iconst 0, 1) := by decide +kernel
theorem dX6_areRight_31 : decode cX6_areRight 31 = .ok (.bipush 9, 2) := by decide +kernel
theorem dX6_areRight_33 : decode cX6_areRight 33 = .ok (.invokestatic 42, 3) := by decide +kernel
theorem dX6_areRight_36 : decode cX6_areRight 36 = .ok (.ifCond .eq 7, 3) := by decide +kernel
theorem dX6_areRight_39 : decode cX6_areRight 39 = .ok (.iconst 1, 1) := by decide +kernel
theorem dX6_areRight_40 : decode cX6_areRight 40 = .ok (.goto 4, 3) := by decide +kernel
theorem dX6_areRight_43 : decode cX6_areRight 43 = .ok (.iconst 0, 1) := by decide +kernel
theorem dX6_areRight_44 : decode cX6_areRight 44 = .ok (.ireturn, 1) := by decide +kernel
theorem dX6_isKept_0 : decode cX6_isKept 0 = .ok (.iconst 0, 1) := by decide +kernel
theorem dX6_isKept_1 : decode cX6_isKept 1 = .ok (.istore_n 2, 1) := by decide +kernel
theorem dX6_isKept_2 : decode cX6_isKept 2 = .ok (.iconst 0, 1) := by decide +kernel
theorem dX6_isKept_3 : decode cX6_isKept 3 = .ok (.istore_n 3, 1) := by decide +kernel
theorem dX6_isKept_4 : decode cX6_isKept 4 = .ok (.iload_n 3, 1) := by decide +kernel
theorem dX6_isKept_5 : decode cX6_isKept 5 = .ok (.bipush 12, 2) := by decide +kernel
theorem dX6_isKept_7 : decode cX6_isKept 7 = .ok (.if_icmp .ge 37, 3) := by decide +kernel
theorem dX6_isKept_10 : decode cX6_isKept 10 = .ok (.iload_n 2, 1) := by decide +kernel
theorem dX6_isKept_11 : decode cX6_isKept 11 = .ok (.ifCond .ne 21, 3) := by decide +kernel
theorem dX6_isKept_14 : decode cX6_isKept 14 = .ok (.aload_n 0, 1) := by decide +kernel
theorem dX6_isKept_15 : decode cX6_isKept 15 = .ok (.iload_n 3, 1) := by decide +kernel
theorem dX6_isKept_16 : decode cX6_isKept 16 = .ok (.invokevirtual 67, 3) := by decide +kernel
theorem dX6_isKept_19 : decode cX6_isKept 19 = .ok (.ifCond .ne 17, 3) := by decide +kernel
theorem dX6_isKept_22 : decode cX6_isKept 22 = .ok (.aload_n 0, 1) := by decide +kernel
theorem dX6_isKept_23 : decode cX6_isKept 23 = .ok (.iload_n 3, 1) := by decide +kernel
theorem dX6_isKept_24 : decode cX6_isKept 24 = .ok (.iconst 0, 1) := by decide +kernel
theorem dX6_isKept_25 : decode cX6_isKept 25 = .ok (.invokevirtual 46, 3) := by decide +kernel
theorem dX6_isKept_28 : decode cX6_isKept 28 = .ok (.iload_n 1, 1) := by decide +kernel
theorem dX6_isKept_29 : decode cX6_isKept 29 = .ok (.if_icmp .ne 7, 3) := by decide +kernel
theorem dX6_isKept_32 : decode cX6_isKept 32 = .ok (.iconst 1, 1) := by decide +kernel
theorem dX6_isKept_33 : decode cX6_isKept 33 = .ok (.goto 4, 3) := by decide +kernel
theorem dX6_isKept_36 : decode cX6_isKept 36 = .ok (.iconst 0, 1) := by decide +kernel
theorem dX6_isKept_37 : decode cX6_isKept 37 = .ok (.istore_n 2, 1) := by decide +kernel
theorem dX6_isKept_38 : decode cX6_isKept 38 = .ok (.iinc 3 1, 3) := by decide +kernel
theorem dX6_isKept_41 : decode cX6_isKept 41 = .ok (.goto (-37), 3) := by decide +kernel
theorem dX6_isKept_44 : decode cX6_isKept 44 = .ok (.iconst 0, 1) := by decide +kernel
theorem dX6_isKept_45 : decode cX6_isKept 45 = .ok (.istore_n 3, 1) := by decide +kernel
theorem dX6_isKept_46 : decode cX6_isKept 46 = .ok (.iload_n 3, 1) := by decide +kernel
theorem dX6_isKept_47 : decode cX6_isKept 47 = .ok (.aload_n 0, 1) := by decide +kernel
theorem dX6_isKept_48 : decode cX6_isKept 48 = .ok (.getfield 7, 3) := by decide +kernel
theorem dX6_isKept_51 : decode cX6_isKept 51 = .ok (.bipush 82, 2) := by decide +kernel
theorem dX6_isKept_53 : decode cX6_isKept 53 = .ok (.iaload, 1) := by decide +kernel
theorem dX6_isKept_54 : decode cX6_isKept 54 = .ok (.if_icmp .ge 48, 3) := by decide +kernel
theorem dX6_isKept_57 : decode cX6_isKept 57 = .ok (.iload_n 2, 1) := by decide +kernel
theorem dX6_isKept_58 : decode cX6_isKept 58 = .ok (.ifCond .ne 32, 3) := by decide +kernel
theorem dX6_isKept_61 : decode cX6_isKept 61 = .ok (.aload_n 0, 1) := by decide +kernel
theorem dX6_isKept_62 : decode cX6_isKept 62 = .ok (.iload_n 3, 1) := by decide +kernel
theorem dX6_isKept_63 : decode cX6_isKept 63 = .ok (.iconst 0, 1) := by decide +kernel
theorem dX6_isKept_64 : decode cX6_isKept 64 = .ok (.invokevirtual 57, 3) := by decide +kernel
theorem dX6_isKept_67 : decode cX6_isKept 67 = .ok (.iconst 2, 1) := by decide +kernel
theorem dX6_isKept_68 : decode cX6_isKept 68 = .ok (.if_icmp .ne 26, 3) := by decide +kernel
theorem dX6_isKept_71 : decode cX6_isKept 71 = .ok (.aload_n 0, 1) := by decide +kernel
theorem dX6_isKept_72 : decode cX6_isKept 72 = .ok (.iload_n 3, 1) := by decide +kernel
theorem dX6_isKept_73 : decode cX6_isKept 73 = .ok (.iconst 1, 1) := by decide +kernel
theorem dX6_isKept_74 : decode cX6_isKept 74 = .ok (.invokevirtual 57, 3) := by decide +kernel
theorem dX6_isKept_77 : decode cX6_isKept 77 = .ok (.iload_n 1, 1) := by decide +kernel
theorem dX6_isKept_78 : decode cX6_isKept 78 = .ok (.if_icmp .ne 16, 3) := by decide +kernel
theorem dX6_isKept_81 : decode cX6_isKept 81 = .ok (.aload_n 0, 1) := by decide +kernel
theorem dX6_isKept_82 : decode cX6_isKept 82 = .ok (.iload_n 3, 1) := by decide +kernel
theorem dX6_isKept_83 : decode cX6_isKept 83 = .ok (.iconst 4, 1) := by decide +kernel
theorem dX6_isKept_84 : decode cX6_isKept 84 = .ok (.invokevirtual 57, 3) := by decide +kernel
theorem dX6_isKept_87 : decode cX6_isKept 87 = .ok (.ifCond .ne 7, 3) := by decide +kernel
theorem dX6_isKept_90 : decode cX6_isKept 90 = .ok (.iconst 1, 1) := by decide +kernel
theorem dX6_isKept_91 : decode cX6_isKept 91 = .ok (.goto 4, 3) := by decide +kernel
theorem dX6_isKept_94 : decode cX6_isKept 94 = .ok (.iconst 0, 1) := by decide +kernel
theorem dX6_isKept_95 : decode cX6_isKept 95 = .ok (.istore_n 2, 1) := by decide +kernel
theorem dX6_isKept_96 : decode cX6_isKept 96 = .ok (.iinc 3 1, 3) := by decide +kernel
theorem dX6_isKept_99 : decode cX6_isKept 99 = .ok (.goto (-53), 3) := by decide +kernel
theorem dX6_isKept_102 : decode cX6_isKept 102 = .ok (.iload_n 2, 1) := by decide +kernel
theorem dX6_isKept_103 : decode cX6_isKept 103 = .ok (.ireturn, 1) := by decide +kernel
theorem dX6_canSubmit_0 : decode cX6_canSubmit 0 = .ok (.aload_n 0, 1) := by decide +kernel
theorem dX6_canSubmit_1 : decode cX6_canSubmit 1 = .ok (.getfield 7, 3) := by decide +kernel
theorem dX6_canSubmit_4 : decode cX6_canSubmit 4 = .ok (.bipush 82, 2) := by decide +kernel
theorem dX6_canSubmit_6 : decode cX6_canSubmit 6 = .ok (.iaload, 1) := by decide +kernel
theorem dX6_canSubmit_7 : decode cX6_canSubmit 7 = .ok (.bipush 12, 2) := by decide +kernel
theorem dX6_canSubmit_9 : decode cX6_canSubmit 9 = .ok (.if_icmp .ge 20, 3) := by decide +kernel
theorem dX6_canSubmit_12 : decode cX6_canSubmit 12 = .ok (.iload_n 1, 1) := by decide +kernel
theorem dX6_canSubmit_13 : decode cX6_canSubmit 13 = .ok (.iconst 2, 1) := by decide +kernel
theorem dX6_canSubmit_14 : decode cX6_canSubmit 14 = .ok (.if_icmp .ne 11, 3) := by decide +kernel
theorem dX6_canSubmit_17 : decode cX6_canSubmit 17 = .ok (.aload_n 0, 1) := by decide +kernel
theorem dX6_canSubmit_18 : decode cX6_canSubmit 18 = .ok (.iload_n 2, 1) := by decide +kernel
theorem dX6_canSubmit_19 : decode cX6_canSubmit 19 = .ok (.invokevirtual 109, 3) := by decide +kernel
theorem dX6_canSubmit_22 : decode cX6_canSubmit 22 = .ok (.ifCond .ne 7, 3) := by decide +kernel
theorem dX6_canSubmit_25 : decode cX6_canSubmit 25 = .ok (.iconst 1, 1) := by decide +kernel
theorem dX6_canSubmit_26 : decode cX6_canSubmit 26 = .ok (.goto 4, 3) := by decide +kernel
theorem dX6_canSubmit_29 : decode cX6_canSubmit 29 = .ok (.iconst 0, 1) := by decide +kernel
theorem dX6_canSubmit_30 : decode cX6_canSubmit 30 = .ok (.ireturn, 1) := by decide +kernel
theorem dX6_submitNow_0 : decode cX6_submitNow 0 = .ok (.aload_n 0, 1) := by decide +kernel
theorem dX6_submitNow_1 : decode cX6_submitNow 1 = .ok (.getfield 7, 3) := by decide +kernel
theorem dX6_submitNow_4 : decode cX6_submitNow 4 = .ok (.bipush 82, 2) := by decide +kernel
theorem dX6_submitNow_6 : decode cX6_submitNow 6 = .ok (.iaload, 1) := by decide +kernel
theorem dX6_submitNow_7 : decode cX6_submitNow 7 = .ok (.istore 5, 2) := by decide +kernel
theorem dX6_submitNow_9 : decode cX6_submitNow 9 = .ok (.aload_n 0, 1) := by decide +kernel
theorem dX6_submitNow_10 : decode cX6_submitNow 10 = .ok (.iload 5, 2) := by decide +kernel
theorem dX6_submitNow_12 : decode cX6_submitNow 12 = .ok (.iconst 0, 1) := by decide +kernel
theorem dX6_submitNow_13 : decode cX6_submitNow 13 = .ok (.iload_n 1, 1) := by decide +kernel
theorem dX6_submitNow_14 : decode cX6_submitNow 14 = .ok (.invokevirtual 73, 3) := by decide +kernel
theorem dX6_submitNow_17 : decode cX6_submitNow 17 = .ok (.aload_n 0, 1) := by decide +kernel
theorem dX6_submitNow_18 : decode cX6_submitNow 18 = .ok (.iload 5, 2) := by decide +kernel
theorem dX6_submitNow_20 : decode cX6_submitNow 20 = .ok (.iconst 1, 1) := by decide +kernel
theorem dX6_submitNow_21 : decode cX6_submitNow 21 = .ok (.iload_n 2, 1) := by decide +kernel
theorem dX6_submitNow_22 : decode cX6_submitNow 22 = .ok (.invokevirtual 73, 3) := by decide +kernel
theorem dX6_submitNow_25 : decode cX6_submitNow 25 = .ok (.aload_n 0, 1) := by decide +kernel
theorem dX6_submitNow_26 : decode cX6_submitNow 26 = .ok (.iload 5, 2) := by decide +kernel
theorem dX6_submitNow_28 : decode cX6_submitNow 28 = .ok (.iconst 2, 1) := by decide +kernel
theorem dX6_submitNow_29 : decode cX6_submitNow 29 = .ok (.iload_n 3, 1) := by decide +kernel
theorem dX6_submitNow_30 : decode cX6_submitNow 30 = .ok (.invokevirtual 73, 3) := by decide +kernel
theorem dX6_submitNow_33 : decode cX6_submitNow 33 = .ok (.aload_n 0, 1) := by decide +kernel
theorem dX6_submitNow_34 : decode cX6_submitNow 34 = .ok (.iload 5, 2) := by decide +kernel
theorem dX6_submitNow_36 : decode cX6_submitNow 36 = .ok (.iconst 3, 1) := by decide +kernel
theorem dX6_submitNow_37 : decode cX6_submitNow 37 = .ok (.iload 4, 2) := by decide +kernel
theorem dX6_submitNow_39 : decode cX6_submitNow 39 = .ok (.invokevirtual 73, 3) := by decide +kernel
theorem dX6_submitNow_42 : decode cX6_submitNow 42 = .ok (.aload_n 0, 1) := by decide +kernel
theorem dX6_submitNow_43 : decode cX6_submitNow 43 = .ok (.iload 5, 2) := by decide +kernel
theorem dX6_submitNow_45 : decode cX6_submitNow 45 = .ok (.iconst 4, 1) := by decide +kernel
theorem dX6_submitNow_46 : decode cX6_submitNow 46 = .ok (.iconst 0, 1) := by decide +kernel
theorem dX6_submitNow_47 : decode cX6_submitNow 47 = .ok (.invokevirtual 73, 3) := by decide +kernel
theorem dX6_submitNow_50 : decode cX6_submitNow 50 = .ok (.aload_n 0, 1) := by decide +kernel
theorem dX6_submitNow_51 : decode cX6_submitNow 51 = .ok (.iload 5, 2) := by decide +kernel
theorem dX6_submitNow_53 : decode cX6_submitNow 53 = .ok (.iconst 5, 1) := by decide +kernel
theorem dX6_submitNow_54 : decode cX6_submitNow 54 = .ok (.iconst 0, 1) := by decide +kernel
theorem dX6_submitNow_55 : decode cX6_submitNow 55 = .ok (.invokevirtual 73, 3) := by decide +kernel
theorem dX6_submitNow_58 : decode cX6_submitNow 58 = .ok (.aload_n 0, 1) := by decide +kernel
theorem dX6_submitNow_59 : decode cX6_submitNow 59 = .ok (.iload 5, 2) := by decide +kernel
theorem dX6_submitNow_61 : decode cX6_submitNow 61 = .ok (.bipush 6, 2) := by decide +kernel
theorem dX6_submitNow_63 : decode cX6_submitNow 63 = .ok (.iconst (-1), 1) := by decide +kernel
theorem dX6_submitNow_64 : decode cX6_submitNow 64 = .ok (.invokevirtual 73, 3) := by decide +kernel
theorem dX6_submitNow_67 : decode cX6_submitNow 67 = .ok (.aload_n 0, 1) := by decide +kernel
theorem dX6_submitNow_68 : decode cX6_submitNow 68 = .ok (.iload 5, 2) := by decide +kernel
theorem dX6_submitNow_70 : decode cX6_submitNow 70 = .ok (.bipush 7, 2) := by decide +kernel
theorem dX6_submitNow_72 : decode cX6_submitNow 72 = .ok (.iconst 0, 1) := by decide +kernel
theorem dX6_submitNow_73 : decode cX6_submitNow 73 = .ok (.invokevirtual 73, 3) := by decide +kernel
theorem dX6_submitNow_76 : decode cX6_submitNow 76 = .ok (.aload_n 0, 1) := by decide +kernel
theorem dX6_submitNow_77 : decode cX6_submitNow 77 = .ok (.getfield 7, 3) := by decide +kernel
theorem dX6_submitNow_80 : decode cX6_submitNow 80 = .ok (.bipush 82, 2) := by decide +kernel
theorem dX6_submitNow_82 : decode cX6_submitNow 82 = .ok (.dup2, 1) := by decide +kernel
theorem dX6_submitNow_83 : decode cX6_submitNow 83 = .ok (.iaload, 1) := by decide +kernel
theorem dX6_submitNow_84 : decode cX6_submitNow 84 = .ok (.iconst 1, 1) := by decide +kernel
theorem dX6_submitNow_85 : decode cX6_submitNow 85 = .ok (.iadd, 1) := by decide +kernel
theorem dX6_submitNow_86 : decode cX6_submitNow 86 = .ok (.iastore, 1) := by decide +kernel
theorem dX6_submitNow_87 : decode cX6_submitNow 87 = .ok (.iload 5, 2) := by decide +kernel
theorem dX6_submitNow_89 : decode cX6_submitNow 89 = .ok (.ireturn, 1) := by decide +kernel
theorem dX6_submit_0 : decode cX6_submit 0 = .ok (.aload_n 0, 1) := by decide +kernel
theorem dX6_submit_1 : decode cX6_submit 1 = .ok (.iconst 0, 1) := by decide +kernel
theorem dX6_submit_2 : decode cX6_submit 2 = .ok (.putfield 38, 3) := by decide +kernel
theorem dX6_submit_5 : decode cX6_submit 5 = .ok (.iload_n 1, 1) := by decide +kernel
theorem dX6_submit_6 : decode cX6_submit 6 = .ok (.iload_n 2, 1) := by decide +kernel
theorem dX6_submit_7 : decode cX6_submit 7 = .ok (.iload_n 3, 1) := by decide +kernel
theorem dX6_submit_8 : decode cX6_submit 8 = .ok (.iload 4, 2) := by decide +kernel
theorem dX6_submit_10 : decode cX6_submit 10 = .ok (.invokestatic 112, 3) := by decide +kernel
theorem dX6_submit_13 : decode cX6_submit 13 = .ok (.ifCond .ne 9, 3) := by decide +kernel
theorem dX6_submit_16 : decode cX6_submit 16 = .ok (.aload_n 0, 1) := by decide +kernel
theorem dX6_submit_17 : decode cX6_submit 17 = .ok (.iconst 1, 1) := by decide +kernel
theorem dX6_submit_18 : decode cX6_submit 18 = .ok (.invokevirtual 53, 3) := by decide +kernel
theorem dX6_submit_21 : decode cX6_submit 21 = .ok (.ireturn, 1) := by decide +kernel
theorem dX6_submit_22 : decode cX6_submit 22 = .ok (.aload_n 0, 1) := by decide +kernel
theorem dX6_submit_23 : decode cX6_submit 23 = .ok (.iload_n 1, 1) := by decide +kernel
theorem dX6_submit_24 : decode cX6_submit 24 = .ok (.iload_n 2, 1) := by decide +kernel
theorem dX6_submit_25 : decode cX6_submit 25 = .ok (.invokevirtual 116, 3) := by decide +kernel
theorem dX6_submit_28 : decode cX6_submit 28 = .ok (.ifCond .ne 9, 3) := by decide +kernel
theorem dX6_submit_31 : decode cX6_submit 31 = .ok (.aload_n 0, 1) := by decide +kernel
theorem dX6_submit_32 : decode cX6_submit 32 = .ok (.iconst 2, 1) := by decide +kernel
theorem dX6_submit_33 : decode cX6_submit 33 = .ok (.invokevirtual 53, 3) := by decide +kernel
theorem dX6_submit_36 : decode cX6_submit 36 = .ok (.ireturn, 1) := by decide +kernel
theorem dX6_submit_37 : decode cX6_submit 37 = .ok (.aload_n 0, 1) := by decide +kernel
theorem dX6_submit_38 : decode cX6_submit 38 = .ok (.invokevirtual 120, 3) := by decide +kernel
theorem dX6_submit_41 : decode cX6_submit 41 = .ok (.aload_n 0, 1) := by decide +kernel
theorem dX6_submit_42 : decode cX6_submit 42 = .ok (.iload_n 1, 1) := by decide +kernel
theorem dX6_submit_43 : decode cX6_submit 43 = .ok (.iload_n 2, 1) := by decide +kernel
theorem dX6_submit_44 : decode cX6_submit 44 = .ok (.iload_n 3, 1) := by decide +kernel
theorem dX6_submit_45 : decode cX6_submit 45 = .ok (.iload 4, 2) := by decide +kernel
theorem dX6_submit_47 : decode cX6_submit 47 = .ok (.invokevirtual 123, 3) := by decide +kernel
theorem dX6_submit_50 : decode cX6_submit 50 = .ok (.ireturn, 1) := by decide +kernel
theorem dX6_cancel_0 : decode cX6_cancel 0 = .ok (.aload_n 0, 1) := by decide +kernel
theorem dX6_cancel_1 : decode cX6_cancel 1 = .ok (.iconst 0, 1) := by decide +kernel
theorem dX6_cancel_2 : decode cX6_cancel 2 = .ok (.putfield 38, 3) := by decide +kernel
theorem dX6_cancel_5 : decode cX6_cancel 5 = .ok (.aload_n 0, 1) := by decide +kernel
theorem dX6_cancel_6 : decode cX6_cancel 6 = .ok (.iload_n 1, 1) := by decide +kernel
theorem dX6_cancel_7 : decode cX6_cancel 7 = .ok (.invokevirtual 127, 3) := by decide +kernel
theorem dX6_cancel_10 : decode cX6_cancel 10 = .ok (.ifCond .ne 9, 3) := by decide +kernel
theorem dX6_cancel_13 : decode cX6_cancel 13 = .ok (.aload_n 0, 1) := by decide +kernel
theorem dX6_cancel_14 : decode cX6_cancel 14 = .ok (.iconst 1, 1) := by decide +kernel
theorem dX6_cancel_15 : decode cX6_cancel 15 = .ok (.invokevirtual 53, 3) := by decide +kernel
theorem dX6_cancel_18 : decode cX6_cancel 18 = .ok (.ireturn, 1) := by decide +kernel
theorem dX6_cancel_19 : decode cX6_cancel 19 = .ok (.aload_n 0, 1) := by decide +kernel
theorem dX6_cancel_20 : decode cX6_cancel 20 = .ok (.iload_n 1, 1) := by decide +kernel
theorem dX6_cancel_21 : decode cX6_cancel 21 = .ok (.iconst 4, 1) := by decide +kernel
theorem dX6_cancel_22 : decode cX6_cancel 22 = .ok (.invokevirtual 57, 3) := by decide +kernel
theorem dX6_cancel_25 : decode cX6_cancel 25 = .ok (.iconst 1, 1) := by decide +kernel
theorem dX6_cancel_26 : decode cX6_cancel 26 = .ok (.if_icmp .le 9, 3) := by decide +kernel
theorem dX6_cancel_29 : decode cX6_cancel 29 = .ok (.aload_n 0, 1) := by decide +kernel
theorem dX6_cancel_30 : decode cX6_cancel 30 = .ok (.iconst 2, 1) := by decide +kernel
theorem dX6_cancel_31 : decode cX6_cancel 31 = .ok (.invokevirtual 53, 3) := by decide +kernel
theorem dX6_cancel_34 : decode cX6_cancel 34 = .ok (.ireturn, 1) := by decide +kernel
theorem dX6_cancel_35 : decode cX6_cancel 35 = .ok (.aload_n 0, 1) := by decide +kernel
theorem dX6_cancel_36 : decode cX6_cancel 36 = .ok (.invokevirtual 120, 3) := by decide +kernel
theorem dX6_cancel_39 : decode cX6_cancel 39 = .ok (.aload_n 0, 1) := by decide +kernel
theorem dX6_cancel_40 : decode cX6_cancel 40 = .ok (.iload_n 1, 1) := by decide +kernel
theorem dX6_cancel_41 : decode cX6_cancel 41 = .ok (.iconst 4, 1) := by decide +kernel
theorem dX6_cancel_42 : decode cX6_cancel 42 = .ok (.invokevirtual 57, 3) := by decide +kernel
theorem dX6_cancel_45 : decode cX6_cancel 45 = .ok (.iconst 1, 1) := by decide +kernel
theorem dX6_cancel_46 : decode cX6_cancel 46 = .ok (.if_icmp .ne 8, 3) := by decide +kernel
theorem dX6_cancel_49 : decode cX6_cancel 49 = .ok (.aload_n 0, 1) := by decide +kernel
theorem dX6_cancel_50 : decode cX6_cancel 50 = .ok (.iload_n 1, 1) := by decide +kernel
theorem dX6_cancel_51 : decode cX6_cancel 51 = .ok (.invokevirtual 91, 3) := by decide +kernel
theorem dX6_cancel_54 : decode cX6_cancel 54 = .ok (.aload_n 0, 1) := by decide +kernel
theorem dX6_cancel_55 : decode cX6_cancel 55 = .ok (.iload_n 1, 1) := by decide +kernel
theorem dX6_cancel_56 : decode cX6_cancel 56 = .ok (.iconst 4, 1) := by decide +kernel
theorem dX6_cancel_57 : decode cX6_cancel 57 = .ok (.iconst 3, 1) := by decide +kernel
theorem dX6_cancel_58 : decode cX6_cancel 58 = .ok (.invokevirtual 73, 3) := by decide +kernel
theorem dX6_cancel_61 : decode cX6_cancel 61 = .ok (.aload_n 0, 1) := by decide +kernel
theorem dX6_cancel_62 : decode cX6_cancel 62 = .ok (.iload_n 1, 1) := by decide +kernel
theorem dX6_cancel_63 : decode cX6_cancel 63 = .ok (.iconst 5, 1) := by decide +kernel
theorem dX6_cancel_64 : decode cX6_cancel 64 = .ok (.invokevirtual 57, 3) := by decide +kernel
theorem dX6_cancel_67 : decode cX6_cancel 67 = .ok (.ireturn, 1) := by decide +kernel
theorem dX6_setSticker_0 : decode cX6_setSticker 0 = .ok (.aload_n 0, 1) := by decide +kernel
theorem dX6_setSticker_1 : decode cX6_setSticker 1 = .ok (.iconst 0, 1) := by decide +kernel
theorem dX6_setSticker_2 : decode cX6_setSticker 2 = .ok (.putfield 38, 3) := by decide +kernel
theorem dX6_setSticker_5 : decode cX6_setSticker 5 = .ok (.iload_n 1, 1) := by decide +kernel
theorem dX6_setSticker_6 : decode cX6_setSticker 6 = .ok (.invokestatic 130, 3) := by decide +kernel
theorem dX6_setSticker_9 : decode cX6_setSticker 9 = .ok (.ifCond .ne 9, 3) := by decide +kernel
theorem dX6_setSticker_12 : decode cX6_setSticker 12 = .ok (.aload_n 0, 1) := by decide +kernel
theorem dX6_setSticker_13 : decode cX6_setSticker 13 = .ok (.iconst 1, 1) := by decide +kernel
theorem dX6_setSticker_14 : decode cX6_setSticker 14 = .ok (.invokevirtual 53, 3) := by decide +kernel
theorem dX6_setSticker_17 : decode cX6_setSticker 17 = .ok (.ireturn, 1) := by decide +kernel
theorem dX6_setSticker_18 : decode cX6_setSticker 18 = .ok (.iload_n 2, 1) := by decide +kernel
theorem dX6_setSticker_19 : decode cX6_setSticker 19 = .ok (.iconst 0, 1) := by decide +kernel
theorem dX6_setSticker_20 : decode cX6_setSticker 20 = .ok (.bipush 99, 2) := by decide +kernel
theorem dX6_setSticker_22 : decode cX6_setSticker 22 = .ok (.invokestatic 42, 3) := by decide +kernel
theorem dX6_setSticker_25 : decode cX6_setSticker 25 = .ok (.ifCond .ne 9, 3) := by decide +kernel
theorem dX6_setSticker_28 : decode cX6_setSticker 28 = .ok (.aload_n 0, 1) := by decide +kernel
theorem dX6_setSticker_29 : decode cX6_setSticker 29 = .ok (.iconst 2, 1) := by decide +kernel
theorem dX6_setSticker_30 : decode cX6_setSticker 30 = .ok (.invokevirtual 53, 3) := by decide +kernel
theorem dX6_setSticker_33 : decode cX6_setSticker 33 = .ok (.ireturn, 1) := by decide +kernel
theorem dX6_setSticker_34 : decode cX6_setSticker 34 = .ok (.aload_n 0, 1) := by decide +kernel
theorem dX6_setSticker_35 : decode cX6_setSticker 35 = .ok (.invokevirtual 120, 3) := by decide +kernel
theorem dX6_setSticker_38 : decode cX6_setSticker 38 = .ok (.aload_n 0, 1) := by decide +kernel
theorem dX6_setSticker_39 : decode cX6_setSticker 39 = .ok (.iload_n 1, 1) := by decide +kernel
theorem dX6_setSticker_40 : decode cX6_setSticker 40 = .ok (.iconst 1, 1) := by decide +kernel
theorem dX6_setSticker_41 : decode cX6_setSticker 41 = .ok (.invokevirtual 46, 3) := by decide +kernel
theorem dX6_setSticker_44 : decode cX6_setSticker 44 = .ok (.istore_n 3, 1) := by decide +kernel
theorem dX6_setSticker_45 : decode cX6_setSticker 45 = .ok (.aload_n 0, 1) := by decide +kernel
theorem dX6_setSticker_46 : decode cX6_setSticker 46 = .ok (.iload_n 1, 1) := by decide +kernel
theorem dX6_setSticker_47 : decode cX6_setSticker 47 = .ok (.iconst 1, 1) := by decide +kernel
theorem dX6_setSticker_48 : decode cX6_setSticker 48 = .ok (.iload_n 2, 1) := by decide +kernel
theorem dX6_setSticker_49 : decode cX6_setSticker 49 = .ok (.invokevirtual 34, 3) := by decide +kernel
theorem dX6_setSticker_52 : decode cX6_setSticker 52 = .ok (.iload_n 3, 1) := by decide +kernel
theorem dX6_setSticker_53 : decode cX6_setSticker 53 = .ok (.ireturn, 1) := by decide +kernel
theorem dX6_setRing_0 : decode cX6_setRing 0 = .ok (.aload_n 0, 1) := by decide +kernel
theorem dX6_setRing_1 : decode cX6_setRing 1 = .ok (.iload_n 1, 1) := by decide +kernel
theorem dX6_setRing_2 : decode cX6_setRing 2 = .ok (.invokestatic 130, 3) := by decide +kernel
theorem dX6_setRing_5 : decode cX6_setRing 5 = .ok (.ifCond .eq 19, 3) := by decide +kernel
theorem dX6_setRing_8 : decode cX6_setRing 8 = .ok (.aload_n 0, 1) := by decide +kernel
theorem dX6_setRing_9 : decode cX6_setRing 9 = .ok (.iload_n 1, 1) := by decide +kernel
theorem dX6_setRing_10 : decode cX6_setRing 10 = .ok (.invokevirtual 60, 3) := by decide +kernel
theorem dX6_setRing_13 : decode cX6_setRing 13 = .ok (.ifCond .eq 7, 3) := by decide +kernel
theorem dX6_setRing_16 : decode cX6_setRing 16 = .ok (.iconst 0, 1) := by decide +kernel
theorem dX6_setRing_17 : decode cX6_setRing 17 = .ok (.goto 8, 3) := by decide +kernel
theorem dX6_setRing_20 : decode cX6_setRing 20 = .ok (.iconst 2, 1) := by decide +kernel
theorem dX6_setRing_21 : decode cX6_setRing 21 = .ok (.goto 4, 3) := by decide +kernel
theorem dX6_setRing_24 : decode cX6_setRing 24 = .ok (.iconst 1, 1) := by decide +kernel
theorem dX6_setRing_25 : decode cX6_setRing 25 = .ok (.putfield 38, 3) := by decide +kernel
theorem dX6_setRing_28 : decode cX6_setRing 28 = .ok (.aload_n 0, 1) := by decide +kernel
theorem dX6_setRing_29 : decode cX6_setRing 29 = .ok (.getfield 38, 3) := by decide +kernel
theorem dX6_setRing_32 : decode cX6_setRing 32 = .ok (.ifCond .le 5, 3) := by decide +kernel
theorem dX6_setRing_35 : decode cX6_setRing 35 = .ok (.iconst 0, 1) := by decide +kernel
theorem dX6_setRing_36 : decode cX6_setRing 36 = .ok (.ireturn, 1) := by decide +kernel
theorem dX6_setRing_37 : decode cX6_setRing 37 = .ok (.aload_n 0, 1) := by decide +kernel
theorem dX6_setRing_38 : decode cX6_setRing 38 = .ok (.invokevirtual 120, 3) := by decide +kernel
theorem dX6_setRing_41 : decode cX6_setRing 41 = .ok (.aload_n 0, 1) := by decide +kernel
theorem dX6_setRing_42 : decode cX6_setRing 42 = .ok (.iload_n 1, 1) := by decide +kernel
theorem dX6_setRing_43 : decode cX6_setRing 43 = .ok (.iconst 2, 1) := by decide +kernel
theorem dX6_setRing_44 : decode cX6_setRing 44 = .ok (.invokevirtual 46, 3) := by decide +kernel
theorem dX6_setRing_47 : decode cX6_setRing 47 = .ok (.iconst 1, 1) := by decide +kernel
theorem dX6_setRing_48 : decode cX6_setRing 48 = .ok (.if_icmp .ne 7, 3) := by decide +kernel
theorem dX6_setRing_51 : decode cX6_setRing 51 = .ok (.iconst 1, 1) := by decide +kernel
theorem dX6_setRing_52 : decode cX6_setRing 52 = .ok (.goto 4, 3) := by decide +kernel
theorem dX6_setRing_55 : decode cX6_setRing 55 = .ok (.iconst 0, 1) := by decide +kernel
theorem dX6_setRing_56 : decode cX6_setRing 56 = .ok (.istore_n 3, 1) := by decide +kernel
theorem dX6_setRing_57 : decode cX6_setRing 57 = .ok (.aload_n 0, 1) := by decide +kernel
theorem dX6_setRing_58 : decode cX6_setRing 58 = .ok (.iload_n 1, 1) := by decide +kernel
theorem dX6_setRing_59 : decode cX6_setRing 59 = .ok (.iconst 2, 1) := by decide +kernel
theorem dX6_setRing_60 : decode cX6_setRing 60 = .ok (.iload_n 2, 1) := by decide +kernel
theorem dX6_setRing_61 : decode cX6_setRing 61 = .ok (.ifCond .eq 7, 3) := by decide +kernel
theorem dX6_setRing_64 : decode cX6_setRing 64 = .ok (.iconst 1, 1) := by decide +kernel
theorem dX6_setRing_65 : decode cX6_setRing 65 = .ok (.goto 4, 3) := by decide +kernel
theorem dX6_setRing_68 : decode cX6_setRing 68 = .ok (.iconst 0, 1) := by decide +kernel
theorem dX6_setRing_69 : decode cX6_setRing 69 = .ok (.invokevirtual 34, 3) := by decide +kernel
theorem dX6_setRing_72 : decode cX6_setRing 72 = .ok (.iload_n 3, 1) := by decide +kernel
theorem dX6_setRing_73 : decode cX6_setRing 73 = .ok (.ireturn, 1) := by decide +kernel
theorem dX6_pass_0 : decode cX6_pass 0 = .ok (.aload_n 0, 1) := by decide +kernel
theorem dX6_pass_1 : decode cX6_pass 1 = .ok (.iconst 0, 1) := by decide +kernel
theorem dX6_pass_2 : decode cX6_pass 2 = .ok (.putfield 38, 3) := by decide +kernel
theorem dX6_pass_5 : decode cX6_pass 5 = .ok (.iload_n 1, 1) := by decide +kernel
theorem dX6_pass_6 : decode cX6_pass 6 = .ok (.iconst 1, 1) := by decide +kernel
theorem dX6_pass_7 : decode cX6_pass 7 = .ok (.bipush 99, 2) := by decide +kernel
theorem dX6_pass_9 : decode cX6_pass 9 = .ok (.invokestatic 42, 3) := by decide +kernel
theorem dX6_pass_12 : decode cX6_pass 12 = .ok (.ifCond .ne 9, 3) := by decide +kernel
theorem dX6_pass_15 : decode cX6_pass 15 = .ok (.aload_n 0, 1) := by decide +kernel
theorem dX6_pass_16 : decode cX6_pass 16 = .ok (.iconst 1, 1) := by decide +kernel
theorem dX6_pass_17 : decode cX6_pass 17 = .ok (.invokevirtual 53, 3) := by decide +kernel
theorem dX6_pass_20 : decode cX6_pass 20 = .ok (.ireturn, 1) := by decide +kernel
theorem dX6_pass_21 : decode cX6_pass 21 = .ok (.aload_n 0, 1) := by decide +kernel
theorem dX6_pass_22 : decode cX6_pass 22 = .ok (.invokevirtual 120, 3) := by decide +kernel
theorem dX6_pass_25 : decode cX6_pass 25 = .ok (.aload_n 0, 1) := by decide +kernel
theorem dX6_pass_26 : decode cX6_pass 26 = .ok (.iload_n 1, 1) := by decide +kernel
theorem dX6_pass_27 : decode cX6_pass 27 = .ok (.invokevirtual 133, 3) := by decide +kernel
theorem dX6_pass_30 : decode cX6_pass 30 = .ok (.ireturn, 1) := by decide +kernel
theorem dX6_nextDay_0 : decode cX6_nextDay 0 = .ok (.aload_n 0, 1) := by decide +kernel
theorem dX6_nextDay_1 : decode cX6_nextDay 1 = .ok (.iconst 0, 1) := by decide +kernel
theorem dX6_nextDay_2 : decode cX6_nextDay 2 = .ok (.putfield 38, 3) := by decide +kernel
theorem dX6_nextDay_5 : decode cX6_nextDay 5 = .ok (.aload_n 0, 1) := by decide +kernel
theorem dX6_nextDay_6 : decode cX6_nextDay 6 = .ok (.getfield 7, 3) := by decide +kernel
theorem dX6_nextDay_9 : decode cX6_nextDay 9 = .ok (.iconst 0, 1) := by decide +kernel
theorem dX6_nextDay_10 : decode cX6_nextDay 10 = .ok (.iaload, 1) := by decide +kernel
theorem dX6_nextDay_11 : decode cX6_nextDay 11 = .ok (.sipush 999, 3) := by decide +kernel
theorem dX6_nextDay_14 : decode cX6_nextDay 14 = .ok (.if_icmp .ne 9, 3) := by decide +kernel
theorem dX6_nextDay_17 : decode cX6_nextDay 17 = .ok (.aload_n 0, 1) := by decide +kernel
theorem dX6_nextDay_18 : decode cX6_nextDay 18 = .ok (.iconst 1, 1) := by decide +kernel
theorem dX6_nextDay_19 : decode cX6_nextDay 19 = .ok (.invokevirtual 53, 3) := by decide +kernel
theorem dX6_nextDay_22 : decode cX6_nextDay 22 = .ok (.ireturn, 1) := by decide +kernel
theorem dX6_nextDay_23 : decode cX6_nextDay 23 = .ok (.aload_n 0, 1) := by decide +kernel
theorem dX6_nextDay_24 : decode cX6_nextDay 24 = .ok (.invokevirtual 120, 3) := by decide +kernel
theorem dX6_nextDay_27 : decode cX6_nextDay 27 = .ok (.aload_n 0, 1) := by decide +kernel
theorem dX6_nextDay_28 : decode cX6_nextDay 28 = .ok (.getfield 7, 3) := by decide +kernel
theorem dX6_nextDay_31 : decode cX6_nextDay 31 = .ok (.iconst 0, 1) := by decide +kernel
theorem dX6_nextDay_32 : decode cX6_nextDay 32 = .ok (.dup2, 1) := by decide +kernel
theorem dX6_nextDay_33 : decode cX6_nextDay 33 = .ok (.iaload, 1) := by decide +kernel
theorem dX6_nextDay_34 : decode cX6_nextDay 34 = .ok (.iconst 1, 1) := by decide +kernel
theorem dX6_nextDay_35 : decode cX6_nextDay 35 = .ok (.iadd, 1) := by decide +kernel
theorem dX6_nextDay_36 : decode cX6_nextDay 36 = .ok (.iastore, 1) := by decide +kernel
theorem dX6_nextDay_37 : decode cX6_nextDay 37 = .ok (.aload_n 0, 1) := by decide +kernel
theorem dX6_nextDay_38 : decode cX6_nextDay 38 = .ok (.getfield 7, 3) := by decide +kernel
theorem dX6_nextDay_41 : decode cX6_nextDay 41 = .ok (.iconst 0, 1) := by decide +kernel
theorem dX6_nextDay_42 : decode cX6_nextDay 42 = .ok (.iaload, 1) := by decide +kernel
theorem dX6_nextDay_43 : decode cX6_nextDay 43 = .ok (.ireturn, 1) := by decide +kernel
theorem dX6_set_0 : decode cX6_set 0 = .ok (.aload_n 0, 1) := by decide +kernel
theorem dX6_set_1 : decode cX6_set 1 = .ok (.iconst 0, 1) := by decide +kernel
theorem dX6_set_2 : decode cX6_set 2 = .ok (.putfield 38, 3) := by decide +kernel
theorem dX6_set_5 : decode cX6_set 5 = .ok (.iload_n 1, 1) := by decide +kernel
theorem dX6_set_6 : decode cX6_set 6 = .ok (.iconst 0, 1) := by decide +kernel
theorem dX6_set_7 : decode cX6_set 7 = .ok (.iconst 1, 1) := by decide +kernel
theorem dX6_set_8 : decode cX6_set 8 = .ok (.invokestatic 42, 3) := by decide +kernel
theorem dX6_set_11 : decode cX6_set 11 = .ok (.ifCond .ne 9, 3) := by decide +kernel
theorem dX6_set_14 : decode cX6_set 14 = .ok (.aload_n 0, 1) := by decide +kernel
theorem dX6_set_15 : decode cX6_set 15 = .ok (.iconst 1, 1) := by decide +kernel
theorem dX6_set_16 : decode cX6_set 16 = .ok (.invokevirtual 53, 3) := by decide +kernel
theorem dX6_set_19 : decode cX6_set 19 = .ok (.ireturn, 1) := by decide +kernel
theorem dX6_set_20 : decode cX6_set 20 = .ok (.iload_n 2, 1) := by decide +kernel
theorem dX6_set_21 : decode cX6_set 21 = .ok (.iconst 0, 1) := by decide +kernel
theorem dX6_set_22 : decode cX6_set 22 = .ok (.iload_n 1, 1) := by decide +kernel
theorem dX6_set_23 : decode cX6_set 23 = .ok (.ifCond .ne 8, 3) := by decide +kernel
theorem dX6_set_26 : decode cX6_set 26 = .ok (.bipush 9, 2) := by decide +kernel
theorem dX6_set_28 : decode cX6_set 28 = .ok (.goto 5, 3) := by decide +kernel
theorem dX6_set_31 : decode cX6_set 31 = .ok (.bipush 99, 2) := by decide +kernel
theorem dX6_set_33 : decode cX6_set 33 = .ok (.invokestatic 42, 3) := by decide +kernel
theorem dX6_set_36 : decode cX6_set 36 = .ok (.ifCond .ne 9, 3) := by decide +kernel
theorem dX6_set_39 : decode cX6_set 39 = .ok (.aload_n 0, 1) := by decide +kernel
theorem dX6_set_40 : decode cX6_set 40 = .ok (.iconst 2, 1) := by decide +kernel
theorem dX6_set_41 : decode cX6_set 41 = .ok (.invokevirtual 53, 3) := by decide +kernel
theorem dX6_set_44 : decode cX6_set 44 = .ok (.ireturn, 1) := by decide +kernel
theorem dX6_set_45 : decode cX6_set 45 = .ok (.aload_n 0, 1) := by decide +kernel
theorem dX6_set_46 : decode cX6_set 46 = .ok (.invokevirtual 120, 3) := by decide +kernel
theorem dX6_set_49 : decode cX6_set 49 = .ok (.aload_n 0, 1) := by decide +kernel
theorem dX6_set_50 : decode cX6_set 50 = .ok (.getfield 7, 3) := by decide +kernel
theorem dX6_set_53 : decode cX6_set 53 = .ok (.bipush 8, 2) := by decide +kernel
theorem dX6_set_55 : decode cX6_set 55 = .ok (.iload_n 1, 1) := by decide +kernel
theorem dX6_set_56 : decode cX6_set 56 = .ok (.iadd, 1) := by decide +kernel
theorem dX6_set_57 : decode cX6_set 57 = .ok (.iaload, 1) := by decide +kernel
theorem dX6_set_58 : decode cX6_set 58 = .ok (.istore_n 3, 1) := by decide +kernel
theorem dX6_set_59 : decode cX6_set 59 = .ok (.aload_n 0, 1) := by decide +kernel
theorem dX6_set_60 : decode cX6_set 60 = .ok (.getfield 7, 3) := by decide +kernel
theorem dX6_set_63 : decode cX6_set 63 = .ok (.bipush 8, 2) := by decide +kernel
theorem dX6_set_65 : decode cX6_set 65 = .ok (.iload_n 1, 1) := by decide +kernel
theorem dX6_set_66 : decode cX6_set 66 = .ok (.iadd, 1) := by decide +kernel
theorem dX6_set_67 : decode cX6_set 67 = .ok (.iload_n 2, 1) := by decide +kernel
theorem dX6_set_68 : decode cX6_set 68 = .ok (.iastore, 1) := by decide +kernel
theorem dX6_set_69 : decode cX6_set 69 = .ok (.iload_n 3, 1) := by decide +kernel
theorem dX6_set_70 : decode cX6_set 70 = .ok (.ireturn, 1) := by decide +kernel
theorem dX6_appendText_0 : decode cX6_appendText 0 = .ok (.aload_n 0, 1) := by decide +kernel
theorem dX6_appendText_1 : decode cX6_appendText 1 = .ok (.iconst 0, 1) := by decide +kernel
theorem dX6_appendText_2 : decode cX6_appendText 2 = .ok (.putfield 38, 3) := by decide +kernel
theorem dX6_appendText_5 : decode cX6_appendText 5 = .ok (.iload_n 1, 1) := by decide +kernel
theorem dX6_appendText_6 : decode cX6_appendText 6 = .ok (.bipush 32, 2) := by decide +kernel
theorem dX6_appendText_8 : decode cX6_appendText 8 = .ok (.bipush 126, 2) := by decide +kernel
theorem dX6_appendText_10 : decode cX6_appendText 10 = .ok (.invokestatic 42, 3) := by decide +kernel
theorem dX6_appendText_13 : decode cX6_appendText 13 = .ok (.ifCond .ne 9, 3) := by decide +kernel
theorem dX6_appendText_16 : decode cX6_appendText 16 = .ok (.aload_n 0, 1) := by decide +kernel
theorem dX6_appendText_17 : decode cX6_appendText 17 = .ok (.iconst 1, 1) := by decide +kernel
theorem dX6_appendText_18 : decode cX6_appendText 18 = .ok (.invokevirtual 53, 3) := by decide +kernel
theorem dX6_appendText_21 : decode cX6_appendText 21 = .ok (.ireturn, 1) := by decide +kernel
theorem dX6_appendText_22 : decode cX6_appendText 22 = .ok (.aload_n 0, 1) := by decide +kernel
theorem dX6_appendText_23 : decode cX6_appendText 23 = .ok (.getfield 136, 3) := by decide +kernel
theorem dX6_appendText_26 : decode cX6_appendText 26 = .ok (.bipush 80, 2) := by decide +kernel
theorem dX6_appendText_28 : decode cX6_appendText 28 = .ok (.if_icmp .ne 9, 3) := by decide +kernel
theorem dX6_appendText_31 : decode cX6_appendText 31 = .ok (.aload_n 0, 1) := by decide +kernel
theorem dX6_appendText_32 : decode cX6_appendText 32 = .ok (.iconst 2, 1) := by decide +kernel
theorem dX6_appendText_33 : decode cX6_appendText 33 = .ok (.invokevirtual 53, 3) := by decide +kernel
theorem dX6_appendText_36 : decode cX6_appendText 36 = .ok (.ireturn, 1) := by decide +kernel
theorem dX6_appendText_37 : decode cX6_appendText 37 = .ok (.aload_n 0, 1) := by decide +kernel
theorem dX6_appendText_38 : decode cX6_appendText 38 = .ok (.getfield 19, 3) := by decide +kernel
theorem dX6_appendText_41 : decode cX6_appendText 41 = .ok (.aload_n 0, 1) := by decide +kernel
theorem dX6_appendText_42 : decode cX6_appendText 42 = .ok (.getfield 136, 3) := by decide +kernel
theorem dX6_appendText_45 : decode cX6_appendText 45 = .ok (.iload_n 1, 1) := by decide +kernel
theorem dX6_appendText_46 : decode cX6_appendText 46 = .ok (.iastore, 1) := by decide +kernel
theorem dX6_appendText_47 : decode cX6_appendText 47 = .ok (.aload_n 0, 1) := by decide +kernel
theorem dX6_appendText_48 : decode cX6_appendText 48 = .ok (.dup, 1) := by decide +kernel
theorem dX6_appendText_49 : decode cX6_appendText 49 = .ok (.getfield 136, 3) := by decide +kernel
theorem dX6_appendText_52 : decode cX6_appendText 52 = .ok (.iconst 1, 1) := by decide +kernel
theorem dX6_appendText_53 : decode cX6_appendText 53 = .ok (.iadd, 1) := by decide +kernel
theorem dX6_appendText_54 : decode cX6_appendText 54 = .ok (.putfield 136, 3) := by decide +kernel
theorem dX6_appendText_57 : decode cX6_appendText 57 = .ok (.aload_n 0, 1) := by decide +kernel
theorem dX6_appendText_58 : decode cX6_appendText 58 = .ok (.getfield 136, 3) := by decide +kernel
theorem dX6_appendText_61 : decode cX6_appendText 61 = .ok (.ireturn, 1) := by decide +kernel
theorem dX6_clearText_0 : decode cX6_clearText 0 = .ok (.aload_n 0, 1) := by decide +kernel
theorem dX6_clearText_1 : decode cX6_clearText 1 = .ok (.iconst 0, 1) := by decide +kernel
theorem dX6_clearText_2 : decode cX6_clearText 2 = .ok (.putfield 38, 3) := by decide +kernel
theorem dX6_clearText_5 : decode cX6_clearText 5 = .ok (.aload_n 0, 1) := by decide +kernel
theorem dX6_clearText_6 : decode cX6_clearText 6 = .ok (.getfield 136, 3) := by decide +kernel
theorem dX6_clearText_9 : decode cX6_clearText 9 = .ok (.istore_n 1, 1) := by decide +kernel
theorem dX6_clearText_10 : decode cX6_clearText 10 = .ok (.aload_n 0, 1) := by decide +kernel
theorem dX6_clearText_11 : decode cX6_clearText 11 = .ok (.iconst 0, 1) := by decide +kernel
theorem dX6_clearText_12 : decode cX6_clearText 12 = .ok (.putfield 136, 3) := by decide +kernel
theorem dX6_clearText_15 : decode cX6_clearText 15 = .ok (.iload_n 1, 1) := by decide +kernel
theorem dX6_clearText_16 : decode cX6_clearText 16 = .ok (.ireturn, 1) := by decide +kernel
theorem dX6_sign_0 : decode cX6_sign 0 = .ok (.aload_n 0, 1) := by decide +kernel
theorem dX6_sign_1 : decode cX6_sign 1 = .ok (.getfield 139, 3) := by decide +kernel
theorem dX6_sign_4 : decode cX6_sign 4 = .ok (.aload_n 0, 1) := by decide +kernel
theorem dX6_sign_5 : decode cX6_sign 5 = .ok (.getfield 136, 3) := by decide +kernel
theorem dX6_sign_8 : decode cX6_sign 8 = .ok (.if_icmp .ge 15, 3) := by decide +kernel
theorem dX6_sign_11 : decode cX6_sign 11 = .ok (.aload_n 0, 1) := by decide +kernel
theorem dX6_sign_12 : decode cX6_sign 12 = .ok (.getfield 19, 3) := by decide +kernel
theorem dX6_sign_15 : decode cX6_sign 15 = .ok (.aload_n 0, 1) := by decide +kernel
theorem dX6_sign_16 : decode cX6_sign 16 = .ok (.getfield 139, 3) := by decide +kernel
theorem dX6_sign_19 : decode cX6_sign 19 = .ok (.iaload, 1) := by decide +kernel
theorem dX6_sign_20 : decode cX6_sign 20 = .ok (.goto 4, 3) := by decide +kernel
theorem dX6_sign_23 : decode cX6_sign 23 = .ok (.iconst 0, 1) := by decide +kernel
theorem dX6_sign_24 : decode cX6_sign 24 = .ok (.ireturn, 1) := by decide +kernel
theorem dX6_takes_0 : decode cX6_takes 0 = .ok (.aload_n 0, 1) := by decide +kernel
theorem dX6_takes_1 : decode cX6_takes 1 = .ok (.invokevirtual 142, 3) := by decide +kernel
theorem dX6_takes_4 : decode cX6_takes 4 = .ok (.iload_n 1, 1) := by decide +kernel
theorem dX6_takes_5 : decode cX6_takes 5 = .ok (.if_icmp .ne 7, 3) := by decide +kernel
theorem dX6_takes_8 : decode cX6_takes 8 = .ok (.iconst 1, 1) := by decide +kernel
theorem dX6_takes_9 : decode cX6_takes 9 = .ok (.goto 4, 3) := by decide +kernel
theorem dX6_takes_12 : decode cX6_takes 12 = .ok (.iconst 0, 1) := by decide +kernel
theorem dX6_takes_13 : decode cX6_takes 13 = .ok (.istore_n 2, 1) := by decide +kernel
theorem dX6_takes_14 : decode cX6_takes 14 = .ok (.aload_n 0, 1) := by decide +kernel
theorem dX6_takes_15 : decode cX6_takes 15 = .ok (.dup, 1) := by decide +kernel
theorem dX6_takes_16 : decode cX6_takes 16 = .ok (.getfield 139, 3) := by decide +kernel
theorem dX6_takes_19 : decode cX6_takes 19 = .ok (.iload_n 2, 1) := by decide +kernel
theorem dX6_takes_20 : decode cX6_takes 20 = .ok (.ifCond .eq 7, 3) := by decide +kernel
theorem dX6_takes_23 : decode cX6_takes 23 = .ok (.iconst 1, 1) := by decide +kernel
theorem dX6_takes_24 : decode cX6_takes 24 = .ok (.goto 4, 3) := by decide +kernel
theorem dX6_takes_27 : decode cX6_takes 27 = .ok (.iconst 0, 1) := by decide +kernel
theorem dX6_takes_28 : decode cX6_takes 28 = .ok (.iadd, 1) := by decide +kernel
theorem dX6_takes_29 : decode cX6_takes 29 = .ok (.putfield 139, 3) := by decide +kernel
theorem dX6_takes_32 : decode cX6_takes 32 = .ok (.iload_n 2, 1) := by decide +kernel
theorem dX6_takes_33 : decode cX6_takes 33 = .ok (.ireturn, 1) := by decide +kernel
theorem dX6_readsNumber_0 : decode cX6_readsNumber 0 = .ok (.aload_n 0, 1) := by decide +kernel
theorem dX6_readsNumber_1 : decode cX6_readsNumber 1 = .ok (.iconst 0, 1) := by decide +kernel
theorem dX6_readsNumber_2 : decode cX6_readsNumber 2 = .ok (.putfield 145, 3) := by decide +kernel
theorem dX6_readsNumber_5 : decode cX6_readsNumber 5 = .ok (.aload_n 0, 1) := by decide +kernel
theorem dX6_readsNumber_6 : decode cX6_readsNumber 6 = .ok (.invokevirtual 142, 3) := by decide +kernel
theorem dX6_readsNumber_9 : decode cX6_readsNumber 9 = .ok (.aload_n 0, 1) := by decide +kernel
theorem dX6_readsNumber_10 : decode cX6_readsNumber 10 = .ok (.getfield 145, 3) := by decide +kernel
theorem dX6_readsNumber_13 : decode cX6_readsNumber 13 = .ok (.ifCond .ne 8, 3) := by decide +kernel
theorem dX6_readsNumber_16 : decode cX6_readsNumber 16 = .ok (.bipush 49, 2) := by decide +kernel
theorem dX6_readsNumber_18 : decode cX6_readsNumber 18 = .ok (.goto 5, 3) := by decide +kernel
theorem dX6_readsNumber_21 : decode cX6_readsNumber 21 = .ok (.bipush 48, 2) := by decide +kernel
theorem dX6_readsNumber_23 : decode cX6_readsNumber 23 = .ok (.bipush 57, 2) := by decide +kernel
theorem dX6_readsNumber_25 : decode cX6_readsNumber 25 = .ok (.invokestatic 42, 3) := by decide +kernel
theorem dX6_readsNumber_28 : decode cX6_readsNumber 28 = .ok (.ifCond .eq 54, 3) := by decide +kernel
theorem dX6_readsNumber_31 : decode cX6_readsNumber 31 = .ok (.bipush 10, 2) := by decide +kernel
theorem dX6_readsNumber_33 : decode cX6_readsNumber 33 = .ok (.aload_n 0, 1) := by decide +kernel
theorem dX6_readsNumber_34 : decode cX6_readsNumber 34 = .ok (.getfield 145, 3) := by decide +kernel
theorem dX6_readsNumber_37 : decode cX6_readsNumber 37 = .ok (.imul, 1) := by decide +kernel
theorem dX6_readsNumber_38 : decode cX6_readsNumber 38 = .ok (.aload_n 0, 1) := by decide +kernel
theorem dX6_readsNumber_39 : decode cX6_readsNumber 39 = .ok (.invokevirtual 142, 3) := by decide +kernel
theorem dX6_readsNumber_42 : decode cX6_readsNumber 42 = .ok (.iadd, 1) := by decide +kernel
theorem dX6_readsNumber_43 : decode cX6_readsNumber 43 = .ok (.bipush 48, 2) := by decide +kernel
theorem dX6_readsNumber_45 : decode cX6_readsNumber 45 = .ok (.isub, 1) := by decide +kernel
theorem dX6_readsNumber_46 : decode cX6_readsNumber 46 = .ok (.iload_n 1, 1) := by decide +kernel
theorem dX6_readsNumber_47 : decode cX6_readsNumber 47 = .ok (.if_icmp .gt 35, 3) := by decide +kernel
theorem dX6_readsNumber_50 : decode cX6_readsNumber 50 = .ok (.aload_n 0, 1) := by decide +kernel
theorem dX6_readsNumber_51 : decode cX6_readsNumber 51 = .ok (.bipush 10, 2) := by decide +kernel
theorem dX6_readsNumber_53 : decode cX6_readsNumber 53 = .ok (.aload_n 0, 1) := by decide +kernel
theorem dX6_readsNumber_54 : decode cX6_readsNumber 54 = .ok (.getfield 145, 3) := by decide +kernel
theorem dX6_readsNumber_57 : decode cX6_readsNumber 57 = .ok (.imul, 1) := by decide +kernel
theorem dX6_readsNumber_58 : decode cX6_readsNumber 58 = .ok (.aload_n 0, 1) := by decide +kernel
theorem dX6_readsNumber_59 : decode cX6_readsNumber 59 = .ok (.invokevirtual 142, 3) := by decide +kernel
theorem dX6_readsNumber_62 : decode cX6_readsNumber 62 = .ok (.iadd, 1) := by decide +kernel
theorem dX6_readsNumber_63 : decode cX6_readsNumber 63 = .ok (.bipush 48, 2) := by decide +kernel
theorem dX6_readsNumber_65 : decode cX6_readsNumber 65 = .ok (.isub, 1) := by decide +kernel
theorem dX6_readsNumber_66 : decode cX6_readsNumber 66 = .ok (.putfield 145, 3) := by decide +kernel
theorem dX6_readsNumber_69 : decode cX6_readsNumber 69 = .ok (.aload_n 0, 1) := by decide +kernel
theorem dX6_readsNumber_70 : decode cX6_readsNumber 70 = .ok (.dup, 1) := by decide +kernel
theorem dX6_readsNumber_71 : decode cX6_readsNumber 71 = .ok (.getfield 139, 3) := by decide +kernel
theorem dX6_readsNumber_74 : decode cX6_readsNumber 74 = .ok (.iconst 1, 1) := by decide +kernel
theorem dX6_readsNumber_75 : decode cX6_readsNumber 75 = .ok (.iadd, 1) := by decide +kernel
theorem dX6_readsNumber_76 : decode cX6_readsNumber 76 = .ok (.putfield 139, 3) := by decide +kernel
theorem dX6_readsNumber_79 : decode cX6_readsNumber 79 = .ok (.goto (-74), 3) := by decide +kernel
theorem dX6_readsNumber_82 : decode cX6_readsNumber 82 = .ok (.aload_n 0, 1) := by decide +kernel
theorem dX6_readsNumber_83 : decode cX6_readsNumber 83 = .ok (.getfield 145, 3) := by decide +kernel
theorem dX6_readsNumber_86 : decode cX6_readsNumber 86 = .ok (.ifCond .le 7, 3) := by decide +kernel
theorem dX6_readsNumber_89 : decode cX6_readsNumber 89 = .ok (.iconst 1, 1) := by decide +kernel
theorem dX6_readsNumber_90 : decode cX6_readsNumber 90 = .ok (.goto 4, 3) := by decide +kernel
theorem dX6_readsNumber_93 : decode cX6_readsNumber 93 = .ok (.iconst 0, 1) := by decide +kernel
theorem dX6_readsNumber_94 : decode cX6_readsNumber 94 = .ok (.ireturn, 1) := by decide +kernel
theorem dX6_readsJob_0 : decode cX6_readsJob 0 = .ok (.aload_n 0, 1) := by decide +kernel
theorem dX6_readsJob_1 : decode cX6_readsJob 1 = .ok (.bipush 99, 2) := by decide +kernel
theorem dX6_readsJob_3 : decode cX6_readsJob 3 = .ok (.invokevirtual 148, 3) := by decide +kernel
theorem dX6_readsJob_6 : decode cX6_readsJob 6 = .ok (.ifCond .ne 5, 3) := by decide +kernel
theorem dX6_readsJob_9 : decode cX6_readsJob 9 = .ok (.iconst 0, 1) := by decide +kernel
theorem dX6_readsJob_10 : decode cX6_readsJob 10 = .ok (.ireturn, 1) := by decide +kernel
theorem dX6_readsJob_11 : decode cX6_readsJob 11 = .ok (.aload_n 0, 1) := by decide +kernel
theorem dX6_readsJob_12 : decode cX6_readsJob 12 = .ok (.getfield 25, 3) := by decide +kernel
theorem dX6_readsJob_15 : decode cX6_readsJob 15 = .ok (.aload_n 0, 1) := by decide +kernel
theorem dX6_readsJob_16 : decode cX6_readsJob 16 = .ok (.getfield 151, 3) := by decide +kernel
theorem dX6_readsJob_19 : decode cX6_readsJob 19 = .ok (.aload_n 0, 1) := by decide +kernel
theorem dX6_readsJob_20 : decode cX6_readsJob 20 = .ok (.getfield 145, 3) := by decide +kernel
theorem dX6_readsJob_23 : decode cX6_readsJob 23 = .ok (.iastore, 1) := by decide +kernel
theorem dX6_readsJob_24 : decode cX6_readsJob 24 = .ok (.aload_n 0, 1) := by decide +kernel
theorem dX6_readsJob_25 : decode cX6_readsJob 25 = .ok (.bipush 42, 2) := by decide +kernel
theorem dX6_readsJob_27 : decode cX6_readsJob 27 = .ok (.invokevirtual 154, 3) := by decide +kernel
theorem dX6_readsJob_30 : decode cX6_readsJob 30 = .ok (.ifCond .eq 12, 3) := by decide +kernel
theorem dX6_readsJob_33 : decode cX6_readsJob 33 = .ok (.aload_n 0, 1) := by decide +kernel
theorem dX6_readsJob_34 : decode cX6_readsJob 34 = .ok (.bipush 20, 2) := by decide +kernel
theorem dX6_readsJob_36 : decode cX6_readsJob 36 = .ok (.invokevirtual 148, 3) := by decide +kernel
theorem dX6_readsJob_39 : decode cX6_readsJob 39 = .ok (.ifCond .ne 5, 3) := by decide +kernel
theorem dX6_readsJob_42 : decode cX6_readsJob 42 = .ok (.iconst 0, 1) := by decide +kernel
theorem dX6_readsJob_43 : decode cX6_readsJob 43 = .ok (.ireturn, 1) := by decide +kernel
theorem dX6_readsJob_44 : decode cX6_readsJob 44 = .ok (.aload_n 0, 1) := by decide +kernel
theorem dX6_readsJob_45 : decode cX6_readsJob 45 = .ok (.getfield 28, 3) := by decide +kernel
theorem dX6_readsJob_48 : decode cX6_readsJob 48 = .ok (.aload_n 0, 1) := by decide +kernel
theorem dX6_readsJob_49 : decode cX6_readsJob 49 = .ok (.getfield 151, 3) := by decide +kernel
theorem dX6_readsJob_52 : decode cX6_readsJob 52 = .ok (.aload_n 0, 1) := by decide +kernel
theorem dX6_readsJob_53 : decode cX6_readsJob 53 = .ok (.getfield 145, 3) := by decide +kernel
theorem dX6_readsJob_56 : decode cX6_readsJob 56 = .ok (.iastore, 1) := by decide +kernel
theorem dX6_readsJob_57 : decode cX6_readsJob 57 = .ok (.aload_n 0, 1) := by decide +kernel
theorem dX6_readsJob_58 : decode cX6_readsJob 58 = .ok (.getfield 31, 3) := by decide +kernel
theorem dX6_readsJob_61 : decode cX6_readsJob 61 = .ok (.aload_n 0, 1) := by decide +kernel
theorem dX6_readsJob_62 : decode cX6_readsJob 62 = .ok (.getfield 151, 3) := by decide +kernel
theorem dX6_readsJob_65 : decode cX6_readsJob 65 = .ok (.iconst 0, 1) := by decide +kernel
theorem dX6_readsJob_66 : decode cX6_readsJob 66 = .ok (.iastore, 1) := by decide +kernel
theorem dX6_readsJob_67 : decode cX6_readsJob 67 = .ok (.aload_n 0, 1) := by decide +kernel
theorem dX6_readsJob_68 : decode cX6_readsJob 68 = .ok (.bipush 33, 2) := by decide +kernel
theorem dX6_readsJob_70 : decode cX6_readsJob 70 = .ok (.invokevirtual 154, 3) := by decide +kernel
theorem dX6_readsJob_73 : decode cX6_readsJob 73 = .ok (.ifCond .ne 5, 3) := by decide +kernel
theorem dX6_readsJob_76 : decode cX6_readsJob 76 = .ok (.iconst 1, 1) := by decide +kernel
theorem dX6_readsJob_77 : decode cX6_readsJob 77 = .ok (.ireturn, 1) := by decide +kernel
theorem dX6_readsJob_78 : decode cX6_readsJob 78 = .ok (.aload_n 0, 1) := by decide +kernel
theorem dX6_readsJob_79 : decode cX6_readsJob 79 = .ok (.invokevirtual 142, 3) := by decide +kernel
theorem dX6_readsJob_82 : decode cX6_readsJob 82 = .ok (.bipush 48, 2) := by decide +kernel
theorem dX6_readsJob_84 : decode cX6_readsJob 84 = .ok (.bipush 57, 2) := by decide +kernel
theorem dX6_readsJob_86 : decode cX6_readsJob 86 = .ok (.invokestatic 42, 3) := by decide +kernel
theorem dX6_readsJob_89 : decode cX6_readsJob 89 = .ok (.istore_n 1, 1) := by decide +kernel
theorem dX6_readsJob_90 : decode cX6_readsJob 90 = .ok (.aload_n 0, 1) := by decide +kernel
theorem dX6_readsJob_91 : decode cX6_readsJob 91 = .ok (.getfield 31, 3) := by decide +kernel
theorem dX6_readsJob_94 : decode cX6_readsJob 94 = .ok (.aload_n 0, 1) := by decide +kernel
theorem dX6_readsJob_95 : decode cX6_readsJob 95 = .ok (.getfield 151, 3) := by decide +kernel
theorem dX6_readsJob_98 : decode cX6_readsJob 98 = .ok (.iload_n 1, 1) := by decide +kernel
theorem dX6_readsJob_99 : decode cX6_readsJob 99 = .ok (.ifCond .eq 13, 3) := by decide +kernel
theorem dX6_readsJob_102 : decode cX6_readsJob 102 = .ok (.aload_n 0, 1) := by decide +kernel
theorem dX6_readsJob_103 : decode cX6_readsJob 103 = .ok (.invokevirtual 142, 3) := by decide +kernel
theorem dX6_readsJob_106 : decode cX6_readsJob 106 = .ok (.bipush 48, 2) := by decide +kernel
theorem dX6_readsJob_108 : decode cX6_readsJob 108 = .ok (.isub, 1) := by decide +kernel
theorem dX6_readsJob_109 : decode cX6_readsJob 109 = .ok (.goto 4, 3) := by decide +kernel
theorem dX6_readsJob_112 : decode cX6_readsJob 112 = .ok (.iconst 0, 1) := by decide +kernel
theorem dX6_readsJob_113 : decode cX6_readsJob 113 = .ok (.iastore, 1) := by decide +kernel
theorem dX6_readsJob_114 : decode cX6_readsJob 114 = .ok (.aload_n 0, 1) := by decide +kernel
theorem dX6_readsJob_115 : decode cX6_readsJob 115 = .ok (.dup, 1) := by decide +kernel
theorem dX6_readsJob_116 : decode cX6_readsJob 116 = .ok (.getfield 139, 3) := by decide +kernel
theorem dX6_readsJob_119 : decode cX6_readsJob 119 = .ok (.iload_n 1, 1) := by decide +kernel
theorem dX6_readsJob_120 : decode cX6_readsJob 120 = .ok (.ifCond .eq 7, 3) := by decide +kernel
theorem dX6_readsJob_123 : decode cX6_readsJob 123 = .ok (.iconst 1, 1) := by decide +kernel
theorem dX6_readsJob_124 : decode cX6_readsJob 124 = .ok (.goto 4, 3) := by decide +kernel
theorem dX6_readsJob_127 : decode cX6_readsJob 127 = .ok (.iconst 0, 1) := by decide +kernel
theorem dX6_readsJob_128 : decode cX6_readsJob 128 = .ok (.iadd, 1) := by decide +kernel
theorem dX6_readsJob_129 : decode cX6_readsJob 129 = .ok (.putfield 139, 3) := by decide +kernel
theorem dX6_readsJob_132 : decode cX6_readsJob 132 = .ok (.iload_n 1, 1) := by decide +kernel
theorem dX6_readsJob_133 : decode cX6_readsJob 133 = .ok (.ireturn, 1) := by decide +kernel
theorem dX6_readsMinutes_0 : decode cX6_readsMinutes 0 = .ok (.aload_n 0, 1) := by decide +kernel
theorem dX6_readsMinutes_1 : decode cX6_readsMinutes 1 = .ok (.bipush 99, 2) := by decide +kernel
theorem dX6_readsMinutes_3 : decode cX6_readsMinutes 3 = .ok (.invokevirtual 148, 3) := by decide +kernel
theorem dX6_readsMinutes_6 : decode cX6_readsMinutes 6 = .ok (.istore_n 1, 1) := by decide +kernel
theorem dX6_readsMinutes_7 : decode cX6_readsMinutes 7 = .ok (.aload_n 0, 1) := by decide +kernel
theorem dX6_readsMinutes_8 : decode cX6_readsMinutes 8 = .ok (.getfield 25, 3) := by decide +kernel
theorem dX6_readsMinutes_11 : decode cX6_readsMinutes 11 = .ok (.aload_n 0, 1) := by decide +kernel
theorem dX6_readsMinutes_12 : decode cX6_readsMinutes 12 = .ok (.getfield 151, 3) := by decide +kernel
theorem dX6_readsMinutes_15 : decode cX6_readsMinutes 15 = .ok (.aload_n 0, 1) := by decide +kernel
theorem dX6_readsMinutes_16 : decode cX6_readsMinutes 16 = .ok (.getfield 145, 3) := by decide +kernel
theorem dX6_readsMinutes_19 : decode cX6_readsMinutes 19 = .ok (.iastore, 1) := by decide +kernel
theorem dX6_readsMinutes_20 : decode cX6_readsMinutes 20 = .ok (.iload_n 1, 1) := by decide +kernel
theorem dX6_readsMinutes_21 : decode cX6_readsMinutes 21 = .ok (.ireturn, 1) := by decide +kernel
theorem dX6_readsCommand_0 : decode cX6_readsCommand 0 = .ok (.aload_n 0, 1) := by decide +kernel
theorem dX6_readsCommand_1 : decode cX6_readsCommand 1 = .ok (.invokevirtual 142, 3) := by decide +kernel
theorem dX6_readsCommand_4 : decode cX6_readsCommand 4 = .ok (.istore_n 1, 1) := by decide +kernel
theorem dX6_readsCommand_5 : decode cX6_readsCommand 5 = .ok (.iload_n 1, 1) := by decide +kernel
theorem dX6_readsCommand_6 : decode cX6_readsCommand 6 = .ok (.bipush 114, 2) := by decide +kernel
theorem dX6_readsCommand_8 : decode cX6_readsCommand 8 = .ok (.if_icmp .eq 15, 3) := by decide +kernel
theorem dX6_readsCommand_11 : decode cX6_readsCommand 11 = .ok (.iload_n 1, 1) := by decide +kernel
theorem dX6_readsCommand_12 : decode cX6_readsCommand 12 = .ok (.bipush 119, 2) := by decide +kernel
theorem dX6_readsCommand_14 : decode cX6_readsCommand 14 = .ok (.if_icmp .eq 9, 3) := by decide +kernel
theorem dX6_readsCommand_17 : decode cX6_readsCommand 17 = .ok (.iload_n 1, 1) := by decide +kernel
theorem dX6_readsCommand_18 : decode cX6_readsCommand 18 = .ok (.bipush 99, 2) := by decide +kernel
theorem dX6_readsCommand_20 : decode cX6_readsCommand 20 = .ok (.if_icmp .ne 7, 3) := by decide +kernel
theorem dX6_readsCommand_23 : decode cX6_readsCommand 23 = .ok (.iconst 1, 1) := by decide +kernel
theorem dX6_readsCommand_24 : decode cX6_readsCommand 24 = .ok (.goto 4, 3) := by decide +kernel
theorem dX6_readsCommand_27 : decode cX6_readsCommand 27 = .ok (.iconst 0, 1) := by decide +kernel
theorem dX6_readsCommand_28 : decode cX6_readsCommand 28 = .ok (.istore_n 2, 1) := by decide +kernel
theorem dX6_readsCommand_29 : decode cX6_readsCommand 29 = .ok (.iload_n 2, 1) := by decide +kernel
theorem dX6_readsCommand_30 : decode cX6_readsCommand 30 = .ok (.ifCond .ne 17, 3) := by decide +kernel
theorem dX6_readsCommand_33 : decode cX6_readsCommand 33 = .ok (.iload_n 1, 1) := by decide +kernel
theorem dX6_readsCommand_34 : decode cX6_readsCommand 34 = .ok (.bipush 116, 2) := by decide +kernel
theorem dX6_readsCommand_36 : decode cX6_readsCommand 36 = .ok (.if_icmp .eq 11, 3) := by decide +kernel
theorem dX6_readsCommand_39 : decode cX6_readsCommand 39 = .ok (.iload_n 1, 1) := by decide +kernel
theorem dX6_readsCommand_40 : decode cX6_readsCommand 40 = .ok (.bipush 100, 2) := by decide +kernel
theorem dX6_readsCommand_42 : decode cX6_readsCommand 42 = .ok (.if_icmp .eq 5, 3) := by decide +kernel
theorem dX6_readsCommand_45 : decode cX6_readsCommand 45 = .ok (.iconst 0, 1) := by decide +kernel
theorem dX6_readsCommand_46 : decode cX6_readsCommand 46 = .ok (.ireturn, 1) := by decide +kernel
theorem dX6_readsCommand_47 : decode cX6_readsCommand 47 = .ok (.aload_n 0, 1) := by decide +kernel
theorem dX6_readsCommand_48 : decode cX6_readsCommand 48 = .ok (.dup, 1) := by decide +kernel
theorem dX6_readsCommand_49 : decode cX6_readsCommand 49 = .ok (.getfield 139, 3) := by decide +kernel
theorem dX6_readsCommand_52 : decode cX6_readsCommand 52 = .ok (.iconst 1, 1) := by decide +kernel
theorem dX6_readsCommand_53 : decode cX6_readsCommand 53 = .ok (.iadd, 1) := by decide +kernel
theorem dX6_readsCommand_54 : decode cX6_readsCommand 54 = .ok (.putfield 139, 3) := by decide +kernel
theorem dX6_readsCommand_57 : decode cX6_readsCommand 57 = .ok (.iload_n 2, 1) := by decide +kernel
theorem dX6_readsCommand_58 : decode cX6_readsCommand 58 = .ok (.ifCond .eq 10, 3) := by decide +kernel
theorem dX6_readsCommand_61 : decode cX6_readsCommand 61 = .ok (.aload_n 0, 1) := by decide +kernel
theorem dX6_readsCommand_62 : decode cX6_readsCommand 62 = .ok (.invokevirtual 157, 3) := by decide +kernel
theorem dX6_readsCommand_65 : decode cX6_readsCommand 65 = .ok (.goto 21, 3) := by decide +kernel
theorem dX6_readsCommand_68 : decode cX6_readsCommand 68 = .ok (.iload_n 1, 1) := by decide +kernel
theorem dX6_readsCommand_69 : decode cX6_readsCommand 69 = .ok (.bipush 100, 2) := by decide +kernel
theorem dX6_readsCommand_71 : decode cX6_readsCommand 71 = .ok (.if_icmp .eq 10, 3) := by decide +kernel
theorem dX6_readsCommand_74 : decode cX6_readsCommand 74 = .ok (.aload_n 0, 1) := by decide +kernel
theorem dX6_readsCommand_75 : decode cX6_readsCommand 75 = .ok (.invokevirtual 161, 3) := by decide +kernel
theorem dX6_readsCommand_78 : decode cX6_readsCommand 78 = .ok (.ifCond .eq 7, 3) := by decide +kernel
theorem dX6_readsCommand_81 : decode cX6_readsCommand 81 = .ok (.iconst 1, 1) := by decide +kernel
theorem dX6_readsCommand_82 : decode cX6_readsCommand 82 = .ok (.goto 4, 3) := by decide +kernel
theorem dX6_readsCommand_85 : decode cX6_readsCommand 85 = .ok (.iconst 0, 1) := by decide +kernel
theorem dX6_readsCommand_86 : decode cX6_readsCommand 86 = .ok (.istore_n 3, 1) := by decide +kernel
theorem dX6_readsCommand_87 : decode cX6_readsCommand 87 = .ok (.iload_n 3, 1) := by decide +kernel
theorem dX6_readsCommand_88 : decode cX6_readsCommand 88 = .ok (.ifCond .eq 23, 3) := by decide +kernel
theorem dX6_readsCommand_91 : decode cX6_readsCommand 91 = .ok (.aload_n 0, 1) := by decide +kernel
theorem dX6_readsCommand_92 : decode cX6_readsCommand 92 = .ok (.getfield 22, 3) := by decide +kernel
theorem dX6_readsCommand_95 : decode cX6_readsCommand 95 = .ok (.aload_n 0, 1) := by decide +kernel
theorem dX6_readsCommand_96 : decode cX6_readsCommand 96 = .ok (.getfield 151, 3) := by decide +kernel
theorem dX6_readsCommand_99 : decode cX6_readsCommand 99 = .ok (.iload_n 1, 1) := by decide +kernel
theorem dX6_readsCommand_100 : decode cX6_readsCommand 100 = .ok (.iastore, 1) := by decide +kernel
theorem dX6_readsCommand_101 : decode cX6_readsCommand 101 = .ok (.aload_n 0, 1) := by decide +kernel
theorem dX6_readsCommand_102 : decode cX6_readsCommand 102 = .ok (.dup, 1) := by decide +kernel
theorem dX6_readsCommand_103 : decode cX6_readsCommand 103 = .ok (.getfield 151, 3) := by decide +kernel
theorem dX6_readsCommand_106 : decode cX6_readsCommand 106 = .ok (.iconst 1, 1) := by decide +kernel
theorem dX6_readsCommand_107 : decode cX6_readsCommand 107 = .ok (.iadd, 1) := by decide +kernel
theorem dX6_readsCommand_108 : decode cX6_readsCommand 108 = .ok (.putfield 151, 3) := by decide +kernel
theorem dX6_readsCommand_111 : decode cX6_readsCommand 111 = .ok (.iload_n 3, 1) := by decide +kernel
theorem dX6_readsCommand_112 : decode cX6_readsCommand 112 = .ok (.ireturn, 1) := by decide +kernel
theorem dX6_isValid_0 : decode cX6_isValid 0 = .ok (.aload_n 0, 1) := by decide +kernel
theorem dX6_isValid_1 : decode cX6_isValid 1 = .ok (.iconst 0, 1) := by decide +kernel
theorem dX6_isValid_2 : decode cX6_isValid 2 = .ok (.putfield 139, 3) := by decide +kernel
theorem dX6_isValid_5 : decode cX6_isValid 5 = .ok (.aload_n 0, 1) := by decide +kernel
theorem dX6_isValid_6 : decode cX6_isValid 6 = .ok (.iconst 0, 1) := by decide +kernel
theorem dX6_isValid_7 : decode cX6_isValid 7 = .ok (.putfield 151, 3) := by decide +kernel
theorem dX6_isValid_10 : decode cX6_isValid 10 = .ok (.aload_n 0, 1) := by decide +kernel
theorem dX6_isValid_11 : decode cX6_isValid 11 = .ok (.invokevirtual 164, 3) := by decide +kernel
theorem dX6_isValid_14 : decode cX6_isValid 14 = .ok (.istore_n 1, 1) := by decide +kernel
theorem dX6_isValid_15 : decode cX6_isValid 15 = .ok (.iload_n 1, 1) := by decide +kernel
theorem dX6_isValid_16 : decode cX6_isValid 16 = .ok (.ifCond .eq 20, 3) := by decide +kernel
theorem dX6_isValid_19 : decode cX6_isValid 19 = .ok (.aload_n 0, 1) := by decide +kernel
theorem dX6_isValid_20 : decode cX6_isValid 20 = .ok (.bipush 59, 2) := by decide +kernel
theorem dX6_isValid_22 : decode cX6_isValid 22 = .ok (.invokevirtual 154, 3) := by decide +kernel
theorem dX6_isValid_25 : decode cX6_isValid 25 = .ok (.ifCond .eq 11, 3) := by decide +kernel
theorem dX6_isValid_28 : decode cX6_isValid 28 = .ok (.aload_n 0, 1) := by decide +kernel
theorem dX6_isValid_29 : decode cX6_isValid 29 = .ok (.invokevirtual 164, 3) := by decide +kernel
theorem dX6_isValid_32 : decode cX6_isValid 32 = .ok (.istore_n 1, 1) := by decide +kernel
theorem dX6_isValid_33 : decode cX6_isValid 33 = .ok (.goto (-18), 3) := by decide +kernel
theorem dX6_isValid_36 : decode cX6_isValid 36 = .ok (.iload_n 1, 1) := by decide +kernel
theorem dX6_isValid_37 : decode cX6_isValid 37 = .ok (.ifCond .eq 18, 3) := by decide +kernel
theorem dX6_isValid_40 : decode cX6_isValid 40 = .ok (.aload_n 0, 1) := by decide +kernel
theorem dX6_isValid_41 : decode cX6_isValid 41 = .ok (.getfield 139, 3) := by decide +kernel
theorem dX6_isValid_44 : decode cX6_isValid 44 = .ok (.aload_n 0, 1) := by decide +kernel
theorem dX6_isValid_45 : decode cX6_isValid 45 = .ok (.getfield 136, 3) := by decide +kernel
theorem dX6_isValid_48 : decode cX6_isValid 48 = .ok (.if_icmp .ne 7, 3) := by decide +kernel
theorem dX6_isValid_51 : decode cX6_isValid 51 = .ok (.iconst 1, 1) := by decide +kernel
theorem dX6_isValid_52 : decode cX6_isValid 52 = .ok (.goto 4, 3) := by decide +kernel
theorem dX6_isValid_55 : decode cX6_isValid 55 = .ok (.iconst 0, 1) := by decide +kernel
theorem dX6_isValid_56 : decode cX6_isValid 56 = .ok (.ireturn, 1) := by decide +kernel
theorem dX6_errorPosition_0 : decode cX6_errorPosition 0 = .ok (.aload_n 0, 1) := by decide +kernel
theorem dX6_errorPosition_1 : decode cX6_errorPosition 1 = .ok (.iconst 0, 1) := by decide +kernel
theorem dX6_errorPosition_2 : decode cX6_errorPosition 2 = .ok (.putfield 38, 3) := by decide +kernel
theorem dX6_errorPosition_5 : decode cX6_errorPosition 5 = .ok (.aload_n 0, 1) := by decide +kernel
theorem dX6_errorPosition_6 : decode cX6_errorPosition 6 = .ok (.invokevirtual 167, 3) := by decide +kernel
theorem dX6_errorPosition_9 : decode cX6_errorPosition 9 = .ok (.ifCond .eq 7, 3) := by decide +kernel
theorem dX6_errorPosition_12 : decode cX6_errorPosition 12 = .ok (.iconst (-1), 1) := by decide +kernel
theorem dX6_errorPosition_13 : decode cX6_errorPosition 13 = .ok (.goto 7, 3) := by decide +kernel
theorem dX6_errorPosition_16 : decode cX6_errorPosition 16 = .ok (.aload_n 0, 1) := by decide +kernel
theorem dX6_errorPosition_17 : decode cX6_errorPosition 17 = .ok (.getfield 139, 3) := by decide +kernel
theorem dX6_errorPosition_20 : decode cX6_errorPosition 20 = .ok (.ireturn, 1) := by decide +kernel
theorem dX6_kindOf_0 : decode cX6_kindOf 0 = .ok (.iload_n 0, 1) := by decide +kernel
theorem dX6_kindOf_1 : decode cX6_kindOf 1 = .ok (.bipush 114, 2) := by decide +kernel
theorem dX6_kindOf_3 : decode cX6_kindOf 3 = .ok (.if_icmp .ne 7, 3) := by decide +kernel
theorem dX6_kindOf_6 : decode cX6_kindOf 6 = .ok (.iconst 0, 1) := by decide +kernel
theorem dX6_kindOf_7 : decode cX6_kindOf 7 = .ok (.goto 14, 3) := by decide +kernel
theorem dX6_kindOf_10 : decode cX6_kindOf 10 = .ok (.iload_n 0, 1) := by decide +kernel
theorem dX6_kindOf_11 : decode cX6_kindOf 11 = .ok (.bipush 119, 2) := by decide +kernel
theorem dX6_kindOf_13 : decode cX6_kindOf 13 = .ok (.if_icmp .ne 7, 3) := by decide +kernel
theorem dX6_kindOf_16 : decode cX6_kindOf 16 = .ok (.iconst 1, 1) := by decide +kernel
theorem dX6_kindOf_17 : decode cX6_kindOf 17 = .ok (.goto 4, 3) := by decide +kernel
theorem dX6_kindOf_20 : decode cX6_kindOf 20 = .ok (.iconst 2, 1) := by decide +kernel
theorem dX6_kindOf_21 : decode cX6_kindOf 21 = .ok (.ireturn, 1) := by decide +kernel
theorem dX6_isCarriedOut_0 : decode cX6_isCarriedOut 0 = .ok (.aload_n 0, 1) := by decide +kernel
theorem dX6_isCarriedOut_1 : decode cX6_isCarriedOut 1 = .ok (.getfield 22, 3) := by decide +kernel
theorem dX6_isCarriedOut_4 : decode cX6_isCarriedOut 4 = .ok (.iload_n 1, 1) := by decide +kernel
theorem dX6_isCarriedOut_5 : decode cX6_isCarriedOut 5 = .ok (.iaload, 1) := by decide +kernel
theorem dX6_isCarriedOut_6 : decode cX6_isCarriedOut 6 = .ok (.bipush 116, 2) := by decide +kernel
theorem dX6_isCarriedOut_8 : decode cX6_isCarriedOut 8 = .ok (.if_icmp .ne 16, 3) := by decide +kernel
theorem dX6_isCarriedOut_11 : decode cX6_isCarriedOut 11 = .ok (.aload_n 0, 1) := by decide +kernel
theorem dX6_isCarriedOut_12 : decode cX6_isCarriedOut 12 = .ok (.aload_n 0, 1) := by decide +kernel
theorem dX6_isCarriedOut_13 : decode cX6_isCarriedOut 13 = .ok (.getfield 25, 3) := by decide +kernel
theorem dX6_isCarriedOut_16 : decode cX6_isCarriedOut 16 = .ok (.iload_n 1, 1) := by decide +kernel
theorem dX6_isCarriedOut_17 : decode cX6_isCarriedOut 17 = .ok (.iaload, 1) := by decide +kernel
theorem dX6_isCarriedOut_18 : decode cX6_isCarriedOut 18 = .ok (.invokevirtual 133, 3) := by decide +kernel
theorem dX6_isCarriedOut_21 : decode cX6_isCarriedOut 21 = .ok (.istore_n 2, 1) := by decide +kernel
theorem dX6_isCarriedOut_22 : decode cX6_isCarriedOut 22 = .ok (.iconst 1, 1) := by decide +kernel
theorem dX6_isCarriedOut_23 : decode cX6_isCarriedOut 23 = .ok (.ireturn, 1) := by decide +kernel
theorem dX6_isCarriedOut_24 : decode cX6_isCarriedOut 24 = .ok (.aload_n 0, 1) := by decide +kernel
theorem dX6_isCarriedOut_25 : decode cX6_isCarriedOut 25 = .ok (.getfield 22, 3) := by decide +kernel
theorem dX6_isCarriedOut_28 : decode cX6_isCarriedOut 28 = .ok (.iload_n 1, 1) := by decide +kernel
theorem dX6_isCarriedOut_29 : decode cX6_isCarriedOut 29 = .ok (.iaload, 1) := by decide +kernel
theorem dX6_isCarriedOut_30 : decode cX6_isCarriedOut 30 = .ok (.bipush 100, 2) := by decide +kernel
theorem dX6_isCarriedOut_32 : decode cX6_isCarriedOut 32 = .ok (.if_icmp .ne 41, 3) := by decide +kernel
theorem dX6_isCarriedOut_35 : decode cX6_isCarriedOut 35 = .ok (.aload_n 0, 1) := by decide +kernel
theorem dX6_isCarriedOut_36 : decode cX6_isCarriedOut 36 = .ok (.getfield 7, 3) := by decide +kernel
theorem dX6_isCarriedOut_39 : decode cX6_isCarriedOut 39 = .ok (.iconst 0, 1) := by decide +kernel
theorem dX6_isCarriedOut_40 : decode cX6_isCarriedOut 40 = .ok (.iaload, 1) := by decide +kernel
theorem dX6_isCarriedOut_41 : decode cX6_isCarriedOut 41 = .ok (.sipush 999, 3) := by decide +kernel
theorem dX6_isCarriedOut_44 : decode cX6_isCarriedOut 44 = .ok (.if_icmp .ge 7, 3) := by decide +kernel
theorem dX6_isCarriedOut_47 : decode cX6_isCarriedOut 47 = .ok (.iconst 1, 1) := by decide +kernel
theorem dX6_isCarriedOut_48 : decode cX6_isCarriedOut 48 = .ok (.goto 4, 3) := by decide +kernel
theorem dX6_isCarriedOut_51 : decode cX6_isCarriedOut 51 = .ok (.iconst 0, 1) := by decide +kernel
theorem dX6_isCarriedOut_52 : decode cX6_isCarriedOut 52 = .ok (.istore_n 2, 1) := by decide +kernel
theorem dX6_isCarriedOut_53 : decode cX6_isCarriedOut 53 = .ok (.aload_n 0, 1) := by decide +kernel
theorem dX6_isCarriedOut_54 : decode cX6_isCarriedOut 54 = .ok (.getfield 7, 3) := by decide +kernel
theorem dX6_isCarriedOut_57 : decode cX6_isCarriedOut 57 = .ok (.iconst 0, 1) := by decide +kernel
theorem dX6_isCarriedOut_58 : decode cX6_isCarriedOut 58 = .ok (.dup2, 1) := by decide +kernel
theorem dX6_isCarriedOut_59 : decode cX6_isCarriedOut 59 = .ok (.iaload, 1) := by decide +kernel
theorem dX6_isCarriedOut_60 : decode cX6_isCarriedOut 60 = .ok (.iload_n 2, 1) := by decide +kernel
theorem dX6_isCarriedOut_61 : decode cX6_isCarriedOut 61 = .ok (.ifCond .eq 7, 3) := by decide +kernel
theorem dX6_isCarriedOut_64 : decode cX6_isCarriedOut 64 = .ok (.iconst 1, 1) := by decide +kernel
theorem dX6_isCarriedOut_65 : decode cX6_isCarriedOut 65 = .ok (.goto 4, 3) := by decide +kernel
theorem dX6_isCarriedOut_68 : decode cX6_isCarriedOut 68 = .ok (.iconst 0, 1) := by decide +kernel
theorem dX6_isCarriedOut_69 : decode cX6_isCarriedOut 69 = .ok (.iadd, 1) := by decide +kernel
theorem dX6_isCarriedOut_70 : decode cX6_isCarriedOut 70 = .ok (.iastore, 1) := by decide +kernel
theorem dX6_isCarriedOut_71 : decode cX6_isCarriedOut 71 = .ok (.iload_n 2, 1) := by decide +kernel
theorem dX6_isCarriedOut_72 : decode cX6_isCarriedOut 72 = .ok (.ireturn, 1) := by decide +kernel
theorem dX6_isCarriedOut_73 : decode cX6_isCarriedOut 73 = .ok (.aload_n 0, 1) := by decide +kernel
theorem dX6_isCarriedOut_74 : decode cX6_isCarriedOut 74 = .ok (.aload_n 0, 1) := by decide +kernel
theorem dX6_isCarriedOut_75 : decode cX6_isCarriedOut 75 = .ok (.getfield 22, 3) := by decide +kernel
theorem dX6_isCarriedOut_78 : decode cX6_isCarriedOut 78 = .ok (.iload_n 1, 1) := by decide +kernel
theorem dX6_isCarriedOut_79 : decode cX6_isCarriedOut 79 = .ok (.iaload, 1) := by decide +kernel
theorem dX6_isCarriedOut_80 : decode cX6_isCarriedOut 80 = .ok (.invokestatic 170, 3) := by decide +kernel
theorem dX6_isCarriedOut_83 : decode cX6_isCarriedOut 83 = .ok (.aload_n 0, 1) := by decide +kernel
theorem dX6_isCarriedOut_84 : decode cX6_isCarriedOut 84 = .ok (.getfield 25, 3) := by decide +kernel
theorem dX6_isCarriedOut_87 : decode cX6_isCarriedOut 87 = .ok (.iload_n 1, 1) := by decide +kernel
theorem dX6_isCarriedOut_88 : decode cX6_isCarriedOut 88 = .ok (.iaload, 1) := by decide +kernel
theorem dX6_isCarriedOut_89 : decode cX6_isCarriedOut 89 = .ok (.invokevirtual 116, 3) := by decide +kernel
theorem dX6_isCarriedOut_92 : decode cX6_isCarriedOut 92 = .ok (.istore_n 2, 1) := by decide +kernel
theorem dX6_isCarriedOut_93 : decode cX6_isCarriedOut 93 = .ok (.iload_n 2, 1) := by decide +kernel
theorem dX6_isCarriedOut_94 : decode cX6_isCarriedOut 94 = .ok (.ifCond .eq 35, 3) := by decide +kernel
theorem dX6_isCarriedOut_97 : decode cX6_isCarriedOut 97 = .ok (.aload_n 0, 1) := by decide +kernel
theorem dX6_isCarriedOut_98 : decode cX6_isCarriedOut 98 = .ok (.aload_n 0, 1) := by decide +kernel
theorem dX6_isCarriedOut_99 : decode cX6_isCarriedOut 99 = .ok (.getfield 22, 3) := by decide +kernel
theorem dX6_isCarriedOut_102 : decode cX6_isCarriedOut 102 = .ok (.iload_n 1, 1) := by decide +kernel
theorem dX6_isCarriedOut_103 : decode cX6_isCarriedOut 103 = .ok (.iaload, 1) := by decide +kernel
theorem dX6_isCarriedOut_104 : decode cX6_isCarriedOut 104 = .ok (.invokestatic 170, 3) := by decide +kernel
theorem dX6_isCarriedOut_107 : decode cX6_isCarriedOut 107 = .ok (.aload_n 0, 1) := by decide +kernel
theorem dX6_isCarriedOut_108 : decode cX6_isCarriedOut 108 = .ok (.getfield 25, 3) := by decide +kernel
theorem dX6_isCarriedOut_111 : decode cX6_isCarriedOut 111 = .ok (.iload_n 1, 1) := by decide +kernel
theorem dX6_isCarriedOut_112 : decode cX6_isCarriedOut 112 = .ok (.iaload, 1) := by decide +kernel
theorem dX6_isCarriedOut_113 : decode cX6_isCarriedOut 113 = .ok (.aload_n 0, 1) := by decide +kernel
theorem dX6_isCarriedOut_114 : decode cX6_isCarriedOut 114 = .ok (.getfield 28, 3) := by decide +kernel
theorem dX6_isCarriedOut_117 : decode cX6_isCarriedOut 117 = .ok (.iload_n 1, 1) := by decide +kernel
theorem dX6_isCarriedOut_118 : decode cX6_isCarriedOut 118 = .ok (.iaload, 1) := by decide +kernel
theorem dX6_isCarriedOut_119 : decode cX6_isCarriedOut 119 = .ok (.aload_n 0, 1) := by decide +kernel
theorem dX6_isCarriedOut_120 : decode cX6_isCarriedOut 120 = .ok (.getfield 31, 3) := by decide +kernel
theorem dX6_isCarriedOut_123 : decode cX6_isCarriedOut 123 = .ok (.iload_n 1, 1) := by decide +kernel
theorem dX6_isCarriedOut_124 : decode cX6_isCarriedOut 124 = .ok (.iaload, 1) := by decide +kernel
theorem dX6_isCarriedOut_125 : decode cX6_isCarriedOut 125 = .ok (.invokevirtual 123, 3) := by decide +kernel
theorem dX6_isCarriedOut_128 : decode cX6_isCarriedOut 128 = .ok (.istore_n 3, 1) := by decide +kernel
theorem dX6_isCarriedOut_129 : decode cX6_isCarriedOut 129 = .ok (.iload_n 2, 1) := by decide +kernel
theorem dX6_isCarriedOut_130 : decode cX6_isCarriedOut 130 = .ok (.ireturn, 1) := by decide +kernel
theorem dX6_runText_0 : decode cX6_runText 0 = .ok (.aload_n 0, 1) := by decide +kernel
theorem dX6_runText_1 : decode cX6_runText 1 = .ok (.iconst 0, 1) := by decide +kernel
theorem dX6_runText_2 : decode cX6_runText 2 = .ok (.putfield 38, 3) := by decide +kernel
theorem dX6_runText_5 : decode cX6_runText 5 = .ok (.aload_n 0, 1) := by decide +kernel
theorem dX6_runText_6 : decode cX6_runText 6 = .ok (.invokevirtual 167, 3) := by decide +kernel
theorem dX6_runText_9 : decode cX6_runText 9 = .ok (.ifCond .ne 9, 3) := by decide +kernel
theorem dX6_runText_12 : decode cX6_runText 12 = .ok (.aload_n 0, 1) := by decide +kernel
theorem dX6_runText_13 : decode cX6_runText 13 = .ok (.iconst 1, 1) := by decide +kernel
theorem dX6_runText_14 : decode cX6_runText 14 = .ok (.invokevirtual 53, 3) := by decide +kernel
theorem dX6_runText_17 : decode cX6_runText 17 = .ok (.ireturn, 1) := by decide +kernel
theorem dX6_runText_18 : decode cX6_runText 18 = .ok (.aload_n 0, 1) := by decide +kernel
theorem dX6_runText_19 : decode cX6_runText 19 = .ok (.invokevirtual 120, 3) := by decide +kernel
theorem dX6_runText_22 : decode cX6_runText 22 = .ok (.iconst 0, 1) := by decide +kernel
theorem dX6_runText_23 : decode cX6_runText 23 = .ok (.istore_n 1, 1) := by decide +kernel
theorem dX6_runText_24 : decode cX6_runText 24 = .ok (.iload_n 1, 1) := by decide +kernel
theorem dX6_runText_25 : decode cX6_runText 25 = .ok (.aload_n 0, 1) := by decide +kernel
theorem dX6_runText_26 : decode cX6_runText 26 = .ok (.getfield 151, 3) := by decide +kernel
theorem dX6_runText_29 : decode cX6_runText 29 = .ok (.if_icmp .ge 17, 3) := by decide +kernel
theorem dX6_runText_32 : decode cX6_runText 32 = .ok (.aload_n 0, 1) := by decide +kernel
theorem dX6_runText_33 : decode cX6_runText 33 = .ok (.iload_n 1, 1) := by decide +kernel
theorem dX6_runText_34 : decode cX6_runText 34 = .ok (.invokevirtual 173, 3) := by decide +kernel
theorem dX6_runText_37 : decode cX6_runText 37 = .ok (.ifCond .eq 9, 3) := by decide +kernel
theorem dX6_runText_40 : decode cX6_runText 40 = .ok (.iinc 1 1, 3) := by decide +kernel
theorem dX6_runText_43 : decode cX6_runText 43 = .ok (.goto (-19), 3) := by decide +kernel
theorem dX6_runText_46 : decode cX6_runText 46 = .ok (.iload_n 1, 1) := by decide +kernel
theorem dX6_runText_47 : decode cX6_runText 47 = .ok (.ireturn, 1) := by decide +kernel
theorem dX6_reel_0 : decode cX6_reel 0 = .ok (.aload_n 0, 1) := by decide +kernel
theorem dX6_reel_1 : decode cX6_reel 1 = .ok (.iconst 0, 1) := by decide +kernel
theorem dX6_reel_2 : decode cX6_reel 2 = .ok (.putfield 38, 3) := by decide +kernel
theorem dX6_reel_5 : decode cX6_reel 5 = .ok (.iload_n 1, 1) := by decide +kernel
theorem dX6_reel_6 : decode cX6_reel 6 = .ok (.invokestatic 130, 3) := by decide +kernel
theorem dX6_reel_9 : decode cX6_reel 9 = .ok (.ifCond .ne 9, 3) := by decide +kernel
theorem dX6_reel_12 : decode cX6_reel 12 = .ok (.aload_n 0, 1) := by decide +kernel
theorem dX6_reel_13 : decode cX6_reel 13 = .ok (.iconst 1, 1) := by decide +kernel
theorem dX6_reel_14 : decode cX6_reel 14 = .ok (.invokevirtual 53, 3) := by decide +kernel
theorem dX6_reel_17 : decode cX6_reel 17 = .ok (.ireturn, 1) := by decide +kernel
theorem dX6_reel_18 : decode cX6_reel 18 = .ok (.iload_n 2, 1) := by decide +kernel
theorem dX6_reel_19 : decode cX6_reel 19 = .ok (.bipush 6, 2) := by decide +kernel
theorem dX6_reel_21 : decode cX6_reel 21 = .ok (.if_icmp .ne 19, 3) := by decide +kernel
theorem dX6_reel_24 : decode cX6_reel 24 = .ok (.aload_n 0, 1) := by decide +kernel
theorem dX6_reel_25 : decode cX6_reel 25 = .ok (.iload_n 1, 1) := by decide +kernel
theorem dX6_reel_26 : decode cX6_reel 26 = .ok (.invokevirtual 67, 3) := by decide +kernel
theorem dX6_reel_29 : decode cX6_reel 29 = .ok (.ifCond .eq 7, 3) := by decide +kernel
theorem dX6_reel_32 : decode cX6_reel 32 = .ok (.iconst 1, 1) := by decide +kernel
theorem dX6_reel_33 : decode cX6_reel 33 = .ok (.goto 30, 3) := by decide +kernel
theorem dX6_reel_36 : decode cX6_reel 36 = .ok (.iconst 0, 1) := by decide +kernel
theorem dX6_reel_37 : decode cX6_reel 37 = .ok (.goto 26, 3) := by decide +kernel
theorem dX6_reel_40 : decode cX6_reel 40 = .ok (.iload_n 2, 1) := by decide +kernel
theorem dX6_reel_41 : decode cX6_reel 41 = .ok (.iconst 0, 1) := by decide +kernel
theorem dX6_reel_42 : decode cX6_reel 42 = .ok (.iconst 5, 1) := by decide +kernel
theorem dX6_reel_43 : decode cX6_reel 43 = .ok (.invokestatic 42, 3) := by decide +kernel
theorem dX6_reel_46 : decode cX6_reel 46 = .ok (.ifCond .eq 12, 3) := by decide +kernel
theorem dX6_reel_49 : decode cX6_reel 49 = .ok (.aload_n 0, 1) := by decide +kernel
theorem dX6_reel_50 : decode cX6_reel 50 = .ok (.iload_n 1, 1) := by decide +kernel
theorem dX6_reel_51 : decode cX6_reel 51 = .ok (.iload_n 2, 1) := by decide +kernel
theorem dX6_reel_52 : decode cX6_reel 52 = .ok (.invokevirtual 46, 3) := by decide +kernel
theorem dX6_reel_55 : decode cX6_reel 55 = .ok (.goto 8, 3) := by decide +kernel
theorem dX6_reel_58 : decode cX6_reel 58 = .ok (.aload_n 0, 1) := by decide +kernel
theorem dX6_reel_59 : decode cX6_reel 59 = .ok (.iconst 2, 1) := by decide +kernel
theorem dX6_reel_60 : decode cX6_reel 60 = .ok (.invokevirtual 53, 3) := by decide +kernel
theorem dX6_reel_63 : decode cX6_reel 63 = .ok (.ireturn, 1) := by decide +kernel
theorem dX6_reelOn_0 : decode cX6_reelOn 0 = .ok (.aload_n 0, 1) := by decide +kernel
theorem dX6_reelOn_1 : decode cX6_reelOn 1 = .ok (.iconst 0, 1) := by decide +kernel
theorem dX6_reelOn_2 : decode cX6_reelOn 2 = .ok (.putfield 38, 3) := by decide +kernel
theorem dX6_reelOn_5 : decode cX6_reelOn 5 = .ok (.iload_n 1, 1) := by decide +kernel
theorem dX6_reelOn_6 : decode cX6_reelOn 6 = .ok (.iconst 0, 1) := by decide +kernel
theorem dX6_reelOn_7 : decode cX6_reelOn 7 = .ok (.iconst 2, 1) := by decide +kernel
theorem dX6_reelOn_8 : decode cX6_reelOn 8 = .ok (.invokestatic 42, 3) := by decide +kernel
theorem dX6_reelOn_11 : decode cX6_reelOn 11 = .ok (.ifCond .eq 11, 3) := by decide +kernel
theorem dX6_reelOn_14 : decode cX6_reelOn 14 = .ok (.aload_n 0, 1) := by decide +kernel
theorem dX6_reelOn_15 : decode cX6_reelOn 15 = .ok (.iload_n 1, 1) := by decide +kernel
theorem dX6_reelOn_16 : decode cX6_reelOn 16 = .ok (.invokevirtual 70, 3) := by decide +kernel
theorem dX6_reelOn_19 : decode cX6_reelOn 19 = .ok (.goto 8, 3) := by decide +kernel
theorem dX6_reelOn_22 : decode cX6_reelOn 22 = .ok (.aload_n 0, 1) := by decide +kernel
theorem dX6_reelOn_23 : decode cX6_reelOn 23 = .ok (.iconst 1, 1) := by decide +kernel
theorem dX6_reelOn_24 : decode cX6_reelOn 24 = .ok (.invokevirtual 53, 3) := by decide +kernel
theorem dX6_reelOn_27 : decode cX6_reelOn 27 = .ok (.ireturn, 1) := by decide +kernel
theorem dX6_scratchReels_0 : decode cX6_scratchReels 0 = .ok (.aload_n 0, 1) := by decide +kernel
theorem dX6_scratchReels_1 : decode cX6_scratchReels 1 = .ok (.iconst 0, 1) := by decide +kernel
theorem dX6_scratchReels_2 : decode cX6_scratchReels 2 = .ok (.putfield 38, 3) := by decide +kernel
theorem dX6_scratchReels_5 : decode cX6_scratchReels 5 = .ok (.iconst 0, 1) := by decide +kernel
theorem dX6_scratchReels_6 : decode cX6_scratchReels 6 = .ok (.istore_n 1, 1) := by decide +kernel
theorem dX6_scratchReels_7 : decode cX6_scratchReels 7 = .ok (.iconst 0, 1) := by decide +kernel
theorem dX6_scratchReels_8 : decode cX6_scratchReels 8 = .ok (.istore_n 2, 1) := by decide +kernel
theorem dX6_scratchReels_9 : decode cX6_scratchReels 9 = .ok (.iload_n 2, 1) := by decide +kernel
theorem dX6_scratchReels_10 : decode cX6_scratchReels 10 = .ok (.bipush 12, 2) := by decide +kernel
theorem dX6_scratchReels_12 : decode cX6_scratchReels 12 = .ok (.if_icmp .ge 25, 3) := by decide +kernel
theorem dX6_scratchReels_15 : decode cX6_scratchReels 15 = .ok (.iload_n 1, 1) := by decide +kernel
theorem dX6_scratchReels_16 : decode cX6_scratchReels 16 = .ok (.aload_n 0, 1) := by decide +kernel
theorem dX6_scratchReels_17 : decode cX6_scratchReels 17 = .ok (.iload_n 2, 1) := by decide +kernel
theorem dX6_scratchReels_18 : decode cX6_scratchReels 18 = .ok (.invokevirtual 67, 3) := by decide +kernel
theorem dX6_scratchReels_21 : decode cX6_scratchReels 21 = .ok (.ifCond .eq 7, 3) := by decide +kernel
theorem dX6_scratchReels_24 : decode cX6_scratchReels 24 = .ok (.iconst 1, 1) := by decide +kernel
theorem dX6_scratchReels_25 : decode cX6_scratchReels 25 = .ok (.goto 4, 3) := by decide +kernel
theorem dX6_scratchReels_28 : decode cX6_scratchReels 28 = .ok (.iconst 0, 1) := by decide +kernel
theorem dX6_scratchReels_29 : decode cX6_scratchReels 29 = .ok (.iadd, 1) := by decide +kernel
theorem dX6_scratchReels_30 : decode cX6_scratchReels 30 = .ok (.istore_n 1, 1) := by decide +kernel
theorem dX6_scratchReels_31 : decode cX6_scratchReels 31 = .ok (.iinc 2 1, 3) := by decide +kernel
theorem dX6_scratchReels_34 : decode cX6_scratchReels 34 = .ok (.goto (-25), 3) := by decide +kernel
theorem dX6_scratchReels_37 : decode cX6_scratchReels 37 = .ok (.iload_n 1, 1) := by decide +kernel
theorem dX6_scratchReels_38 : decode cX6_scratchReels 38 = .ok (.ireturn, 1) := by decide +kernel
theorem dX6_jobs_0 : decode cX6_jobs 0 = .ok (.aload_n 0, 1) := by decide +kernel
theorem dX6_jobs_1 : decode cX6_jobs 1 = .ok (.iconst 0, 1) := by decide +kernel
theorem dX6_jobs_2 : decode cX6_jobs 2 = .ok (.putfield 38, 3) := by decide +kernel
theorem dX6_jobs_5 : decode cX6_jobs 5 = .ok (.aload_n 0, 1) := by decide +kernel
theorem dX6_jobs_6 : decode cX6_jobs 6 = .ok (.getfield 7, 3) := by decide +kernel
theorem dX6_jobs_9 : decode cX6_jobs 9 = .ok (.bipush 82, 2) := by decide +kernel
theorem dX6_jobs_11 : decode cX6_jobs 11 = .ok (.iaload, 1) := by decide +kernel
theorem dX6_jobs_12 : decode cX6_jobs 12 = .ok (.ireturn, 1) := by decide +kernel
theorem dX6_job_0 : decode cX6_job 0 = .ok (.aload_n 0, 1) := by decide +kernel
theorem dX6_job_1 : decode cX6_job 1 = .ok (.iconst 0, 1) := by decide +kernel
theorem dX6_job_2 : decode cX6_job 2 = .ok (.putfield 38, 3) := by decide +kernel
theorem dX6_job_5 : decode cX6_job 5 = .ok (.aload_n 0, 1) := by decide +kernel
theorem dX6_job_6 : decode cX6_job 6 = .ok (.iload_n 1, 1) := by decide +kernel
theorem dX6_job_7 : decode cX6_job 7 = .ok (.invokevirtual 127, 3) := by decide +kernel
theorem dX6_job_10 : decode cX6_job 10 = .ok (.ifCond .ne 9, 3) := by decide +kernel
theorem dX6_job_13 : decode cX6_job 13 = .ok (.aload_n 0, 1) := by decide +kernel
theorem dX6_job_14 : decode cX6_job 14 = .ok (.iconst 1, 1) := by decide +kernel
theorem dX6_job_15 : decode cX6_job 15 = .ok (.invokevirtual 53, 3) := by decide +kernel
theorem dX6_job_18 : decode cX6_job 18 = .ok (.ireturn, 1) := by decide +kernel
theorem dX6_job_19 : decode cX6_job 19 = .ok (.iload_n 2, 1) := by decide +kernel
theorem dX6_job_20 : decode cX6_job 20 = .ok (.iconst 0, 1) := by decide +kernel
theorem dX6_job_21 : decode cX6_job 21 = .ok (.bipush 7, 2) := by decide +kernel
theorem dX6_job_23 : decode cX6_job 23 = .ok (.invokestatic 42, 3) := by decide +kernel
theorem dX6_job_26 : decode cX6_job 26 = .ok (.ifCond .eq 12, 3) := by decide +kernel
theorem dX6_job_29 : decode cX6_job 29 = .ok (.aload_n 0, 1) := by decide +kernel
theorem dX6_job_30 : decode cX6_job 30 = .ok (.iload_n 1, 1) := by decide +kernel
theorem dX6_job_31 : decode cX6_job 31 = .ok (.iload_n 2, 1) := by decide +kernel
theorem dX6_job_32 : decode cX6_job 32 = .ok (.invokevirtual 57, 3) := by decide +kernel
theorem dX6_job_35 : decode cX6_job 35 = .ok (.goto 8, 3) := by decide +kernel
theorem dX6_job_38 : decode cX6_job 38 = .ok (.aload_n 0, 1) := by decide +kernel
theorem dX6_job_39 : decode cX6_job 39 = .ok (.iconst 2, 1) := by decide +kernel
theorem dX6_job_40 : decode cX6_job 40 = .ok (.invokevirtual 53, 3) := by decide +kernel
theorem dX6_job_43 : decode cX6_job 43 = .ok (.ireturn, 1) := by decide +kernel
theorem dX6_isStuck_0 : decode cX6_isStuck 0 = .ok (.aload_n 0, 1) := by decide +kernel
theorem dX6_isStuck_1 : decode cX6_isStuck 1 = .ok (.aload_n 0, 1) := by decide +kernel
theorem dX6_isStuck_2 : decode cX6_isStuck 2 = .ok (.iload_n 1, 1) := by decide +kernel
theorem dX6_isStuck_3 : decode cX6_isStuck 3 = .ok (.invokevirtual 127, 3) := by decide +kernel
theorem dX6_isStuck_6 : decode cX6_isStuck 6 = .ok (.ifCond .eq 7, 3) := by decide +kernel
theorem dX6_isStuck_9 : decode cX6_isStuck 9 = .ok (.iconst 0, 1) := by decide +kernel
theorem dX6_isStuck_10 : decode cX6_isStuck 10 = .ok (.goto 4, 3) := by decide +kernel
theorem dX6_isStuck_13 : decode cX6_isStuck 13 = .ok (.iconst 1, 1) := by decide +kernel
theorem dX6_isStuck_14 : decode cX6_isStuck 14 = .ok (.putfield 38, 3) := by decide +kernel
theorem dX6_isStuck_17 : decode cX6_isStuck 17 = .ok (.aload_n 0, 1) := by decide +kernel
theorem dX6_isStuck_18 : decode cX6_isStuck 18 = .ok (.getfield 38, 3) := by decide +kernel
theorem dX6_isStuck_21 : decode cX6_isStuck 21 = .ok (.ifCond .ne 25, 3) := by decide +kernel
theorem dX6_isStuck_24 : decode cX6_isStuck 24 = .ok (.aload_n 0, 1) := by decide +kernel
theorem dX6_isStuck_25 : decode cX6_isStuck 25 = .ok (.iload_n 1, 1) := by decide +kernel
theorem dX6_isStuck_26 : decode cX6_isStuck 26 = .ok (.iconst 4, 1) := by decide +kernel
theorem dX6_isStuck_27 : decode cX6_isStuck 27 = .ok (.invokevirtual 57, 3) := by decide +kernel
theorem dX6_isStuck_30 : decode cX6_isStuck 30 = .ok (.ifCond .ne 16, 3) := by decide +kernel
theorem dX6_isStuck_33 : decode cX6_isStuck 33 = .ok (.aload_n 0, 1) := by decide +kernel
theorem dX6_isStuck_34 : decode cX6_isStuck 34 = .ok (.iload_n 1, 1) := by decide +kernel
theorem dX6_isStuck_35 : decode cX6_isStuck 35 = .ok (.invokevirtual 64, 3) := by decide +kernel
theorem dX6_isStuck_38 : decode cX6_isStuck 38 = .ok (.iconst (-1), 1) := by decide +kernel
theorem dX6_isStuck_39 : decode cX6_isStuck 39 = .ok (.if_icmp .ne 7, 3) := by decide +kernel
theorem dX6_isStuck_42 : decode cX6_isStuck 42 = .ok (.iconst 1, 1) := by decide +kernel
theorem dX6_isStuck_43 : decode cX6_isStuck 43 = .ok (.goto 4, 3) := by decide +kernel
theorem dX6_isStuck_46 : decode cX6_isStuck 46 = .ok (.iconst 0, 1) := by decide +kernel
theorem dX6_isStuck_47 : decode cX6_isStuck 47 = .ok (.ireturn, 1) := by decide +kernel
theorem dX6_verdict_0 : decode cX6_verdict 0 = .ok (.aload_n 0, 1) := by decide +kernel
theorem dX6_verdict_1 : decode cX6_verdict 1 = .ok (.iconst 0, 1) := by decide +kernel
theorem dX6_verdict_2 : decode cX6_verdict 2 = .ok (.putfield 38, 3) := by decide +kernel
theorem dX6_verdict_5 : decode cX6_verdict 5 = .ok (.aload_n 0, 1) := by decide +kernel
theorem dX6_verdict_6 : decode cX6_verdict 6 = .ok (.iload_n 1, 1) := by decide +kernel
theorem dX6_verdict_7 : decode cX6_verdict 7 = .ok (.invokevirtual 127, 3) := by decide +kernel
theorem dX6_verdict_10 : decode cX6_verdict 10 = .ok (.ifCond .eq 19, 3) := by decide +kernel
theorem dX6_verdict_13 : decode cX6_verdict 13 = .ok (.iload_n 2, 1) := by decide +kernel
theorem dX6_verdict_14 : decode cX6_verdict 14 = .ok (.invokestatic 130, 3) := by decide +kernel
theorem dX6_verdict_17 : decode cX6_verdict 17 = .ok (.ifCond .eq 12, 3) := by decide +kernel
theorem dX6_verdict_20 : decode cX6_verdict 20 = .ok (.aload_n 0, 1) := by decide +kernel
theorem dX6_verdict_21 : decode cX6_verdict 21 = .ok (.iload_n 1, 1) := by decide +kernel
theorem dX6_verdict_22 : decode cX6_verdict 22 = .ok (.iload_n 2, 1) := by decide +kernel
theorem dX6_verdict_23 : decode cX6_verdict 23 = .ok (.invokevirtual 82, 3) := by decide +kernel
theorem dX6_verdict_26 : decode cX6_verdict 26 = .ok (.goto 8, 3) := by decide +kernel
theorem dX6_verdict_29 : decode cX6_verdict 29 = .ok (.aload_n 0, 1) := by decide +kernel
theorem dX6_verdict_30 : decode cX6_verdict 30 = .ok (.iconst 1, 1) := by decide +kernel
theorem dX6_verdict_31 : decode cX6_verdict 31 = .ok (.invokevirtual 53, 3) := by decide +kernel
theorem dX6_verdict_34 : decode cX6_verdict 34 = .ok (.ireturn, 1) := by decide +kernel
theorem dX6_nextJob_0 : decode cX6_nextJob 0 = .ok (.aload_n 0, 1) := by decide +kernel
theorem dX6_nextJob_1 : decode cX6_nextJob 1 = .ok (.iconst 0, 1) := by decide +kernel
theorem dX6_nextJob_2 : decode cX6_nextJob 2 = .ok (.putfield 38, 3) := by decide +kernel
theorem dX6_nextJob_5 : decode cX6_nextJob 5 = .ok (.aload_n 0, 1) := by decide +kernel
theorem dX6_nextJob_6 : decode cX6_nextJob 6 = .ok (.invokevirtual 95, 3) := by decide +kernel
theorem dX6_nextJob_9 : decode cX6_nextJob 9 = .ok (.ireturn, 1) := by decide +kernel
theorem dX6_nextReel_0 : decode cX6_nextReel 0 = .ok (.aload_n 0, 1) := by decide +kernel
theorem dX6_nextReel_1 : decode cX6_nextReel 1 = .ok (.iconst 0, 1) := by decide +kernel
theorem dX6_nextReel_2 : decode cX6_nextReel 2 = .ok (.putfield 38, 3) := by decide +kernel
theorem dX6_nextReel_5 : decode cX6_nextReel 5 = .ok (.aload_n 0, 1) := by decide +kernel
theorem dX6_nextReel_6 : decode cX6_nextReel 6 = .ok (.invokevirtual 95, 3) := by decide +kernel
theorem dX6_nextReel_9 : decode cX6_nextReel 9 = .ok (.istore_n 1, 1) := by decide +kernel
theorem dX6_nextReel_10 : decode cX6_nextReel 10 = .ok (.iload_n 1, 1) := by decide +kernel
theorem dX6_nextReel_11 : decode cX6_nextReel 11 = .ok (.iconst (-1), 1) := by decide +kernel
theorem dX6_nextReel_12 : decode cX6_nextReel 12 = .ok (.if_icmp .ne 7, 3) := by decide +kernel
theorem dX6_nextReel_15 : decode cX6_nextReel 15 = .ok (.iconst (-1), 1) := by decide +kernel
theorem dX6_nextReel_16 : decode cX6_nextReel 16 = .ok (.goto 35, 3) := by decide +kernel
theorem dX6_nextReel_19 : decode cX6_nextReel 19 = .ok (.aload_n 0, 1) := by decide +kernel
theorem dX6_nextReel_20 : decode cX6_nextReel 20 = .ok (.aload_n 0, 1) := by decide +kernel
theorem dX6_nextReel_21 : decode cX6_nextReel 21 = .ok (.getfield 7, 3) := by decide +kernel
theorem dX6_nextReel_24 : decode cX6_nextReel 24 = .ok (.iconst 2, 1) := by decide +kernel
theorem dX6_nextReel_25 : decode cX6_nextReel 25 = .ok (.iaload, 1) := by decide +kernel
theorem dX6_nextReel_26 : decode cX6_nextReel 26 = .ok (.iconst 1, 1) := by decide +kernel
theorem dX6_nextReel_27 : decode cX6_nextReel 27 = .ok (.iadd, 1) := by decide +kernel
theorem dX6_nextReel_28 : decode cX6_nextReel 28 = .ok (.invokevirtual 76, 3) := by decide +kernel
theorem dX6_nextReel_31 : decode cX6_nextReel 31 = .ok (.ifCond .eq 15, 3) := by decide +kernel
theorem dX6_nextReel_34 : decode cX6_nextReel 34 = .ok (.aload_n 0, 1) := by decide +kernel
theorem dX6_nextReel_35 : decode cX6_nextReel 35 = .ok (.aload_n 0, 1) := by decide +kernel
theorem dX6_nextReel_36 : decode cX6_nextReel 36 = .ok (.iload_n 1, 1) := by decide +kernel
theorem dX6_nextReel_37 : decode cX6_nextReel 37 = .ok (.invokevirtual 64, 3) := by decide +kernel
theorem dX6_nextReel_40 : decode cX6_nextReel 40 = .ok (.invokevirtual 79, 3) := by decide +kernel
theorem dX6_nextReel_43 : decode cX6_nextReel 43 = .ok (.goto 8, 3) := by decide +kernel
theorem dX6_nextReel_46 : decode cX6_nextReel 46 = .ok (.aload_n 0, 1) := by decide +kernel
theorem dX6_nextReel_47 : decode cX6_nextReel 47 = .ok (.iload_n 1, 1) := by decide +kernel
theorem dX6_nextReel_48 : decode cX6_nextReel 48 = .ok (.invokevirtual 64, 3) := by decide +kernel
theorem dX6_nextReel_51 : decode cX6_nextReel 51 = .ok (.ireturn, 1) := by decide +kernel
theorem dX6_minutesTo_0 : decode cX6_minutesTo 0 = .ok (.iconst 0, 1) := by decide +kernel
theorem dX6_minutesTo_1 : decode cX6_minutesTo 1 = .ok (.istore_n 2, 1) := by decide +kernel
theorem dX6_minutesTo_2 : decode cX6_minutesTo 2 = .ok (.iload_n 2, 1) := by decide +kernel
theorem dX6_minutesTo_3 : decode cX6_minutesTo 3 = .ok (.sipush 179, 3) := by decide +kernel
theorem dX6_minutesTo_6 : decode cX6_minutesTo 6 = .ok (.if_icmp .ge 21, 3) := by decide +kernel
theorem dX6_minutesTo_9 : decode cX6_minutesTo 9 = .ok (.aload_n 0, 1) := by decide +kernel
theorem dX6_minutesTo_10 : decode cX6_minutesTo 10 = .ok (.getfield 16, 3) := by decide +kernel
theorem dX6_minutesTo_13 : decode cX6_minutesTo 13 = .ok (.iload_n 2, 1) := by decide +kernel
theorem dX6_minutesTo_14 : decode cX6_minutesTo 14 = .ok (.aload_n 0, 1) := by decide +kernel
theorem dX6_minutesTo_15 : decode cX6_minutesTo 15 = .ok (.getfield 7, 3) := by decide +kernel
theorem dX6_minutesTo_18 : decode cX6_minutesTo 18 = .ok (.iload_n 2, 1) := by decide +kernel
theorem dX6_minutesTo_19 : decode cX6_minutesTo 19 = .ok (.iaload, 1) := by decide +kernel
theorem dX6_minutesTo_20 : decode cX6_minutesTo 20 = .ok (.iastore, 1) := by decide +kernel
theorem dX6_minutesTo_21 : decode cX6_minutesTo 21 = .ok (.iinc 2 1, 3) := by decide +kernel
theorem dX6_minutesTo_24 : decode cX6_minutesTo 24 = .ok (.goto (-22), 3) := by decide +kernel
theorem dX6_minutesTo_27 : decode cX6_minutesTo 27 = .ok (.iconst 0, 1) := by decide +kernel
theorem dX6_minutesTo_28 : decode cX6_minutesTo 28 = .ok (.istore_n 2, 1) := by decide +kernel
theorem dX6_minutesTo_29 : decode cX6_minutesTo 29 = .ok (.iload_n 2, 1) := by decide +kernel
theorem dX6_minutesTo_30 : decode cX6_minutesTo 30 = .ok (.sipush 300, 3) := by decide +kernel
theorem dX6_minutesTo_33 : decode cX6_minutesTo 33 = .ok (.if_icmp .ge 24, 3) := by decide +kernel
theorem dX6_minutesTo_36 : decode cX6_minutesTo 36 = .ok (.aload_n 0, 1) := by decide +kernel
theorem dX6_minutesTo_37 : decode cX6_minutesTo 37 = .ok (.iload_n 1, 1) := by decide +kernel
theorem dX6_minutesTo_38 : decode cX6_minutesTo 38 = .ok (.iconst 4, 1) := by decide +kernel
theorem dX6_minutesTo_39 : decode cX6_minutesTo 39 = .ok (.invokevirtual 57, 3) := by decide +kernel
theorem dX6_minutesTo_42 : decode cX6_minutesTo 42 = .ok (.iconst 2, 1) := by decide +kernel
theorem dX6_minutesTo_43 : decode cX6_minutesTo 43 = .ok (.if_icmp .ge 14, 3) := by decide +kernel
theorem dX6_minutesTo_46 : decode cX6_minutesTo 46 = .ok (.aload_n 0, 1) := by decide +kernel
theorem dX6_minutesTo_47 : decode cX6_minutesTo 47 = .ok (.invokevirtual 106, 3) := by decide +kernel
theorem dX6_minutesTo_50 : decode cX6_minutesTo 50 = .ok (.istore_n 3, 1) := by decide +kernel
theorem dX6_minutesTo_51 : decode cX6_minutesTo 51 = .ok (.iinc 2 1, 3) := by decide +kernel
theorem dX6_minutesTo_54 : decode cX6_minutesTo 54 = .ok (.goto (-25), 3) := by decide +kernel
theorem dX6_minutesTo_57 : decode cX6_minutesTo 57 = .ok (.aload_n 0, 1) := by decide +kernel
theorem dX6_minutesTo_58 : decode cX6_minutesTo 58 = .ok (.iload_n 1, 1) := by decide +kernel
theorem dX6_minutesTo_59 : decode cX6_minutesTo 59 = .ok (.iconst 4, 1) := by decide +kernel
theorem dX6_minutesTo_60 : decode cX6_minutesTo 60 = .ok (.invokevirtual 57, 3) := by decide +kernel
theorem dX6_minutesTo_63 : decode cX6_minutesTo 63 = .ok (.iconst 2, 1) := by decide +kernel
theorem dX6_minutesTo_64 : decode cX6_minutesTo 64 = .ok (.if_icmp .ne 7, 3) := by decide +kernel
theorem dX6_minutesTo_67 : decode cX6_minutesTo 67 = .ok (.iload_n 2, 1) := by decide +kernel
theorem dX6_minutesTo_68 : decode cX6_minutesTo 68 = .ok (.goto 4, 3) := by decide +kernel
theorem dX6_minutesTo_71 : decode cX6_minutesTo 71 = .ok (.iconst (-1), 1) := by decide +kernel
theorem dX6_minutesTo_72 : decode cX6_minutesTo 72 = .ok (.istore_n 3, 1) := by decide +kernel
theorem dX6_minutesTo_73 : decode cX6_minutesTo 73 = .ok (.iconst 0, 1) := by decide +kernel
theorem dX6_minutesTo_74 : decode cX6_minutesTo 74 = .ok (.istore 4, 2) := by decide +kernel
theorem dX6_minutesTo_76 : decode cX6_minutesTo 76 = .ok (.iload 4, 2) := by decide +kernel
theorem dX6_minutesTo_78 : decode cX6_minutesTo 78 = .ok (.sipush 179, 3) := by decide +kernel
theorem dX6_minutesTo_81 : decode cX6_minutesTo 81 = .ok (.if_icmp .ge 23, 3) := by decide +kernel
theorem dX6_minutesTo_84 : decode cX6_minutesTo 84 = .ok (.aload_n 0, 1) := by decide +kernel
theorem dX6_minutesTo_85 : decode cX6_minutesTo 85 = .ok (.getfield 7, 3) := by decide +kernel
theorem dX6_minutesTo_88 : decode cX6_minutesTo 88 = .ok (.iload 4, 2) := by decide +kernel
theorem dX6_minutesTo_90 : decode cX6_minutesTo 90 = .ok (.aload_n 0, 1) := by decide +kernel
theorem dX6_minutesTo_91 : decode cX6_minutesTo 91 = .ok (.getfield 16, 3) := by decide +kernel
theorem dX6_minutesTo_94 : decode cX6_minutesTo 94 = .ok (.iload 4, 2) := by decide +kernel
theorem dX6_minutesTo_96 : decode cX6_minutesTo 96 = .ok (.iaload, 1) := by decide +kernel
theorem dX6_minutesTo_97 : decode cX6_minutesTo 97 = .ok (.iastore, 1) := by decide +kernel
theorem dX6_minutesTo_98 : decode cX6_minutesTo 98 = .ok (.iinc 4 1, 3) := by decide +kernel
theorem dX6_minutesTo_101 : decode cX6_minutesTo 101 = .ok (.goto (-25), 3) := by decide +kernel
theorem dX6_minutesTo_104 : decode cX6_minutesTo 104 = .ok (.iload_n 3, 1) := by decide +kernel
theorem dX6_minutesTo_105 : decode cX6_minutesTo 105 = .ok (.ireturn, 1) := by decide +kernel
theorem dX6_minutesToDone_0 : decode cX6_minutesToDone 0 = .ok (.aload_n 0, 1) := by decide +kernel
theorem dX6_minutesToDone_1 : decode cX6_minutesToDone 1 = .ok (.iconst 0, 1) := by decide +kernel
theorem dX6_minutesToDone_2 : decode cX6_minutesToDone 2 = .ok (.putfield 38, 3) := by decide +kernel
theorem dX6_minutesToDone_5 : decode cX6_minutesToDone 5 = .ok (.aload_n 0, 1) := by decide +kernel
theorem dX6_minutesToDone_6 : decode cX6_minutesToDone 6 = .ok (.iload_n 1, 1) := by decide +kernel
theorem dX6_minutesToDone_7 : decode cX6_minutesToDone 7 = .ok (.invokevirtual 127, 3) := by decide +kernel
theorem dX6_minutesToDone_10 : decode cX6_minutesToDone 10 = .ok (.ifCond .eq 11, 3) := by decide +kernel
theorem dX6_minutesToDone_13 : decode cX6_minutesToDone 13 = .ok (.aload_n 0, 1) := by decide +kernel
theorem dX6_minutesToDone_14 : decode cX6_minutesToDone 14 = .ok (.iload_n 1, 1) := by decide +kernel
theorem dX6_minutesToDone_15 : decode cX6_minutesToDone 15 = .ok (.invokevirtual 176, 3) := by decide +kernel
theorem dX6_minutesToDone_18 : decode cX6_minutesToDone 18 = .ok (.goto 8, 3) := by decide +kernel
theorem dX6_minutesToDone_21 : decode cX6_minutesToDone 21 = .ok (.aload_n 0, 1) := by decide +kernel
theorem dX6_minutesToDone_22 : decode cX6_minutesToDone 22 = .ok (.iconst 1, 1) := by decide +kernel
theorem dX6_minutesToDone_23 : decode cX6_minutesToDone 23 = .ok (.invokevirtual 53, 3) := by decide +kernel
theorem dX6_minutesToDone_26 : decode cX6_minutesToDone 26 = .ok (.ireturn, 1) := by decide +kernel
theorem dX6_with_0 : decode cX6_with 0 = .ok (.iconst 0, 1) := by decide +kernel
theorem dX6_with_1 : decode cX6_with 1 = .ok (.istore_n 2, 1) := by decide +kernel
theorem dX6_with_2 : decode cX6_with 2 = .ok (.iconst 0, 1) := by decide +kernel
theorem dX6_with_3 : decode cX6_with 3 = .ok (.istore_n 3, 1) := by decide +kernel
theorem dX6_with_4 : decode cX6_with 4 = .ok (.iload_n 3, 1) := by decide +kernel
theorem dX6_with_5 : decode cX6_with 5 = .ok (.aload_n 0, 1) := by decide +kernel
theorem dX6_with_6 : decode cX6_with 6 = .ok (.getfield 7, 3) := by decide +kernel
theorem dX6_with_9 : decode cX6_with 9 = .ok (.bipush 82, 2) := by decide +kernel
theorem dX6_with_11 : decode cX6_with 11 = .ok (.iaload, 1) := by decide +kernel
theorem dX6_with_12 : decode cX6_with 12 = .ok (.if_icmp .ge 27, 3) := by decide +kernel
theorem dX6_with_15 : decode cX6_with 15 = .ok (.iload_n 2, 1) := by decide +kernel
theorem dX6_with_16 : decode cX6_with 16 = .ok (.aload_n 0, 1) := by decide +kernel
theorem dX6_with_17 : decode cX6_with 17 = .ok (.iload_n 3, 1) := by decide +kernel
theorem dX6_with_18 : decode cX6_with 18 = .ok (.iconst 4, 1) := by decide +kernel
theorem dX6_with_19 : decode cX6_with 19 = .ok (.invokevirtual 57, 3) := by decide +kernel
theorem dX6_with_22 : decode cX6_with 22 = .ok (.iload_n 1, 1) := by decide +kernel
theorem dX6_with_23 : decode cX6_with 23 = .ok (.if_icmp .ne 7, 3) := by decide +kernel
theorem dX6_with_26 : decode cX6_with 26 = .ok (.iconst 1, 1) := by decide +kernel
theorem dX6_with_27 : decode cX6_with 27 = .ok (.goto 4, 3) := by decide +kernel
theorem dX6_with_30 : decode cX6_with 30 = .ok (.iconst 0, 1) := by decide +kernel
theorem dX6_with_31 : decode cX6_with 31 = .ok (.iadd, 1) := by decide +kernel
theorem dX6_with_32 : decode cX6_with 32 = .ok (.istore_n 2, 1) := by decide +kernel
theorem dX6_with_33 : decode cX6_with 33 = .ok (.iinc 3 1, 3) := by decide +kernel
theorem dX6_with_36 : decode cX6_with 36 = .ok (.goto (-32), 3) := by decide +kernel
theorem dX6_with_39 : decode cX6_with 39 = .ok (.iload_n 2, 1) := by decide +kernel
theorem dX6_with_40 : decode cX6_with 40 = .ok (.ireturn, 1) := by decide +kernel
theorem dX6_count_0 : decode cX6_count 0 = .ok (.aload_n 0, 1) := by decide +kernel
theorem dX6_count_1 : decode cX6_count 1 = .ok (.iconst 0, 1) := by decide +kernel
theorem dX6_count_2 : decode cX6_count 2 = .ok (.putfield 38, 3) := by decide +kernel
theorem dX6_count_5 : decode cX6_count 5 = .ok (.iload_n 1, 1) := by decide +kernel
theorem dX6_count_6 : decode cX6_count 6 = .ok (.iconst 0, 1) := by decide +kernel
theorem dX6_count_7 : decode cX6_count 7 = .ok (.bipush 10, 2) := by decide +kernel
theorem dX6_count_9 : decode cX6_count 9 = .ok (.invokestatic 42, 3) := by decide +kernel
theorem dX6_count_12 : decode cX6_count 12 = .ok (.ifCond .ne 11, 3) := by decide +kernel
theorem dX6_count_15 : decode cX6_count 15 = .ok (.aload_n 0, 1) := by decide +kernel
theorem dX6_count_16 : decode cX6_count 16 = .ok (.iconst 1, 1) := by decide +kernel
theorem dX6_count_17 : decode cX6_count 17 = .ok (.invokevirtual 53, 3) := by decide +kernel
theorem dX6_count_20 : decode cX6_count 20 = .ok (.goto 26, 3) := by decide +kernel
theorem dX6_count_23 : decode cX6_count 23 = .ok (.iload_n 1, 1) := by decide +kernel
theorem dX6_count_24 : decode cX6_count 24 = .ok (.bipush 8, 2) := by decide +kernel
theorem dX6_count_26 : decode cX6_count 26 = .ok (.if_icmp .ge 12, 3) := by decide +kernel
theorem dX6_count_29 : decode cX6_count 29 = .ok (.aload_n 0, 1) := by decide +kernel
theorem dX6_count_30 : decode cX6_count 30 = .ok (.getfield 7, 3) := by decide +kernel
theorem dX6_count_33 : decode cX6_count 33 = .ok (.iload_n 1, 1) := by decide +kernel
theorem dX6_count_34 : decode cX6_count 34 = .ok (.iaload, 1) := by decide +kernel
theorem dX6_count_35 : decode cX6_count 35 = .ok (.goto 11, 3) := by decide +kernel
theorem dX6_count_38 : decode cX6_count 38 = .ok (.aload_n 0, 1) := by decide +kernel
theorem dX6_count_39 : decode cX6_count 39 = .ok (.iload_n 1, 1) := by decide +kernel
theorem dX6_count_40 : decode cX6_count 40 = .ok (.bipush 8, 2) := by decide +kernel
theorem dX6_count_42 : decode cX6_count 42 = .ok (.isub, 1) := by decide +kernel
theorem dX6_count_43 : decode cX6_count 43 = .ok (.invokevirtual 179, 3) := by decide +kernel
theorem dX6_count_46 : decode cX6_count 46 = .ok (.ireturn, 1) := by decide +kernel
theorem dX6_success_0 : decode cX6_success 0 = .ok (.aload_n 0, 1) := by decide +kernel
theorem dX6_success_1 : decode cX6_success 1 = .ok (.iconst 0, 1) := by decide +kernel
theorem dX6_success_2 : decode cX6_success 2 = .ok (.putfield 38, 3) := by decide +kernel
theorem dX6_success_5 : decode cX6_success 5 = .ok (.aload_n 0, 1) := by decide +kernel
theorem dX6_success_6 : decode cX6_success 6 = .ok (.getfield 7, 3) := by decide +kernel
theorem dX6_success_9 : decode cX6_success 9 = .ok (.iconst 2, 1) := by decide +kernel
theorem dX6_success_10 : decode cX6_success 10 = .ok (.iaload, 1) := by decide +kernel
theorem dX6_success_11 : decode cX6_success 11 = .ok (.ifCond .ne 7, 3) := by decide +kernel
theorem dX6_success_14 : decode cX6_success 14 = .ok (.dconst 1, 1) := by decide +kernel
theorem dX6_success_15 : decode cX6_success 15 = .ok (.goto 25, 3) := by decide +kernel
theorem dX6_success_18 : decode cX6_success 18 = .ok (.aload_n 0, 1) := by decide +kernel
theorem dX6_success_19 : decode cX6_success 19 = .ok (.getfield 7, 3) := by decide +kernel
theorem dX6_success_22 : decode cX6_success 22 = .ok (.iconst 2, 1) := by decide +kernel
theorem dX6_success_23 : decode cX6_success 23 = .ok (.iaload, 1) := by decide +kernel
theorem dX6_success_24 : decode cX6_success 24 = .ok (.aload_n 0, 1) := by decide +kernel
theorem dX6_success_25 : decode cX6_success 25 = .ok (.getfield 7, 3) := by decide +kernel
theorem dX6_success_28 : decode cX6_success 28 = .ok (.iconst 4, 1) := by decide +kernel
theorem dX6_success_29 : decode cX6_success 29 = .ok (.iaload, 1) := by decide +kernel
theorem dX6_success_30 : decode cX6_success 30 = .ok (.isub, 1) := by decide +kernel
theorem dX6_success_31 : decode cX6_success 31 = .ok (.i2d, 1) := by decide +kernel
theorem dX6_success_32 : decode cX6_success 32 = .ok (.aload_n 0, 1) := by decide +kernel
theorem dX6_success_33 : decode cX6_success 33 = .ok (.getfield 7, 3) := by decide +kernel
theorem dX6_success_36 : decode cX6_success 36 = .ok (.iconst 2, 1) := by decide +kernel
theorem dX6_success_37 : decode cX6_success 37 = .ok (.iaload, 1) := by decide +kernel
theorem dX6_success_38 : decode cX6_success 38 = .ok (.i2d, 1) := by decide +kernel
theorem dX6_success_39 : decode cX6_success 39 = .ok (.ddiv, 1) := by decide +kernel
theorem dX6_success_40 : decode cX6_success 40 = .ok (.dreturn, 1) := by decide +kernel
theorem dX6_savedStates_0 : decode cX6_savedStates 0 = .ok (.aload_n 0, 1) := by decide +kernel
theorem dX6_savedStates_1 : decode cX6_savedStates 1 = .ok (.iconst 0, 1) := by decide +kernel
theorem dX6_savedStates_2 : decode cX6_savedStates 2 = .ok (.putfield 38, 3) := by decide +kernel
theorem dX6_savedStates_5 : decode cX6_savedStates 5 = .ok (.aload_n 0, 1) := by decide +kernel
theorem dX6_savedStates_6 : decode cX6_savedStates 6 = .ok (.getfield 50, 3) := by decide +kernel
theorem dX6_savedStates_9 : decode cX6_savedStates 9 = .ok (.ireturn, 1) := by decide +kernel
theorem dX6_textLength_0 : decode cX6_textLength 0 = .ok (.aload_n 0, 1) := by decide +kernel
theorem dX6_textLength_1 : decode cX6_textLength 1 = .ok (.iconst 0, 1) := by decide +kernel
theorem dX6_textLength_2 : decode cX6_textLength 2 = .ok (.putfield 38, 3) := by decide +kernel
theorem dX6_textLength_5 : decode cX6_textLength 5 = .ok (.aload_n 0, 1) := by decide +kernel
theorem dX6_textLength_6 : decode cX6_textLength 6 = .ok (.getfield 136, 3) := by decide +kernel
theorem dX6_textLength_9 : decode cX6_textLength 9 = .ok (.ireturn, 1) := by decide +kernel
theorem dJ9_floorMod_7cf53_0 : decode cJ9_floorMod_7cf53 0 = .ok (.iload_n 0, 1) := by decide +kernel
theorem dJ9_floorMod_7cf53_1 : decode cJ9_floorMod_7cf53 1 = .ok (.iload_n 1, 1) := by decide +kernel
theorem dJ9_floorMod_7cf53_2 : decode cJ9_floorMod_7cf53 2 = .ok (.irem, 1) := by decide +kernel
theorem dJ9_floorMod_7cf53_3 : decode cJ9_floorMod_7cf53 3 = .ok (.istore_n 2, 1) := by decide +kernel
theorem dJ9_floorMod_7cf53_4 : decode cJ9_floorMod_7cf53 4 = .ok (.iload_n 0, 1) := by decide +kernel
theorem dJ9_floorMod_7cf53_5 : decode cJ9_floorMod_7cf53 5 = .ok (.iload_n 1, 1) := by decide +kernel
theorem dJ9_floorMod_7cf53_6 : decode cJ9_floorMod_7cf53 6 = .ok (.ixor, 1) := by decide +kernel
theorem dJ9_floorMod_7cf53_7 : decode cJ9_floorMod_7cf53 7 = .ok (.ifCond .ge 11, 3) := by decide +kernel
theorem dJ9_floorMod_7cf53_10 : decode cJ9_floorMod_7cf53 10 = .ok (.iload_n 2, 1) := by decide +kernel
theorem dJ9_floorMod_7cf53_11 : decode cJ9_floorMod_7cf53 11 = .ok (.ifCond .eq 7, 3) := by decide +kernel
theorem dJ9_floorMod_7cf53_14 : decode cJ9_floorMod_7cf53 14 = .ok (.iload_n 2, 1) := by decide +kernel
theorem dJ9_floorMod_7cf53_15 : decode cJ9_floorMod_7cf53 15 = .ok (.iload_n 1, 1) := by decide +kernel
theorem dJ9_floorMod_7cf53_16 : decode cJ9_floorMod_7cf53 16 = .ok (.iadd, 1) := by decide +kernel
theorem dJ9_floorMod_7cf53_17 : decode cJ9_floorMod_7cf53 17 = .ok (.ireturn, 1) := by decide +kernel
theorem dJ9_floorMod_7cf53_18 : decode cJ9_floorMod_7cf53 18 = .ok (.iload_n 2, 1) := by decide +kernel
theorem dJ9_floorMod_7cf53_19 : decode cJ9_floorMod_7cf53 19 = .ok (.ireturn, 1) := by decide +kernel
theorem dL_submit_0 : decode cL_submit 0 = .ok (.aload 5, 2) := by decide +kernel
theorem dL_submit_2 : decode cL_submit 2 = .ok (.iconst 0, 1) := by decide +kernel
theorem dL_submit_3 : decode cL_submit 3 = .ok (.aload_n 0, 1) := by decide +kernel
theorem dL_submit_4 : decode cL_submit 4 = .ok (.iload_n 1, 1) := by decide +kernel
theorem dL_submit_5 : decode cL_submit 5 = .ok (.iload_n 2, 1) := by decide +kernel
theorem dL_submit_6 : decode cL_submit 6 = .ok (.iload_n 3, 1) := by decide +kernel
theorem dL_submit_7 : decode cL_submit 7 = .ok (.iload 4, 2) := by decide +kernel
theorem dL_submit_9 : decode cL_submit 9 = .ok (.invokevirtual 7, 3) := by decide +kernel
theorem dL_submit_12 : decode cL_submit 12 = .ok (.i2l, 1) := by decide +kernel
theorem dL_submit_13 : decode cL_submit 13 = .ok (.lastore, 1) := by decide +kernel
theorem dL_submit_14 : decode cL_submit 14 = .ok (.goto 11, 3) := by decide +kernel
theorem dL_submit_17 : decode cL_submit 17 = .ok (.astore 6, 2) := by decide +kernel
theorem dL_submit_19 : decode cL_submit 19 = .ok (.iconst 1, 1) := by decide +kernel
theorem dL_submit_20 : decode cL_submit 20 = .ok (.ireturn, 1) := by decide +kernel
theorem dL_submit_21 : decode cL_submit 21 = .ok (.astore 6, 2) := by decide +kernel
theorem dL_submit_23 : decode cL_submit 23 = .ok (.iconst 2, 1) := by decide +kernel
theorem dL_submit_24 : decode cL_submit 24 = .ok (.ireturn, 1) := by decide +kernel
theorem dL_submit_25 : decode cL_submit 25 = .ok (.iconst 0, 1) := by decide +kernel
theorem dL_submit_26 : decode cL_submit 26 = .ok (.ireturn, 1) := by decide +kernel
theorem dL_cancel_0 : decode cL_cancel 0 = .ok (.aload_n 2, 1) := by decide +kernel
theorem dL_cancel_1 : decode cL_cancel 1 = .ok (.iconst 0, 1) := by decide +kernel
theorem dL_cancel_2 : decode cL_cancel 2 = .ok (.aload_n 0, 1) := by decide +kernel
theorem dL_cancel_3 : decode cL_cancel 3 = .ok (.iload_n 1, 1) := by decide +kernel
theorem dL_cancel_4 : decode cL_cancel 4 = .ok (.invokevirtual 17, 3) := by decide +kernel
theorem dL_cancel_7 : decode cL_cancel 7 = .ok (.i2l, 1) := by decide +kernel
theorem dL_cancel_8 : decode cL_cancel 8 = .ok (.lastore, 1) := by decide +kernel
theorem dL_cancel_9 : decode cL_cancel 9 = .ok (.goto 9, 3) := by decide +kernel
theorem dL_cancel_12 : decode cL_cancel 12 = .ok (.astore_n 3, 1) := by decide +kernel
theorem dL_cancel_13 : decode cL_cancel 13 = .ok (.iconst 1, 1) := by decide +kernel
theorem dL_cancel_14 : decode cL_cancel 14 = .ok (.ireturn, 1) := by decide +kernel
theorem dL_cancel_15 : decode cL_cancel 15 = .ok (.astore_n 3, 1) := by decide +kernel
theorem dL_cancel_16 : decode cL_cancel 16 = .ok (.iconst 2, 1) := by decide +kernel
theorem dL_cancel_17 : decode cL_cancel 17 = .ok (.ireturn, 1) := by decide +kernel
theorem dL_cancel_18 : decode cL_cancel 18 = .ok (.iconst 0, 1) := by decide +kernel
theorem dL_cancel_19 : decode cL_cancel 19 = .ok (.ireturn, 1) := by decide +kernel
theorem dL_setSticker_0 : decode cL_setSticker 0 = .ok (.aload_n 3, 1) := by decide +kernel
theorem dL_setSticker_1 : decode cL_setSticker 1 = .ok (.iconst 0, 1) := by decide +kernel
theorem dL_setSticker_2 : decode cL_setSticker 2 = .ok (.aload_n 0, 1) := by decide +kernel
theorem dL_setSticker_3 : decode cL_setSticker 3 = .ok (.iload_n 1, 1) := by decide +kernel
theorem dL_setSticker_4 : decode cL_setSticker 4 = .ok (.iload_n 2, 1) := by decide +kernel
theorem dL_setSticker_5 : decode cL_setSticker 5 = .ok (.invokevirtual 23, 3) := by decide +kernel
theorem dL_setSticker_8 : decode cL_setSticker 8 = .ok (.i2l, 1) := by decide +kernel
theorem dL_setSticker_9 : decode cL_setSticker 9 = .ok (.lastore, 1) := by decide +kernel
theorem dL_setSticker_10 : decode cL_setSticker 10 = .ok (.goto 11, 3) := by decide +kernel
theorem dL_setSticker_13 : decode cL_setSticker 13 = .ok (.astore 4, 2) := by decide +kernel
theorem dL_setSticker_15 : decode cL_setSticker 15 = .ok (.iconst 1, 1) := by decide +kernel
theorem dL_setSticker_16 : decode cL_setSticker 16 = .ok (.ireturn, 1) := by decide +kernel
theorem dL_setSticker_17 : decode cL_setSticker 17 = .ok (.astore 4, 2) := by decide +kernel
theorem dL_setSticker_19 : decode cL_setSticker 19 = .ok (.iconst 2, 1) := by decide +kernel
theorem dL_setSticker_20 : decode cL_setSticker 20 = .ok (.ireturn, 1) := by decide +kernel
theorem dL_setSticker_21 : decode cL_setSticker 21 = .ok (.iconst 0, 1) := by decide +kernel
theorem dL_setSticker_22 : decode cL_setSticker 22 = .ok (.ireturn, 1) := by decide +kernel
theorem dL_setRing_0 : decode cL_setRing 0 = .ok (.aload_n 3, 1) := by decide +kernel
theorem dL_setRing_1 : decode cL_setRing 1 = .ok (.iconst 0, 1) := by decide +kernel
theorem dL_setRing_2 : decode cL_setRing 2 = .ok (.aload_n 0, 1) := by decide +kernel
theorem dL_setRing_3 : decode cL_setRing 3 = .ok (.iload_n 1, 1) := by decide +kernel
theorem dL_setRing_4 : decode cL_setRing 4 = .ok (.iload_n 2, 1) := by decide +kernel
theorem dL_setRing_5 : decode cL_setRing 5 = .ok (.invokevirtual 27, 3) := by decide +kernel
theorem dL_setRing_8 : decode cL_setRing 8 = .ok (.ifCond .eq 7, 3) := by decide +kernel
theorem dL_setRing_11 : decode cL_setRing 11 = .ok (.lconst 1, 1) := by decide +kernel
theorem dL_setRing_12 : decode cL_setRing 12 = .ok (.goto 4, 3) := by decide +kernel
theorem dL_setRing_15 : decode cL_setRing 15 = .ok (.lconst 0, 1) := by decide +kernel
theorem dL_setRing_16 : decode cL_setRing 16 = .ok (.lastore, 1) := by decide +kernel
theorem dL_setRing_17 : decode cL_setRing 17 = .ok (.goto 11, 3) := by decide +kernel
theorem dL_setRing_20 : decode cL_setRing 20 = .ok (.astore 4, 2) := by decide +kernel
theorem dL_setRing_22 : decode cL_setRing 22 = .ok (.iconst 1, 1) := by decide +kernel
theorem dL_setRing_23 : decode cL_setRing 23 = .ok (.ireturn, 1) := by decide +kernel
theorem dL_setRing_24 : decode cL_setRing 24 = .ok (.astore 4, 2) := by decide +kernel
theorem dL_setRing_26 : decode cL_setRing 26 = .ok (.iconst 2, 1) := by decide +kernel
theorem dL_setRing_27 : decode cL_setRing 27 = .ok (.ireturn, 1) := by decide +kernel
theorem dL_setRing_28 : decode cL_setRing 28 = .ok (.iconst 0, 1) := by decide +kernel
theorem dL_setRing_29 : decode cL_setRing 29 = .ok (.ireturn, 1) := by decide +kernel
theorem dL_pass_0 : decode cL_pass 0 = .ok (.aload_n 2, 1) := by decide +kernel
theorem dL_pass_1 : decode cL_pass 1 = .ok (.iconst 0, 1) := by decide +kernel
theorem dL_pass_2 : decode cL_pass 2 = .ok (.aload_n 0, 1) := by decide +kernel
theorem dL_pass_3 : decode cL_pass 3 = .ok (.iload_n 1, 1) := by decide +kernel
theorem dL_pass_4 : decode cL_pass 4 = .ok (.invokevirtual 31, 3) := by decide +kernel
theorem dL_pass_7 : decode cL_pass 7 = .ok (.i2l, 1) := by decide +kernel
theorem dL_pass_8 : decode cL_pass 8 = .ok (.lastore, 1) := by decide +kernel
theorem dL_pass_9 : decode cL_pass 9 = .ok (.goto 6, 3) := by decide +kernel
theorem dL_pass_12 : decode cL_pass 12 = .ok (.astore_n 3, 1) := by decide +kernel
theorem dL_pass_13 : decode cL_pass 13 = .ok (.iconst 1, 1) := by decide +kernel
theorem dL_pass_14 : decode cL_pass 14 = .ok (.ireturn, 1) := by decide +kernel
theorem dL_pass_15 : decode cL_pass 15 = .ok (.iconst 0, 1) := by decide +kernel
theorem dL_pass_16 : decode cL_pass 16 = .ok (.ireturn, 1) := by decide +kernel
theorem dL_nextDay_0 : decode cL_nextDay 0 = .ok (.aload_n 1, 1) := by decide +kernel
theorem dL_nextDay_1 : decode cL_nextDay 1 = .ok (.iconst 0, 1) := by decide +kernel
theorem dL_nextDay_2 : decode cL_nextDay 2 = .ok (.aload_n 0, 1) := by decide +kernel
theorem dL_nextDay_3 : decode cL_nextDay 3 = .ok (.invokevirtual 34, 3) := by decide +kernel
theorem dL_nextDay_6 : decode cL_nextDay 6 = .ok (.i2l, 1) := by decide +kernel
theorem dL_nextDay_7 : decode cL_nextDay 7 = .ok (.lastore, 1) := by decide +kernel
theorem dL_nextDay_8 : decode cL_nextDay 8 = .ok (.goto 6, 3) := by decide +kernel
theorem dL_nextDay_11 : decode cL_nextDay 11 = .ok (.astore_n 2, 1) := by decide +kernel
theorem dL_nextDay_12 : decode cL_nextDay 12 = .ok (.iconst 1, 1) := by decide +kernel
theorem dL_nextDay_13 : decode cL_nextDay 13 = .ok (.ireturn, 1) := by decide +kernel
theorem dL_nextDay_14 : decode cL_nextDay 14 = .ok (.iconst 0, 1) := by decide +kernel
theorem dL_nextDay_15 : decode cL_nextDay 15 = .ok (.ireturn, 1) := by decide +kernel
theorem dL_set_0 : decode cL_set 0 = .ok (.aload_n 3, 1) := by decide +kernel
theorem dL_set_1 : decode cL_set 1 = .ok (.iconst 0, 1) := by decide +kernel
theorem dL_set_2 : decode cL_set 2 = .ok (.aload_n 0, 1) := by decide +kernel
theorem dL_set_3 : decode cL_set 3 = .ok (.iload_n 1, 1) := by decide +kernel
theorem dL_set_4 : decode cL_set 4 = .ok (.iload_n 2, 1) := by decide +kernel
theorem dL_set_5 : decode cL_set 5 = .ok (.invokevirtual 38, 3) := by decide +kernel
theorem dL_set_8 : decode cL_set 8 = .ok (.i2l, 1) := by decide +kernel
theorem dL_set_9 : decode cL_set 9 = .ok (.lastore, 1) := by decide +kernel
theorem dL_set_10 : decode cL_set 10 = .ok (.goto 11, 3) := by decide +kernel
theorem dL_set_13 : decode cL_set 13 = .ok (.astore 4, 2) := by decide +kernel
theorem dL_set_15 : decode cL_set 15 = .ok (.iconst 1, 1) := by decide +kernel
theorem dL_set_16 : decode cL_set 16 = .ok (.ireturn, 1) := by decide +kernel
theorem dL_set_17 : decode cL_set 17 = .ok (.astore 4, 2) := by decide +kernel
theorem dL_set_19 : decode cL_set 19 = .ok (.iconst 2, 1) := by decide +kernel
theorem dL_set_20 : decode cL_set 20 = .ok (.ireturn, 1) := by decide +kernel
theorem dL_set_21 : decode cL_set 21 = .ok (.iconst 0, 1) := by decide +kernel
theorem dL_set_22 : decode cL_set 22 = .ok (.ireturn, 1) := by decide +kernel
theorem dL_appendText_0 : decode cL_appendText 0 = .ok (.aload_n 2, 1) := by decide +kernel
theorem dL_appendText_1 : decode cL_appendText 1 = .ok (.iconst 0, 1) := by decide +kernel
theorem dL_appendText_2 : decode cL_appendText 2 = .ok (.aload_n 0, 1) := by decide +kernel
theorem dL_appendText_3 : decode cL_appendText 3 = .ok (.iload_n 1, 1) := by decide +kernel
theorem dL_appendText_4 : decode cL_appendText 4 = .ok (.invokevirtual 41, 3) := by decide +kernel
theorem dL_appendText_7 : decode cL_appendText 7 = .ok (.i2l, 1) := by decide +kernel
theorem dL_appendText_8 : decode cL_appendText 8 = .ok (.lastore, 1) := by decide +kernel
theorem dL_appendText_9 : decode cL_appendText 9 = .ok (.goto 9, 3) := by decide +kernel
theorem dL_appendText_12 : decode cL_appendText 12 = .ok (.astore_n 3, 1) := by decide +kernel
theorem dL_appendText_13 : decode cL_appendText 13 = .ok (.iconst 1, 1) := by decide +kernel
theorem dL_appendText_14 : decode cL_appendText 14 = .ok (.ireturn, 1) := by decide +kernel
theorem dL_appendText_15 : decode cL_appendText 15 = .ok (.astore_n 3, 1) := by decide +kernel
theorem dL_appendText_16 : decode cL_appendText 16 = .ok (.iconst 2, 1) := by decide +kernel
theorem dL_appendText_17 : decode cL_appendText 17 = .ok (.ireturn, 1) := by decide +kernel
theorem dL_appendText_18 : decode cL_appendText 18 = .ok (.iconst 0, 1) := by decide +kernel
theorem dL_appendText_19 : decode cL_appendText 19 = .ok (.ireturn, 1) := by decide +kernel
theorem dL_runText_0 : decode cL_runText 0 = .ok (.aload_n 1, 1) := by decide +kernel
theorem dL_runText_1 : decode cL_runText 1 = .ok (.iconst 0, 1) := by decide +kernel
theorem dL_runText_2 : decode cL_runText 2 = .ok (.aload_n 0, 1) := by decide +kernel
theorem dL_runText_3 : decode cL_runText 3 = .ok (.invokevirtual 44, 3) := by decide +kernel
theorem dL_runText_6 : decode cL_runText 6 = .ok (.i2l, 1) := by decide +kernel
theorem dL_runText_7 : decode cL_runText 7 = .ok (.lastore, 1) := by decide +kernel
theorem dL_runText_8 : decode cL_runText 8 = .ok (.goto 6, 3) := by decide +kernel
theorem dL_runText_11 : decode cL_runText 11 = .ok (.astore_n 2, 1) := by decide +kernel
theorem dL_runText_12 : decode cL_runText 12 = .ok (.iconst 1, 1) := by decide +kernel
theorem dL_runText_13 : decode cL_runText 13 = .ok (.ireturn, 1) := by decide +kernel
theorem dL_runText_14 : decode cL_runText 14 = .ok (.iconst 0, 1) := by decide +kernel
theorem dL_runText_15 : decode cL_runText 15 = .ok (.ireturn, 1) := by decide +kernel
theorem dL_undo_0 : decode cL_undo 0 = .ok (.aload_n 1, 1) := by decide +kernel
theorem dL_undo_1 : decode cL_undo 1 = .ok (.iconst 0, 1) := by decide +kernel
theorem dL_undo_2 : decode cL_undo 2 = .ok (.aload_n 0, 1) := by decide +kernel
theorem dL_undo_3 : decode cL_undo 3 = .ok (.invokevirtual 47, 3) := by decide +kernel
theorem dL_undo_6 : decode cL_undo 6 = .ok (.i2l, 1) := by decide +kernel
theorem dL_undo_7 : decode cL_undo 7 = .ok (.lastore, 1) := by decide +kernel
theorem dL_undo_8 : decode cL_undo 8 = .ok (.goto 6, 3) := by decide +kernel
theorem dL_undo_11 : decode cL_undo 11 = .ok (.astore_n 2, 1) := by decide +kernel
theorem dL_undo_12 : decode cL_undo 12 = .ok (.iconst 1, 1) := by decide +kernel
theorem dL_undo_13 : decode cL_undo 13 = .ok (.ireturn, 1) := by decide +kernel
theorem dL_undo_14 : decode cL_undo 14 = .ok (.iconst 0, 1) := by decide +kernel
theorem dL_undo_15 : decode cL_undo 15 = .ok (.ireturn, 1) := by decide +kernel
theorem dL_reel_0 : decode cL_reel 0 = .ok (.aload_n 3, 1) := by decide +kernel
theorem dL_reel_1 : decode cL_reel 1 = .ok (.iconst 0, 1) := by decide +kernel
theorem dL_reel_2 : decode cL_reel 2 = .ok (.aload_n 0, 1) := by decide +kernel
theorem dL_reel_3 : decode cL_reel 3 = .ok (.iload_n 1, 1) := by decide +kernel
theorem dL_reel_4 : decode cL_reel 4 = .ok (.iload_n 2, 1) := by decide +kernel
theorem dL_reel_5 : decode cL_reel 5 = .ok (.invokevirtual 50, 3) := by decide +kernel
theorem dL_reel_8 : decode cL_reel 8 = .ok (.i2l, 1) := by decide +kernel
theorem dL_reel_9 : decode cL_reel 9 = .ok (.lastore, 1) := by decide +kernel
theorem dL_reel_10 : decode cL_reel 10 = .ok (.goto 11, 3) := by decide +kernel
theorem dL_reel_13 : decode cL_reel 13 = .ok (.astore 4, 2) := by decide +kernel
theorem dL_reel_15 : decode cL_reel 15 = .ok (.iconst 1, 1) := by decide +kernel
theorem dL_reel_16 : decode cL_reel 16 = .ok (.ireturn, 1) := by decide +kernel
theorem dL_reel_17 : decode cL_reel 17 = .ok (.astore 4, 2) := by decide +kernel
theorem dL_reel_19 : decode cL_reel 19 = .ok (.iconst 2, 1) := by decide +kernel
theorem dL_reel_20 : decode cL_reel 20 = .ok (.ireturn, 1) := by decide +kernel
theorem dL_reel_21 : decode cL_reel 21 = .ok (.iconst 0, 1) := by decide +kernel
theorem dL_reel_22 : decode cL_reel 22 = .ok (.ireturn, 1) := by decide +kernel
theorem dL_reelOn_0 : decode cL_reelOn 0 = .ok (.aload_n 2, 1) := by decide +kernel
theorem dL_reelOn_1 : decode cL_reelOn 1 = .ok (.iconst 0, 1) := by decide +kernel
theorem dL_reelOn_2 : decode cL_reelOn 2 = .ok (.aload_n 0, 1) := by decide +kernel
theorem dL_reelOn_3 : decode cL_reelOn 3 = .ok (.iload_n 1, 1) := by decide +kernel
theorem dL_reelOn_4 : decode cL_reelOn 4 = .ok (.invokevirtual 53, 3) := by decide +kernel
theorem dL_reelOn_7 : decode cL_reelOn 7 = .ok (.i2l, 1) := by decide +kernel
theorem dL_reelOn_8 : decode cL_reelOn 8 = .ok (.lastore, 1) := by decide +kernel
theorem dL_reelOn_9 : decode cL_reelOn 9 = .ok (.goto 6, 3) := by decide +kernel
theorem dL_reelOn_12 : decode cL_reelOn 12 = .ok (.astore_n 3, 1) := by decide +kernel
theorem dL_reelOn_13 : decode cL_reelOn 13 = .ok (.iconst 1, 1) := by decide +kernel
theorem dL_reelOn_14 : decode cL_reelOn 14 = .ok (.ireturn, 1) := by decide +kernel
theorem dL_reelOn_15 : decode cL_reelOn 15 = .ok (.iconst 0, 1) := by decide +kernel
theorem dL_reelOn_16 : decode cL_reelOn 16 = .ok (.ireturn, 1) := by decide +kernel
theorem dL_job_0 : decode cL_job 0 = .ok (.aload_n 3, 1) := by decide +kernel
theorem dL_job_1 : decode cL_job 1 = .ok (.iconst 0, 1) := by decide +kernel
theorem dL_job_2 : decode cL_job 2 = .ok (.aload_n 0, 1) := by decide +kernel
theorem dL_job_3 : decode cL_job 3 = .ok (.iload_n 1, 1) := by decide +kernel
theorem dL_job_4 : decode cL_job 4 = .ok (.iload_n 2, 1) := by decide +kernel
theorem dL_job_5 : decode cL_job 5 = .ok (.invokevirtual 56, 3) := by decide +kernel
theorem dL_job_8 : decode cL_job 8 = .ok (.i2l, 1) := by decide +kernel
theorem dL_job_9 : decode cL_job 9 = .ok (.lastore, 1) := by decide +kernel
theorem dL_job_10 : decode cL_job 10 = .ok (.goto 11, 3) := by decide +kernel
theorem dL_job_13 : decode cL_job 13 = .ok (.astore 4, 2) := by decide +kernel
theorem dL_job_15 : decode cL_job 15 = .ok (.iconst 1, 1) := by decide +kernel
theorem dL_job_16 : decode cL_job 16 = .ok (.ireturn, 1) := by decide +kernel
theorem dL_job_17 : decode cL_job 17 = .ok (.astore 4, 2) := by decide +kernel
theorem dL_job_19 : decode cL_job 19 = .ok (.iconst 2, 1) := by decide +kernel
theorem dL_job_20 : decode cL_job 20 = .ok (.ireturn, 1) := by decide +kernel
theorem dL_job_21 : decode cL_job 21 = .ok (.iconst 0, 1) := by decide +kernel
theorem dL_job_22 : decode cL_job 22 = .ok (.ireturn, 1) := by decide +kernel
theorem dL_isStuck_0 : decode cL_isStuck 0 = .ok (.aload_n 2, 1) := by decide +kernel
theorem dL_isStuck_1 : decode cL_isStuck 1 = .ok (.iconst 0, 1) := by decide +kernel
theorem dL_isStuck_2 : decode cL_isStuck 2 = .ok (.aload_n 0, 1) := by decide +kernel
theorem dL_isStuck_3 : decode cL_isStuck 3 = .ok (.iload_n 1, 1) := by decide +kernel
theorem dL_isStuck_4 : decode cL_isStuck 4 = .ok (.invokevirtual 59, 3) := by decide +kernel
theorem dL_isStuck_7 : decode cL_isStuck 7 = .ok (.ifCond .eq 7, 3) := by decide +kernel
theorem dL_isStuck_10 : decode cL_isStuck 10 = .ok (.lconst 1, 1) := by decide +kernel
theorem dL_isStuck_11 : decode cL_isStuck 11 = .ok (.goto 4, 3) := by decide +kernel
theorem dL_isStuck_14 : decode cL_isStuck 14 = .ok (.lconst 0, 1) := by decide +kernel
theorem dL_isStuck_15 : decode cL_isStuck 15 = .ok (.lastore, 1) := by decide +kernel
theorem dL_isStuck_16 : decode cL_isStuck 16 = .ok (.goto 6, 3) := by decide +kernel
theorem dL_isStuck_19 : decode cL_isStuck 19 = .ok (.astore_n 3, 1) := by decide +kernel
theorem dL_isStuck_20 : decode cL_isStuck 20 = .ok (.iconst 1, 1) := by decide +kernel
theorem dL_isStuck_21 : decode cL_isStuck 21 = .ok (.ireturn, 1) := by decide +kernel
theorem dL_isStuck_22 : decode cL_isStuck 22 = .ok (.iconst 0, 1) := by decide +kernel
theorem dL_isStuck_23 : decode cL_isStuck 23 = .ok (.ireturn, 1) := by decide +kernel
theorem dL_verdict_0 : decode cL_verdict 0 = .ok (.aload_n 3, 1) := by decide +kernel
theorem dL_verdict_1 : decode cL_verdict 1 = .ok (.iconst 0, 1) := by decide +kernel
theorem dL_verdict_2 : decode cL_verdict 2 = .ok (.aload_n 0, 1) := by decide +kernel
theorem dL_verdict_3 : decode cL_verdict 3 = .ok (.iload_n 1, 1) := by decide +kernel
theorem dL_verdict_4 : decode cL_verdict 4 = .ok (.iload_n 2, 1) := by decide +kernel
theorem dL_verdict_5 : decode cL_verdict 5 = .ok (.invokevirtual 63, 3) := by decide +kernel
theorem dL_verdict_8 : decode cL_verdict 8 = .ok (.i2l, 1) := by decide +kernel
theorem dL_verdict_9 : decode cL_verdict 9 = .ok (.lastore, 1) := by decide +kernel
theorem dL_verdict_10 : decode cL_verdict 10 = .ok (.goto 7, 3) := by decide +kernel
theorem dL_verdict_13 : decode cL_verdict 13 = .ok (.astore 4, 2) := by decide +kernel
theorem dL_verdict_15 : decode cL_verdict 15 = .ok (.iconst 1, 1) := by decide +kernel
theorem dL_verdict_16 : decode cL_verdict 16 = .ok (.ireturn, 1) := by decide +kernel
theorem dL_verdict_17 : decode cL_verdict 17 = .ok (.iconst 0, 1) := by decide +kernel
theorem dL_verdict_18 : decode cL_verdict 18 = .ok (.ireturn, 1) := by decide +kernel
theorem dL_minutesToDone_0 : decode cL_minutesToDone 0 = .ok (.aload_n 2, 1) := by decide +kernel
theorem dL_minutesToDone_1 : decode cL_minutesToDone 1 = .ok (.iconst 0, 1) := by decide +kernel
theorem dL_minutesToDone_2 : decode cL_minutesToDone 2 = .ok (.aload_n 0, 1) := by decide +kernel
theorem dL_minutesToDone_3 : decode cL_minutesToDone 3 = .ok (.iload_n 1, 1) := by decide +kernel
theorem dL_minutesToDone_4 : decode cL_minutesToDone 4 = .ok (.invokevirtual 66, 3) := by decide +kernel
theorem dL_minutesToDone_7 : decode cL_minutesToDone 7 = .ok (.i2l, 1) := by decide +kernel
theorem dL_minutesToDone_8 : decode cL_minutesToDone 8 = .ok (.lastore, 1) := by decide +kernel
theorem dL_minutesToDone_9 : decode cL_minutesToDone 9 = .ok (.goto 6, 3) := by decide +kernel
theorem dL_minutesToDone_12 : decode cL_minutesToDone 12 = .ok (.astore_n 3, 1) := by decide +kernel
theorem dL_minutesToDone_13 : decode cL_minutesToDone 13 = .ok (.iconst 1, 1) := by decide +kernel
theorem dL_minutesToDone_14 : decode cL_minutesToDone 14 = .ok (.ireturn, 1) := by decide +kernel
theorem dL_minutesToDone_15 : decode cL_minutesToDone 15 = .ok (.iconst 0, 1) := by decide +kernel
theorem dL_minutesToDone_16 : decode cL_minutesToDone 16 = .ok (.ireturn, 1) := by decide +kernel
theorem dL_count_0 : decode cL_count 0 = .ok (.aload_n 2, 1) := by decide +kernel
theorem dL_count_1 : decode cL_count 1 = .ok (.iconst 0, 1) := by decide +kernel
theorem dL_count_2 : decode cL_count 2 = .ok (.aload_n 0, 1) := by decide +kernel
theorem dL_count_3 : decode cL_count 3 = .ok (.iload_n 1, 1) := by decide +kernel
theorem dL_count_4 : decode cL_count 4 = .ok (.invokevirtual 69, 3) := by decide +kernel
theorem dL_count_7 : decode cL_count 7 = .ok (.i2l, 1) := by decide +kernel
theorem dL_count_8 : decode cL_count 8 = .ok (.lastore, 1) := by decide +kernel
theorem dL_count_9 : decode cL_count 9 = .ok (.goto 6, 3) := by decide +kernel
theorem dL_count_12 : decode cL_count 12 = .ok (.astore_n 3, 1) := by decide +kernel
theorem dL_count_13 : decode cL_count 13 = .ok (.iconst 1, 1) := by decide +kernel
theorem dL_count_14 : decode cL_count 14 = .ok (.ireturn, 1) := by decide +kernel
theorem dL_count_15 : decode cL_count 15 = .ok (.iconst 0, 1) := by decide +kernel
theorem dL_count_16 : decode cL_count 16 = .ok (.ireturn, 1) := by decide +kernel
theorem dL_law_0 : decode cL_law 0 = .ok (.new 8, 3) := by decide +kernel
theorem dL_law_3 : decode cL_law 3 = .ok (.dup, 1) := by decide +kernel
theorem dL_law_4 : decode cL_law 4 = .ok (.invokespecial 72, 3) := by decide +kernel
theorem dL_law_7 : decode cL_law 7 = .ok (.astore_n 1, 1) := by decide +kernel
theorem dL_law_8 : decode cL_law 8 = .ok (.new 73, 3) := by decide +kernel
theorem dL_law_11 : decode cL_law 11 = .ok (.dup, 1) := by decide +kernel
theorem dL_law_12 : decode cL_law 12 = .ok (.invokespecial 75, 3) := by decide +kernel
theorem dL_law_15 : decode cL_law 15 = .ok (.astore_n 2, 1) := by decide +kernel
theorem dL_law_16 : decode cL_law 16 = .ok (.iconst 1, 1) := by decide +kernel
theorem dL_law_17 : decode cL_law 17 = .ok (.newarray .long, 2) := by decide +kernel
theorem dL_law_19 : decode cL_law 19 = .ok (.astore_n 3, 1) := by decide +kernel
theorem dL_law_20 : decode cL_law 20 = .ok (.iconst 0, 1) := by decide +kernel
theorem dL_law_21 : decode cL_law 21 = .ok (.istore 4, 2) := by decide +kernel
theorem dL_law_23 : decode cL_law 23 = .ok (.iload 4, 2) := by decide +kernel
theorem dL_law_25 : decode cL_law 25 = .ok (.aload_n 0, 1) := by decide +kernel
theorem dL_law_26 : decode cL_law 26 = .ok (.arraylength, 1) := by decide +kernel
theorem dL_law_27 : decode cL_law 27 = .ok (.iconst 5, 1) := by decide +kernel
theorem dL_law_28 : decode cL_law 28 = .ok (.isub, 1) := by decide +kernel
theorem dL_law_29 : decode cL_law 29 = .ok (.if_icmp .gt 1332, 3) := by decide +kernel
theorem dL_law_32 : decode cL_law 32 = .ok (.aload_n 0, 1) := by decide +kernel
theorem dL_law_33 : decode cL_law 33 = .ok (.iload 4, 2) := by decide +kernel
theorem dL_law_35 : decode cL_law 35 = .ok (.iaload, 1) := by decide +kernel
theorem dL_law_36 : decode cL_law 36 = .ok (.bipush 31, 2) := by decide +kernel
theorem dL_law_38 : decode cL_law 38 = .ok (.iand, 1) := by decide +kernel
theorem dL_law_39 : decode cL_law 39 = .ok (.tableswitch 1316 0 25 #[117, 209, 265, 333, 424, 480, 524, 592, 648, 661, 674, 718, 762, 830, 886, 899, 912, 980, 1043, 1111, 1124, 1137, 1193, 1249, 1290, 1303], 117) := by decide +kernel
theorem dL_law_156 : decode cL_law 156 = .ok (.aload_n 1, 1) := by decide +kernel
theorem dL_law_157 : decode cL_law 157 = .ok (.aload_n 0, 1) := by decide +kernel
theorem dL_law_158 : decode cL_law 158 = .ok (.iload 4, 2) := by decide +kernel
theorem dL_law_160 : decode cL_law 160 = .ok (.iconst 1, 1) := by decide +kernel
theorem dL_law_161 : decode cL_law 161 = .ok (.iadd, 1) := by decide +kernel
theorem dL_law_162 : decode cL_law 162 = .ok (.iaload, 1) := by decide +kernel
theorem dL_law_163 : decode cL_law 163 = .ok (.aload_n 0, 1) := by decide +kernel
theorem dL_law_164 : decode cL_law 164 = .ok (.iload 4, 2) := by decide +kernel
theorem dL_law_166 : decode cL_law 166 = .ok (.iconst 2, 1) := by decide +kernel
theorem dL_law_167 : decode cL_law 167 = .ok (.iadd, 1) := by decide +kernel
theorem dL_law_168 : decode cL_law 168 = .ok (.iaload, 1) := by decide +kernel
theorem dL_law_169 : decode cL_law 169 = .ok (.aload_n 0, 1) := by decide +kernel
theorem dL_law_170 : decode cL_law 170 = .ok (.iload 4, 2) := by decide +kernel
theorem dL_law_172 : decode cL_law 172 = .ok (.iconst 3, 1) := by decide +kernel
theorem dL_law_173 : decode cL_law 173 = .ok (.iadd, 1) := by decide +kernel
theorem dL_law_174 : decode cL_law 174 = .ok (.iaload, 1) := by decide +kernel
theorem dL_law_175 : decode cL_law 175 = .ok (.aload_n 0, 1) := by decide +kernel
theorem dL_law_176 : decode cL_law 176 = .ok (.iload 4, 2) := by decide +kernel
theorem dL_law_178 : decode cL_law 178 = .ok (.iconst 4, 1) := by decide +kernel
theorem dL_law_179 : decode cL_law 179 = .ok (.iadd, 1) := by decide +kernel
theorem dL_law_180 : decode cL_law 180 = .ok (.iaload, 1) := by decide +kernel
theorem dL_law_181 : decode cL_law 181 = .ok (.aload_n 3, 1) := by decide +kernel
theorem dL_law_182 : decode cL_law 182 = .ok (.invokestatic 76, 3) := by decide +kernel
theorem dL_law_185 : decode cL_law 185 = .ok (.istore 5, 2) := by decide +kernel
theorem dL_law_187 : decode cL_law 187 = .ok (.aload_n 2, 1) := by decide +kernel
theorem dL_law_188 : decode cL_law 188 = .ok (.aload_n 0, 1) := by decide +kernel
theorem dL_law_189 : decode cL_law 189 = .ok (.iload 4, 2) := by decide +kernel
theorem dL_law_191 : decode cL_law 191 = .ok (.iconst 1, 1) := by decide +kernel
theorem dL_law_192 : decode cL_law 192 = .ok (.iadd, 1) := by decide +kernel
theorem dL_law_193 : decode cL_law 193 = .ok (.iaload, 1) := by decide +kernel
theorem dL_law_194 : decode cL_law 194 = .ok (.aload_n 0, 1) := by decide +kernel
theorem dL_law_195 : decode cL_law 195 = .ok (.iload 4, 2) := by decide +kernel
theorem dL_law_197 : decode cL_law 197 = .ok (.iconst 2, 1) := by decide +kernel
theorem dL_law_198 : decode cL_law 198 = .ok (.iadd, 1) := by decide +kernel
theorem dL_law_199 : decode cL_law 199 = .ok (.iaload, 1) := by decide +kernel
theorem dL_law_200 : decode cL_law 200 = .ok (.aload_n 0, 1) := by decide +kernel
theorem dL_law_201 : decode cL_law 201 = .ok (.iload 4, 2) := by decide +kernel
theorem dL_law_203 : decode cL_law 203 = .ok (.iconst 3, 1) := by decide +kernel
theorem dL_law_204 : decode cL_law 204 = .ok (.iadd, 1) := by decide +kernel
theorem dL_law_205 : decode cL_law 205 = .ok (.iaload, 1) := by decide +kernel
theorem dL_law_206 : decode cL_law 206 = .ok (.aload_n 0, 1) := by decide +kernel
theorem dL_law_207 : decode cL_law 207 = .ok (.iload 4, 2) := by decide +kernel
theorem dL_law_209 : decode cL_law 209 = .ok (.iconst 4, 1) := by decide +kernel
theorem dL_law_210 : decode cL_law 210 = .ok (.iadd, 1) := by decide +kernel
theorem dL_law_211 : decode cL_law 211 = .ok (.iaload, 1) := by decide +kernel
theorem dL_law_212 : decode cL_law 212 = .ok (.invokevirtual 81, 3) := by decide +kernel
theorem dL_law_215 : decode cL_law 215 = .ok (.istore 6, 2) := by decide +kernel
theorem dL_law_217 : decode cL_law 217 = .ok (.aload_n 2, 1) := by decide +kernel
theorem dL_law_218 : decode cL_law 218 = .ok (.invokevirtual 82, 3) := by decide +kernel
theorem dL_law_221 : decode cL_law 221 = .ok (.iload 5, 2) := by decide +kernel
theorem dL_law_223 : decode cL_law 223 = .ok (.if_icmp .eq 5, 3) := by decide +kernel
theorem dL_law_226 : decode cL_law 226 = .ok (.iconst 0, 1) := by decide +kernel
theorem dL_law_227 : decode cL_law 227 = .ok (.ireturn, 1) := by decide +kernel
theorem dL_law_228 : decode cL_law 228 = .ok (.iload 5, 2) := by decide +kernel
theorem dL_law_230 : decode cL_law 230 = .ok (.ifCond .ne 15, 3) := by decide +kernel
theorem dL_law_233 : decode cL_law 233 = .ok (.aload_n 3, 1) := by decide +kernel
theorem dL_law_234 : decode cL_law 234 = .ok (.iconst 0, 1) := by decide +kernel
theorem dL_law_235 : decode cL_law 235 = .ok (.laload, 1) := by decide +kernel
theorem dL_law_236 : decode cL_law 236 = .ok (.iload 6, 2) := by decide +kernel
theorem dL_law_238 : decode cL_law 238 = .ok (.i2l, 1) := by decide +kernel
theorem dL_law_239 : decode cL_law 239 = .ok (.lcmp, 1) := by decide +kernel
theorem dL_law_240 : decode cL_law 240 = .ok (.ifCond .eq 5, 3) := by decide +kernel
theorem dL_law_243 : decode cL_law 243 = .ok (.iconst 0, 1) := by decide +kernel
theorem dL_law_244 : decode cL_law 244 = .ok (.ireturn, 1) := by decide +kernel
theorem dL_law_245 : decode cL_law 245 = .ok (.goto 1110, 3) := by decide +kernel
theorem dL_law_248 : decode cL_law 248 = .ok (.aload_n 1, 1) := by decide +kernel
theorem dL_law_249 : decode cL_law 249 = .ok (.aload_n 0, 1) := by decide +kernel
theorem dL_law_250 : decode cL_law 250 = .ok (.iload 4, 2) := by decide +kernel
theorem dL_law_252 : decode cL_law 252 = .ok (.iconst 1, 1) := by decide +kernel
theorem dL_law_253 : decode cL_law 253 = .ok (.iadd, 1) := by decide +kernel
theorem dL_law_254 : decode cL_law 254 = .ok (.iaload, 1) := by decide +kernel
theorem dL_law_255 : decode cL_law 255 = .ok (.aload_n 3, 1) := by decide +kernel
theorem dL_law_256 : decode cL_law 256 = .ok (.invokestatic 85, 3) := by decide +kernel
theorem dL_law_259 : decode cL_law 259 = .ok (.istore 5, 2) := by decide +kernel
theorem dL_law_261 : decode cL_law 261 = .ok (.aload_n 2, 1) := by decide +kernel
theorem dL_law_262 : decode cL_law 262 = .ok (.aload_n 0, 1) := by decide +kernel
theorem dL_law_263 : decode cL_law 263 = .ok (.iload 4, 2) := by decide +kernel
theorem dL_law_265 : decode cL_law 265 = .ok (.iconst 1, 1) := by decide +kernel
theorem dL_law_266 : decode cL_law 266 = .ok (.iadd, 1) := by decide +kernel
theorem dL_law_267 : decode cL_law 267 = .ok (.iaload, 1) := by decide +kernel
theorem dL_law_268 : decode cL_law 268 = .ok (.invokevirtual 88, 3) := by decide +kernel
theorem dL_law_271 : decode cL_law 271 = .ok (.istore 6, 2) := by decide +kernel
theorem dL_law_273 : decode cL_law 273 = .ok (.aload_n 2, 1) := by decide +kernel
theorem dL_law_274 : decode cL_law 274 = .ok (.invokevirtual 82, 3) := by decide +kernel
theorem dL_law_277 : decode cL_law 277 = .ok (.iload 5, 2) := by decide +kernel
theorem dL_law_279 : decode cL_law 279 = .ok (.if_icmp .eq 5, 3) := by decide +kernel
theorem dL_law_282 : decode cL_law 282 = .ok (.iconst 0, 1) := by decide +kernel
theorem dL_law_283 : decode cL_law 283 = .ok (.ireturn, 1) := by decide +kernel
theorem dL_law_284 : decode cL_law 284 = .ok (.iload 5, 2) := by decide +kernel
theorem dL_law_286 : decode cL_law 286 = .ok (.ifCond .ne 15, 3) := by decide +kernel
theorem dL_law_289 : decode cL_law 289 = .ok (.aload_n 3, 1) := by decide +kernel
theorem dL_law_290 : decode cL_law 290 = .ok (.iconst 0, 1) := by decide +kernel
theorem dL_law_291 : decode cL_law 291 = .ok (.laload, 1) := by decide +kernel
theorem dL_law_292 : decode cL_law 292 = .ok (.iload 6, 2) := by decide +kernel
theorem dL_law_294 : decode cL_law 294 = .ok (.i2l, 1) := by decide +kernel
theorem dL_law_295 : decode cL_law 295 = .ok (.lcmp, 1) := by decide +kernel
theorem dL_law_296 : decode cL_law 296 = .ok (.ifCond .eq 5, 3) := by decide +kernel
theorem dL_law_299 : decode cL_law 299 = .ok (.iconst 0, 1) := by decide +kernel
theorem dL_law_300 : decode cL_law 300 = .ok (.ireturn, 1) := by decide +kernel
theorem dL_law_301 : decode cL_law 301 = .ok (.goto 1054, 3) := by decide +kernel
theorem dL_law_304 : decode cL_law 304 = .ok (.aload_n 1, 1) := by decide +kernel
theorem dL_law_305 : decode cL_law 305 = .ok (.aload_n 0, 1) := by decide +kernel
theorem dL_law_306 : decode cL_law 306 = .ok (.iload 4, 2) := by decide +kernel
theorem dL_law_308 : decode cL_law 308 = .ok (.iconst 1, 1) := by decide +kernel
theorem dL_law_309 : decode cL_law 309 = .ok (.iadd, 1) := by decide +kernel
theorem dL_law_310 : decode cL_law 310 = .ok (.iaload, 1) := by decide +kernel
theorem dL_law_311 : decode cL_law 311 = .ok (.aload_n 0, 1) := by decide +kernel
theorem dL_law_312 : decode cL_law 312 = .ok (.iload 4, 2) := by decide +kernel
theorem dL_law_314 : decode cL_law 314 = .ok (.iconst 2, 1) := by decide +kernel
theorem dL_law_315 : decode cL_law 315 = .ok (.iadd, 1) := by decide +kernel
theorem dL_law_316 : decode cL_law 316 = .ok (.iaload, 1) := by decide +kernel
theorem dL_law_317 : decode cL_law 317 = .ok (.aload_n 3, 1) := by decide +kernel
theorem dL_law_318 : decode cL_law 318 = .ok (.invokestatic 89, 3) := by decide +kernel
theorem dL_law_321 : decode cL_law 321 = .ok (.istore 5, 2) := by decide +kernel
theorem dL_law_323 : decode cL_law 323 = .ok (.aload_n 2, 1) := by decide +kernel
theorem dL_law_324 : decode cL_law 324 = .ok (.aload_n 0, 1) := by decide +kernel
theorem dL_law_325 : decode cL_law 325 = .ok (.iload 4, 2) := by decide +kernel
theorem dL_law_327 : decode cL_law 327 = .ok (.iconst 1, 1) := by decide +kernel
theorem dL_law_328 : decode cL_law 328 = .ok (.iadd, 1) := by decide +kernel
theorem dL_law_329 : decode cL_law 329 = .ok (.iaload, 1) := by decide +kernel
theorem dL_law_330 : decode cL_law 330 = .ok (.aload_n 0, 1) := by decide +kernel
theorem dL_law_331 : decode cL_law 331 = .ok (.iload 4, 2) := by decide +kernel
theorem dL_law_333 : decode cL_law 333 = .ok (.iconst 2, 1) := by decide +kernel
theorem dL_law_334 : decode cL_law 334 = .ok (.iadd, 1) := by decide +kernel
theorem dL_law_335 : decode cL_law 335 = .ok (.iaload, 1) := by decide +kernel
theorem dL_law_336 : decode cL_law 336 = .ok (.invokevirtual 92, 3) := by decide +kernel
theorem dL_law_339 : decode cL_law 339 = .ok (.istore 6, 2) := by decide +kernel
theorem dL_law_341 : decode cL_law 341 = .ok (.aload_n 2, 1) := by decide +kernel
theorem dL_law_342 : decode cL_law 342 = .ok (.invokevirtual 82, 3) := by decide +kernel
theorem dL_law_345 : decode cL_law 345 = .ok (.iload 5, 2) := by decide +kernel
theorem dL_law_347 : decode cL_law 347 = .ok (.if_icmp .eq 5, 3) := by decide +kernel
theorem dL_law_350 : decode cL_law 350 = .ok (.iconst 0, 1) := by decide +kernel
theorem dL_law_351 : decode cL_law 351 = .ok (.ireturn, 1) := by decide +kernel
theorem dL_law_352 : decode cL_law 352 = .ok (.iload 5, 2) := by decide +kernel
theorem dL_law_354 : decode cL_law 354 = .ok (.ifCond .ne 15, 3) := by decide +kernel
theorem dL_law_357 : decode cL_law 357 = .ok (.aload_n 3, 1) := by decide +kernel
theorem dL_law_358 : decode cL_law 358 = .ok (.iconst 0, 1) := by decide +kernel
theorem dL_law_359 : decode cL_law 359 = .ok (.laload, 1) := by decide +kernel
theorem dL_law_360 : decode cL_law 360 = .ok (.iload 6, 2) := by decide +kernel
theorem dL_law_362 : decode cL_law 362 = .ok (.i2l, 1) := by decide +kernel
theorem dL_law_363 : decode cL_law 363 = .ok (.lcmp, 1) := by decide +kernel
theorem dL_law_364 : decode cL_law 364 = .ok (.ifCond .eq 5, 3) := by decide +kernel
theorem dL_law_367 : decode cL_law 367 = .ok (.iconst 0, 1) := by decide +kernel
theorem dL_law_368 : decode cL_law 368 = .ok (.ireturn, 1) := by decide +kernel
theorem dL_law_369 : decode cL_law 369 = .ok (.goto 986, 3) := by decide +kernel
theorem dL_law_372 : decode cL_law 372 = .ok (.aload_n 1, 1) := by decide +kernel
theorem dL_law_373 : decode cL_law 373 = .ok (.aload_n 0, 1) := by decide +kernel
theorem dL_law_374 : decode cL_law 374 = .ok (.iload 4, 2) := by decide +kernel
theorem dL_law_376 : decode cL_law 376 = .ok (.iconst 1, 1) := by decide +kernel
theorem dL_law_377 : decode cL_law 377 = .ok (.iadd, 1) := by decide +kernel
theorem dL_law_378 : decode cL_law 378 = .ok (.iaload, 1) := by decide +kernel
theorem dL_law_379 : decode cL_law 379 = .ok (.aload_n 0, 1) := by decide +kernel
theorem dL_law_380 : decode cL_law 380 = .ok (.iload 4, 2) := by decide +kernel
theorem dL_law_382 : decode cL_law 382 = .ok (.iconst 2, 1) := by decide +kernel
theorem dL_law_383 : decode cL_law 383 = .ok (.iadd, 1) := by decide +kernel
theorem dL_law_384 : decode cL_law 384 = .ok (.iaload, 1) := by decide +kernel
theorem dL_law_385 : decode cL_law 385 = .ok (.ifCond .eq 7, 3) := by decide +kernel
theorem dL_law_388 : decode cL_law 388 = .ok (.iconst 1, 1) := by decide +kernel
theorem dL_law_389 : decode cL_law 389 = .ok (.goto 4, 3) := by decide +kernel
theorem dL_law_392 : decode cL_law 392 = .ok (.iconst 0, 1) := by decide +kernel
theorem dL_law_393 : decode cL_law 393 = .ok (.aload_n 3, 1) := by decide +kernel
theorem dL_law_394 : decode cL_law 394 = .ok (.invokestatic 93, 3) := by decide +kernel
theorem dL_law_397 : decode cL_law 397 = .ok (.istore 5, 2) := by decide +kernel
theorem dL_law_399 : decode cL_law 399 = .ok (.aload_n 2, 1) := by decide +kernel
theorem dL_law_400 : decode cL_law 400 = .ok (.aload_n 0, 1) := by decide +kernel
theorem dL_law_401 : decode cL_law 401 = .ok (.iload 4, 2) := by decide +kernel
theorem dL_law_403 : decode cL_law 403 = .ok (.iconst 1, 1) := by decide +kernel
theorem dL_law_404 : decode cL_law 404 = .ok (.iadd, 1) := by decide +kernel
theorem dL_law_405 : decode cL_law 405 = .ok (.iaload, 1) := by decide +kernel
theorem dL_law_406 : decode cL_law 406 = .ok (.aload_n 0, 1) := by decide +kernel
theorem dL_law_407 : decode cL_law 407 = .ok (.iload 4, 2) := by decide +kernel
theorem dL_law_409 : decode cL_law 409 = .ok (.iconst 2, 1) := by decide +kernel
theorem dL_law_410 : decode cL_law 410 = .ok (.iadd, 1) := by decide +kernel
theorem dL_law_411 : decode cL_law 411 = .ok (.iaload, 1) := by decide +kernel
theorem dL_law_412 : decode cL_law 412 = .ok (.ifCond .eq 7, 3) := by decide +kernel
theorem dL_law_415 : decode cL_law 415 = .ok (.iconst 1, 1) := by decide +kernel
theorem dL_law_416 : decode cL_law 416 = .ok (.goto 4, 3) := by decide +kernel
theorem dL_law_419 : decode cL_law 419 = .ok (.iconst 0, 1) := by decide +kernel
theorem dL_law_420 : decode cL_law 420 = .ok (.invokevirtual 96, 3) := by decide +kernel
theorem dL_law_423 : decode cL_law 423 = .ok (.istore 6, 2) := by decide +kernel
theorem dL_law_425 : decode cL_law 425 = .ok (.aload_n 2, 1) := by decide +kernel
theorem dL_law_426 : decode cL_law 426 = .ok (.invokevirtual 82, 3) := by decide +kernel
theorem dL_law_429 : decode cL_law 429 = .ok (.iload 5, 2) := by decide +kernel
theorem dL_law_431 : decode cL_law 431 = .ok (.if_icmp .eq 5, 3) := by decide +kernel
theorem dL_law_434 : decode cL_law 434 = .ok (.iconst 0, 1) := by decide +kernel
theorem dL_law_435 : decode cL_law 435 = .ok (.ireturn, 1) := by decide +kernel
theorem dL_law_436 : decode cL_law 436 = .ok (.iload 5, 2) := by decide +kernel
theorem dL_law_438 : decode cL_law 438 = .ok (.ifCond .ne 22, 3) := by decide +kernel
theorem dL_law_441 : decode cL_law 441 = .ok (.aload_n 3, 1) := by decide +kernel
theorem dL_law_442 : decode cL_law 442 = .ok (.iconst 0, 1) := by decide +kernel
theorem dL_law_443 : decode cL_law 443 = .ok (.laload, 1) := by decide +kernel
theorem dL_law_444 : decode cL_law 444 = .ok (.iload 6, 2) := by decide +kernel
theorem dL_law_446 : decode cL_law 446 = .ok (.ifCond .eq 7, 3) := by decide +kernel
theorem dL_law_449 : decode cL_law 449 = .ok (.lconst 1, 1) := by decide +kernel
theorem dL_law_450 : decode cL_law 450 = .ok (.goto 4, 3) := by decide +kernel
theorem dL_law_453 : decode cL_law 453 = .ok (.lconst 0, 1) := by decide +kernel
theorem dL_law_454 : decode cL_law 454 = .ok (.lcmp, 1) := by decide +kernel
theorem dL_law_455 : decode cL_law 455 = .ok (.ifCond .eq 5, 3) := by decide +kernel
theorem dL_law_458 : decode cL_law 458 = .ok (.iconst 0, 1) := by decide +kernel
theorem dL_law_459 : decode cL_law 459 = .ok (.ireturn, 1) := by decide +kernel
theorem dL_law_460 : decode cL_law 460 = .ok (.goto 895, 3) := by decide +kernel
theorem dL_law_463 : decode cL_law 463 = .ok (.aload_n 1, 1) := by decide +kernel
theorem dL_law_464 : decode cL_law 464 = .ok (.aload_n 0, 1) := by decide +kernel
theorem dL_law_465 : decode cL_law 465 = .ok (.iload 4, 2) := by decide +kernel
theorem dL_law_467 : decode cL_law 467 = .ok (.iconst 1, 1) := by decide +kernel
theorem dL_law_468 : decode cL_law 468 = .ok (.iadd, 1) := by decide +kernel
theorem dL_law_469 : decode cL_law 469 = .ok (.iaload, 1) := by decide +kernel
theorem dL_law_470 : decode cL_law 470 = .ok (.aload_n 3, 1) := by decide +kernel
theorem dL_law_471 : decode cL_law 471 = .ok (.invokestatic 97, 3) := by decide +kernel
theorem dL_law_474 : decode cL_law 474 = .ok (.istore 5, 2) := by decide +kernel
theorem dL_law_476 : decode cL_law 476 = .ok (.aload_n 2, 1) := by decide +kernel
theorem dL_law_477 : decode cL_law 477 = .ok (.aload_n 0, 1) := by decide +kernel
theorem dL_law_478 : decode cL_law 478 = .ok (.iload 4, 2) := by decide +kernel
theorem dL_law_480 : decode cL_law 480 = .ok (.iconst 1, 1) := by decide +kernel
theorem dL_law_481 : decode cL_law 481 = .ok (.iadd, 1) := by decide +kernel
theorem dL_law_482 : decode cL_law 482 = .ok (.iaload, 1) := by decide +kernel
theorem dL_law_483 : decode cL_law 483 = .ok (.invokevirtual 99, 3) := by decide +kernel
theorem dL_law_486 : decode cL_law 486 = .ok (.istore 6, 2) := by decide +kernel
theorem dL_law_488 : decode cL_law 488 = .ok (.aload_n 2, 1) := by decide +kernel
theorem dL_law_489 : decode cL_law 489 = .ok (.invokevirtual 82, 3) := by decide +kernel
theorem dL_law_492 : decode cL_law 492 = .ok (.iload 5, 2) := by decide +kernel
theorem dL_law_494 : decode cL_law 494 = .ok (.if_icmp .eq 5, 3) := by decide +kernel
theorem dL_law_497 : decode cL_law 497 = .ok (.iconst 0, 1) := by decide +kernel
theorem dL_law_498 : decode cL_law 498 = .ok (.ireturn, 1) := by decide +kernel
theorem dL_law_499 : decode cL_law 499 = .ok (.iload 5, 2) := by decide +kernel
theorem dL_law_501 : decode cL_law 501 = .ok (.ifCond .ne 15, 3) := by decide +kernel
theorem dL_law_504 : decode cL_law 504 = .ok (.aload_n 3, 1) := by decide +kernel
theorem dL_law_505 : decode cL_law 505 = .ok (.iconst 0, 1) := by decide +kernel
theorem dL_law_506 : decode cL_law 506 = .ok (.laload, 1) := by decide +kernel
theorem dL_law_507 : decode cL_law 507 = .ok (.iload 6, 2) := by decide +kernel
theorem dL_law_509 : decode cL_law 509 = .ok (.i2l, 1) := by decide +kernel
theorem dL_law_510 : decode cL_law 510 = .ok (.lcmp, 1) := by decide +kernel
theorem dL_law_511 : decode cL_law 511 = .ok (.ifCond .eq 5, 3) := by decide +kernel
theorem dL_law_514 : decode cL_law 514 = .ok (.iconst 0, 1) := by decide +kernel
theorem dL_law_515 : decode cL_law 515 = .ok (.ireturn, 1) := by decide +kernel
theorem dL_law_516 : decode cL_law 516 = .ok (.goto 839, 3) := by decide +kernel
theorem dL_law_519 : decode cL_law 519 = .ok (.aload_n 1, 1) := by decide +kernel
theorem dL_law_520 : decode cL_law 520 = .ok (.aload_n 3, 1) := by decide +kernel
theorem dL_law_521 : decode cL_law 521 = .ok (.invokestatic 100, 3) := by decide +kernel
theorem dL_law_524 : decode cL_law 524 = .ok (.istore 5, 2) := by decide +kernel
theorem dL_law_526 : decode cL_law 526 = .ok (.aload_n 2, 1) := by decide +kernel
theorem dL_law_527 : decode cL_law 527 = .ok (.invokevirtual 103, 3) := by decide +kernel
theorem dL_law_530 : decode cL_law 530 = .ok (.istore 6, 2) := by decide +kernel
theorem dL_law_532 : decode cL_law 532 = .ok (.aload_n 2, 1) := by decide +kernel
theorem dL_law_533 : decode cL_law 533 = .ok (.invokevirtual 82, 3) := by decide +kernel
theorem dL_law_536 : decode cL_law 536 = .ok (.iload 5, 2) := by decide +kernel
theorem dL_law_538 : decode cL_law 538 = .ok (.if_icmp .eq 5, 3) := by decide +kernel
theorem dL_law_541 : decode cL_law 541 = .ok (.iconst 0, 1) := by decide +kernel
theorem dL_law_542 : decode cL_law 542 = .ok (.ireturn, 1) := by decide +kernel
theorem dL_law_543 : decode cL_law 543 = .ok (.iload 5, 2) := by decide +kernel
theorem dL_law_545 : decode cL_law 545 = .ok (.ifCond .ne 15, 3) := by decide +kernel
theorem dL_law_548 : decode cL_law 548 = .ok (.aload_n 3, 1) := by decide +kernel
theorem dL_law_549 : decode cL_law 549 = .ok (.iconst 0, 1) := by decide +kernel
theorem dL_law_550 : decode cL_law 550 = .ok (.laload, 1) := by decide +kernel
theorem dL_law_551 : decode cL_law 551 = .ok (.iload 6, 2) := by decide +kernel
theorem dL_law_553 : decode cL_law 553 = .ok (.i2l, 1) := by decide +kernel
theorem dL_law_554 : decode cL_law 554 = .ok (.lcmp, 1) := by decide +kernel
theorem dL_law_555 : decode cL_law 555 = .ok (.ifCond .eq 5, 3) := by decide +kernel
theorem dL_law_558 : decode cL_law 558 = .ok (.iconst 0, 1) := by decide +kernel
theorem dL_law_559 : decode cL_law 559 = .ok (.ireturn, 1) := by decide +kernel
theorem dL_law_560 : decode cL_law 560 = .ok (.goto 795, 3) := by decide +kernel
theorem dL_law_563 : decode cL_law 563 = .ok (.aload_n 1, 1) := by decide +kernel
theorem dL_law_564 : decode cL_law 564 = .ok (.aload_n 0, 1) := by decide +kernel
theorem dL_law_565 : decode cL_law 565 = .ok (.iload 4, 2) := by decide +kernel
theorem dL_law_567 : decode cL_law 567 = .ok (.iconst 1, 1) := by decide +kernel
theorem dL_law_568 : decode cL_law 568 = .ok (.iadd, 1) := by decide +kernel
theorem dL_law_569 : decode cL_law 569 = .ok (.iaload, 1) := by decide +kernel
theorem dL_law_570 : decode cL_law 570 = .ok (.aload_n 0, 1) := by decide +kernel
theorem dL_law_571 : decode cL_law 571 = .ok (.iload 4, 2) := by decide +kernel
theorem dL_law_573 : decode cL_law 573 = .ok (.iconst 2, 1) := by decide +kernel
theorem dL_law_574 : decode cL_law 574 = .ok (.iadd, 1) := by decide +kernel
theorem dL_law_575 : decode cL_law 575 = .ok (.iaload, 1) := by decide +kernel
theorem dL_law_576 : decode cL_law 576 = .ok (.aload_n 3, 1) := by decide +kernel
theorem dL_law_577 : decode cL_law 577 = .ok (.invokestatic 104, 3) := by decide +kernel
theorem dL_law_580 : decode cL_law 580 = .ok (.istore 5, 2) := by decide +kernel
theorem dL_law_582 : decode cL_law 582 = .ok (.aload_n 2, 1) := by decide +kernel
theorem dL_law_583 : decode cL_law 583 = .ok (.aload_n 0, 1) := by decide +kernel
theorem dL_law_584 : decode cL_law 584 = .ok (.iload 4, 2) := by decide +kernel
theorem dL_law_586 : decode cL_law 586 = .ok (.iconst 1, 1) := by decide +kernel
theorem dL_law_587 : decode cL_law 587 = .ok (.iadd, 1) := by decide +kernel
theorem dL_law_588 : decode cL_law 588 = .ok (.iaload, 1) := by decide +kernel
theorem dL_law_589 : decode cL_law 589 = .ok (.aload_n 0, 1) := by decide +kernel
theorem dL_law_590 : decode cL_law 590 = .ok (.iload 4, 2) := by decide +kernel
theorem dL_law_592 : decode cL_law 592 = .ok (.iconst 2, 1) := by decide +kernel
theorem dL_law_593 : decode cL_law 593 = .ok (.iadd, 1) := by decide +kernel
theorem dL_law_594 : decode cL_law 594 = .ok (.iaload, 1) := by decide +kernel
theorem dL_law_595 : decode cL_law 595 = .ok (.invokevirtual 106, 3) := by decide +kernel
theorem dL_law_598 : decode cL_law 598 = .ok (.istore 6, 2) := by decide +kernel
theorem dL_law_600 : decode cL_law 600 = .ok (.aload_n 2, 1) := by decide +kernel
theorem dL_law_601 : decode cL_law 601 = .ok (.invokevirtual 82, 3) := by decide +kernel
theorem dL_law_604 : decode cL_law 604 = .ok (.iload 5, 2) := by decide +kernel
theorem dL_law_606 : decode cL_law 606 = .ok (.if_icmp .eq 5, 3) := by decide +kernel
theorem dL_law_609 : decode cL_law 609 = .ok (.iconst 0, 1) := by decide +kernel
theorem dL_law_610 : decode cL_law 610 = .ok (.ireturn, 1) := by decide +kernel
theorem dL_law_611 : decode cL_law 611 = .ok (.iload 5, 2) := by decide +kernel
theorem dL_law_613 : decode cL_law 613 = .ok (.ifCond .ne 15, 3) := by decide +kernel
theorem dL_law_616 : decode cL_law 616 = .ok (.aload_n 3, 1) := by decide +kernel
theorem dL_law_617 : decode cL_law 617 = .ok (.iconst 0, 1) := by decide +kernel
theorem dL_law_618 : decode cL_law 618 = .ok (.laload, 1) := by decide +kernel
theorem dL_law_619 : decode cL_law 619 = .ok (.iload 6, 2) := by decide +kernel
theorem dL_law_621 : decode cL_law 621 = .ok (.i2l, 1) := by decide +kernel
theorem dL_law_622 : decode cL_law 622 = .ok (.lcmp, 1) := by decide +kernel
theorem dL_law_623 : decode cL_law 623 = .ok (.ifCond .eq 5, 3) := by decide +kernel
theorem dL_law_626 : decode cL_law 626 = .ok (.iconst 0, 1) := by decide +kernel
theorem dL_law_627 : decode cL_law 627 = .ok (.ireturn, 1) := by decide +kernel
theorem dL_law_628 : decode cL_law 628 = .ok (.goto 727, 3) := by decide +kernel
theorem dL_law_631 : decode cL_law 631 = .ok (.aload_n 1, 1) := by decide +kernel
theorem dL_law_632 : decode cL_law 632 = .ok (.aload_n 0, 1) := by decide +kernel
theorem dL_law_633 : decode cL_law 633 = .ok (.iload 4, 2) := by decide +kernel
theorem dL_law_635 : decode cL_law 635 = .ok (.iconst 1, 1) := by decide +kernel
theorem dL_law_636 : decode cL_law 636 = .ok (.iadd, 1) := by decide +kernel
theorem dL_law_637 : decode cL_law 637 = .ok (.iaload, 1) := by decide +kernel
theorem dL_law_638 : decode cL_law 638 = .ok (.aload_n 3, 1) := by decide +kernel
theorem dL_law_639 : decode cL_law 639 = .ok (.invokestatic 107, 3) := by decide +kernel
theorem dL_law_642 : decode cL_law 642 = .ok (.istore 5, 2) := by decide +kernel
theorem dL_law_644 : decode cL_law 644 = .ok (.aload_n 2, 1) := by decide +kernel
theorem dL_law_645 : decode cL_law 645 = .ok (.aload_n 0, 1) := by decide +kernel
theorem dL_law_646 : decode cL_law 646 = .ok (.iload 4, 2) := by decide +kernel
theorem dL_law_648 : decode cL_law 648 = .ok (.iconst 1, 1) := by decide +kernel
theorem dL_law_649 : decode cL_law 649 = .ok (.iadd, 1) := by decide +kernel
theorem dL_law_650 : decode cL_law 650 = .ok (.iaload, 1) := by decide +kernel
theorem dL_law_651 : decode cL_law 651 = .ok (.invokevirtual 109, 3) := by decide +kernel
theorem dL_law_654 : decode cL_law 654 = .ok (.istore 6, 2) := by decide +kernel
theorem dL_law_656 : decode cL_law 656 = .ok (.aload_n 2, 1) := by decide +kernel
theorem dL_law_657 : decode cL_law 657 = .ok (.invokevirtual 82, 3) := by decide +kernel
theorem dL_law_660 : decode cL_law 660 = .ok (.iload 5, 2) := by decide +kernel
theorem dL_law_662 : decode cL_law 662 = .ok (.if_icmp .eq 5, 3) := by decide +kernel
theorem dL_law_665 : decode cL_law 665 = .ok (.iconst 0, 1) := by decide +kernel
theorem dL_law_666 : decode cL_law 666 = .ok (.ireturn, 1) := by decide +kernel
theorem dL_law_667 : decode cL_law 667 = .ok (.iload 5, 2) := by decide +kernel
theorem dL_law_669 : decode cL_law 669 = .ok (.ifCond .ne 15, 3) := by decide +kernel
theorem dL_law_672 : decode cL_law 672 = .ok (.aload_n 3, 1) := by decide +kernel
theorem dL_law_673 : decode cL_law 673 = .ok (.iconst 0, 1) := by decide +kernel
theorem dL_law_674 : decode cL_law 674 = .ok (.laload, 1) := by decide +kernel
theorem dL_law_675 : decode cL_law 675 = .ok (.iload 6, 2) := by decide +kernel
theorem dL_law_677 : decode cL_law 677 = .ok (.i2l, 1) := by decide +kernel
theorem dL_law_678 : decode cL_law 678 = .ok (.lcmp, 1) := by decide +kernel
theorem dL_law_679 : decode cL_law 679 = .ok (.ifCond .eq 5, 3) := by decide +kernel
theorem dL_law_682 : decode cL_law 682 = .ok (.iconst 0, 1) := by decide +kernel
theorem dL_law_683 : decode cL_law 683 = .ok (.ireturn, 1) := by decide +kernel
theorem dL_law_684 : decode cL_law 684 = .ok (.goto 671, 3) := by decide +kernel
theorem dL_law_687 : decode cL_law 687 = .ok (.aload_n 1, 1) := by decide +kernel
theorem dL_law_688 : decode cL_law 688 = .ok (.invokevirtual 110, 3) := by decide +kernel
theorem dL_law_691 : decode cL_law 691 = .ok (.aload_n 2, 1) := by decide +kernel
theorem dL_law_692 : decode cL_law 692 = .ok (.invokevirtual 113, 3) := by decide +kernel
theorem dL_law_695 : decode cL_law 695 = .ok (.if_icmp .eq 660, 3) := by decide +kernel
theorem dL_law_698 : decode cL_law 698 = .ok (.iconst 0, 1) := by decide +kernel
theorem dL_law_699 : decode cL_law 699 = .ok (.ireturn, 1) := by decide +kernel
theorem dL_law_700 : decode cL_law 700 = .ok (.aload_n 1, 1) := by decide +kernel
theorem dL_law_701 : decode cL_law 701 = .ok (.invokevirtual 114, 3) := by decide +kernel
theorem dL_law_704 : decode cL_law 704 = .ok (.aload_n 2, 1) := by decide +kernel
theorem dL_law_705 : decode cL_law 705 = .ok (.invokevirtual 117, 3) := by decide +kernel
theorem dL_law_708 : decode cL_law 708 = .ok (.if_icmp .eq 647, 3) := by decide +kernel
theorem dL_law_711 : decode cL_law 711 = .ok (.iconst 0, 1) := by decide +kernel
theorem dL_law_712 : decode cL_law 712 = .ok (.ireturn, 1) := by decide +kernel
theorem dL_law_713 : decode cL_law 713 = .ok (.aload_n 1, 1) := by decide +kernel
theorem dL_law_714 : decode cL_law 714 = .ok (.aload_n 3, 1) := by decide +kernel
theorem dL_law_715 : decode cL_law 715 = .ok (.invokestatic 118, 3) := by decide +kernel
theorem dL_law_718 : decode cL_law 718 = .ok (.istore 5, 2) := by decide +kernel
theorem dL_law_720 : decode cL_law 720 = .ok (.aload_n 2, 1) := by decide +kernel
theorem dL_law_721 : decode cL_law 721 = .ok (.invokevirtual 120, 3) := by decide +kernel
theorem dL_law_724 : decode cL_law 724 = .ok (.istore 6, 2) := by decide +kernel
theorem dL_law_726 : decode cL_law 726 = .ok (.aload_n 2, 1) := by decide +kernel
theorem dL_law_727 : decode cL_law 727 = .ok (.invokevirtual 82, 3) := by decide +kernel
theorem dL_law_730 : decode cL_law 730 = .ok (.iload 5, 2) := by decide +kernel
theorem dL_law_732 : decode cL_law 732 = .ok (.if_icmp .eq 5, 3) := by decide +kernel
theorem dL_law_735 : decode cL_law 735 = .ok (.iconst 0, 1) := by decide +kernel
theorem dL_law_736 : decode cL_law 736 = .ok (.ireturn, 1) := by decide +kernel
theorem dL_law_737 : decode cL_law 737 = .ok (.iload 5, 2) := by decide +kernel
theorem dL_law_739 : decode cL_law 739 = .ok (.ifCond .ne 15, 3) := by decide +kernel
theorem dL_law_742 : decode cL_law 742 = .ok (.aload_n 3, 1) := by decide +kernel
theorem dL_law_743 : decode cL_law 743 = .ok (.iconst 0, 1) := by decide +kernel
theorem dL_law_744 : decode cL_law 744 = .ok (.laload, 1) := by decide +kernel
theorem dL_law_745 : decode cL_law 745 = .ok (.iload 6, 2) := by decide +kernel
theorem dL_law_747 : decode cL_law 747 = .ok (.i2l, 1) := by decide +kernel
theorem dL_law_748 : decode cL_law 748 = .ok (.lcmp, 1) := by decide +kernel
theorem dL_law_749 : decode cL_law 749 = .ok (.ifCond .eq 5, 3) := by decide +kernel
theorem dL_law_752 : decode cL_law 752 = .ok (.iconst 0, 1) := by decide +kernel
theorem dL_law_753 : decode cL_law 753 = .ok (.ireturn, 1) := by decide +kernel
theorem dL_law_754 : decode cL_law 754 = .ok (.goto 601, 3) := by decide +kernel
theorem dL_law_757 : decode cL_law 757 = .ok (.aload_n 1, 1) := by decide +kernel
theorem dL_law_758 : decode cL_law 758 = .ok (.aload_n 3, 1) := by decide +kernel
theorem dL_law_759 : decode cL_law 759 = .ok (.invokestatic 121, 3) := by decide +kernel
theorem dL_law_762 : decode cL_law 762 = .ok (.istore 5, 2) := by decide +kernel
theorem dL_law_764 : decode cL_law 764 = .ok (.aload_n 2, 1) := by decide +kernel
theorem dL_law_765 : decode cL_law 765 = .ok (.invokevirtual 123, 3) := by decide +kernel
theorem dL_law_768 : decode cL_law 768 = .ok (.istore 6, 2) := by decide +kernel
theorem dL_law_770 : decode cL_law 770 = .ok (.aload_n 2, 1) := by decide +kernel
theorem dL_law_771 : decode cL_law 771 = .ok (.invokevirtual 82, 3) := by decide +kernel
theorem dL_law_774 : decode cL_law 774 = .ok (.iload 5, 2) := by decide +kernel
theorem dL_law_776 : decode cL_law 776 = .ok (.if_icmp .eq 5, 3) := by decide +kernel
theorem dL_law_779 : decode cL_law 779 = .ok (.iconst 0, 1) := by decide +kernel
theorem dL_law_780 : decode cL_law 780 = .ok (.ireturn, 1) := by decide +kernel
theorem dL_law_781 : decode cL_law 781 = .ok (.iload 5, 2) := by decide +kernel
theorem dL_law_783 : decode cL_law 783 = .ok (.ifCond .ne 15, 3) := by decide +kernel
theorem dL_law_786 : decode cL_law 786 = .ok (.aload_n 3, 1) := by decide +kernel
theorem dL_law_787 : decode cL_law 787 = .ok (.iconst 0, 1) := by decide +kernel
theorem dL_law_788 : decode cL_law 788 = .ok (.laload, 1) := by decide +kernel
theorem dL_law_789 : decode cL_law 789 = .ok (.iload 6, 2) := by decide +kernel
theorem dL_law_791 : decode cL_law 791 = .ok (.i2l, 1) := by decide +kernel
theorem dL_law_792 : decode cL_law 792 = .ok (.lcmp, 1) := by decide +kernel
theorem dL_law_793 : decode cL_law 793 = .ok (.ifCond .eq 5, 3) := by decide +kernel
theorem dL_law_796 : decode cL_law 796 = .ok (.iconst 0, 1) := by decide +kernel
theorem dL_law_797 : decode cL_law 797 = .ok (.ireturn, 1) := by decide +kernel
theorem dL_law_798 : decode cL_law 798 = .ok (.goto 557, 3) := by decide +kernel
theorem dL_law_801 : decode cL_law 801 = .ok (.aload_n 1, 1) := by decide +kernel
theorem dL_law_802 : decode cL_law 802 = .ok (.aload_n 0, 1) := by decide +kernel
theorem dL_law_803 : decode cL_law 803 = .ok (.iload 4, 2) := by decide +kernel
theorem dL_law_805 : decode cL_law 805 = .ok (.iconst 1, 1) := by decide +kernel
theorem dL_law_806 : decode cL_law 806 = .ok (.iadd, 1) := by decide +kernel
theorem dL_law_807 : decode cL_law 807 = .ok (.iaload, 1) := by decide +kernel
theorem dL_law_808 : decode cL_law 808 = .ok (.aload_n 0, 1) := by decide +kernel
theorem dL_law_809 : decode cL_law 809 = .ok (.iload 4, 2) := by decide +kernel
theorem dL_law_811 : decode cL_law 811 = .ok (.iconst 2, 1) := by decide +kernel
theorem dL_law_812 : decode cL_law 812 = .ok (.iadd, 1) := by decide +kernel
theorem dL_law_813 : decode cL_law 813 = .ok (.iaload, 1) := by decide +kernel
theorem dL_law_814 : decode cL_law 814 = .ok (.aload_n 3, 1) := by decide +kernel
theorem dL_law_815 : decode cL_law 815 = .ok (.invokestatic 124, 3) := by decide +kernel
theorem dL_law_818 : decode cL_law 818 = .ok (.istore 5, 2) := by decide +kernel
theorem dL_law_820 : decode cL_law 820 = .ok (.aload_n 2, 1) := by decide +kernel
theorem dL_law_821 : decode cL_law 821 = .ok (.aload_n 0, 1) := by decide +kernel
theorem dL_law_822 : decode cL_law 822 = .ok (.iload 4, 2) := by decide +kernel
theorem dL_law_824 : decode cL_law 824 = .ok (.iconst 1, 1) := by decide +kernel
theorem dL_law_825 : decode cL_law 825 = .ok (.iadd, 1) := by decide +kernel
theorem dL_law_826 : decode cL_law 826 = .ok (.iaload, 1) := by decide +kernel
theorem dL_law_827 : decode cL_law 827 = .ok (.aload_n 0, 1) := by decide +kernel
theorem dL_law_828 : decode cL_law 828 = .ok (.iload 4, 2) := by decide +kernel
theorem dL_law_830 : decode cL_law 830 = .ok (.iconst 2, 1) := by decide +kernel
theorem dL_law_831 : decode cL_law 831 = .ok (.iadd, 1) := by decide +kernel
theorem dL_law_832 : decode cL_law 832 = .ok (.iaload, 1) := by decide +kernel
theorem dL_law_833 : decode cL_law 833 = .ok (.invokevirtual 126, 3) := by decide +kernel
theorem dL_law_836 : decode cL_law 836 = .ok (.istore 6, 2) := by decide +kernel
theorem dL_law_838 : decode cL_law 838 = .ok (.aload_n 2, 1) := by decide +kernel
theorem dL_law_839 : decode cL_law 839 = .ok (.invokevirtual 82, 3) := by decide +kernel
theorem dL_law_842 : decode cL_law 842 = .ok (.iload 5, 2) := by decide +kernel
theorem dL_law_844 : decode cL_law 844 = .ok (.if_icmp .eq 5, 3) := by decide +kernel
theorem dL_law_847 : decode cL_law 847 = .ok (.iconst 0, 1) := by decide +kernel
theorem dL_law_848 : decode cL_law 848 = .ok (.ireturn, 1) := by decide +kernel
theorem dL_law_849 : decode cL_law 849 = .ok (.iload 5, 2) := by decide +kernel
theorem dL_law_851 : decode cL_law 851 = .ok (.ifCond .ne 15, 3) := by decide +kernel
theorem dL_law_854 : decode cL_law 854 = .ok (.aload_n 3, 1) := by decide +kernel
theorem dL_law_855 : decode cL_law 855 = .ok (.iconst 0, 1) := by decide +kernel
theorem dL_law_856 : decode cL_law 856 = .ok (.laload, 1) := by decide +kernel
theorem dL_law_857 : decode cL_law 857 = .ok (.iload 6, 2) := by decide +kernel
theorem dL_law_859 : decode cL_law 859 = .ok (.i2l, 1) := by decide +kernel
theorem dL_law_860 : decode cL_law 860 = .ok (.lcmp, 1) := by decide +kernel
theorem dL_law_861 : decode cL_law 861 = .ok (.ifCond .eq 5, 3) := by decide +kernel
theorem dL_law_864 : decode cL_law 864 = .ok (.iconst 0, 1) := by decide +kernel
theorem dL_law_865 : decode cL_law 865 = .ok (.ireturn, 1) := by decide +kernel
theorem dL_law_866 : decode cL_law 866 = .ok (.goto 489, 3) := by decide +kernel
theorem dL_law_869 : decode cL_law 869 = .ok (.aload_n 1, 1) := by decide +kernel
theorem dL_law_870 : decode cL_law 870 = .ok (.aload_n 0, 1) := by decide +kernel
theorem dL_law_871 : decode cL_law 871 = .ok (.iload 4, 2) := by decide +kernel
theorem dL_law_873 : decode cL_law 873 = .ok (.iconst 1, 1) := by decide +kernel
theorem dL_law_874 : decode cL_law 874 = .ok (.iadd, 1) := by decide +kernel
theorem dL_law_875 : decode cL_law 875 = .ok (.iaload, 1) := by decide +kernel
theorem dL_law_876 : decode cL_law 876 = .ok (.aload_n 3, 1) := by decide +kernel
theorem dL_law_877 : decode cL_law 877 = .ok (.invokestatic 127, 3) := by decide +kernel
theorem dL_law_880 : decode cL_law 880 = .ok (.istore 5, 2) := by decide +kernel
theorem dL_law_882 : decode cL_law 882 = .ok (.aload_n 2, 1) := by decide +kernel
theorem dL_law_883 : decode cL_law 883 = .ok (.aload_n 0, 1) := by decide +kernel
theorem dL_law_884 : decode cL_law 884 = .ok (.iload 4, 2) := by decide +kernel
theorem dL_law_886 : decode cL_law 886 = .ok (.iconst 1, 1) := by decide +kernel
theorem dL_law_887 : decode cL_law 887 = .ok (.iadd, 1) := by decide +kernel
theorem dL_law_888 : decode cL_law 888 = .ok (.iaload, 1) := by decide +kernel
theorem dL_law_889 : decode cL_law 889 = .ok (.invokevirtual 129, 3) := by decide +kernel
theorem dL_law_892 : decode cL_law 892 = .ok (.istore 6, 2) := by decide +kernel
theorem dL_law_894 : decode cL_law 894 = .ok (.aload_n 2, 1) := by decide +kernel
theorem dL_law_895 : decode cL_law 895 = .ok (.invokevirtual 82, 3) := by decide +kernel
theorem dL_law_898 : decode cL_law 898 = .ok (.iload 5, 2) := by decide +kernel
theorem dL_law_900 : decode cL_law 900 = .ok (.if_icmp .eq 5, 3) := by decide +kernel
theorem dL_law_903 : decode cL_law 903 = .ok (.iconst 0, 1) := by decide +kernel
theorem dL_law_904 : decode cL_law 904 = .ok (.ireturn, 1) := by decide +kernel
theorem dL_law_905 : decode cL_law 905 = .ok (.iload 5, 2) := by decide +kernel
theorem dL_law_907 : decode cL_law 907 = .ok (.ifCond .ne 15, 3) := by decide +kernel
theorem dL_law_910 : decode cL_law 910 = .ok (.aload_n 3, 1) := by decide +kernel
theorem dL_law_911 : decode cL_law 911 = .ok (.iconst 0, 1) := by decide +kernel
theorem dL_law_912 : decode cL_law 912 = .ok (.laload, 1) := by decide +kernel
theorem dL_law_913 : decode cL_law 913 = .ok (.iload 6, 2) := by decide +kernel
theorem dL_law_915 : decode cL_law 915 = .ok (.i2l, 1) := by decide +kernel
theorem dL_law_916 : decode cL_law 916 = .ok (.lcmp, 1) := by decide +kernel
theorem dL_law_917 : decode cL_law 917 = .ok (.ifCond .eq 5, 3) := by decide +kernel
theorem dL_law_920 : decode cL_law 920 = .ok (.iconst 0, 1) := by decide +kernel
theorem dL_law_921 : decode cL_law 921 = .ok (.ireturn, 1) := by decide +kernel
theorem dL_law_922 : decode cL_law 922 = .ok (.goto 433, 3) := by decide +kernel
theorem dL_law_925 : decode cL_law 925 = .ok (.aload_n 1, 1) := by decide +kernel
theorem dL_law_926 : decode cL_law 926 = .ok (.invokevirtual 130, 3) := by decide +kernel
theorem dL_law_929 : decode cL_law 929 = .ok (.aload_n 2, 1) := by decide +kernel
theorem dL_law_930 : decode cL_law 930 = .ok (.invokevirtual 133, 3) := by decide +kernel
theorem dL_law_933 : decode cL_law 933 = .ok (.if_icmp .eq 422, 3) := by decide +kernel
theorem dL_law_936 : decode cL_law 936 = .ok (.iconst 0, 1) := by decide +kernel
theorem dL_law_937 : decode cL_law 937 = .ok (.ireturn, 1) := by decide +kernel
theorem dL_law_938 : decode cL_law 938 = .ok (.aload_n 1, 1) := by decide +kernel
theorem dL_law_939 : decode cL_law 939 = .ok (.invokevirtual 134, 3) := by decide +kernel
theorem dL_law_942 : decode cL_law 942 = .ok (.aload_n 2, 1) := by decide +kernel
theorem dL_law_943 : decode cL_law 943 = .ok (.invokevirtual 137, 3) := by decide +kernel
theorem dL_law_946 : decode cL_law 946 = .ok (.if_icmp .eq 409, 3) := by decide +kernel
theorem dL_law_949 : decode cL_law 949 = .ok (.iconst 0, 1) := by decide +kernel
theorem dL_law_950 : decode cL_law 950 = .ok (.ireturn, 1) := by decide +kernel
theorem dL_law_951 : decode cL_law 951 = .ok (.aload_n 1, 1) := by decide +kernel
theorem dL_law_952 : decode cL_law 952 = .ok (.aload_n 0, 1) := by decide +kernel
theorem dL_law_953 : decode cL_law 953 = .ok (.iload 4, 2) := by decide +kernel
theorem dL_law_955 : decode cL_law 955 = .ok (.iconst 1, 1) := by decide +kernel
theorem dL_law_956 : decode cL_law 956 = .ok (.iadd, 1) := by decide +kernel
theorem dL_law_957 : decode cL_law 957 = .ok (.iaload, 1) := by decide +kernel
theorem dL_law_958 : decode cL_law 958 = .ok (.aload_n 0, 1) := by decide +kernel
theorem dL_law_959 : decode cL_law 959 = .ok (.iload 4, 2) := by decide +kernel
theorem dL_law_961 : decode cL_law 961 = .ok (.iconst 2, 1) := by decide +kernel
theorem dL_law_962 : decode cL_law 962 = .ok (.iadd, 1) := by decide +kernel
theorem dL_law_963 : decode cL_law 963 = .ok (.iaload, 1) := by decide +kernel
theorem dL_law_964 : decode cL_law 964 = .ok (.aload_n 3, 1) := by decide +kernel
theorem dL_law_965 : decode cL_law 965 = .ok (.invokestatic 138, 3) := by decide +kernel
theorem dL_law_968 : decode cL_law 968 = .ok (.istore 5, 2) := by decide +kernel
theorem dL_law_970 : decode cL_law 970 = .ok (.aload_n 2, 1) := by decide +kernel
theorem dL_law_971 : decode cL_law 971 = .ok (.aload_n 0, 1) := by decide +kernel
theorem dL_law_972 : decode cL_law 972 = .ok (.iload 4, 2) := by decide +kernel
theorem dL_law_974 : decode cL_law 974 = .ok (.iconst 1, 1) := by decide +kernel
theorem dL_law_975 : decode cL_law 975 = .ok (.iadd, 1) := by decide +kernel
theorem dL_law_976 : decode cL_law 976 = .ok (.iaload, 1) := by decide +kernel
theorem dL_law_977 : decode cL_law 977 = .ok (.aload_n 0, 1) := by decide +kernel
theorem dL_law_978 : decode cL_law 978 = .ok (.iload 4, 2) := by decide +kernel
theorem dL_law_980 : decode cL_law 980 = .ok (.iconst 2, 1) := by decide +kernel
theorem dL_law_981 : decode cL_law 981 = .ok (.iadd, 1) := by decide +kernel
theorem dL_law_982 : decode cL_law 982 = .ok (.iaload, 1) := by decide +kernel
theorem dL_law_983 : decode cL_law 983 = .ok (.invokevirtual 140, 3) := by decide +kernel
theorem dL_law_986 : decode cL_law 986 = .ok (.istore 6, 2) := by decide +kernel
theorem dL_law_988 : decode cL_law 988 = .ok (.aload_n 2, 1) := by decide +kernel
theorem dL_law_989 : decode cL_law 989 = .ok (.invokevirtual 82, 3) := by decide +kernel
theorem dL_law_992 : decode cL_law 992 = .ok (.iload 5, 2) := by decide +kernel
theorem dL_law_994 : decode cL_law 994 = .ok (.if_icmp .eq 5, 3) := by decide +kernel
theorem dL_law_997 : decode cL_law 997 = .ok (.iconst 0, 1) := by decide +kernel
theorem dL_law_998 : decode cL_law 998 = .ok (.ireturn, 1) := by decide +kernel
theorem dL_law_999 : decode cL_law 999 = .ok (.iload 5, 2) := by decide +kernel
theorem dL_law_1001 : decode cL_law 1001 = .ok (.ifCond .ne 15, 3) := by decide +kernel
theorem dL_law_1004 : decode cL_law 1004 = .ok (.aload_n 3, 1) := by decide +kernel
theorem dL_law_1005 : decode cL_law 1005 = .ok (.iconst 0, 1) := by decide +kernel
theorem dL_law_1006 : decode cL_law 1006 = .ok (.laload, 1) := by decide +kernel
theorem dL_law_1007 : decode cL_law 1007 = .ok (.iload 6, 2) := by decide +kernel
theorem dL_law_1009 : decode cL_law 1009 = .ok (.i2l, 1) := by decide +kernel
theorem dL_law_1010 : decode cL_law 1010 = .ok (.lcmp, 1) := by decide +kernel
theorem dL_law_1011 : decode cL_law 1011 = .ok (.ifCond .eq 5, 3) := by decide +kernel
theorem dL_law_1014 : decode cL_law 1014 = .ok (.iconst 0, 1) := by decide +kernel
theorem dL_law_1015 : decode cL_law 1015 = .ok (.ireturn, 1) := by decide +kernel
theorem dL_law_1016 : decode cL_law 1016 = .ok (.goto 339, 3) := by decide +kernel
theorem dL_law_1019 : decode cL_law 1019 = .ok (.aload_n 1, 1) := by decide +kernel
theorem dL_law_1020 : decode cL_law 1020 = .ok (.aload_n 0, 1) := by decide +kernel
theorem dL_law_1021 : decode cL_law 1021 = .ok (.iload 4, 2) := by decide +kernel
theorem dL_law_1023 : decode cL_law 1023 = .ok (.iconst 1, 1) := by decide +kernel
theorem dL_law_1024 : decode cL_law 1024 = .ok (.iadd, 1) := by decide +kernel
theorem dL_law_1025 : decode cL_law 1025 = .ok (.iaload, 1) := by decide +kernel
theorem dL_law_1026 : decode cL_law 1026 = .ok (.aload_n 3, 1) := by decide +kernel
theorem dL_law_1027 : decode cL_law 1027 = .ok (.invokestatic 141, 3) := by decide +kernel
theorem dL_law_1030 : decode cL_law 1030 = .ok (.istore 5, 2) := by decide +kernel
theorem dL_law_1032 : decode cL_law 1032 = .ok (.aload_n 2, 1) := by decide +kernel
theorem dL_law_1033 : decode cL_law 1033 = .ok (.aload_n 0, 1) := by decide +kernel
theorem dL_law_1034 : decode cL_law 1034 = .ok (.iload 4, 2) := by decide +kernel
theorem dL_law_1036 : decode cL_law 1036 = .ok (.iconst 1, 1) := by decide +kernel
theorem dL_law_1037 : decode cL_law 1037 = .ok (.iadd, 1) := by decide +kernel
theorem dL_law_1038 : decode cL_law 1038 = .ok (.iaload, 1) := by decide +kernel
theorem dL_law_1039 : decode cL_law 1039 = .ok (.invokevirtual 143, 3) := by decide +kernel
theorem dL_law_1042 : decode cL_law 1042 = .ok (.istore 6, 2) := by decide +kernel
theorem dL_law_1044 : decode cL_law 1044 = .ok (.aload_n 2, 1) := by decide +kernel
theorem dL_law_1045 : decode cL_law 1045 = .ok (.invokevirtual 82, 3) := by decide +kernel
theorem dL_law_1048 : decode cL_law 1048 = .ok (.iload 5, 2) := by decide +kernel
theorem dL_law_1050 : decode cL_law 1050 = .ok (.if_icmp .eq 5, 3) := by decide +kernel
theorem dL_law_1053 : decode cL_law 1053 = .ok (.iconst 0, 1) := by decide +kernel
theorem dL_law_1054 : decode cL_law 1054 = .ok (.ireturn, 1) := by decide +kernel
theorem dL_law_1055 : decode cL_law 1055 = .ok (.iload 5, 2) := by decide +kernel
theorem dL_law_1057 : decode cL_law 1057 = .ok (.ifCond .ne 22, 3) := by decide +kernel
theorem dL_law_1060 : decode cL_law 1060 = .ok (.aload_n 3, 1) := by decide +kernel
theorem dL_law_1061 : decode cL_law 1061 = .ok (.iconst 0, 1) := by decide +kernel
theorem dL_law_1062 : decode cL_law 1062 = .ok (.laload, 1) := by decide +kernel
theorem dL_law_1063 : decode cL_law 1063 = .ok (.iload 6, 2) := by decide +kernel
theorem dL_law_1065 : decode cL_law 1065 = .ok (.ifCond .eq 7, 3) := by decide +kernel
theorem dL_law_1068 : decode cL_law 1068 = .ok (.lconst 1, 1) := by decide +kernel
theorem dL_law_1069 : decode cL_law 1069 = .ok (.goto 4, 3) := by decide +kernel
theorem dL_law_1072 : decode cL_law 1072 = .ok (.lconst 0, 1) := by decide +kernel
theorem dL_law_1073 : decode cL_law 1073 = .ok (.lcmp, 1) := by decide +kernel
theorem dL_law_1074 : decode cL_law 1074 = .ok (.ifCond .eq 5, 3) := by decide +kernel
theorem dL_law_1077 : decode cL_law 1077 = .ok (.iconst 0, 1) := by decide +kernel
theorem dL_law_1078 : decode cL_law 1078 = .ok (.ireturn, 1) := by decide +kernel
theorem dL_law_1079 : decode cL_law 1079 = .ok (.goto 276, 3) := by decide +kernel
theorem dL_law_1082 : decode cL_law 1082 = .ok (.aload_n 1, 1) := by decide +kernel
theorem dL_law_1083 : decode cL_law 1083 = .ok (.aload_n 0, 1) := by decide +kernel
theorem dL_law_1084 : decode cL_law 1084 = .ok (.iload 4, 2) := by decide +kernel
theorem dL_law_1086 : decode cL_law 1086 = .ok (.iconst 1, 1) := by decide +kernel
theorem dL_law_1087 : decode cL_law 1087 = .ok (.iadd, 1) := by decide +kernel
theorem dL_law_1088 : decode cL_law 1088 = .ok (.iaload, 1) := by decide +kernel
theorem dL_law_1089 : decode cL_law 1089 = .ok (.aload_n 0, 1) := by decide +kernel
theorem dL_law_1090 : decode cL_law 1090 = .ok (.iload 4, 2) := by decide +kernel
theorem dL_law_1092 : decode cL_law 1092 = .ok (.iconst 2, 1) := by decide +kernel
theorem dL_law_1093 : decode cL_law 1093 = .ok (.iadd, 1) := by decide +kernel
theorem dL_law_1094 : decode cL_law 1094 = .ok (.iaload, 1) := by decide +kernel
theorem dL_law_1095 : decode cL_law 1095 = .ok (.aload_n 3, 1) := by decide +kernel
theorem dL_law_1096 : decode cL_law 1096 = .ok (.invokestatic 144, 3) := by decide +kernel
theorem dL_law_1099 : decode cL_law 1099 = .ok (.istore 5, 2) := by decide +kernel
theorem dL_law_1101 : decode cL_law 1101 = .ok (.aload_n 2, 1) := by decide +kernel
theorem dL_law_1102 : decode cL_law 1102 = .ok (.aload_n 0, 1) := by decide +kernel
theorem dL_law_1103 : decode cL_law 1103 = .ok (.iload 4, 2) := by decide +kernel
theorem dL_law_1105 : decode cL_law 1105 = .ok (.iconst 1, 1) := by decide +kernel
theorem dL_law_1106 : decode cL_law 1106 = .ok (.iadd, 1) := by decide +kernel
theorem dL_law_1107 : decode cL_law 1107 = .ok (.iaload, 1) := by decide +kernel
theorem dL_law_1108 : decode cL_law 1108 = .ok (.aload_n 0, 1) := by decide +kernel
theorem dL_law_1109 : decode cL_law 1109 = .ok (.iload 4, 2) := by decide +kernel
theorem dL_law_1111 : decode cL_law 1111 = .ok (.iconst 2, 1) := by decide +kernel
theorem dL_law_1112 : decode cL_law 1112 = .ok (.iadd, 1) := by decide +kernel
theorem dL_law_1113 : decode cL_law 1113 = .ok (.iaload, 1) := by decide +kernel
theorem dL_law_1114 : decode cL_law 1114 = .ok (.invokevirtual 146, 3) := by decide +kernel
theorem dL_law_1117 : decode cL_law 1117 = .ok (.istore 6, 2) := by decide +kernel
theorem dL_law_1119 : decode cL_law 1119 = .ok (.aload_n 2, 1) := by decide +kernel
theorem dL_law_1120 : decode cL_law 1120 = .ok (.invokevirtual 82, 3) := by decide +kernel
theorem dL_law_1123 : decode cL_law 1123 = .ok (.iload 5, 2) := by decide +kernel
theorem dL_law_1125 : decode cL_law 1125 = .ok (.if_icmp .eq 5, 3) := by decide +kernel
theorem dL_law_1128 : decode cL_law 1128 = .ok (.iconst 0, 1) := by decide +kernel
theorem dL_law_1129 : decode cL_law 1129 = .ok (.ireturn, 1) := by decide +kernel
theorem dL_law_1130 : decode cL_law 1130 = .ok (.iload 5, 2) := by decide +kernel
theorem dL_law_1132 : decode cL_law 1132 = .ok (.ifCond .ne 15, 3) := by decide +kernel
theorem dL_law_1135 : decode cL_law 1135 = .ok (.aload_n 3, 1) := by decide +kernel
theorem dL_law_1136 : decode cL_law 1136 = .ok (.iconst 0, 1) := by decide +kernel
theorem dL_law_1137 : decode cL_law 1137 = .ok (.laload, 1) := by decide +kernel
theorem dL_law_1138 : decode cL_law 1138 = .ok (.iload 6, 2) := by decide +kernel
theorem dL_law_1140 : decode cL_law 1140 = .ok (.i2l, 1) := by decide +kernel
theorem dL_law_1141 : decode cL_law 1141 = .ok (.lcmp, 1) := by decide +kernel
theorem dL_law_1142 : decode cL_law 1142 = .ok (.ifCond .eq 5, 3) := by decide +kernel
theorem dL_law_1145 : decode cL_law 1145 = .ok (.iconst 0, 1) := by decide +kernel
theorem dL_law_1146 : decode cL_law 1146 = .ok (.ireturn, 1) := by decide +kernel
theorem dL_law_1147 : decode cL_law 1147 = .ok (.goto 208, 3) := by decide +kernel
theorem dL_law_1150 : decode cL_law 1150 = .ok (.aload_n 1, 1) := by decide +kernel
theorem dL_law_1151 : decode cL_law 1151 = .ok (.invokevirtual 147, 3) := by decide +kernel
theorem dL_law_1154 : decode cL_law 1154 = .ok (.aload_n 2, 1) := by decide +kernel
theorem dL_law_1155 : decode cL_law 1155 = .ok (.invokevirtual 150, 3) := by decide +kernel
theorem dL_law_1158 : decode cL_law 1158 = .ok (.if_icmp .eq 197, 3) := by decide +kernel
theorem dL_law_1161 : decode cL_law 1161 = .ok (.iconst 0, 1) := by decide +kernel
theorem dL_law_1162 : decode cL_law 1162 = .ok (.ireturn, 1) := by decide +kernel
theorem dL_law_1163 : decode cL_law 1163 = .ok (.aload_n 1, 1) := by decide +kernel
theorem dL_law_1164 : decode cL_law 1164 = .ok (.invokevirtual 151, 3) := by decide +kernel
theorem dL_law_1167 : decode cL_law 1167 = .ok (.aload_n 2, 1) := by decide +kernel
theorem dL_law_1168 : decode cL_law 1168 = .ok (.invokevirtual 154, 3) := by decide +kernel
theorem dL_law_1171 : decode cL_law 1171 = .ok (.if_icmp .eq 184, 3) := by decide +kernel
theorem dL_law_1174 : decode cL_law 1174 = .ok (.iconst 0, 1) := by decide +kernel
theorem dL_law_1175 : decode cL_law 1175 = .ok (.ireturn, 1) := by decide +kernel
theorem dL_law_1176 : decode cL_law 1176 = .ok (.aload_n 1, 1) := by decide +kernel
theorem dL_law_1177 : decode cL_law 1177 = .ok (.aload_n 0, 1) := by decide +kernel
theorem dL_law_1178 : decode cL_law 1178 = .ok (.iload 4, 2) := by decide +kernel
theorem dL_law_1180 : decode cL_law 1180 = .ok (.iconst 1, 1) := by decide +kernel
theorem dL_law_1181 : decode cL_law 1181 = .ok (.iadd, 1) := by decide +kernel
theorem dL_law_1182 : decode cL_law 1182 = .ok (.iaload, 1) := by decide +kernel
theorem dL_law_1183 : decode cL_law 1183 = .ok (.aload_n 3, 1) := by decide +kernel
theorem dL_law_1184 : decode cL_law 1184 = .ok (.invokestatic 155, 3) := by decide +kernel
theorem dL_law_1187 : decode cL_law 1187 = .ok (.istore 5, 2) := by decide +kernel
theorem dL_law_1189 : decode cL_law 1189 = .ok (.aload_n 2, 1) := by decide +kernel
theorem dL_law_1190 : decode cL_law 1190 = .ok (.aload_n 0, 1) := by decide +kernel
theorem dL_law_1191 : decode cL_law 1191 = .ok (.iload 4, 2) := by decide +kernel
theorem dL_law_1193 : decode cL_law 1193 = .ok (.iconst 1, 1) := by decide +kernel
theorem dL_law_1194 : decode cL_law 1194 = .ok (.iadd, 1) := by decide +kernel
theorem dL_law_1195 : decode cL_law 1195 = .ok (.iaload, 1) := by decide +kernel
theorem dL_law_1196 : decode cL_law 1196 = .ok (.invokevirtual 157, 3) := by decide +kernel
theorem dL_law_1199 : decode cL_law 1199 = .ok (.istore 6, 2) := by decide +kernel
theorem dL_law_1201 : decode cL_law 1201 = .ok (.aload_n 2, 1) := by decide +kernel
theorem dL_law_1202 : decode cL_law 1202 = .ok (.invokevirtual 82, 3) := by decide +kernel
theorem dL_law_1205 : decode cL_law 1205 = .ok (.iload 5, 2) := by decide +kernel
theorem dL_law_1207 : decode cL_law 1207 = .ok (.if_icmp .eq 5, 3) := by decide +kernel
theorem dL_law_1210 : decode cL_law 1210 = .ok (.iconst 0, 1) := by decide +kernel
theorem dL_law_1211 : decode cL_law 1211 = .ok (.ireturn, 1) := by decide +kernel
theorem dL_law_1212 : decode cL_law 1212 = .ok (.iload 5, 2) := by decide +kernel
theorem dL_law_1214 : decode cL_law 1214 = .ok (.ifCond .ne 15, 3) := by decide +kernel
theorem dL_law_1217 : decode cL_law 1217 = .ok (.aload_n 3, 1) := by decide +kernel
theorem dL_law_1218 : decode cL_law 1218 = .ok (.iconst 0, 1) := by decide +kernel
theorem dL_law_1219 : decode cL_law 1219 = .ok (.laload, 1) := by decide +kernel
theorem dL_law_1220 : decode cL_law 1220 = .ok (.iload 6, 2) := by decide +kernel
theorem dL_law_1222 : decode cL_law 1222 = .ok (.i2l, 1) := by decide +kernel
theorem dL_law_1223 : decode cL_law 1223 = .ok (.lcmp, 1) := by decide +kernel
theorem dL_law_1224 : decode cL_law 1224 = .ok (.ifCond .eq 5, 3) := by decide +kernel
theorem dL_law_1227 : decode cL_law 1227 = .ok (.iconst 0, 1) := by decide +kernel
theorem dL_law_1228 : decode cL_law 1228 = .ok (.ireturn, 1) := by decide +kernel
theorem dL_law_1229 : decode cL_law 1229 = .ok (.goto 126, 3) := by decide +kernel
theorem dL_law_1232 : decode cL_law 1232 = .ok (.aload_n 1, 1) := by decide +kernel
theorem dL_law_1233 : decode cL_law 1233 = .ok (.aload_n 0, 1) := by decide +kernel
theorem dL_law_1234 : decode cL_law 1234 = .ok (.iload 4, 2) := by decide +kernel
theorem dL_law_1236 : decode cL_law 1236 = .ok (.iconst 1, 1) := by decide +kernel
theorem dL_law_1237 : decode cL_law 1237 = .ok (.iadd, 1) := by decide +kernel
theorem dL_law_1238 : decode cL_law 1238 = .ok (.iaload, 1) := by decide +kernel
theorem dL_law_1239 : decode cL_law 1239 = .ok (.aload_n 3, 1) := by decide +kernel
theorem dL_law_1240 : decode cL_law 1240 = .ok (.invokestatic 158, 3) := by decide +kernel
theorem dL_law_1243 : decode cL_law 1243 = .ok (.istore 5, 2) := by decide +kernel
theorem dL_law_1245 : decode cL_law 1245 = .ok (.aload_n 2, 1) := by decide +kernel
theorem dL_law_1246 : decode cL_law 1246 = .ok (.aload_n 0, 1) := by decide +kernel
theorem dL_law_1247 : decode cL_law 1247 = .ok (.iload 4, 2) := by decide +kernel
theorem dL_law_1249 : decode cL_law 1249 = .ok (.iconst 1, 1) := by decide +kernel
theorem dL_law_1250 : decode cL_law 1250 = .ok (.iadd, 1) := by decide +kernel
theorem dL_law_1251 : decode cL_law 1251 = .ok (.iaload, 1) := by decide +kernel
theorem dL_law_1252 : decode cL_law 1252 = .ok (.invokevirtual 160, 3) := by decide +kernel
theorem dL_law_1255 : decode cL_law 1255 = .ok (.istore 6, 2) := by decide +kernel
theorem dL_law_1257 : decode cL_law 1257 = .ok (.aload_n 2, 1) := by decide +kernel
theorem dL_law_1258 : decode cL_law 1258 = .ok (.invokevirtual 82, 3) := by decide +kernel
theorem dL_law_1261 : decode cL_law 1261 = .ok (.iload 5, 2) := by decide +kernel
theorem dL_law_1263 : decode cL_law 1263 = .ok (.if_icmp .eq 5, 3) := by decide +kernel
theorem dL_law_1266 : decode cL_law 1266 = .ok (.iconst 0, 1) := by decide +kernel
theorem dL_law_1267 : decode cL_law 1267 = .ok (.ireturn, 1) := by decide +kernel
theorem dL_law_1268 : decode cL_law 1268 = .ok (.iload 5, 2) := by decide +kernel
theorem dL_law_1270 : decode cL_law 1270 = .ok (.ifCond .ne 15, 3) := by decide +kernel
theorem dL_law_1273 : decode cL_law 1273 = .ok (.aload_n 3, 1) := by decide +kernel
theorem dL_law_1274 : decode cL_law 1274 = .ok (.iconst 0, 1) := by decide +kernel
theorem dL_law_1275 : decode cL_law 1275 = .ok (.laload, 1) := by decide +kernel
theorem dL_law_1276 : decode cL_law 1276 = .ok (.iload 6, 2) := by decide +kernel
theorem dL_law_1278 : decode cL_law 1278 = .ok (.i2l, 1) := by decide +kernel
theorem dL_law_1279 : decode cL_law 1279 = .ok (.lcmp, 1) := by decide +kernel
theorem dL_law_1280 : decode cL_law 1280 = .ok (.ifCond .eq 5, 3) := by decide +kernel
theorem dL_law_1283 : decode cL_law 1283 = .ok (.iconst 0, 1) := by decide +kernel
theorem dL_law_1284 : decode cL_law 1284 = .ok (.ireturn, 1) := by decide +kernel
theorem dL_law_1285 : decode cL_law 1285 = .ok (.goto 70, 3) := by decide +kernel
theorem dL_law_1288 : decode cL_law 1288 = .ok (.aload_n 1, 1) := by decide +kernel
theorem dL_law_1289 : decode cL_law 1289 = .ok (.invokevirtual 161, 3) := by decide +kernel
theorem dL_law_1292 : decode cL_law 1292 = .ok (.dstore 5, 2) := by decide +kernel
theorem dL_law_1294 : decode cL_law 1294 = .ok (.aload_n 2, 1) := by decide +kernel
theorem dL_law_1295 : decode cL_law 1295 = .ok (.invokevirtual 165, 3) := by decide +kernel
theorem dL_law_1298 : decode cL_law 1298 = .ok (.dstore 7, 2) := by decide +kernel
theorem dL_law_1300 : decode cL_law 1300 = .ok (.dload 5, 2) := by decide +kernel
theorem dL_law_1302 : decode cL_law 1302 = .ok (.dload 7, 2) := by decide +kernel
theorem dL_law_1304 : decode cL_law 1304 = .ok (.dcmp .l, 1) := by decide +kernel
theorem dL_law_1305 : decode cL_law 1305 = .ok (.ifCond .eq 21, 3) := by decide +kernel
theorem dL_law_1308 : decode cL_law 1308 = .ok (.dload 5, 2) := by decide +kernel
theorem dL_law_1310 : decode cL_law 1310 = .ok (.dload 5, 2) := by decide +kernel
theorem dL_law_1312 : decode cL_law 1312 = .ok (.dcmp .l, 1) := by decide +kernel
theorem dL_law_1313 : decode cL_law 1313 = .ok (.ifCond .eq 11, 3) := by decide +kernel
theorem dL_law_1316 : decode cL_law 1316 = .ok (.dload 7, 2) := by decide +kernel
theorem dL_law_1318 : decode cL_law 1318 = .ok (.dload 7, 2) := by decide +kernel
theorem dL_law_1320 : decode cL_law 1320 = .ok (.dcmp .l, 1) := by decide +kernel
theorem dL_law_1321 : decode cL_law 1321 = .ok (.ifCond .ne 5, 3) := by decide +kernel
theorem dL_law_1324 : decode cL_law 1324 = .ok (.iconst 0, 1) := by decide +kernel
theorem dL_law_1325 : decode cL_law 1325 = .ok (.ireturn, 1) := by decide +kernel
theorem dL_law_1326 : decode cL_law 1326 = .ok (.goto 29, 3) := by decide +kernel
theorem dL_law_1329 : decode cL_law 1329 = .ok (.aload_n 1, 1) := by decide +kernel
theorem dL_law_1330 : decode cL_law 1330 = .ok (.invokevirtual 166, 3) := by decide +kernel
theorem dL_law_1333 : decode cL_law 1333 = .ok (.aload_n 2, 1) := by decide +kernel
theorem dL_law_1334 : decode cL_law 1334 = .ok (.invokevirtual 169, 3) := by decide +kernel
theorem dL_law_1337 : decode cL_law 1337 = .ok (.if_icmp .eq 18, 3) := by decide +kernel
theorem dL_law_1340 : decode cL_law 1340 = .ok (.iconst 0, 1) := by decide +kernel
theorem dL_law_1341 : decode cL_law 1341 = .ok (.ireturn, 1) := by decide +kernel
theorem dL_law_1342 : decode cL_law 1342 = .ok (.aload_n 1, 1) := by decide +kernel
theorem dL_law_1343 : decode cL_law 1343 = .ok (.invokevirtual 170, 3) := by decide +kernel
theorem dL_law_1346 : decode cL_law 1346 = .ok (.aload_n 2, 1) := by decide +kernel
theorem dL_law_1347 : decode cL_law 1347 = .ok (.invokevirtual 173, 3) := by decide +kernel
theorem dL_law_1350 : decode cL_law 1350 = .ok (.if_icmp .eq 5, 3) := by decide +kernel
theorem dL_law_1353 : decode cL_law 1353 = .ok (.iconst 0, 1) := by decide +kernel
theorem dL_law_1354 : decode cL_law 1354 = .ok (.ireturn, 1) := by decide +kernel
theorem dL_law_1355 : decode cL_law 1355 = .ok (.iinc 4 5, 3) := by decide +kernel
theorem dL_law_1358 : decode cL_law 1358 = .ok (.goto (-1335), 3) := by decide +kernel
theorem dL_law_1361 : decode cL_law 1361 = .ok (.iconst 1, 1) := by decide +kernel
theorem dL_law_1362 : decode cL_law 1362 = .ok (.ireturn, 1) := by decide +kernel
abbrev vwCl : List vw_C := [(RX0, TX0, 8), (RX1, TX1, 3), (RX2, TX2, 9), (RX3, TX3, 6), (RX4, TX4, 12), (RX5, TX5, 4), (RX6, TX6, 14)]
