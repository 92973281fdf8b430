def RX0 : String := "ReelConsole$CommandText"
def TX0 : u_T := fun k => match k with
  | 0 => ("ReelConsole$CommandText", "characters", "[I", true)
  | 1 => ("ReelConsole$CommandText", "length", "I", false)
  | 2 => ("ReelConsole$CommandText", "position", "I", false)
  | 3 => ("ReelConsole$CommandText", "command", "I", false)
  | 4 => ("ReelConsole$CommandText", "kind", "I", false)
  | 5 => ("ReelConsole$CommandText", "volume", "I", false)
  | 6 => ("ReelConsole$CommandText", "minutes", "I", false)
  | _ => ("ReelConsole$CommandText", "priority", "I", false)
def tyX0 : Nat → FieldType := fun k => match k with
  | 0 => .array .int
  | 1 => .int
  | 2 => .int
  | 3 => .int
  | 4 => .int
  | 5 => .int
  | 6 => .int
  | _ => .int
abbrev wsX00 : List Cond := u_ws RX0 TX0 8
theorem nmX0 : ∀ a, a < 8 → ∀ b, b < 8 → a ≠ b → (TX0 a).2.1 ≠ (TX0 b).2.1 := by decide +kernel
theorem tyX0_ok : ∀ k, k < 8 → parseFieldDescriptor (TX0 k).2.2.1 = some (tyX0 k) := by decide +kernel
abbrev cX0_init : ByteArray := prog_2_method_1_code
def yX0_init : MethodName := ⟨RX0, "<init>", "()V"⟩
def RX1 : String := "ReelConsole$History"
def TX1 : u_T := fun k => match k with
  | 0 => ("ReelConsole$History", "slots", "[LReelConsole$Room;", true)
  | 1 => ("ReelConsole$History", "size", "I", false)
  | _ => ("ReelConsole$History", "nextSlot", "I", false)
def tyX1 : Nat → FieldType := fun k => match k with
  | 0 => .array (.object "ReelConsole$Room")
  | 1 => .int
  | _ => .int
abbrev wsX10 : List Cond := u_ws RX1 TX1 3
theorem nmX1 : ∀ a, a < 3 → ∀ b, b < 3 → a ≠ b → (TX1 a).2.1 ≠ (TX1 b).2.1 := by decide +kernel
theorem tyX1_ok : ∀ k, k < 3 → parseFieldDescriptor (TX1 k).2.2.1 = some (tyX1 k) := by decide +kernel
abbrev cX1_init : ByteArray := prog_3_method_1_code
def yX1_init : MethodName := ⟨RX1, "<init>", "()V"⟩
abbrev cX1_save : ByteArray := prog_3_method_2_code
def yX1_save : MethodName := ⟨RX1, "save", "(LReelConsole$Room;)V"⟩
def RX2 : String := "ReelConsole$Jobs"
def TX2 : u_T := fun k => match k with
  | 0 => ("ReelConsole$Jobs", "kinds", "[I", true)
  | 1 => ("ReelConsole$Jobs", "volumes", "[I", true)
  | 2 => ("ReelConsole$Jobs", "minutes", "[I", true)
  | 3 => ("ReelConsole$Jobs", "priorities", "[I", true)
  | 4 => ("ReelConsole$Jobs", "states", "[I", true)
  | 5 => ("ReelConsole$Jobs", "blocks", "[I", true)
  | 6 => ("ReelConsole$Jobs", "mounted", "[I", true)
  | 7 => ("ReelConsole$Jobs", "sentBack", "[I", true)
  | _ => ("ReelConsole$Jobs", "number", "I", false)
def tyX2 : Nat → FieldType := fun k => match k with
  | 0 => .array .int
  | 1 => .array .int
  | 2 => .array .int
  | 3 => .array .int
  | 4 => .array .int
  | 5 => .array .int
  | 6 => .array .int
  | 7 => .array .int
  | _ => .int
abbrev wsX20 : List Cond := u_ws RX2 TX2 9
theorem nmX2 : ∀ a, a < 9 → ∀ b, b < 9 → a ≠ b → (TX2 a).2.1 ≠ (TX2 b).2.1 := by decide +kernel
theorem tyX2_ok : ∀ k, k < 9 → parseFieldDescriptor (TX2 k).2.2.1 = some (tyX2 k) := by decide +kernel
abbrev cX2_init : ByteArray := prog_4_method_1_code
def yX2_init : MethodName := ⟨RX2, "<init>", "()V"⟩
abbrev cX2_copyFrom : ByteArray := prog_4_method_2_code
def yX2_copyFrom : MethodName := ⟨RX2, "copyFrom", "(LReelConsole$Jobs;)V"⟩
abbrev cX2_has : ByteArray := prog_4_method_3_code
def yX2_has : MethodName := ⟨RX2, "has", "(I)Z"⟩
abbrev cX2_isFull : ByteArray := prog_4_method_4_code
def yX2_isFull : MethodName := ⟨RX2, "isFull", "()Z"⟩
abbrev cX2_add : ByteArray := prog_4_method_5_code
def yX2_add : MethodName := ⟨RX2, "add", "(IIII)I"⟩
abbrev cX2_countIn : ByteArray := prog_4_method_6_code
def yX2_countIn : MethodName := ⟨RX2, "countIn", "(I)I"⟩
abbrev cX2_wantedSticker : ByteArray := prog_4_method_7_code
def yX2_wantedSticker : MethodName := ⟨RX2, "wantedSticker", "(I)I"⟩
abbrev cX2_hasWaitingCreate : ByteArray := prog_4_method_8_code
def yX2_hasWaitingCreate : MethodName := ⟨RX2, "hasWaitingCreate", "(I)Z"⟩
def RX3 : String := "ReelConsole$Reels"
def TX3 : u_T := fun k => match k with
  | 0 => ("ReelConsole$Reels", "labels", "[I", true)
  | 1 => ("ReelConsole$Reels", "stickers", "[I", true)
  | 2 => ("ReelConsole$Reels", "rings", "[Z", true)
  | 3 => ("ReelConsole$Reels", "expiryDays", "[I", true)
  | 4 => ("ReelConsole$Reels", "blocks", "[I", true)
  | _ => ("ReelConsole$Reels", "drives", "[I", true)
def tyX3 : Nat → FieldType := fun k => match k with
  | 0 => .array .int
  | 1 => .array .int
  | 2 => .array .boolean
  | 3 => .array .int
  | 4 => .array .int
  | _ => .array .int
abbrev wsX30 : List Cond := u_ws RX3 TX3 6
theorem nmX3 : ∀ a, a < 6 → ∀ b, b < 6 → a ≠ b → (TX3 a).2.1 ≠ (TX3 b).2.1 := by decide +kernel
theorem tyX3_ok : ∀ k, k < 6 → parseFieldDescriptor (TX3 k).2.2.1 = some (tyX3 k) := by decide +kernel
abbrev cX3_init : ByteArray := prog_5_method_1_code
def yX3_init : MethodName := ⟨RX3, "<init>", "()V"⟩
abbrev cX3_copyFrom : ByteArray := prog_5_method_2_code
def yX3_copyFrom : MethodName := ⟨RX3, "copyFrom", "(LReelConsole$Reels;)V"⟩
abbrev cX3_isScratch : ByteArray := prog_5_method_3_code
def yX3_isScratch : MethodName := ⟨RX3, "isScratch", "(II)Z"⟩
abbrev cX3_keepsLabel : ByteArray := prog_5_method_4_code
def yX3_keepsLabel : MethodName := ⟨RX3, "keepsLabel", "(II)Z"⟩
abbrev cX3_findOn : ByteArray := prog_5_method_5_code
def yX3_findOn : MethodName := ⟨RX3, "findOn", "(I)I"⟩
abbrev cX3_findEmptyDrive : ByteArray := prog_5_method_6_code
def yX3_findEmptyDrive : MethodName := ⟨RX3, "findEmptyDrive", "()I"⟩
abbrev cX3_findOnShelf : ByteArray := prog_5_method_7_code
def yX3_findOnShelf : MethodName := ⟨RX3, "findOnShelf", "(I)I"⟩
abbrev cX3_findNextOnShelf : ByteArray := prog_5_method_8_code
def yX3_findNextOnShelf : MethodName := ⟨RX3, "findNextOnShelf", "(I)I"⟩
def RX4 : String := "ReelConsole$Room"
def TX4 : u_T := fun k => match k with
  | 0 => ("ReelConsole$Room", "reels", "LReelConsole$Reels;", true)
  | 1 => ("ReelConsole$Room", "jobs", "LReelConsole$Jobs;", true)
  | 2 => ("ReelConsole$Room", "day", "I", false)
  | 3 => ("ReelConsole$Room", "care", "I", false)
  | 4 => ("ReelConsole$Room", "keep", "I", false)
  | 5 => ("ReelConsole$Room", "minutes", "I", false)
  | 6 => ("ReelConsole$Room", "mounts", "I", false)
  | 7 => ("ReelConsole$Room", "slips", "I", false)
  | 8 => ("ReelConsole$Room", "sentBack", "I", false)
  | 9 => ("ReelConsole$Room", "blocksRead", "I", false)
  | 10 => ("ReelConsole$Room", "blocksWritten", "I", false)
  | _ => ("ReelConsole$Room", "blocksDropped", "I", false)
def tyX4 : Nat → FieldType := fun k => match k with
  | 0 => .object "ReelConsole$Reels"
  | 1 => .object "ReelConsole$Jobs"
  | 2 => .int
  | 3 => .int
  | 4 => .int
  | 5 => .int
  | 6 => .int
  | 7 => .int
  | 8 => .int
  | 9 => .int
  | 10 => .int
  | _ => .int
abbrev wsX40 : List Cond := u_ws RX4 TX4 12
theorem nmX4 : ∀ a, a < 12 → ∀ b, b < 12 → a ≠ b → (TX4 a).2.1 ≠ (TX4 b).2.1 := by decide +kernel
theorem tyX4_ok : ∀ k, k < 12 → parseFieldDescriptor (TX4 k).2.2.1 = some (tyX4 k) := by decide +kernel
abbrev cX4_init : ByteArray := prog_6_method_1_code
def yX4_init : MethodName := ⟨RX4, "<init>", "()V"⟩
abbrev cX4_copyFrom : ByteArray := prog_6_method_2_code
def yX4_copyFrom : MethodName := ⟨RX4, "copyFrom", "(LReelConsole$Room;)V"⟩
abbrev cX4_hasNextDay : ByteArray := prog_6_method_3_code
def yX4_hasNextDay : MethodName := ⟨RX4, "hasNextDay", "()Z"⟩
abbrev cX4_takesJob : ByteArray := prog_6_method_4_code
def yX4_takesJob : MethodName := ⟨RX4, "takesJob", "(II)Z"⟩
abbrev cX4_endJob : ByteArray := prog_6_method_5_code
def yX4_endJob : MethodName := ⟨RX4, "endJob", "(II)V"⟩
abbrev cX4_runMinutes : ByteArray := prog_6_method_6_code
def yX4_runMinutes : MethodName := ⟨RX4, "runMinutes", "(I)I"⟩
abbrev cX4_runMinute : ByteArray := prog_6_method_7_code
def yX4_runMinute : MethodName := ⟨RX4, "runMinute", "()I"⟩
abbrev cX4_moveBlock : ByteArray := prog_6_method_8_code
def yX4_moveBlock : MethodName := ⟨RX4, "moveBlock", "(I)V"⟩
abbrev cX4_lacksReel : ByteArray := prog_6_method_9_code
def yX4_lacksReel : MethodName := ⟨RX4, "lacksReel", "(I)Z"⟩
abbrev cX4_findNextJob : ByteArray := prog_6_method_10_code
def yX4_findNextJob : MethodName := ⟨RX4, "findNextJob", "()I"⟩
abbrev cX4_isSlip : ByteArray := prog_6_method_11_code
def yX4_isSlip : MethodName := ⟨RX4, "isSlip", "(I)Z"⟩
abbrev cX4_chooseReel : ByteArray := prog_6_method_12_code
def yX4_chooseReel : MethodName := ⟨RX4, "chooseReel", "(IZ)I"⟩
abbrev cX4_serve : ByteArray := prog_6_method_13_code
def yX4_serve : MethodName := ⟨RX4, "serve", "(II)V"⟩
abbrev cX4_check : ByteArray := prog_6_method_14_code
def yX4_check : MethodName := ⟨RX4, "check", "(II)I"⟩
abbrev cX4_mount : ByteArray := prog_6_method_15_code
def yX4_mount : MethodName := ⟨RX4, "mount", "(III)V"⟩
abbrev cX4_sendBack : ByteArray := prog_6_method_16_code
def yX4_sendBack : MethodName := ⟨RX4, "sendBack", "(II)V"⟩
def RX5 : String := "ReelConsole"
def TX5 : u_T := fun k => match k with
  | 0 => ("ReelConsole", "room", "LReelConsole$Room;", true)
  | 1 => ("ReelConsole", "trial", "LReelConsole$Room;", true)
  | 2 => ("ReelConsole", "history", "LReelConsole$History;", true)
  | _ => ("ReelConsole", "text", "LReelConsole$CommandText;", true)
def tyX5 : Nat → FieldType := fun k => match k with
  | 0 => .object "ReelConsole$Room"
  | 1 => .object "ReelConsole$Room"
  | 2 => .object "ReelConsole$History"
  | _ => .object "ReelConsole$CommandText"
abbrev wsX50 : List Cond := u_ws RX5 TX5 4
theorem nmX5 : ∀ a, a < 4 → ∀ b, b < 4 → a ≠ b → (TX5 a).2.1 ≠ (TX5 b).2.1 := by decide +kernel
theorem tyX5_ok : ∀ k, k < 4 → parseFieldDescriptor (TX5 k).2.2.1 = some (tyX5 k) := by decide +kernel
abbrev cX5_init : ByteArray := prog_1_method_1_code
def yX5_init : MethodName := ⟨RX5, "<init>", "()V"⟩
abbrev cX5_submit : ByteArray := prog_1_method_2_code
def yX5_submit : MethodName := ⟨RX5, "submit", "(IIII)I"⟩
abbrev cX5_cancel : ByteArray := prog_1_method_3_code
def yX5_cancel : MethodName := ⟨RX5, "cancel", "(I)I"⟩
abbrev cX5_setSticker : ByteArray := prog_1_method_4_code
def yX5_setSticker : MethodName := ⟨RX5, "setSticker", "(II)I"⟩
abbrev cX5_setRing : ByteArray := prog_1_method_5_code
def yX5_setRing : MethodName := ⟨RX5, "setRing", "(IZ)Z"⟩
abbrev cX5_pass : ByteArray := prog_1_method_6_code
def yX5_pass : MethodName := ⟨RX5, "pass", "(I)I"⟩
abbrev cX5_nextDay : ByteArray := prog_1_method_7_code
def yX5_nextDay : MethodName := ⟨RX5, "nextDay", "()I"⟩
abbrev cX5_set : ByteArray := prog_1_method_8_code
def yX5_set : MethodName := ⟨RX5, "set", "(II)I"⟩
abbrev cX5_reel : ByteArray := prog_1_method_15_code
def yX5_reel : MethodName := ⟨RX5, "reel", "(II)I"⟩
abbrev cX5_reelOn : ByteArray := prog_1_method_16_code
def yX5_reelOn : MethodName := ⟨RX5, "reelOn", "(I)I"⟩
abbrev cX5_scratchReels : ByteArray := prog_1_method_17_code
def yX5_scratchReels : MethodName := ⟨RX5, "scratchReels", "()I"⟩
abbrev cX5_jobs : ByteArray := prog_1_method_18_code
def yX5_jobs : MethodName := ⟨RX5, "jobs", "()I"⟩
abbrev cX5_job : ByteArray := prog_1_method_19_code
def yX5_job : MethodName := ⟨RX5, "job", "(II)I"⟩
abbrev cX5_isStuck : ByteArray := prog_1_method_20_code
def yX5_isStuck : MethodName := ⟨RX5, "isStuck", "(I)Z"⟩
abbrev cX5_verdict : ByteArray := prog_1_method_21_code
def yX5_verdict : MethodName := ⟨RX5, "verdict", "(II)I"⟩
abbrev cX5_nextJob : ByteArray := prog_1_method_22_code
def yX5_nextJob : MethodName := ⟨RX5, "nextJob", "()I"⟩
abbrev cX5_nextReel : ByteArray := prog_1_method_23_code
def yX5_nextReel : MethodName := ⟨RX5, "nextReel", "()I"⟩
abbrev cX5_minutesToDone : ByteArray := prog_1_method_24_code
def yX5_minutesToDone : MethodName := ⟨RX5, "minutesToDone", "(I)I"⟩
abbrev cX5_count : ByteArray := prog_1_method_25_code
def yX5_count : MethodName := ⟨RX5, "count", "(I)I"⟩
abbrev cX5_success : ByteArray := prog_1_method_26_code
def yX5_success : MethodName := ⟨RX5, "success", "()D"⟩
abbrev cX5_isWithin : ByteArray := prog_1_method_29_code
def yX5_isWithin : MethodName := ⟨RX5, "isWithin", "(III)Z"⟩
abbrev cX5_isReel : ByteArray := prog_1_method_30_code
def yX5_isReel : MethodName := ⟨RX5, "isReel", "(I)Z"⟩
def RX6 : String := "ReelConsoleModel"
def TX6 : u_T := fun k => match k with
  | _ => ("", "", "", false)
def tyX6 : Nat → FieldType := fun k => match k with
  | _ => .int
abbrev wsX60 : List Cond := u_ws RX6 TX6 0
theorem nmX6 : ∀ a, a < 0 → ∀ b, b < 0 → a ≠ b → (TX6 a).2.1 ≠ (TX6 b).2.1 := by decide +kernel
theorem tyX6_ok : ∀ k, k < 0 → parseFieldDescriptor (TX6 k).2.2.1 = some (tyX6 k) := by decide +kernel
def RJ9 : String := "java/lang/Math"
def TJ9 : u_T := fun k => match k with
  | _ => ("", "", "", false)
def tyJ9 : Nat → FieldType := fun k => match k with
  | _ => .int
abbrev wsJ90 : List Cond := u_ws RJ9 TJ9 0
theorem nmJ9 : ∀ a, a < 0 → ∀ b, b < 0 → a ≠ b → (TJ9 a).2.1 ≠ (TJ9 b).2.1 := by decide +kernel
theorem tyJ9_ok : ∀ k, k < 0 → parseFieldDescriptor (TJ9 k).2.2.1 = some (tyJ9 k) := by decide +kernel
abbrev cJ9_floorMod_7cf53 : ByteArray := prog_13_method_50_code
def yJ9_floorMod_7cf53 : MethodName := ⟨RJ9, "floorMod", "(II)I"⟩
def RJ0 : String := "java/lang/String"
def TJ0 : u_T := fun k => match k with
  | _ => ("", "", "", false)
def tyJ0 : Nat → FieldType := fun k => match k with
  | _ => .int
abbrev wsJ00 : List Cond := u_ws RJ0 TJ0 0
theorem nmJ0 : ∀ a, a < 0 → ∀ b, b < 0 → a ≠ b → (TJ0 a).2.1 ≠ (TJ0 b).2.1 := by decide +kernel
theorem tyJ0_ok : ∀ k, k < 0 → parseFieldDescriptor (TJ0 k).2.2.1 = some (tyJ0 k) := by decide +kernel
def RJ10 : String := "java/lang/System"
def TJ10 : u_T := fun k => match k with
  | _ => ("", "", "", false)
def tyJ10 : Nat → FieldType := fun k => match k with
  | _ => .int
abbrev wsJ100 : List Cond := u_ws RJ10 TJ10 0
theorem nmJ10 : ∀ a, a < 0 → ∀ b, b < 0 → a ≠ b → (TJ10 a).2.1 ≠ (TJ10 b).2.1 := by decide +kernel
theorem tyJ10_ok : ∀ k, k < 0 → parseFieldDescriptor (TJ10 k).2.2.1 = some (tyJ10 k) := by decide +kernel
def RL : String := "ReelConsoleLaw"
abbrev cL_cell : ByteArray := method_2_code
def yL_cell : MethodName := ⟨RL, "cell", "([II)I"⟩
abbrev cL_low : ByteArray := method_3_code
def yL_low : MethodName := ⟨RL, "low", "(II)I"⟩
abbrev cL_scratch : ByteArray := method_4_code
def yL_scratch : MethodName := ⟨RL, "scratch", "([I[I[II)Z"⟩
abbrev cL_looks : ByteArray := method_5_code
def yL_looks : MethodName := ⟨RL, "looks", "([I[I[II)I"⟩
abbrev cL_next : ByteArray := method_6_code
def yL_next : MethodName := ⟨RL, "next", "([I[I[I[I[I)I"⟩
abbrev cL_takes : ByteArray := method_7_code
def yL_takes : MethodName := ⟨RL, "takes", "([I[I[I[III)I"⟩
abbrev cL_checks : ByteArray := method_8_code
def yL_checks : MethodName := ⟨RL, "checks", "([I[I[I[III)I"⟩
abbrev cL_on : ByteArray := method_9_code
def yL_on : MethodName := ⟨RL, "on", "([II)I"⟩
abbrev cL_serves : ByteArray := method_10_code
def yL_serves : MethodName := ⟨RL, "serves", "([I[I[I[I[III)V"⟩
abbrev cL_minutes : ByteArray := method_11_code
def yL_minutes : MethodName := ⟨RL, "minutes", "([I[I[I[I[I)I"⟩
abbrev cL_areReels : ByteArray := method_12_code
def yL_areReels : MethodName := ⟨RL, "areReels", "(LReelConsole;[I[I[I)Z"⟩
abbrev cL_areJobs : ByteArray := method_13_code
def yL_areJobs : MethodName := ⟨RL, "areJobs", "(LReelConsole;[I[I[I[I[I)Z"⟩
abbrev cL_copy : ByteArray := method_14_code
def yL_copy : MethodName := ⟨RL, "copy", "([I[I)V"⟩
abbrev cL_would : ByteArray := method_15_code
def yL_would : MethodName := ⟨RL, "would", "(LReelConsole;[I[I[I[I[I)Z"⟩
abbrev cL_refused : ByteArray := method_16_code
def yL_refused : MethodName := ⟨RL, "refused", "([I[I[I[I[II)Z"⟩
abbrev cL_submits : ByteArray := method_17_code
def yL_submits : MethodName := ⟨RL, "submits", "(LReelConsole;[I[I[I[I[II)Z"⟩
abbrev cL_acts : ByteArray := method_18_code
def yL_acts : MethodName := ⟨RL, "acts", "(LReelConsole;[I[I[I[I[III)Z"⟩
abbrev cL_law : ByteArray := code
def yL_law : MethodName := ⟨RL, "law", "([I)Z"⟩
theorem dX0_init_0 : decode cX0_init 0 = .ok (.aload_n 0, 1) := by decide +kernel
theorem dX0_init_1 : decode cX0_init 1 = .ok (.invokespecial 3, 3) := by decide +kernel
theorem dX0_init_4 : decode cX0_init 4 = .ok (.aload_n 0, 1) := by decide +kernel
theorem dX0_init_5 : decode cX0_init 5 = .ok (.bipush 80, 2) := by decide +kernel
theorem dX0_init_7 : decode cX0_init 7 = .ok (.newarray .int, 2) := by decide +kernel
theorem dX0_init_9 : decode cX0_init 9 = .ok (.putfield 9, 3) := by decide +kernel
theorem dX0_init_12 : decode cX0_init 12 = .ok (.aload_n 0, 1) := by decide +kernel
theorem dX0_init_13 : decode cX0_init 13 = .ok (.iconst 0, 1) := by decide +kernel
theorem dX0_init_14 : decode cX0_init 14 = .ok (.putfield 15, 3) := by decide +kernel
theorem dX0_init_17 : decode cX0_init 17 = .ok (.aload_n 0, 1) := by decide +kernel
theorem dX0_init_18 : decode cX0_init 18 = .ok (.iconst 0, 1) := by decide +kernel
theorem dX0_init_19 : decode cX0_init 19 = .ok (.putfield 19, 3) := by decide +kernel
theorem dX0_init_22 : decode cX0_init 22 = .ok (.aload_n 0, 1) := by decide +kernel
theorem dX0_init_23 : decode cX0_init 23 = .ok (.iconst 0, 1) := by decide +kernel
theorem dX0_init_24 : decode cX0_init 24 = .ok (.putfield 22, 3) := by decide +kernel
theorem dX0_init_27 : decode cX0_init 27 = .ok (.aload_n 0, 1) := by decide +kernel
theorem dX0_init_28 : decode cX0_init 28 = .ok (.iconst 0, 1) := by decide +kernel
theorem dX0_init_29 : decode cX0_init 29 = .ok (.putfield 25, 3) := by decide +kernel
theorem dX0_init_32 : decode cX0_init 32 = .ok (.aload_n 0, 1) := by decide +kernel
theorem dX0_init_33 : decode cX0_init 33 = .ok (.iconst 0, 1) := by decide +kernel
theorem dX0_init_34 : decode cX0_init 34 = .ok (.putfield 28, 3) := by decide +kernel
theorem dX0_init_37 : decode cX0_init 37 = .ok (.aload_n 0, 1) := by decide +kernel
theorem dX0_init_38 : decode cX0_init 38 = .ok (.iconst 0, 1) := by decide +kernel
theorem dX0_init_39 : decode cX0_init 39 = .ok (.putfield 31, 3) := by decide +kernel
theorem dX0_init_42 : decode cX0_init 42 = .ok (.aload_n 0, 1) := by decide +kernel
theorem dX0_init_43 : decode cX0_init 43 = .ok (.iconst 0, 1) := by decide +kernel
theorem dX0_init_44 : decode cX0_init 44 = .ok (.putfield 34, 3) := by decide +kernel
theorem dX0_init_47 : decode cX0_init 47 = .ok (.return_, 1) := by decide +kernel
theorem dX1_init_0 : decode cX1_init 0 = .ok (.aload_n 0, 1) := by decide +kernel
theorem dX1_init_1 : decode cX1_init 1 = .ok (.invokespecial 3, 3) := by decide +kernel
theorem dX1_init_4 : decode cX1_init 4 = .ok (.aload_n 0, 1) := by decide +kernel
theorem dX1_init_5 : decode cX1_init 5 = .ok (.bipush 6, 2) := by decide +kernel
theorem dX1_init_7 : decode cX1_init 7 = .ok (.anewarray 9, 3) := by decide +kernel
theorem dX1_init_10 : decode cX1_init 10 = .ok (.putfield 11, 3) := by decide +kernel
theorem dX1_init_13 : decode cX1_init 13 = .ok (.aload_n 0, 1) := by decide +kernel
theorem dX1_init_14 : decode cX1_init 14 = .ok (.iconst 0, 1) := by decide +kernel
theorem dX1_init_15 : decode cX1_init 15 = .ok (.putfield 17, 3) := by decide +kernel
theorem dX1_init_18 : decode cX1_init 18 = .ok (.aload_n 0, 1) := by decide +kernel
theorem dX1_init_19 : decode cX1_init 19 = .ok (.iconst 0, 1) := by decide +kernel
theorem dX1_init_20 : decode cX1_init 20 = .ok (.putfield 21, 3) := by decide +kernel
theorem dX1_init_23 : decode cX1_init 23 = .ok (.iconst 0, 1) := by decide +kernel
theorem dX1_init_24 : decode cX1_init 24 = .ok (.istore_n 1, 1) := by decide +kernel
theorem dX1_init_25 : decode cX1_init 25 = .ok (.iload_n 1, 1) := by decide +kernel
theorem dX1_init_26 : decode cX1_init 26 = .ok (.bipush 6, 2) := by decide +kernel
theorem dX1_init_28 : decode cX1_init 28 = .ok (.if_icmp .ge 22, 3) := by decide +kernel
theorem dX1_init_31 : decode cX1_init 31 = .ok (.aload_n 0, 1) := by decide +kernel
theorem dX1_init_32 : decode cX1_init 32 = .ok (.getfield 11, 3) := by decide +kernel
theorem dX1_init_35 : decode cX1_init 35 = .ok (.iload_n 1, 1) := by decide +kernel
theorem dX1_init_36 : decode cX1_init 36 = .ok (.new 9, 3) := by decide +kernel
theorem dX1_init_39 : decode cX1_init 39 = .ok (.dup, 1) := by decide +kernel
theorem dX1_init_40 : decode cX1_init 40 = .ok (.invokespecial 24, 3) := by decide +kernel
theorem dX1_init_43 : decode cX1_init 43 = .ok (.aastore, 1) := by decide +kernel
theorem dX1_init_44 : decode cX1_init 44 = .ok (.iinc 1 1, 3) := by decide +kernel
theorem dX1_init_47 : decode cX1_init 47 = .ok (.goto (-22), 3) := by decide +kernel
theorem dX1_init_50 : decode cX1_init 50 = .ok (.return_, 1) := by decide +kernel
theorem dX1_save_0 : decode cX1_save 0 = .ok (.aload_n 0, 1) := by decide +kernel
theorem dX1_save_1 : decode cX1_save 1 = .ok (.getfield 11, 3) := by decide +kernel
theorem dX1_save_4 : decode cX1_save 4 = .ok (.aload_n 0, 1) := by decide +kernel
theorem dX1_save_5 : decode cX1_save 5 = .ok (.getfield 21, 3) := by decide +kernel
theorem dX1_save_8 : decode cX1_save 8 = .ok (.aaload, 1) := by decide +kernel
theorem dX1_save_9 : decode cX1_save 9 = .ok (.astore_n 2, 1) := by decide +kernel
theorem dX1_save_10 : decode cX1_save 10 = .ok (.aload_n 2, 1) := by decide +kernel
theorem dX1_save_11 : decode cX1_save 11 = .ok (.ifnonnull 4, 3) := by decide +kernel
theorem dX1_save_14 : decode cX1_save 14 = .ok (.return_, 1) := by decide +kernel
theorem dX1_save_15 : decode cX1_save 15 = .ok (.aload_n 2, 1) := by decide +kernel
theorem dX1_save_16 : decode cX1_save 16 = .ok (.aload_n 1, 1) := by decide +kernel
theorem dX1_save_17 : decode cX1_save 17 = .ok (.invokevirtual 25, 3) := by decide +kernel
theorem dX1_save_20 : decode cX1_save 20 = .ok (.aload_n 0, 1) := by decide +kernel
theorem dX1_save_21 : decode cX1_save 21 = .ok (.aload_n 0, 1) := by decide +kernel
theorem dX1_save_22 : decode cX1_save 22 = .ok (.getfield 21, 3) := by decide +kernel
theorem dX1_save_25 : decode cX1_save 25 = .ok (.iconst 1, 1) := by decide +kernel
theorem dX1_save_26 : decode cX1_save 26 = .ok (.iadd, 1) := by decide +kernel
theorem dX1_save_27 : decode cX1_save 27 = .ok (.bipush 6, 2) := by decide +kernel
theorem dX1_save_29 : decode cX1_save 29 = .ok (.invokestatic 29, 3) := by decide +kernel
theorem dX1_save_32 : decode cX1_save 32 = .ok (.putfield 21, 3) := by decide +kernel
theorem dX1_save_35 : decode cX1_save 35 = .ok (.aload_n 0, 1) := by decide +kernel
theorem dX1_save_36 : decode cX1_save 36 = .ok (.getfield 17, 3) := by decide +kernel
theorem dX1_save_39 : decode cX1_save 39 = .ok (.bipush 6, 2) := by decide +kernel
theorem dX1_save_41 : decode cX1_save 41 = .ok (.if_icmp .ge 13, 3) := by decide +kernel
theorem dX1_save_44 : decode cX1_save 44 = .ok (.aload_n 0, 1) := by decide +kernel
theorem dX1_save_45 : decode cX1_save 45 = .ok (.dup, 1) := by decide +kernel
theorem dX1_save_46 : decode cX1_save 46 = .ok (.getfield 17, 3) := by decide +kernel
theorem dX1_save_49 : decode cX1_save 49 = .ok (.iconst 1, 1) := by decide +kernel
theorem dX1_save_50 : decode cX1_save 50 = .ok (.iadd, 1) := by decide +kernel
theorem dX1_save_51 : decode cX1_save 51 = .ok (.putfield 17, 3) := by decide +kernel
theorem dX1_save_54 : decode cX1_save 54 = .ok (.return_, 1) := by decide +kernel
theorem dX2_init_0 : decode cX2_init 0 = .ok (.aload_n 0, 1) := by decide +kernel
theorem dX2_init_1 : decode cX2_init 1 = .ok (.invokespecial 3, 3) := by decide +kernel
theorem dX2_init_4 : decode cX2_init 4 = .ok (.aload_n 0, 1) := by decide +kernel
theorem dX2_init_5 : decode cX2_init 5 = .ok (.bipush 12, 2) := by decide +kernel
theorem dX2_init_7 : decode cX2_init 7 = .ok (.newarray .int, 2) := by decide +kernel
theorem dX2_init_9 : decode cX2_init 9 = .ok (.putfield 9, 3) := by decide +kernel
theorem dX2_init_12 : decode cX2_init 12 = .ok (.aload_n 0, 1) := by decide +kernel
theorem dX2_init_13 : decode cX2_init 13 = .ok (.bipush 12, 2) := by decide +kernel
theorem dX2_init_15 : decode cX2_init 15 = .ok (.newarray .int, 2) := by decide +kernel
theorem dX2_init_17 : decode cX2_init 17 = .ok (.putfield 15, 3) := by decide +kernel
theorem dX2_init_20 : decode cX2_init 20 = .ok (.aload_n 0, 1) := by decide +kernel
theorem dX2_init_21 : decode cX2_init 21 = .ok (.bipush 12, 2) := by decide +kernel
theorem dX2_init_23 : decode cX2_init 23 = .ok (.newarray .int, 2) := by decide +kernel
theorem dX2_init_25 : decode cX2_init 25 = .ok (.putfield 18, 3) := by decide +kernel
theorem dX2_init_28 : decode cX2_init 28 = .ok (.aload_n 0, 1) := by decide +kernel
theorem dX2_init_29 : decode cX2_init 29 = .ok (.bipush 12, 2) := by decide +kernel
theorem dX2_init_31 : decode cX2_init 31 = .ok (.newarray .int, 2) := by decide +kernel
theorem dX2_init_33 : decode cX2_init 33 = .ok (.putfield 21, 3) := by decide +kernel
theorem dX2_init_36 : decode cX2_init 36 = .ok (.aload_n 0, 1) := by decide +kernel
theorem dX2_init_37 : decode cX2_init 37 = .ok (.bipush 12, 2) := by decide +kernel
theorem dX2_init_39 : decode cX2_init 39 = .ok (.newarray .int, 2) := by decide +kernel
theorem dX2_init_41 : decode cX2_init 41 = .ok (.putfield 24, 3) := by decide +kernel
theorem dX2_init_44 : decode cX2_init 44 = .ok (.aload_n 0, 1) := by decide +kernel
theorem dX2_init_45 : decode cX2_init 45 = .ok (.bipush 12, 2) := by decide +kernel
theorem dX2_init_47 : decode cX2_init 47 = .ok (.newarray .int, 2) := by decide +kernel
theorem dX2_init_49 : decode cX2_init 49 = .ok (.putfield 27, 3) := by decide +kernel
theorem dX2_init_52 : decode cX2_init 52 = .ok (.aload_n 0, 1) := by decide +kernel
theorem dX2_init_53 : decode cX2_init 53 = .ok (.bipush 12, 2) := by decide +kernel
theorem dX2_init_55 : decode cX2_init 55 = .ok (.newarray .int, 2) := by decide +kernel
theorem dX2_init_57 : decode cX2_init 57 = .ok (.putfield 30, 3) := by decide +kernel
theorem dX2_init_60 : decode cX2_init 60 = .ok (.aload_n 0, 1) := by decide +kernel
theorem dX2_init_61 : decode cX2_init 61 = .ok (.bipush 12, 2) := by decide +kernel
theorem dX2_init_63 : decode cX2_init 63 = .ok (.newarray .int, 2) := by decide +kernel
theorem dX2_init_65 : decode cX2_init 65 = .ok (.putfield 33, 3) := by decide +kernel
theorem dX2_init_68 : decode cX2_init 68 = .ok (.aload_n 0, 1) := by decide +kernel
theorem dX2_init_69 : decode cX2_init 69 = .ok (.iconst 0, 1) := by decide +kernel
theorem dX2_init_70 : decode cX2_init 70 = .ok (.putfield 36, 3) := by decide +kernel
theorem dX2_init_73 : decode cX2_init 73 = .ok (.return_, 1) := by decide +kernel
theorem dX2_copyFrom_0 : decode cX2_copyFrom 0 = .ok (.aload_n 1, 1) := by decide +kernel
theorem dX2_copyFrom_1 : decode cX2_copyFrom 1 = .ok (.getfield 9, 3) := by decide +kernel
theorem dX2_copyFrom_4 : decode cX2_copyFrom 4 = .ok (.iconst 0, 1) := by decide +kernel
theorem dX2_copyFrom_5 : decode cX2_copyFrom 5 = .ok (.aload_n 0, 1) := by decide +kernel
theorem dX2_copyFrom_6 : decode cX2_copyFrom 6 = .ok (.getfield 9, 3) := by decide +kernel
theorem dX2_copyFrom_9 : decode cX2_copyFrom 9 = .ok (.iconst 0, 1) := by decide +kernel
theorem dX2_copyFrom_10 : decode cX2_copyFrom 10 = .ok (.bipush 12, 2) := by decide +kernel
theorem dX2_copyFrom_12 : decode cX2_copyFrom 12 = .ok (.invokestatic 40, 3) := by decide +kernel
theorem dX2_copyFrom_15 : decode cX2_copyFrom 15 = .ok (.aload_n 1, 1) := by decide +kernel
theorem dX2_copyFrom_16 : decode cX2_copyFrom 16 = .ok (.getfield 15, 3) := by decide +kernel
theorem dX2_copyFrom_19 : decode cX2_copyFrom 19 = .ok (.iconst 0, 1) := by decide +kernel
theorem dX2_copyFrom_20 : decode cX2_copyFrom 20 = .ok (.aload_n 0, 1) := by decide +kernel
theorem dX2_copyFrom_21 : decode cX2_copyFrom 21 = .ok (.getfield 15, 3) := by decide +kernel
theorem dX2_copyFrom_24 : decode cX2_copyFrom 24 = .ok (.iconst 0, 1) := by decide +kernel
theorem dX2_copyFrom_25 : decode cX2_copyFrom 25 = .ok (.bipush 12, 2) := by decide +kernel
theorem dX2_copyFrom_27 : decode cX2_copyFrom 27 = .ok (.invokestatic 40, 3) := by decide +kernel
theorem dX2_copyFrom_30 : decode cX2_copyFrom 30 = .ok (.aload_n 1, 1) := by decide +kernel
theorem dX2_copyFrom_31 : decode cX2_copyFrom 31 = .ok (.getfield 18, 3) := by decide +kernel
theorem dX2_copyFrom_34 : decode cX2_copyFrom 34 = .ok (.iconst 0, 1) := by decide +kernel
theorem dX2_copyFrom_35 : decode cX2_copyFrom 35 = .ok (.aload_n 0, 1) := by decide +kernel
theorem dX2_copyFrom_36 : decode cX2_copyFrom 36 = .ok (.getfield 18, 3) := by decide +kernel
theorem dX2_copyFrom_39 : decode cX2_copyFrom 39 = .ok (.iconst 0, 1) := by decide +kernel
theorem dX2_copyFrom_40 : decode cX2_copyFrom 40 = .ok (.bipush 12, 2) := by decide +kernel
theorem dX2_copyFrom_42 : decode cX2_copyFrom 42 = .ok (.invokestatic 40, 3) := by decide +kernel
theorem dX2_copyFrom_45 : decode cX2_copyFrom 45 = .ok (.aload_n 1, 1) := by decide +kernel
theorem dX2_copyFrom_46 : decode cX2_copyFrom 46 = .ok (.getfield 21, 3) := by decide +kernel
theorem dX2_copyFrom_49 : decode cX2_copyFrom 49 = .ok (.iconst 0, 1) := by decide +kernel
theorem dX2_copyFrom_50 : decode cX2_copyFrom 50 = .ok (.aload_n 0, 1) := by decide +kernel
theorem dX2_copyFrom_51 : decode cX2_copyFrom 51 = .ok (.getfield 21, 3) := by decide +kernel
theorem dX2_copyFrom_54 : decode cX2_copyFrom 54 = .ok (.iconst 0, 1) := by decide +kernel
theorem dX2_copyFrom_55 : decode cX2_copyFrom 55 = .ok (.bipush 12, 2) := by decide +kernel
theorem dX2_copyFrom_57 : decode cX2_copyFrom 57 = .ok (.invokestatic 40, 3) := by decide +kernel
theorem dX2_copyFrom_60 : decode cX2_copyFrom 60 = .ok (.aload_n 1, 1) := by decide +kernel
theorem dX2_copyFrom_61 : decode cX2_copyFrom 61 = .ok (.getfield 24, 3) := by decide +kernel
theorem dX2_copyFrom_64 : decode cX2_copyFrom 64 = .ok (.iconst 0, 1) := by decide +kernel
theorem dX2_copyFrom_65 : decode cX2_copyFrom 65 = .ok (.aload_n 0, 1) := by decide +kernel
theorem dX2_copyFrom_66 : decode cX2_copyFrom 66 = .ok (.getfield 24, 3) := by decide +kernel
theorem dX2_copyFrom_69 : decode cX2_copyFrom 69 = .ok (.iconst 0, 1) := by decide +kernel
theorem dX2_copyFrom_70 : decode cX2_copyFrom 70 = .ok (.bipush 12, 2) := by decide +kernel
theorem dX2_copyFrom_72 : decode cX2_copyFrom 72 = .ok (.invokestatic 40, 3) := by decide +kernel
theorem dX2_copyFrom_75 : decode cX2_copyFrom 75 = .ok (.aload_n 1, 1) := by decide +kernel
theorem dX2_copyFrom_76 : decode cX2_copyFrom 76 = .ok (.getfield 27, 3) := by decide +kernel
theorem dX2_copyFrom_79 : decode cX2_copyFrom 79 = .ok (.iconst 0, 1) := by decide +kernel
theorem dX2_copyFrom_80 : decode cX2_copyFrom 80 = .ok (.aload_n 0, 1) := by decide +kernel
theorem dX2_copyFrom_81 : decode cX2_copyFrom 81 = .ok (.getfield 27, 3) := by decide +kernel
theorem dX2_copyFrom_84 : decode cX2_copyFrom 84 = .ok (.iconst 0, 1) := by decide +kernel
theorem dX2_copyFrom_85 : decode cX2_copyFrom 85 = .ok (.bipush 12, 2) := by decide +kernel
theorem dX2_copyFrom_87 : decode cX2_copyFrom 87 = .ok (.invokestatic 40, 3) := by decide +kernel
theorem dX2_copyFrom_90 : decode cX2_copyFrom 90 = .ok (.aload_n 1, 1) := by decide +kernel
theorem dX2_copyFrom_91 : decode cX2_copyFrom 91 = .ok (.getfield 30, 3) := by decide +kernel
theorem dX2_copyFrom_94 : decode cX2_copyFrom 94 = .ok (.iconst 0, 1) := by decide +kernel
theorem dX2_copyFrom_95 : decode cX2_copyFrom 95 = .ok (.aload_n 0, 1) := by decide +kernel
theorem dX2_copyFrom_96 : decode cX2_copyFrom 96 = .ok (.getfield 30, 3) := by decide +kernel
theorem dX2_copyFrom_99 : decode cX2_copyFrom 99 = .ok (.iconst 0, 1) := by decide +kernel
theorem dX2_copyFrom_100 : decode cX2_copyFrom 100 = .ok (.bipush 12, 2) := by decide +kernel
theorem dX2_copyFrom_102 : decode cX2_copyFrom 102 = .ok (.invokestatic 40, 3) := by decide +kernel
theorem dX2_copyFrom_105 : decode cX2_copyFrom 105 = .ok (.aload_n 1, 1) := by decide +kernel
theorem dX2_copyFrom_106 : decode cX2_copyFrom 106 = .ok (.getfield 33, 3) := by decide +kernel
theorem dX2_copyFrom_109 : decode cX2_copyFrom 109 = .ok (.iconst 0, 1) := by decide +kernel
theorem dX2_copyFrom_110 : decode cX2_copyFrom 110 = .ok (.aload_n 0, 1) := by decide +kernel
theorem dX2_copyFrom_111 : decode cX2_copyFrom 111 = .ok (.getfield 33, 3) := by decide +kernel
theorem dX2_copyFrom_114 : decode cX2_copyFrom 114 = .ok (.iconst 0, 1) := by decide +kernel
theorem dX2_copyFrom_115 : decode cX2_copyFrom 115 = .ok (.bipush 12, 2) := by decide +kernel
theorem dX2_copyFrom_117 : decode cX2_copyFrom 117 = .ok (.invokestatic 40, 3) := by decide +kernel
theorem dX2_copyFrom_120 : decode cX2_copyFrom 120 = .ok (.aload_n 0, 1) := by decide +kernel
theorem dX2_copyFrom_121 : decode cX2_copyFrom 121 = .ok (.aload_n 1, 1) := by decide +kernel
theorem dX2_copyFrom_122 : decode cX2_copyFrom 122 = .ok (.getfield 36, 3) := by decide +kernel
theorem dX2_copyFrom_125 : decode cX2_copyFrom 125 = .ok (.putfield 36, 3) := by decide +kernel
theorem dX2_copyFrom_128 : decode cX2_copyFrom 128 = .ok (.return_, 1) := by decide +kernel
theorem dX2_has_0 : decode cX2_has 0 = .ok (.iload_n 1, 1) := by decide +kernel
theorem dX2_has_1 : decode cX2_has 1 = .ok (.iconst 0, 1) := by decide +kernel
theorem dX2_has_2 : decode cX2_has 2 = .ok (.aload_n 0, 1) := by decide +kernel
theorem dX2_has_3 : decode cX2_has 3 = .ok (.getfield 36, 3) := by decide +kernel
theorem dX2_has_6 : decode cX2_has 6 = .ok (.iconst 1, 1) := by decide +kernel
theorem dX2_has_7 : decode cX2_has 7 = .ok (.isub, 1) := by decide +kernel
theorem dX2_has_8 : decode cX2_has 8 = .ok (.invokestatic 46, 3) := by decide +kernel
theorem dX2_has_11 : decode cX2_has 11 = .ok (.ireturn, 1) := by decide +kernel
theorem dX2_isFull_0 : decode cX2_isFull 0 = .ok (.aload_n 0, 1) := by decide +kernel
theorem dX2_isFull_1 : decode cX2_isFull 1 = .ok (.getfield 36, 3) := by decide +kernel
theorem dX2_isFull_4 : decode cX2_isFull 4 = .ok (.bipush 12, 2) := by decide +kernel
theorem dX2_isFull_6 : decode cX2_isFull 6 = .ok (.if_icmp .lt 7, 3) := by decide +kernel
theorem dX2_isFull_9 : decode cX2_isFull 9 = .ok (.iconst 1, 1) := by decide +kernel
theorem dX2_isFull_10 : decode cX2_isFull 10 = .ok (.goto 4, 3) := by decide +kernel
theorem dX2_isFull_13 : decode cX2_isFull 13 = .ok (.iconst 0, 1) := by decide +kernel
theorem dX2_isFull_14 : decode cX2_isFull 14 = .ok (.ireturn, 1) := by decide +kernel
theorem dX2_add_0 : decode cX2_add 0 = .ok (.aload_n 0, 1) := by decide +kernel
theorem dX2_add_1 : decode cX2_add 1 = .ok (.invokevirtual 50, 3) := by decide +kernel
theorem dX2_add_4 : decode cX2_add 4 = .ok (.ifCond .eq 5, 3) := by decide +kernel
theorem dX2_add_7 : decode cX2_add 7 = .ok (.iconst (-1), 1) := by decide +kernel
theorem dX2_add_8 : decode cX2_add 8 = .ok (.ireturn, 1) := by decide +kernel
theorem dX2_add_9 : decode cX2_add 9 = .ok (.aload_n 0, 1) := by decide +kernel
theorem dX2_add_10 : decode cX2_add 10 = .ok (.getfield 36, 3) := by decide +kernel
theorem dX2_add_13 : decode cX2_add 13 = .ok (.istore 5, 2) := by decide +kernel
theorem dX2_add_15 : decode cX2_add 15 = .ok (.aload_n 0, 1) := by decide +kernel
theorem dX2_add_16 : decode cX2_add 16 = .ok (.dup, 1) := by decide +kernel
theorem dX2_add_17 : decode cX2_add 17 = .ok (.getfield 36, 3) := by decide +kernel
theorem dX2_add_20 : decode cX2_add 20 = .ok (.iconst 1, 1) := by decide +kernel
theorem dX2_add_21 : decode cX2_add 21 = .ok (.iadd, 1) := by decide +kernel
theorem dX2_add_22 : decode cX2_add 22 = .ok (.putfield 36, 3) := by decide +kernel
theorem dX2_add_25 : decode cX2_add 25 = .ok (.aload_n 0, 1) := by decide +kernel
theorem dX2_add_26 : decode cX2_add 26 = .ok (.getfield 9, 3) := by decide +kernel
theorem dX2_add_29 : decode cX2_add 29 = .ok (.iload 5, 2) := by decide +kernel
theorem dX2_add_31 : decode cX2_add 31 = .ok (.iload_n 1, 1) := by decide +kernel
theorem dX2_add_32 : decode cX2_add 32 = .ok (.iastore, 1) := by decide +kernel
theorem dX2_add_33 : decode cX2_add 33 = .ok (.aload_n 0, 1) := by decide +kernel
theorem dX2_add_34 : decode cX2_add 34 = .ok (.getfield 15, 3) := by decide +kernel
theorem dX2_add_37 : decode cX2_add 37 = .ok (.iload 5, 2) := by decide +kernel
theorem dX2_add_39 : decode cX2_add 39 = .ok (.iload_n 2, 1) := by decide +kernel
theorem dX2_add_40 : decode cX2_add 40 = .ok (.iastore, 1) := by decide +kernel
theorem dX2_add_41 : decode cX2_add 41 = .ok (.aload_n 0, 1) := by decide +kernel
theorem dX2_add_42 : decode cX2_add 42 = .ok (.getfield 18, 3) := by decide +kernel
theorem dX2_add_45 : decode cX2_add 45 = .ok (.iload 5, 2) := by decide +kernel
theorem dX2_add_47 : decode cX2_add 47 = .ok (.iload_n 3, 1) := by decide +kernel
theorem dX2_add_48 : decode cX2_add 48 = .ok (.iastore, 1) := by decide +kernel
theorem dX2_add_49 : decode cX2_add 49 = .ok (.aload_n 0, 1) := by decide +kernel
theorem dX2_add_50 : decode cX2_add 50 = .ok (.getfield 21, 3) := by decide +kernel
theorem dX2_add_53 : decode cX2_add 53 = .ok (.iload 5, 2) := by decide +kernel
theorem dX2_add_55 : decode cX2_add 55 = .ok (.iload 4, 2) := by decide +kernel
theorem dX2_add_57 : decode cX2_add 57 = .ok (.iastore, 1) := by decide +kernel
theorem dX2_add_58 : decode cX2_add 58 = .ok (.aload_n 0, 1) := by decide +kernel
theorem dX2_add_59 : decode cX2_add 59 = .ok (.getfield 24, 3) := by decide +kernel
theorem dX2_add_62 : decode cX2_add 62 = .ok (.iload 5, 2) := by decide +kernel
theorem dX2_add_64 : decode cX2_add 64 = .ok (.iconst 0, 1) := by decide +kernel
theorem dX2_add_65 : decode cX2_add 65 = .ok (.iastore, 1) := by decide +kernel
theorem dX2_add_66 : decode cX2_add 66 = .ok (.aload_n 0, 1) := by decide +kernel
theorem dX2_add_67 : decode cX2_add 67 = .ok (.getfield 27, 3) := by decide +kernel
theorem dX2_add_70 : decode cX2_add 70 = .ok (.iload 5, 2) := by decide +kernel
theorem dX2_add_72 : decode cX2_add 72 = .ok (.iconst 0, 1) := by decide +kernel
theorem dX2_add_73 : decode cX2_add 73 = .ok (.iastore, 1) := by decide +kernel
theorem dX2_add_74 : decode cX2_add 74 = .ok (.aload_n 0, 1) := by decide +kernel
theorem dX2_add_75 : decode cX2_add 75 = .ok (.getfield 30, 3) := by decide +kernel
theorem dX2_add_78 : decode cX2_add 78 = .ok (.iload 5, 2) := by decide +kernel
theorem dX2_add_80 : decode cX2_add 80 = .ok (.iconst (-1), 1) := by decide +kernel
theorem dX2_add_81 : decode cX2_add 81 = .ok (.iastore, 1) := by decide +kernel
theorem dX2_add_82 : decode cX2_add 82 = .ok (.aload_n 0, 1) := by decide +kernel
theorem dX2_add_83 : decode cX2_add 83 = .ok (.getfield 33, 3) := by decide +kernel
theorem dX2_add_86 : decode cX2_add 86 = .ok (.iload 5, 2) := by decide +kernel
theorem dX2_add_88 : decode cX2_add 88 = .ok (.iconst 0, 1) := by decide +kernel
theorem dX2_add_89 : decode cX2_add 89 = .ok (.iastore, 1) := by decide +kernel
theorem dX2_add_90 : decode cX2_add 90 = .ok (.iload 5, 2) := by decide +kernel
theorem dX2_add_92 : decode cX2_add 92 = .ok (.ireturn, 1) := by decide +kernel
theorem dX2_countIn_0 : decode cX2_countIn 0 = .ok (.iconst 0, 1) := by decide +kernel
theorem dX2_countIn_1 : decode cX2_countIn 1 = .ok (.istore_n 2, 1) := by decide +kernel
theorem dX2_countIn_2 : decode cX2_countIn 2 = .ok (.iconst 0, 1) := by decide +kernel
theorem dX2_countIn_3 : decode cX2_countIn 3 = .ok (.istore_n 3, 1) := by decide +kernel
theorem dX2_countIn_4 : decode cX2_countIn 4 = .ok (.iload_n 3, 1) := by decide +kernel
theorem dX2_countIn_5 : decode cX2_countIn 5 = .ok (.aload_n 0, 1) := by decide +kernel
theorem dX2_countIn_6 : decode cX2_countIn 6 = .ok (.getfield 36, 3) := by decide +kernel
theorem dX2_countIn_9 : decode cX2_countIn 9 = .ok (.if_icmp .ge 22, 3) := by decide +kernel
theorem dX2_countIn_12 : decode cX2_countIn 12 = .ok (.aload_n 0, 1) := by decide +kernel
theorem dX2_countIn_13 : decode cX2_countIn 13 = .ok (.getfield 24, 3) := by decide +kernel
theorem dX2_countIn_16 : decode cX2_countIn 16 = .ok (.iload_n 3, 1) := by decide +kernel
theorem dX2_countIn_17 : decode cX2_countIn 17 = .ok (.iaload, 1) := by decide +kernel
theorem dX2_countIn_18 : decode cX2_countIn 18 = .ok (.iload_n 1, 1) := by decide +kernel
theorem dX2_countIn_19 : decode cX2_countIn 19 = .ok (.if_icmp .ne 6, 3) := by decide +kernel
theorem dX2_countIn_22 : decode cX2_countIn 22 = .ok (.iinc 2 1, 3) := by decide +kernel
theorem dX2_countIn_25 : decode cX2_countIn 25 = .ok (.iinc 3 1, 3) := by decide +kernel
theorem dX2_countIn_28 : decode cX2_countIn 28 = .ok (.goto (-24), 3) := by decide +kernel
theorem dX2_countIn_31 : decode cX2_countIn 31 = .ok (.iload_n 2, 1) := by decide +kernel
theorem dX2_countIn_32 : decode cX2_countIn 32 = .ok (.ireturn, 1) := by decide +kernel
theorem dX2_wantedSticker_0 : decode cX2_wantedSticker 0 = .ok (.aload_n 0, 1) := by decide +kernel
theorem dX2_wantedSticker_1 : decode cX2_wantedSticker 1 = .ok (.getfield 9, 3) := by decide +kernel
theorem dX2_wantedSticker_4 : decode cX2_wantedSticker 4 = .ok (.iload_n 1, 1) := by decide +kernel
theorem dX2_wantedSticker_5 : decode cX2_wantedSticker 5 = .ok (.iaload, 1) := by decide +kernel
theorem dX2_wantedSticker_6 : decode cX2_wantedSticker 6 = .ok (.iconst 2, 1) := by decide +kernel
theorem dX2_wantedSticker_7 : decode cX2_wantedSticker 7 = .ok (.if_icmp .ne 7, 3) := by decide +kernel
theorem dX2_wantedSticker_10 : decode cX2_wantedSticker 10 = .ok (.iconst 0, 1) := by decide +kernel
theorem dX2_wantedSticker_11 : decode cX2_wantedSticker 11 = .ok (.goto 9, 3) := by decide +kernel
theorem dX2_wantedSticker_14 : decode cX2_wantedSticker 14 = .ok (.aload_n 0, 1) := by decide +kernel
theorem dX2_wantedSticker_15 : decode cX2_wantedSticker 15 = .ok (.getfield 15, 3) := by decide +kernel
theorem dX2_wantedSticker_18 : decode cX2_wantedSticker 18 = .ok (.iload_n 1, 1) := by decide +kernel
theorem dX2_wantedSticker_19 : decode cX2_wantedSticker 19 = .ok (.iaload, 1) := by decide +kernel
theorem dX2_wantedSticker_20 : decode cX2_wantedSticker 20 = .ok (.ireturn, 1) := by decide +kernel
theorem dX2_hasWaitingCreate_0 : decode cX2_hasWaitingCreate 0 = .ok (.iconst 0, 1) := by decide +kernel
theorem dX2_hasWaitingCreate_1 : decode cX2_hasWaitingCreate 1 = .ok (.istore_n 2, 1) := by decide +kernel
theorem dX2_hasWaitingCreate_2 : decode cX2_hasWaitingCreate 2 = .ok (.iload_n 2, 1) := by decide +kernel
theorem dX2_hasWaitingCreate_3 : decode cX2_hasWaitingCreate 3 = .ok (.aload_n 0, 1) := by decide +kernel
theorem dX2_hasWaitingCreate_4 : decode cX2_hasWaitingCreate 4 = .ok (.getfield 36, 3) := by decide +kernel
theorem dX2_hasWaitingCreate_7 : decode cX2_hasWaitingCreate 7 = .ok (.if_icmp .ge 40, 3) := by decide +kernel
theorem dX2_hasWaitingCreate_10 : decode cX2_hasWaitingCreate 10 = .ok (.aload_n 0, 1) := by decide +kernel
theorem dX2_hasWaitingCreate_11 : decode cX2_hasWaitingCreate 11 = .ok (.getfield 24, 3) := by decide +kernel
theorem dX2_hasWaitingCreate_14 : decode cX2_hasWaitingCreate 14 = .ok (.iload_n 2, 1) := by decide +kernel
theorem dX2_hasWaitingCreate_15 : decode cX2_hasWaitingCreate 15 = .ok (.iaload, 1) := by decide +kernel
theorem dX2_hasWaitingCreate_16 : decode cX2_hasWaitingCreate 16 = .ok (.ifCond .ne 25, 3) := by decide +kernel
theorem dX2_hasWaitingCreate_19 : decode cX2_hasWaitingCreate 19 = .ok (.aload_n 0, 1) := by decide +kernel
theorem dX2_hasWaitingCreate_20 : decode cX2_hasWaitingCreate 20 = .ok (.getfield 9, 3) := by decide +kernel
theorem dX2_hasWaitingCreate_23 : decode cX2_hasWaitingCreate 23 = .ok (.iload_n 2, 1) := by decide +kernel
theorem dX2_hasWaitingCreate_24 : decode cX2_hasWaitingCreate 24 = .ok (.iaload, 1) := by decide +kernel
theorem dX2_hasWaitingCreate_25 : decode cX2_hasWaitingCreate 25 = .ok (.iconst 2, 1) := by decide +kernel
theorem dX2_hasWaitingCreate_26 : decode cX2_hasWaitingCreate 26 = .ok (.if_icmp .ne 15, 3) := by decide +kernel
theorem dX2_hasWaitingCreate_29 : decode cX2_hasWaitingCreate 29 = .ok (.aload_n 0, 1) := by decide +kernel
theorem dX2_hasWaitingCreate_30 : decode cX2_hasWaitingCreate 30 = .ok (.getfield 15, 3) := by decide +kernel
theorem dX2_hasWaitingCreate_33 : decode cX2_hasWaitingCreate 33 = .ok (.iload_n 2, 1) := by decide +kernel
theorem dX2_hasWaitingCreate_34 : decode cX2_hasWaitingCreate 34 = .ok (.iaload, 1) := by decide +kernel
theorem dX2_hasWaitingCreate_35 : decode cX2_hasWaitingCreate 35 = .ok (.iload_n 1, 1) := by decide +kernel
theorem dX2_hasWaitingCreate_36 : decode cX2_hasWaitingCreate 36 = .ok (.if_icmp .ne 5, 3) := by decide +kernel
theorem dX2_hasWaitingCreate_39 : decode cX2_hasWaitingCreate 39 = .ok (.iconst 1, 1) := by decide +kernel
theorem dX2_hasWaitingCreate_40 : decode cX2_hasWaitingCreate 40 = .ok (.ireturn, 1) := by decide +kernel
theorem dX2_hasWaitingCreate_41 : decode cX2_hasWaitingCreate 41 = .ok (.iinc 2 1, 3) := by decide +kernel
theorem dX2_hasWaitingCreate_44 : decode cX2_hasWaitingCreate 44 = .ok (.goto (-42), 3) := by decide +kernel
theorem dX2_hasWaitingCreate_47 : decode cX2_hasWaitingCreate 47 = .ok (.iconst 0, 1) := by decide +kernel
theorem dX2_hasWaitingCreate_48 : decode cX2_hasWaitingCreate 48 = .ok (.ireturn, 1) := by decide +kernel
theorem dX3_init_0 : decode cX3_init 0 = .ok (.aload_n 0, 1) := by decide +kernel
theorem dX3_init_1 : decode cX3_init 1 = .ok (.invokespecial 3, 3) := by decide +kernel
theorem dX3_init_4 : decode cX3_init 4 = .ok (.aload_n 0, 1) := by decide +kernel
theorem dX3_init_5 : decode cX3_init 5 = .ok (.bipush 12, 2) := by decide +kernel
theorem dX3_init_7 : decode cX3_init 7 = .ok (.newarray .int, 2) := by decide +kernel
theorem dX3_init_9 : decode cX3_init 9 = .ok (.putfield 9, 3) := by decide +kernel
theorem dX3_init_12 : decode cX3_init 12 = .ok (.aload_n 0, 1) := by decide +kernel
theorem dX3_init_13 : decode cX3_init 13 = .ok (.bipush 12, 2) := by decide +kernel
theorem dX3_init_15 : decode cX3_init 15 = .ok (.newarray .int, 2) := by decide +kernel
theorem dX3_init_17 : decode cX3_init 17 = .ok (.putfield 15, 3) := by decide +kernel
theorem dX3_init_20 : decode cX3_init 20 = .ok (.aload_n 0, 1) := by decide +kernel
theorem dX3_init_21 : decode cX3_init 21 = .ok (.bipush 12, 2) := by decide +kernel
theorem dX3_init_23 : decode cX3_init 23 = .ok (.newarray .boolean, 2) := by decide +kernel
theorem dX3_init_25 : decode cX3_init 25 = .ok (.putfield 18, 3) := by decide +kernel
theorem dX3_init_28 : decode cX3_init 28 = .ok (.aload_n 0, 1) := by decide +kernel
theorem dX3_init_29 : decode cX3_init 29 = .ok (.bipush 12, 2) := by decide +kernel
theorem dX3_init_31 : decode cX3_init 31 = .ok (.newarray .int, 2) := by decide +kernel
theorem dX3_init_33 : decode cX3_init 33 = .ok (.putfield 22, 3) := by decide +kernel
theorem dX3_init_36 : decode cX3_init 36 = .ok (.aload_n 0, 1) := by decide +kernel
theorem dX3_init_37 : decode cX3_init 37 = .ok (.bipush 12, 2) := by decide +kernel
theorem dX3_init_39 : decode cX3_init 39 = .ok (.newarray .int, 2) := by decide +kernel
theorem dX3_init_41 : decode cX3_init 41 = .ok (.putfield 25, 3) := by decide +kernel
theorem dX3_init_44 : decode cX3_init 44 = .ok (.aload_n 0, 1) := by decide +kernel
theorem dX3_init_45 : decode cX3_init 45 = .ok (.bipush 12, 2) := by decide +kernel
theorem dX3_init_47 : decode cX3_init 47 = .ok (.newarray .int, 2) := by decide +kernel
theorem dX3_init_49 : decode cX3_init 49 = .ok (.putfield 28, 3) := by decide +kernel
theorem dX3_init_52 : decode cX3_init 52 = .ok (.iconst 0, 1) := by decide +kernel
theorem dX3_init_53 : decode cX3_init 53 = .ok (.istore_n 1, 1) := by decide +kernel
theorem dX3_init_54 : decode cX3_init 54 = .ok (.iload_n 1, 1) := by decide +kernel
theorem dX3_init_55 : decode cX3_init 55 = .ok (.bipush 12, 2) := by decide +kernel
theorem dX3_init_57 : decode cX3_init 57 = .ok (.if_icmp .ge 44, 3) := by decide +kernel
theorem dX3_init_60 : decode cX3_init 60 = .ok (.iload_n 1, 1) := by decide +kernel
theorem dX3_init_61 : decode cX3_init 61 = .ok (.bipush 6, 2) := by decide +kernel
theorem dX3_init_63 : decode cX3_init 63 = .ok (.if_icmp .ge 9, 3) := by decide +kernel
theorem dX3_init_66 : decode cX3_init 66 = .ok (.iload_n 1, 1) := by decide +kernel
theorem dX3_init_67 : decode cX3_init 67 = .ok (.iconst 1, 1) := by decide +kernel
theorem dX3_init_68 : decode cX3_init 68 = .ok (.iadd, 1) := by decide +kernel
theorem dX3_init_69 : decode cX3_init 69 = .ok (.goto 4, 3) := by decide +kernel
theorem dX3_init_72 : decode cX3_init 72 = .ok (.iconst 0, 1) := by decide +kernel
theorem dX3_init_73 : decode cX3_init 73 = .ok (.istore_n 2, 1) := by decide +kernel
theorem dX3_init_74 : decode cX3_init 74 = .ok (.aload_n 0, 1) := by decide +kernel
theorem dX3_init_75 : decode cX3_init 75 = .ok (.getfield 9, 3) := by decide +kernel
theorem dX3_init_78 : decode cX3_init 78 = .ok (.iload_n 1, 1) := by decide +kernel
theorem dX3_init_79 : decode cX3_init 79 = .ok (.iload_n 2, 1) := by decide +kernel
theorem dX3_init_80 : decode cX3_init 80 = .ok (.iastore, 1) := by decide +kernel
theorem dX3_init_81 : decode cX3_init 81 = .ok (.aload_n 0, 1) := by decide +kernel
theorem dX3_init_82 : decode cX3_init 82 = .ok (.getfield 15, 3) := by decide +kernel
theorem dX3_init_85 : decode cX3_init 85 = .ok (.iload_n 1, 1) := by decide +kernel
theorem dX3_init_86 : decode cX3_init 86 = .ok (.iload_n 2, 1) := by decide +kernel
theorem dX3_init_87 : decode cX3_init 87 = .ok (.iastore, 1) := by decide +kernel
theorem dX3_init_88 : decode cX3_init 88 = .ok (.aload_n 0, 1) := by decide +kernel
theorem dX3_init_89 : decode cX3_init 89 = .ok (.getfield 28, 3) := by decide +kernel
theorem dX3_init_92 : decode cX3_init 92 = .ok (.iload_n 1, 1) := by decide +kernel
theorem dX3_init_93 : decode cX3_init 93 = .ok (.iconst (-1), 1) := by decide +kernel
theorem dX3_init_94 : decode cX3_init 94 = .ok (.iastore, 1) := by decide +kernel
theorem dX3_init_95 : decode cX3_init 95 = .ok (.iinc 1 1, 3) := by decide +kernel
theorem dX3_init_98 : decode cX3_init 98 = .ok (.goto (-44), 3) := by decide +kernel
theorem dX3_init_101 : decode cX3_init 101 = .ok (.return_, 1) := by decide +kernel
theorem dX3_copyFrom_0 : decode cX3_copyFrom 0 = .ok (.aload_n 1, 1) := by decide +kernel
theorem dX3_copyFrom_1 : decode cX3_copyFrom 1 = .ok (.getfield 9, 3) := by decide +kernel
theorem dX3_copyFrom_4 : decode cX3_copyFrom 4 = .ok (.iconst 0, 1) := by decide +kernel
theorem dX3_copyFrom_5 : decode cX3_copyFrom 5 = .ok (.aload_n 0, 1) := by decide +kernel
theorem dX3_copyFrom_6 : decode cX3_copyFrom 6 = .ok (.getfield 9, 3) := by decide +kernel
theorem dX3_copyFrom_9 : decode cX3_copyFrom 9 = .ok (.iconst 0, 1) := by decide +kernel
theorem dX3_copyFrom_10 : decode cX3_copyFrom 10 = .ok (.bipush 12, 2) := by decide +kernel
theorem dX3_copyFrom_12 : decode cX3_copyFrom 12 = .ok (.invokestatic 31, 3) := by decide +kernel
theorem dX3_copyFrom_15 : decode cX3_copyFrom 15 = .ok (.aload_n 1, 1) := by decide +kernel
theorem dX3_copyFrom_16 : decode cX3_copyFrom 16 = .ok (.getfield 15, 3) := by decide +kernel
theorem dX3_copyFrom_19 : decode cX3_copyFrom 19 = .ok (.iconst 0, 1) := by decide +kernel
theorem dX3_copyFrom_20 : decode cX3_copyFrom 20 = .ok (.aload_n 0, 1) := by decide +kernel
theorem dX3_copyFrom_21 : decode cX3_copyFrom 21 = .ok (.getfield 15, 3) := by decide +kernel
theorem dX3_copyFrom_24 : decode cX3_copyFrom 24 = .ok (.iconst 0, 1) := by decide +kernel
theorem dX3_copyFrom_25 : decode cX3_copyFrom 25 = .ok (.bipush 12, 2) := by decide +kernel
theorem dX3_copyFrom_27 : decode cX3_copyFrom 27 = .ok (.invokestatic 31, 3) := by decide +kernel
theorem dX3_copyFrom_30 : decode cX3_copyFrom 30 = .ok (.iconst 0, 1) := by decide +kernel
theorem dX3_copyFrom_31 : decode cX3_copyFrom 31 = .ok (.istore_n 2, 1) := by decide +kernel
theorem dX3_copyFrom_32 : decode cX3_copyFrom 32 = .ok (.iload_n 2, 1) := by decide +kernel
theorem dX3_copyFrom_33 : decode cX3_copyFrom 33 = .ok (.bipush 12, 2) := by decide +kernel
theorem dX3_copyFrom_35 : decode cX3_copyFrom 35 = .ok (.if_icmp .ge 21, 3) := by decide +kernel
theorem dX3_copyFrom_38 : decode cX3_copyFrom 38 = .ok (.aload_n 0, 1) := by decide +kernel
theorem dX3_copyFrom_39 : decode cX3_copyFrom 39 = .ok (.getfield 18, 3) := by decide +kernel
theorem dX3_copyFrom_42 : decode cX3_copyFrom 42 = .ok (.iload_n 2, 1) := by decide +kernel
theorem dX3_copyFrom_43 : decode cX3_copyFrom 43 = .ok (.aload_n 1, 1) := by decide +kernel
theorem dX3_copyFrom_44 : decode cX3_copyFrom 44 = .ok (.getfield 18, 3) := by decide +kernel
theorem dX3_copyFrom_47 : decode cX3_copyFrom 47 = .ok (.iload_n 2, 1) := by decide +kernel
theorem dX3_copyFrom_48 : decode cX3_copyFrom 48 = .ok (.baload, 1) := by decide +kernel
theorem dX3_copyFrom_49 : decode cX3_copyFrom 49 = .ok (.bastore, 1) := by decide +kernel
theorem dX3_copyFrom_50 : decode cX3_copyFrom 50 = .ok (.iinc 2 1, 3) := by decide +kernel
theorem dX3_copyFrom_53 : decode cX3_copyFrom 53 = .ok (.goto (-21), 3) := by decide +kernel
theorem dX3_copyFrom_56 : decode cX3_copyFrom 56 = .ok (.aload_n 1, 1) := by decide +kernel
theorem dX3_copyFrom_57 : decode cX3_copyFrom 57 = .ok (.getfield 22, 3) := by decide +kernel
theorem dX3_copyFrom_60 : decode cX3_copyFrom 60 = .ok (.iconst 0, 1) := by decide +kernel
theorem dX3_copyFrom_61 : decode cX3_copyFrom 61 = .ok (.aload_n 0, 1) := by decide +kernel
theorem dX3_copyFrom_62 : decode cX3_copyFrom 62 = .ok (.getfield 22, 3) := by decide +kernel
theorem dX3_copyFrom_65 : decode cX3_copyFrom 65 = .ok (.iconst 0, 1) := by decide +kernel
theorem dX3_copyFrom_66 : decode cX3_copyFrom 66 = .ok (.bipush 12, 2) := by decide +kernel
theorem dX3_copyFrom_68 : decode cX3_copyFrom 68 = .ok (.invokestatic 31, 3) := by decide +kernel
theorem dX3_copyFrom_71 : decode cX3_copyFrom 71 = .ok (.aload_n 1, 1) := by decide +kernel
theorem dX3_copyFrom_72 : decode cX3_copyFrom 72 = .ok (.getfield 25, 3) := by decide +kernel
theorem dX3_copyFrom_75 : decode cX3_copyFrom 75 = .ok (.iconst 0, 1) := by decide +kernel
theorem dX3_copyFrom_76 : decode cX3_copyFrom 76 = .ok (.aload_n 0, 1) := by decide +kernel
theorem dX3_copyFrom_77 : decode cX3_copyFrom 77 = .ok (.getfield 25, 3) := by decide +kernel
theorem dX3_copyFrom_80 : decode cX3_copyFrom 80 = .ok (.iconst 0, 1) := by decide +kernel
theorem dX3_copyFrom_81 : decode cX3_copyFrom 81 = .ok (.bipush 12, 2) := by decide +kernel
theorem dX3_copyFrom_83 : decode cX3_copyFrom 83 = .ok (.invokestatic 31, 3) := by decide +kernel
theorem dX3_copyFrom_86 : decode cX3_copyFrom 86 = .ok (.aload_n 1, 1) := by decide +kernel
theorem dX3_copyFrom_87 : decode cX3_copyFrom 87 = .ok (.getfield 28, 3) := by decide +kernel
theorem dX3_copyFrom_90 : decode cX3_copyFrom 90 = .ok (.iconst 0, 1) := by decide +kernel
theorem dX3_copyFrom_91 : decode cX3_copyFrom 91 = .ok (.aload_n 0, 1) := by decide +kernel
theorem dX3_copyFrom_92 : decode cX3_copyFrom 92 = .ok (.getfield 28, 3) := by decide +kernel
theorem dX3_copyFrom_95 : decode cX3_copyFrom 95 = .ok (.iconst 0, 1) := by decide +kernel
theorem dX3_copyFrom_96 : decode cX3_copyFrom 96 = .ok (.bipush 12, 2) := by decide +kernel
theorem dX3_copyFrom_98 : decode cX3_copyFrom 98 = .ok (.invokestatic 31, 3) := by decide +kernel
theorem dX3_copyFrom_101 : decode cX3_copyFrom 101 = .ok (.return_, 1) := by decide +kernel
theorem dX3_isScratch_0 : decode cX3_isScratch 0 = .ok (.aload_n 0, 1) := by decide +kernel
theorem dX3_isScratch_1 : decode cX3_isScratch 1 = .ok (.getfield 9, 3) := by decide +kernel
theorem dX3_isScratch_4 : decode cX3_isScratch 4 = .ok (.iload_n 1, 1) := by decide +kernel
theorem dX3_isScratch_5 : decode cX3_isScratch 5 = .ok (.iaload, 1) := by decide +kernel
theorem dX3_isScratch_6 : decode cX3_isScratch 6 = .ok (.ifCond .eq 13, 3) := by decide +kernel
theorem dX3_isScratch_9 : decode cX3_isScratch 9 = .ok (.aload_n 0, 1) := by decide +kernel
theorem dX3_isScratch_10 : decode cX3_isScratch 10 = .ok (.getfield 22, 3) := by decide +kernel
theorem dX3_isScratch_13 : decode cX3_isScratch 13 = .ok (.iload_n 1, 1) := by decide +kernel
theorem dX3_isScratch_14 : decode cX3_isScratch 14 = .ok (.iaload, 1) := by decide +kernel
theorem dX3_isScratch_15 : decode cX3_isScratch 15 = .ok (.iload_n 2, 1) := by decide +kernel
theorem dX3_isScratch_16 : decode cX3_isScratch 16 = .ok (.if_icmp .ge 7, 3) := by decide +kernel
theorem dX3_isScratch_19 : decode cX3_isScratch 19 = .ok (.iconst 1, 1) := by decide +kernel
theorem dX3_isScratch_20 : decode cX3_isScratch 20 = .ok (.goto 4, 3) := by decide +kernel
theorem dX3_isScratch_23 : decode cX3_isScratch 23 = .ok (.iconst 0, 1) := by decide +kernel
theorem dX3_isScratch_24 : decode cX3_isScratch 24 = .ok (.ireturn, 1) := by decide +kernel
theorem dX3_keepsLabel_0 : decode cX3_keepsLabel 0 = .ok (.iconst 0, 1) := by decide +kernel
theorem dX3_keepsLabel_1 : decode cX3_keepsLabel 1 = .ok (.istore_n 3, 1) := by decide +kernel
theorem dX3_keepsLabel_2 : decode cX3_keepsLabel 2 = .ok (.iload_n 3, 1) := by decide +kernel
theorem dX3_keepsLabel_3 : decode cX3_keepsLabel 3 = .ok (.bipush 12, 2) := by decide +kernel
theorem dX3_keepsLabel_5 : decode cX3_keepsLabel 5 = .ok (.if_icmp .ge 30, 3) := by decide +kernel
theorem dX3_keepsLabel_8 : decode cX3_keepsLabel 8 = .ok (.aload_n 0, 1) := by decide +kernel
theorem dX3_keepsLabel_9 : decode cX3_keepsLabel 9 = .ok (.getfield 9, 3) := by decide +kernel
theorem dX3_keepsLabel_12 : decode cX3_keepsLabel 12 = .ok (.iload_n 3, 1) := by decide +kernel
theorem dX3_keepsLabel_13 : decode cX3_keepsLabel 13 = .ok (.iaload, 1) := by decide +kernel
theorem dX3_keepsLabel_14 : decode cX3_keepsLabel 14 = .ok (.iload_n 1, 1) := by decide +kernel
theorem dX3_keepsLabel_15 : decode cX3_keepsLabel 15 = .ok (.if_icmp .ne 14, 3) := by decide +kernel
theorem dX3_keepsLabel_18 : decode cX3_keepsLabel 18 = .ok (.aload_n 0, 1) := by decide +kernel
theorem dX3_keepsLabel_19 : decode cX3_keepsLabel 19 = .ok (.iload_n 3, 1) := by decide +kernel
theorem dX3_keepsLabel_20 : decode cX3_keepsLabel 20 = .ok (.iload_n 2, 1) := by decide +kernel
theorem dX3_keepsLabel_21 : decode cX3_keepsLabel 21 = .ok (.invokevirtual 37, 3) := by decide +kernel
theorem dX3_keepsLabel_24 : decode cX3_keepsLabel 24 = .ok (.ifCond .ne 5, 3) := by decide +kernel
theorem dX3_keepsLabel_27 : decode cX3_keepsLabel 27 = .ok (.iconst 1, 1) := by decide +kernel
theorem dX3_keepsLabel_28 : decode cX3_keepsLabel 28 = .ok (.ireturn, 1) := by decide +kernel
theorem dX3_keepsLabel_29 : decode cX3_keepsLabel 29 = .ok (.iinc 3 1, 3) := by decide +kernel
theorem dX3_keepsLabel_32 : decode cX3_keepsLabel 32 = .ok (.goto (-30), 3) := by decide +kernel
theorem dX3_keepsLabel_35 : decode cX3_keepsLabel 35 = .ok (.iconst 0, 1) := by decide +kernel
theorem dX3_keepsLabel_36 : decode cX3_keepsLabel 36 = .ok (.ireturn, 1) := by decide +kernel
theorem dX3_findOn_0 : decode cX3_findOn 0 = .ok (.iconst 0, 1) := by decide +kernel
theorem dX3_findOn_1 : decode cX3_findOn 1 = .ok (.istore_n 2, 1) := by decide +kernel
theorem dX3_findOn_2 : decode cX3_findOn 2 = .ok (.iload_n 2, 1) := by decide +kernel
theorem dX3_findOn_3 : decode cX3_findOn 3 = .ok (.bipush 12, 2) := by decide +kernel
theorem dX3_findOn_5 : decode cX3_findOn 5 = .ok (.if_icmp .ge 21, 3) := by decide +kernel
theorem dX3_findOn_8 : decode cX3_findOn 8 = .ok (.aload_n 0, 1) := by decide +kernel
theorem dX3_findOn_9 : decode cX3_findOn 9 = .ok (.getfield 28, 3) := by decide +kernel
theorem dX3_findOn_12 : decode cX3_findOn 12 = .ok (.iload_n 2, 1) := by decide +kernel
theorem dX3_findOn_13 : decode cX3_findOn 13 = .ok (.iaload, 1) := by decide +kernel
theorem dX3_findOn_14 : decode cX3_findOn 14 = .ok (.iload_n 1, 1) := by decide +kernel
theorem dX3_findOn_15 : decode cX3_findOn 15 = .ok (.if_icmp .ne 5, 3) := by decide +kernel
theorem dX3_findOn_18 : decode cX3_findOn 18 = .ok (.iload_n 2, 1) := by decide +kernel
theorem dX3_findOn_19 : decode cX3_findOn 19 = .ok (.ireturn, 1) := by decide +kernel
theorem dX3_findOn_20 : decode cX3_findOn 20 = .ok (.iinc 2 1, 3) := by decide +kernel
theorem dX3_findOn_23 : decode cX3_findOn 23 = .ok (.goto (-21), 3) := by decide +kernel
theorem dX3_findOn_26 : decode cX3_findOn 26 = .ok (.iconst (-1), 1) := by decide +kernel
theorem dX3_findOn_27 : decode cX3_findOn 27 = .ok (.ireturn, 1) := by decide +kernel
theorem dX3_findEmptyDrive_0 : decode cX3_findEmptyDrive 0 = .ok (.iconst 0, 1) := by decide +kernel
theorem dX3_findEmptyDrive_1 : decode cX3_findEmptyDrive 1 = .ok (.istore_n 1, 1) := by decide +kernel
theorem dX3_findEmptyDrive_2 : decode cX3_findEmptyDrive 2 = .ok (.iload_n 1, 1) := by decide +kernel
theorem dX3_findEmptyDrive_3 : decode cX3_findEmptyDrive 3 = .ok (.iconst 3, 1) := by decide +kernel
theorem dX3_findEmptyDrive_4 : decode cX3_findEmptyDrive 4 = .ok (.if_icmp .ge 20, 3) := by decide +kernel
theorem dX3_findEmptyDrive_7 : decode cX3_findEmptyDrive 7 = .ok (.aload_n 0, 1) := by decide +kernel
theorem dX3_findEmptyDrive_8 : decode cX3_findEmptyDrive 8 = .ok (.iload_n 1, 1) := by decide +kernel
theorem dX3_findEmptyDrive_9 : decode cX3_findEmptyDrive 9 = .ok (.invokevirtual 41, 3) := by decide +kernel
theorem dX3_findEmptyDrive_12 : decode cX3_findEmptyDrive 12 = .ok (.iconst (-1), 1) := by decide +kernel
theorem dX3_findEmptyDrive_13 : decode cX3_findEmptyDrive 13 = .ok (.if_icmp .ne 5, 3) := by decide +kernel
theorem dX3_findEmptyDrive_16 : decode cX3_findEmptyDrive 16 = .ok (.iload_n 1, 1) := by decide +kernel
theorem dX3_findEmptyDrive_17 : decode cX3_findEmptyDrive 17 = .ok (.ireturn, 1) := by decide +kernel
theorem dX3_findEmptyDrive_18 : decode cX3_findEmptyDrive 18 = .ok (.iinc 1 1, 3) := by decide +kernel
theorem dX3_findEmptyDrive_21 : decode cX3_findEmptyDrive 21 = .ok (.goto (-19), 3) := by decide +kernel
theorem dX3_findEmptyDrive_24 : decode cX3_findEmptyDrive 24 = .ok (.iconst (-1), 1) := by decide +kernel
theorem dX3_findEmptyDrive_25 : decode cX3_findEmptyDrive 25 = .ok (.ireturn, 1) := by decide +kernel
theorem dX3_findOnShelf_0 : decode cX3_findOnShelf 0 = .ok (.iconst 0, 1) := by decide +kernel
theorem dX3_findOnShelf_1 : decode cX3_findOnShelf 1 = .ok (.istore_n 2, 1) := by decide +kernel
theorem dX3_findOnShelf_2 : decode cX3_findOnShelf 2 = .ok (.iload_n 2, 1) := by decide +kernel
theorem dX3_findOnShelf_3 : decode cX3_findOnShelf 3 = .ok (.bipush 12, 2) := by decide +kernel
theorem dX3_findOnShelf_5 : decode cX3_findOnShelf 5 = .ok (.if_icmp .ge 31, 3) := by decide +kernel
theorem dX3_findOnShelf_8 : decode cX3_findOnShelf 8 = .ok (.aload_n 0, 1) := by decide +kernel
theorem dX3_findOnShelf_9 : decode cX3_findOnShelf 9 = .ok (.getfield 28, 3) := by decide +kernel
theorem dX3_findOnShelf_12 : decode cX3_findOnShelf 12 = .ok (.iload_n 2, 1) := by decide +kernel
theorem dX3_findOnShelf_13 : decode cX3_findOnShelf 13 = .ok (.iaload, 1) := by decide +kernel
theorem dX3_findOnShelf_14 : decode cX3_findOnShelf 14 = .ok (.iconst (-1), 1) := by decide +kernel
theorem dX3_findOnShelf_15 : decode cX3_findOnShelf 15 = .ok (.if_icmp .ne 15, 3) := by decide +kernel
theorem dX3_findOnShelf_18 : decode cX3_findOnShelf 18 = .ok (.aload_n 0, 1) := by decide +kernel
theorem dX3_findOnShelf_19 : decode cX3_findOnShelf 19 = .ok (.getfield 15, 3) := by decide +kernel
theorem dX3_findOnShelf_22 : decode cX3_findOnShelf 22 = .ok (.iload_n 2, 1) := by decide +kernel
theorem dX3_findOnShelf_23 : decode cX3_findOnShelf 23 = .ok (.iaload, 1) := by decide +kernel
theorem dX3_findOnShelf_24 : decode cX3_findOnShelf 24 = .ok (.iload_n 1, 1) := by decide +kernel
theorem dX3_findOnShelf_25 : decode cX3_findOnShelf 25 = .ok (.if_icmp .ne 5, 3) := by decide +kernel
theorem dX3_findOnShelf_28 : decode cX3_findOnShelf 28 = .ok (.iload_n 2, 1) := by decide +kernel
theorem dX3_findOnShelf_29 : decode cX3_findOnShelf 29 = .ok (.ireturn, 1) := by decide +kernel
theorem dX3_findOnShelf_30 : decode cX3_findOnShelf 30 = .ok (.iinc 2 1, 3) := by decide +kernel
theorem dX3_findOnShelf_33 : decode cX3_findOnShelf 33 = .ok (.goto (-31), 3) := by decide +kernel
theorem dX3_findOnShelf_36 : decode cX3_findOnShelf 36 = .ok (.iconst (-1), 1) := by decide +kernel
theorem dX3_findOnShelf_37 : decode cX3_findOnShelf 37 = .ok (.ireturn, 1) := by decide +kernel
theorem dX3_findNextOnShelf_0 : decode cX3_findNextOnShelf 0 = .ok (.iconst (-1), 1) := by decide +kernel
theorem dX3_findNextOnShelf_1 : decode cX3_findNextOnShelf 1 = .ok (.istore_n 2, 1) := by decide +kernel
theorem dX3_findNextOnShelf_2 : decode cX3_findNextOnShelf 2 = .ok (.iconst 0, 1) := by decide +kernel
theorem dX3_findNextOnShelf_3 : decode cX3_findNextOnShelf 3 = .ok (.istore_n 3, 1) := by decide +kernel
theorem dX3_findNextOnShelf_4 : decode cX3_findNextOnShelf 4 = .ok (.iload_n 3, 1) := by decide +kernel
theorem dX3_findNextOnShelf_5 : decode cX3_findNextOnShelf 5 = .ok (.bipush 12, 2) := by decide +kernel
theorem dX3_findNextOnShelf_7 : decode cX3_findNextOnShelf 7 = .ok (.if_icmp .ge 33, 3) := by decide +kernel
theorem dX3_findNextOnShelf_10 : decode cX3_findNextOnShelf 10 = .ok (.aload_n 0, 1) := by decide +kernel
theorem dX3_findNextOnShelf_11 : decode cX3_findNextOnShelf 11 = .ok (.getfield 28, 3) := by decide +kernel
theorem dX3_findNextOnShelf_14 : decode cX3_findNextOnShelf 14 = .ok (.iload_n 3, 1) := by decide +kernel
theorem dX3_findNextOnShelf_15 : decode cX3_findNextOnShelf 15 = .ok (.iaload, 1) := by decide +kernel
theorem dX3_findNextOnShelf_16 : decode cX3_findNextOnShelf 16 = .ok (.iconst (-1), 1) := by decide +kernel
theorem dX3_findNextOnShelf_17 : decode cX3_findNextOnShelf 17 = .ok (.if_icmp .ne 17, 3) := by decide +kernel
theorem dX3_findNextOnShelf_20 : decode cX3_findNextOnShelf 20 = .ok (.iload_n 3, 1) := by decide +kernel
theorem dX3_findNextOnShelf_21 : decode cX3_findNextOnShelf 21 = .ok (.iload_n 1, 1) := by decide +kernel
theorem dX3_findNextOnShelf_22 : decode cX3_findNextOnShelf 22 = .ok (.if_icmp .le 5, 3) := by decide +kernel
theorem dX3_findNextOnShelf_25 : decode cX3_findNextOnShelf 25 = .ok (.iload_n 3, 1) := by decide +kernel
theorem dX3_findNextOnShelf_26 : decode cX3_findNextOnShelf 26 = .ok (.ireturn, 1) := by decide +kernel
theorem dX3_findNextOnShelf_27 : decode cX3_findNextOnShelf 27 = .ok (.iload_n 2, 1) := by decide +kernel
theorem dX3_findNextOnShelf_28 : decode cX3_findNextOnShelf 28 = .ok (.iconst (-1), 1) := by decide +kernel
theorem dX3_findNextOnShelf_29 : decode cX3_findNextOnShelf 29 = .ok (.if_icmp .ne 5, 3) := by decide +kernel
theorem dX3_findNextOnShelf_32 : decode cX3_findNextOnShelf 32 = .ok (.iload_n 3, 1) := by decide +kernel
theorem dX3_findNextOnShelf_33 : decode cX3_findNextOnShelf 33 = .ok (.istore_n 2, 1) := by decide +kernel
theorem dX3_findNextOnShelf_34 : decode cX3_findNextOnShelf 34 = .ok (.iinc 3 1, 3) := by decide +kernel
theorem dX3_findNextOnShelf_37 : decode cX3_findNextOnShelf 37 = .ok (.goto (-33), 3) := by decide +kernel
theorem dX3_findNextOnShelf_40 : decode cX3_findNextOnShelf 40 = .ok (.iload_n 2, 1) := by decide +kernel
theorem dX3_findNextOnShelf_41 : decode cX3_findNextOnShelf 41 = .ok (.ireturn, 1) := by decide +kernel
theorem dX4_init_0 : decode cX4_init 0 = .ok (.aload_n 0, 1) := by decide +kernel
theorem dX4_init_1 : decode cX4_init 1 = .ok (.invokespecial 3, 3) := by decide +kernel
theorem dX4_init_4 : decode cX4_init 4 = .ok (.aload_n 0, 1) := by decide +kernel
theorem dX4_init_5 : decode cX4_init 5 = .ok (.new 9, 3) := by decide +kernel
theorem dX4_init_8 : decode cX4_init 8 = .ok (.dup, 1) := by decide +kernel
theorem dX4_init_9 : decode cX4_init 9 = .ok (.invokespecial 11, 3) := by decide +kernel
theorem dX4_init_12 : decode cX4_init 12 = .ok (.putfield 12, 3) := by decide +kernel
theorem dX4_init_15 : decode cX4_init 15 = .ok (.aload_n 0, 1) := by decide +kernel
theorem dX4_init_16 : decode cX4_init 16 = .ok (.new 18, 3) := by decide +kernel
theorem dX4_init_19 : decode cX4_init 19 = .ok (.dup, 1) := by decide +kernel
theorem dX4_init_20 : decode cX4_init 20 = .ok (.invokespecial 20, 3) := by decide +kernel
theorem dX4_init_23 : decode cX4_init 23 = .ok (.putfield 21, 3) := by decide +kernel
theorem dX4_init_26 : decode cX4_init 26 = .ok (.aload_n 0, 1) := by decide +kernel
theorem dX4_init_27 : decode cX4_init 27 = .ok (.iconst 0, 1) := by decide +kernel
theorem dX4_init_28 : decode cX4_init 28 = .ok (.putfield 25, 3) := by decide +kernel
theorem dX4_init_31 : decode cX4_init 31 = .ok (.aload_n 0, 1) := by decide +kernel
theorem dX4_init_32 : decode cX4_init 32 = .ok (.iconst 0, 1) := by decide +kernel
theorem dX4_init_33 : decode cX4_init 33 = .ok (.putfield 29, 3) := by decide +kernel
theorem dX4_init_36 : decode cX4_init 36 = .ok (.aload_n 0, 1) := by decide +kernel
theorem dX4_init_37 : decode cX4_init 37 = .ok (.bipush 10, 2) := by decide +kernel
theorem dX4_init_39 : decode cX4_init 39 = .ok (.putfield 32, 3) := by decide +kernel
theorem dX4_init_42 : decode cX4_init 42 = .ok (.aload_n 0, 1) := by decide +kernel
theorem dX4_init_43 : decode cX4_init 43 = .ok (.iconst 0, 1) := by decide +kernel
theorem dX4_init_44 : decode cX4_init 44 = .ok (.putfield 35, 3) := by decide +kernel
theorem dX4_init_47 : decode cX4_init 47 = .ok (.aload_n 0, 1) := by decide +kernel
theorem dX4_init_48 : decode cX4_init 48 = .ok (.iconst 0, 1) := by decide +kernel
theorem dX4_init_49 : decode cX4_init 49 = .ok (.putfield 38, 3) := by decide +kernel
theorem dX4_init_52 : decode cX4_init 52 = .ok (.aload_n 0, 1) := by decide +kernel
theorem dX4_init_53 : decode cX4_init 53 = .ok (.iconst 0, 1) := by decide +kernel
theorem dX4_init_54 : decode cX4_init 54 = .ok (.putfield 41, 3) := by decide +kernel
theorem dX4_init_57 : decode cX4_init 57 = .ok (.aload_n 0, 1) := by decide +kernel
theorem dX4_init_58 : decode cX4_init 58 = .ok (.iconst 0, 1) := by decide +kernel
theorem dX4_init_59 : decode cX4_init 59 = .ok (.putfield 44, 3) := by decide +kernel
theorem dX4_init_62 : decode cX4_init 62 = .ok (.aload_n 0, 1) := by decide +kernel
theorem dX4_init_63 : decode cX4_init 63 = .ok (.iconst 0, 1) := by decide +kernel
theorem dX4_init_64 : decode cX4_init 64 = .ok (.putfield 47, 3) := by decide +kernel
theorem dX4_init_67 : decode cX4_init 67 = .ok (.aload_n 0, 1) := by decide +kernel
theorem dX4_init_68 : decode cX4_init 68 = .ok (.iconst 0, 1) := by decide +kernel
theorem dX4_init_69 : decode cX4_init 69 = .ok (.putfield 50, 3) := by decide +kernel
theorem dX4_init_72 : decode cX4_init 72 = .ok (.aload_n 0, 1) := by decide +kernel
theorem dX4_init_73 : decode cX4_init 73 = .ok (.iconst 0, 1) := by decide +kernel
theorem dX4_init_74 : decode cX4_init 74 = .ok (.putfield 53, 3) := by decide +kernel
theorem dX4_init_77 : decode cX4_init 77 = .ok (.return_, 1) := by decide +kernel
theorem dX4_copyFrom_0 : decode cX4_copyFrom 0 = .ok (.aload_n 0, 1) := by decide +kernel
theorem dX4_copyFrom_1 : decode cX4_copyFrom 1 = .ok (.getfield 12, 3) := by decide +kernel
theorem dX4_copyFrom_4 : decode cX4_copyFrom 4 = .ok (.aload_n 1, 1) := by decide +kernel
theorem dX4_copyFrom_5 : decode cX4_copyFrom 5 = .ok (.getfield 12, 3) := by decide +kernel
theorem dX4_copyFrom_8 : decode cX4_copyFrom 8 = .ok (.invokevirtual 56, 3) := by decide +kernel
theorem dX4_copyFrom_11 : decode cX4_copyFrom 11 = .ok (.aload_n 0, 1) := by decide +kernel
theorem dX4_copyFrom_12 : decode cX4_copyFrom 12 = .ok (.getfield 21, 3) := by decide +kernel
theorem dX4_copyFrom_15 : decode cX4_copyFrom 15 = .ok (.aload_n 1, 1) := by decide +kernel
theorem dX4_copyFrom_16 : decode cX4_copyFrom 16 = .ok (.getfield 21, 3) := by decide +kernel
theorem dX4_copyFrom_19 : decode cX4_copyFrom 19 = .ok (.invokevirtual 60, 3) := by decide +kernel
theorem dX4_copyFrom_22 : decode cX4_copyFrom 22 = .ok (.aload_n 0, 1) := by decide +kernel
theorem dX4_copyFrom_23 : decode cX4_copyFrom 23 = .ok (.aload_n 1, 1) := by decide +kernel
theorem dX4_copyFrom_24 : decode cX4_copyFrom 24 = .ok (.getfield 25, 3) := by decide +kernel
theorem dX4_copyFrom_27 : decode cX4_copyFrom 27 = .ok (.putfield 25, 3) := by decide +kernel
theorem dX4_copyFrom_30 : decode cX4_copyFrom 30 = .ok (.aload_n 0, 1) := by decide +kernel
theorem dX4_copyFrom_31 : decode cX4_copyFrom 31 = .ok (.aload_n 1, 1) := by decide +kernel
theorem dX4_copyFrom_32 : decode cX4_copyFrom 32 = .ok (.getfield 29, 3) := by decide +kernel
theorem dX4_copyFrom_35 : decode cX4_copyFrom 35 = .ok (.putfield 29, 3) := by decide +kernel
theorem dX4_copyFrom_38 : decode cX4_copyFrom 38 = .ok (.aload_n 0, 1) := by decide +kernel
theorem dX4_copyFrom_39 : decode cX4_copyFrom 39 = .ok (.aload_n 1, 1) := by decide +kernel
theorem dX4_copyFrom_40 : decode cX4_copyFrom 40 = .ok (.getfield 32, 3) := by decide +kernel
theorem dX4_copyFrom_43 : decode cX4_copyFrom 43 = .ok (.putfield 32, 3) := by decide +kernel
theorem dX4_copyFrom_46 : decode cX4_copyFrom 46 = .ok (.aload_n 0, 1) := by decide +kernel
theorem dX4_copyFrom_47 : decode cX4_copyFrom 47 = .ok (.aload_n 1, 1) := by decide +kernel
theorem dX4_copyFrom_48 : decode cX4_copyFrom 48 = .ok (.getfield 35, 3) := by decide +kernel
theorem dX4_copyFrom_51 : decode cX4_copyFrom 51 = .ok (.putfield 35, 3) := by decide +kernel
theorem dX4_copyFrom_54 : decode cX4_copyFrom 54 = .ok (.aload_n 0, 1) := by decide +kernel
theorem dX4_copyFrom_55 : decode cX4_copyFrom 55 = .ok (.aload_n 1, 1) := by decide +kernel
theorem dX4_copyFrom_56 : decode cX4_copyFrom 56 = .ok (.getfield 38, 3) := by decide +kernel
theorem dX4_copyFrom_59 : decode cX4_copyFrom 59 = .ok (.putfield 38, 3) := by decide +kernel
theorem dX4_copyFrom_62 : decode cX4_copyFrom 62 = .ok (.aload_n 0, 1) := by decide +kernel
theorem dX4_copyFrom_63 : decode cX4_copyFrom 63 = .ok (.aload_n 1, 1) := by decide +kernel
theorem dX4_copyFrom_64 : decode cX4_copyFrom 64 = .ok (.getfield 41, 3) := by decide +kernel
theorem dX4_copyFrom_67 : decode cX4_copyFrom 67 = .ok (.putfield 41, 3) := by decide +kernel
theorem dX4_copyFrom_70 : decode cX4_copyFrom 70 = .ok (.aload_n 0, 1) := by decide +kernel
theorem dX4_copyFrom_71 : decode cX4_copyFrom 71 = .ok (.aload_n 1, 1) := by decide +kernel
theorem dX4_copyFrom_72 : decode cX4_copyFrom 72 = .ok (.getfield 44, 3) := by decide +kernel
theorem dX4_copyFrom_75 : decode cX4_copyFrom 75 = .ok (.putfield 44, 3) := by decide +kernel
theorem dX4_copyFrom_78 : decode cX4_copyFrom 78 = .ok (.aload_n 0, 1) := by decide +kernel
theorem dX4_copyFrom_79 : decode cX4_copyFrom 79 = .ok (.aload_n 1, 1) := by decide +kernel
theorem dX4_copyFrom_80 : decode cX4_copyFrom 80 = .ok (.getfield 47, 3) := by decide +kernel
theorem dX4_copyFrom_83 : decode cX4_copyFrom 83 = .ok (.putfield 47, 3) := by decide +kernel
theorem dX4_copyFrom_86 : decode cX4_copyFrom 86 = .ok (.aload_n 0, 1) := by decide +kernel
theorem dX4_copyFrom_87 : decode cX4_copyFrom 87 = .ok (.aload_n 1, 1) := by decide +kernel
theorem dX4_copyFrom_88 : decode cX4_copyFrom 88 = .ok (.getfield 50, 3) := by decide +kernel
theorem dX4_copyFrom_91 : decode cX4_copyFrom 91 = .ok (.putfield 50, 3) := by decide +kernel
theorem dX4_copyFrom_94 : decode cX4_copyFrom 94 = .ok (.aload_n 0, 1) := by decide +kernel
theorem dX4_copyFrom_95 : decode cX4_copyFrom 95 = .ok (.aload_n 1, 1) := by decide +kernel
theorem dX4_copyFrom_96 : decode cX4_copyFrom 96 = .ok (.getfield 53, 3) := by decide +kernel
theorem dX4_copyFrom_99 : decode cX4_copyFrom 99 = .ok (.putfield 53, 3) := by decide +kernel
theorem dX4_copyFrom_102 : decode cX4_copyFrom 102 = .ok (.return_, 1) := by decide +kernel
theorem dX4_hasNextDay_0 : decode cX4_hasNextDay 0 = .ok (.aload_n 0, 1) := by decide +kernel
theorem dX4_hasNextDay_1 : decode cX4_hasNextDay 1 = .ok (.getfield 25, 3) := by decide +kernel
theorem dX4_hasNextDay_4 : decode cX4_hasNextDay 4 = .ok (.sipush 999, 3) := by decide +kernel
theorem dX4_hasNextDay_7 : decode cX4_hasNextDay 7 = .ok (.if_icmp .ge 7, 3) := by decide +kernel
theorem dX4_hasNextDay_10 : decode cX4_hasNextDay 10 = .ok (.iconst 1, 1) := by decide +kernel
theorem dX4_hasNextDay_11 : decode cX4_hasNextDay 11 = .ok (.goto 4, 3) := by decide +kernel
theorem dX4_hasNextDay_14 : decode cX4_hasNextDay 14 = .ok (.iconst 0, 1) := by decide +kernel
theorem dX4_hasNextDay_15 : decode cX4_hasNextDay 15 = .ok (.ireturn, 1) := by decide +kernel
theorem dX4_takesJob_0 : decode cX4_takesJob 0 = .ok (.aload_n 0, 1) := by decide +kernel
theorem dX4_takesJob_1 : decode cX4_takesJob 1 = .ok (.getfield 21, 3) := by decide +kernel
theorem dX4_takesJob_4 : decode cX4_takesJob 4 = .ok (.invokevirtual 63, 3) := by decide +kernel
theorem dX4_takesJob_7 : decode cX4_takesJob 7 = .ok (.ifCond .eq 5, 3) := by decide +kernel
theorem dX4_takesJob_10 : decode cX4_takesJob 10 = .ok (.iconst 0, 1) := by decide +kernel
theorem dX4_takesJob_11 : decode cX4_takesJob 11 = .ok (.ireturn, 1) := by decide +kernel
theorem dX4_takesJob_12 : decode cX4_takesJob 12 = .ok (.iload_n 1, 1) := by decide +kernel
theorem dX4_takesJob_13 : decode cX4_takesJob 13 = .ok (.iconst 2, 1) := by decide +kernel
theorem dX4_takesJob_14 : decode cX4_takesJob 14 = .ok (.if_icmp .ne 29, 3) := by decide +kernel
theorem dX4_takesJob_17 : decode cX4_takesJob 17 = .ok (.aload_n 0, 1) := by decide +kernel
theorem dX4_takesJob_18 : decode cX4_takesJob 18 = .ok (.getfield 12, 3) := by decide +kernel
theorem dX4_takesJob_21 : decode cX4_takesJob 21 = .ok (.iload_n 2, 1) := by decide +kernel
theorem dX4_takesJob_22 : decode cX4_takesJob 22 = .ok (.aload_n 0, 1) := by decide +kernel
theorem dX4_takesJob_23 : decode cX4_takesJob 23 = .ok (.getfield 25, 3) := by decide +kernel
theorem dX4_takesJob_26 : decode cX4_takesJob 26 = .ok (.invokevirtual 67, 3) := by decide +kernel
theorem dX4_takesJob_29 : decode cX4_takesJob 29 = .ok (.ifCond .ne 18, 3) := by decide +kernel
theorem dX4_takesJob_32 : decode cX4_takesJob 32 = .ok (.aload_n 0, 1) := by decide +kernel
theorem dX4_takesJob_33 : decode cX4_takesJob 33 = .ok (.getfield 21, 3) := by decide +kernel
theorem dX4_takesJob_36 : decode cX4_takesJob 36 = .ok (.iload_n 2, 1) := by decide +kernel
theorem dX4_takesJob_37 : decode cX4_takesJob 37 = .ok (.invokevirtual 71, 3) := by decide +kernel
theorem dX4_takesJob_40 : decode cX4_takesJob 40 = .ok (.ifCond .ne 7, 3) := by decide +kernel
theorem dX4_takesJob_43 : decode cX4_takesJob 43 = .ok (.iconst 1, 1) := by decide +kernel
theorem dX4_takesJob_44 : decode cX4_takesJob 44 = .ok (.goto 4, 3) := by decide +kernel
theorem dX4_takesJob_47 : decode cX4_takesJob 47 = .ok (.iconst 0, 1) := by decide +kernel
theorem dX4_takesJob_48 : decode cX4_takesJob 48 = .ok (.ireturn, 1) := by decide +kernel
theorem dX4_endJob_0 : decode cX4_endJob 0 = .ok (.aload_n 0, 1) := by decide +kernel
theorem dX4_endJob_1 : decode cX4_endJob 1 = .ok (.getfield 21, 3) := by decide +kernel
theorem dX4_endJob_4 : decode cX4_endJob 4 = .ok (.getfield 75, 3) := by decide +kernel
theorem dX4_endJob_7 : decode cX4_endJob 7 = .ok (.iload_n 1, 1) := by decide +kernel
theorem dX4_endJob_8 : decode cX4_endJob 8 = .ok (.iaload, 1) := by decide +kernel
theorem dX4_endJob_9 : decode cX4_endJob 9 = .ok (.istore_n 3, 1) := by decide +kernel
theorem dX4_endJob_10 : decode cX4_endJob 10 = .ok (.iload_n 3, 1) := by decide +kernel
theorem dX4_endJob_11 : decode cX4_endJob 11 = .ok (.invokestatic 79, 3) := by decide +kernel
theorem dX4_endJob_14 : decode cX4_endJob 14 = .ok (.ifCond .eq 13, 3) := by decide +kernel
theorem dX4_endJob_17 : decode cX4_endJob 17 = .ok (.aload_n 0, 1) := by decide +kernel
theorem dX4_endJob_18 : decode cX4_endJob 18 = .ok (.getfield 12, 3) := by decide +kernel
theorem dX4_endJob_21 : decode cX4_endJob 21 = .ok (.getfield 82, 3) := by decide +kernel
theorem dX4_endJob_24 : decode cX4_endJob 24 = .ok (.iload_n 3, 1) := by decide +kernel
theorem dX4_endJob_25 : decode cX4_endJob 25 = .ok (.iconst (-1), 1) := by decide +kernel
theorem dX4_endJob_26 : decode cX4_endJob 26 = .ok (.iastore, 1) := by decide +kernel
theorem dX4_endJob_27 : decode cX4_endJob 27 = .ok (.aload_n 0, 1) := by decide +kernel
theorem dX4_endJob_28 : decode cX4_endJob 28 = .ok (.getfield 21, 3) := by decide +kernel
theorem dX4_endJob_31 : decode cX4_endJob 31 = .ok (.getfield 75, 3) := by decide +kernel
theorem dX4_endJob_34 : decode cX4_endJob 34 = .ok (.iload_n 1, 1) := by decide +kernel
theorem dX4_endJob_35 : decode cX4_endJob 35 = .ok (.iconst (-1), 1) := by decide +kernel
theorem dX4_endJob_36 : decode cX4_endJob 36 = .ok (.iastore, 1) := by decide +kernel
theorem dX4_endJob_37 : decode cX4_endJob 37 = .ok (.aload_n 0, 1) := by decide +kernel
theorem dX4_endJob_38 : decode cX4_endJob 38 = .ok (.getfield 21, 3) := by decide +kernel
theorem dX4_endJob_41 : decode cX4_endJob 41 = .ok (.getfield 85, 3) := by decide +kernel
theorem dX4_endJob_44 : decode cX4_endJob 44 = .ok (.iload_n 1, 1) := by decide +kernel
theorem dX4_endJob_45 : decode cX4_endJob 45 = .ok (.iload_n 2, 1) := by decide +kernel
theorem dX4_endJob_46 : decode cX4_endJob 46 = .ok (.iastore, 1) := by decide +kernel
theorem dX4_endJob_47 : decode cX4_endJob 47 = .ok (.return_, 1) := by decide +kernel
theorem dX4_runMinutes_0 : decode cX4_runMinutes 0 = .ok (.iconst 0, 1) := by decide +kernel
theorem dX4_runMinutes_1 : decode cX4_runMinutes 1 = .ok (.istore_n 2, 1) := by decide +kernel
theorem dX4_runMinutes_2 : decode cX4_runMinutes 2 = .ok (.iconst 0, 1) := by decide +kernel
theorem dX4_runMinutes_3 : decode cX4_runMinutes 3 = .ok (.istore_n 3, 1) := by decide +kernel
theorem dX4_runMinutes_4 : decode cX4_runMinutes 4 = .ok (.iload_n 3, 1) := by decide +kernel
theorem dX4_runMinutes_5 : decode cX4_runMinutes 5 = .ok (.iload_n 1, 1) := by decide +kernel
theorem dX4_runMinutes_6 : decode cX4_runMinutes 6 = .ok (.if_icmp .ge 16, 3) := by decide +kernel
theorem dX4_runMinutes_9 : decode cX4_runMinutes 9 = .ok (.iload_n 2, 1) := by decide +kernel
theorem dX4_runMinutes_10 : decode cX4_runMinutes 10 = .ok (.aload_n 0, 1) := by decide +kernel
theorem dX4_runMinutes_11 : decode cX4_runMinutes 11 = .ok (.invokevirtual 88, 3) := by decide +kernel
theorem dX4_runMinutes_14 : decode cX4_runMinutes 14 = .ok (.iadd, 1) := by decide +kernel
theorem dX4_runMinutes_15 : decode cX4_runMinutes 15 = .ok (.istore_n 2, 1) := by decide +kernel
theorem dX4_runMinutes_16 : decode cX4_runMinutes 16 = .ok (.iinc 3 1, 3) := by decide +kernel
theorem dX4_runMinutes_19 : decode cX4_runMinutes 19 = .ok (.goto (-15), 3) := by decide +kernel
theorem dX4_runMinutes_22 : decode cX4_runMinutes 22 = .ok (.iload_n 2, 1) := by decide +kernel
theorem dX4_runMinutes_23 : decode cX4_runMinutes 23 = .ok (.ireturn, 1) := by decide +kernel
theorem dX4_runMinute_0 : decode cX4_runMinute 0 = .ok (.aload_n 0, 1) := by decide +kernel
theorem dX4_runMinute_1 : decode cX4_runMinute 1 = .ok (.dup, 1) := by decide +kernel
theorem dX4_runMinute_2 : decode cX4_runMinute 2 = .ok (.getfield 35, 3) := by decide +kernel
theorem dX4_runMinute_5 : decode cX4_runMinute 5 = .ok (.iconst 1, 1) := by decide +kernel
theorem dX4_runMinute_6 : decode cX4_runMinute 6 = .ok (.iadd, 1) := by decide +kernel
theorem dX4_runMinute_7 : decode cX4_runMinute 7 = .ok (.putfield 35, 3) := by decide +kernel
theorem dX4_runMinute_10 : decode cX4_runMinute 10 = .ok (.iconst 0, 1) := by decide +kernel
theorem dX4_runMinute_11 : decode cX4_runMinute 11 = .ok (.istore_n 1, 1) := by decide +kernel
theorem dX4_runMinute_12 : decode cX4_runMinute 12 = .ok (.iconst 0, 1) := by decide +kernel
theorem dX4_runMinute_13 : decode cX4_runMinute 13 = .ok (.istore_n 2, 1) := by decide +kernel
theorem dX4_runMinute_14 : decode cX4_runMinute 14 = .ok (.iload_n 2, 1) := by decide +kernel
theorem dX4_runMinute_15 : decode cX4_runMinute 15 = .ok (.aload_n 0, 1) := by decide +kernel
theorem dX4_runMinute_16 : decode cX4_runMinute 16 = .ok (.getfield 21, 3) := by decide +kernel
theorem dX4_runMinute_19 : decode cX4_runMinute 19 = .ok (.getfield 92, 3) := by decide +kernel
theorem dX4_runMinute_22 : decode cX4_runMinute 22 = .ok (.if_icmp .ge 57, 3) := by decide +kernel
theorem dX4_runMinute_25 : decode cX4_runMinute 25 = .ok (.aload_n 0, 1) := by decide +kernel
theorem dX4_runMinute_26 : decode cX4_runMinute 26 = .ok (.getfield 21, 3) := by decide +kernel
theorem dX4_runMinute_29 : decode cX4_runMinute 29 = .ok (.getfield 85, 3) := by decide +kernel
theorem dX4_runMinute_32 : decode cX4_runMinute 32 = .ok (.iload_n 2, 1) := by decide +kernel
theorem dX4_runMinute_33 : decode cX4_runMinute 33 = .ok (.iaload, 1) := by decide +kernel
theorem dX4_runMinute_34 : decode cX4_runMinute 34 = .ok (.iconst 1, 1) := by decide +kernel
theorem dX4_runMinute_35 : decode cX4_runMinute 35 = .ok (.if_icmp .ne 38, 3) := by decide +kernel
theorem dX4_runMinute_38 : decode cX4_runMinute 38 = .ok (.aload_n 0, 1) := by decide +kernel
theorem dX4_runMinute_39 : decode cX4_runMinute 39 = .ok (.iload_n 2, 1) := by decide +kernel
theorem dX4_runMinute_40 : decode cX4_runMinute 40 = .ok (.invokevirtual 95, 3) := by decide +kernel
theorem dX4_runMinute_43 : decode cX4_runMinute 43 = .ok (.aload_n 0, 1) := by decide +kernel
theorem dX4_runMinute_44 : decode cX4_runMinute 44 = .ok (.getfield 21, 3) := by decide +kernel
theorem dX4_runMinute_47 : decode cX4_runMinute 47 = .ok (.getfield 99, 3) := by decide +kernel
theorem dX4_runMinute_50 : decode cX4_runMinute 50 = .ok (.iload_n 2, 1) := by decide +kernel
theorem dX4_runMinute_51 : decode cX4_runMinute 51 = .ok (.iaload, 1) := by decide +kernel
theorem dX4_runMinute_52 : decode cX4_runMinute 52 = .ok (.aload_n 0, 1) := by decide +kernel
theorem dX4_runMinute_53 : decode cX4_runMinute 53 = .ok (.getfield 21, 3) := by decide +kernel
theorem dX4_runMinute_56 : decode cX4_runMinute 56 = .ok (.getfield 102, 3) := by decide +kernel
theorem dX4_runMinute_59 : decode cX4_runMinute 59 = .ok (.iload_n 2, 1) := by decide +kernel
theorem dX4_runMinute_60 : decode cX4_runMinute 60 = .ok (.iaload, 1) := by decide +kernel
theorem dX4_runMinute_61 : decode cX4_runMinute 61 = .ok (.if_icmp .lt 12, 3) := by decide +kernel
theorem dX4_runMinute_64 : decode cX4_runMinute 64 = .ok (.aload_n 0, 1) := by decide +kernel
theorem dX4_runMinute_65 : decode cX4_runMinute 65 = .ok (.iload_n 2, 1) := by decide +kernel
theorem dX4_runMinute_66 : decode cX4_runMinute 66 = .ok (.iconst 2, 1) := by decide +kernel
theorem dX4_runMinute_67 : decode cX4_runMinute 67 = .ok (.invokevirtual 104, 3) := by decide +kernel
theorem dX4_runMinute_70 : decode cX4_runMinute 70 = .ok (.iinc 1 1, 3) := by decide +kernel
theorem dX4_runMinute_73 : decode cX4_runMinute 73 = .ok (.iinc 2 1, 3) := by decide +kernel
theorem dX4_runMinute_76 : decode cX4_runMinute 76 = .ok (.goto (-62), 3) := by decide +kernel
theorem dX4_runMinute_79 : decode cX4_runMinute 79 = .ok (.aload_n 0, 1) := by decide +kernel
theorem dX4_runMinute_80 : decode cX4_runMinute 80 = .ok (.getfield 12, 3) := by decide +kernel
theorem dX4_runMinute_83 : decode cX4_runMinute 83 = .ok (.invokevirtual 108, 3) := by decide +kernel
theorem dX4_runMinute_86 : decode cX4_runMinute 86 = .ok (.istore_n 2, 1) := by decide +kernel
theorem dX4_runMinute_87 : decode cX4_runMinute 87 = .ok (.iload_n 2, 1) := by decide +kernel
theorem dX4_runMinute_88 : decode cX4_runMinute 88 = .ok (.iconst (-1), 1) := by decide +kernel
theorem dX4_runMinute_89 : decode cX4_runMinute 89 = .ok (.if_icmp .ne 7, 3) := by decide +kernel
theorem dX4_runMinute_92 : decode cX4_runMinute 92 = .ok (.iconst (-1), 1) := by decide +kernel
theorem dX4_runMinute_93 : decode cX4_runMinute 93 = .ok (.goto 7, 3) := by decide +kernel
theorem dX4_runMinute_96 : decode cX4_runMinute 96 = .ok (.aload_n 0, 1) := by decide +kernel
theorem dX4_runMinute_97 : decode cX4_runMinute 97 = .ok (.invokevirtual 111, 3) := by decide +kernel
theorem dX4_runMinute_100 : decode cX4_runMinute 100 = .ok (.istore_n 3, 1) := by decide +kernel
theorem dX4_runMinute_101 : decode cX4_runMinute 101 = .ok (.iload_n 3, 1) := by decide +kernel
theorem dX4_runMinute_102 : decode cX4_runMinute 102 = .ok (.iconst (-1), 1) := by decide +kernel
theorem dX4_runMinute_103 : decode cX4_runMinute 103 = .ok (.if_icmp .eq 9, 3) := by decide +kernel
theorem dX4_runMinute_106 : decode cX4_runMinute 106 = .ok (.aload_n 0, 1) := by decide +kernel
theorem dX4_runMinute_107 : decode cX4_runMinute 107 = .ok (.iload_n 3, 1) := by decide +kernel
theorem dX4_runMinute_108 : decode cX4_runMinute 108 = .ok (.iload_n 2, 1) := by decide +kernel
theorem dX4_runMinute_109 : decode cX4_runMinute 109 = .ok (.invokevirtual 114, 3) := by decide +kernel
theorem dX4_runMinute_112 : decode cX4_runMinute 112 = .ok (.iload_n 1, 1) := by decide +kernel
theorem dX4_runMinute_113 : decode cX4_runMinute 113 = .ok (.ireturn, 1) := by decide +kernel
theorem dX4_moveBlock_0 : decode cX4_moveBlock 0 = .ok (.aload_n 0, 1) := by decide +kernel
theorem dX4_moveBlock_1 : decode cX4_moveBlock 1 = .ok (.getfield 21, 3) := by decide +kernel
theorem dX4_moveBlock_4 : decode cX4_moveBlock 4 = .ok (.getfield 75, 3) := by decide +kernel
theorem dX4_moveBlock_7 : decode cX4_moveBlock 7 = .ok (.iload_n 1, 1) := by decide +kernel
theorem dX4_moveBlock_8 : decode cX4_moveBlock 8 = .ok (.iaload, 1) := by decide +kernel
theorem dX4_moveBlock_9 : decode cX4_moveBlock 9 = .ok (.istore_n 2, 1) := by decide +kernel
theorem dX4_moveBlock_10 : decode cX4_moveBlock 10 = .ok (.aload_n 0, 1) := by decide +kernel
theorem dX4_moveBlock_11 : decode cX4_moveBlock 11 = .ok (.getfield 21, 3) := by decide +kernel
theorem dX4_moveBlock_14 : decode cX4_moveBlock 14 = .ok (.getfield 99, 3) := by decide +kernel
theorem dX4_moveBlock_17 : decode cX4_moveBlock 17 = .ok (.iload_n 1, 1) := by decide +kernel
theorem dX4_moveBlock_18 : decode cX4_moveBlock 18 = .ok (.dup2, 1) := by decide +kernel
theorem dX4_moveBlock_19 : decode cX4_moveBlock 19 = .ok (.iaload, 1) := by decide +kernel
theorem dX4_moveBlock_20 : decode cX4_moveBlock 20 = .ok (.iconst 1, 1) := by decide +kernel
theorem dX4_moveBlock_21 : decode cX4_moveBlock 21 = .ok (.iadd, 1) := by decide +kernel
theorem dX4_moveBlock_22 : decode cX4_moveBlock 22 = .ok (.iastore, 1) := by decide +kernel
theorem dX4_moveBlock_23 : decode cX4_moveBlock 23 = .ok (.aload_n 0, 1) := by decide +kernel
theorem dX4_moveBlock_24 : decode cX4_moveBlock 24 = .ok (.getfield 21, 3) := by decide +kernel
theorem dX4_moveBlock_27 : decode cX4_moveBlock 27 = .ok (.getfield 117, 3) := by decide +kernel
theorem dX4_moveBlock_30 : decode cX4_moveBlock 30 = .ok (.iload_n 1, 1) := by decide +kernel
theorem dX4_moveBlock_31 : decode cX4_moveBlock 31 = .ok (.iaload, 1) := by decide +kernel
theorem dX4_moveBlock_32 : decode cX4_moveBlock 32 = .ok (.ifCond .ne 16, 3) := by decide +kernel
theorem dX4_moveBlock_35 : decode cX4_moveBlock 35 = .ok (.aload_n 0, 1) := by decide +kernel
theorem dX4_moveBlock_36 : decode cX4_moveBlock 36 = .ok (.dup, 1) := by decide +kernel
theorem dX4_moveBlock_37 : decode cX4_moveBlock 37 = .ok (.getfield 47, 3) := by decide +kernel
theorem dX4_moveBlock_40 : decode cX4_moveBlock 40 = .ok (.iconst 1, 1) := by decide +kernel
theorem dX4_moveBlock_41 : decode cX4_moveBlock 41 = .ok (.iadd, 1) := by decide +kernel
theorem dX4_moveBlock_42 : decode cX4_moveBlock 42 = .ok (.putfield 47, 3) := by decide +kernel
theorem dX4_moveBlock_45 : decode cX4_moveBlock 45 = .ok (.goto 60, 3) := by decide +kernel
theorem dX4_moveBlock_48 : decode cX4_moveBlock 48 = .ok (.iload_n 2, 1) := by decide +kernel
theorem dX4_moveBlock_49 : decode cX4_moveBlock 49 = .ok (.invokestatic 79, 3) := by decide +kernel
theorem dX4_moveBlock_52 : decode cX4_moveBlock 52 = .ok (.ifCond .eq 43, 3) := by decide +kernel
theorem dX4_moveBlock_55 : decode cX4_moveBlock 55 = .ok (.aload_n 0, 1) := by decide +kernel
theorem dX4_moveBlock_56 : decode cX4_moveBlock 56 = .ok (.getfield 12, 3) := by decide +kernel
theorem dX4_moveBlock_59 : decode cX4_moveBlock 59 = .ok (.getfield 120, 3) := by decide +kernel
theorem dX4_moveBlock_62 : decode cX4_moveBlock 62 = .ok (.iload_n 2, 1) := by decide +kernel
theorem dX4_moveBlock_63 : decode cX4_moveBlock 63 = .ok (.iaload, 1) := by decide +kernel
theorem dX4_moveBlock_64 : decode cX4_moveBlock 64 = .ok (.bipush 99, 2) := by decide +kernel
theorem dX4_moveBlock_66 : decode cX4_moveBlock 66 = .ok (.if_icmp .ge 29, 3) := by decide +kernel
theorem dX4_moveBlock_69 : decode cX4_moveBlock 69 = .ok (.aload_n 0, 1) := by decide +kernel
theorem dX4_moveBlock_70 : decode cX4_moveBlock 70 = .ok (.getfield 12, 3) := by decide +kernel
theorem dX4_moveBlock_73 : decode cX4_moveBlock 73 = .ok (.getfield 120, 3) := by decide +kernel
theorem dX4_moveBlock_76 : decode cX4_moveBlock 76 = .ok (.iload_n 2, 1) := by decide +kernel
theorem dX4_moveBlock_77 : decode cX4_moveBlock 77 = .ok (.dup2, 1) := by decide +kernel
theorem dX4_moveBlock_78 : decode cX4_moveBlock 78 = .ok (.iaload, 1) := by decide +kernel
theorem dX4_moveBlock_79 : decode cX4_moveBlock 79 = .ok (.iconst 1, 1) := by decide +kernel
theorem dX4_moveBlock_80 : decode cX4_moveBlock 80 = .ok (.iadd, 1) := by decide +kernel
theorem dX4_moveBlock_81 : decode cX4_moveBlock 81 = .ok (.iastore, 1) := by decide +kernel
theorem dX4_moveBlock_82 : decode cX4_moveBlock 82 = .ok (.aload_n 0, 1) := by decide +kernel
theorem dX4_moveBlock_83 : decode cX4_moveBlock 83 = .ok (.dup, 1) := by decide +kernel
theorem dX4_moveBlock_84 : decode cX4_moveBlock 84 = .ok (.getfield 50, 3) := by decide +kernel
theorem dX4_moveBlock_87 : decode cX4_moveBlock 87 = .ok (.iconst 1, 1) := by decide +kernel
theorem dX4_moveBlock_88 : decode cX4_moveBlock 88 = .ok (.iadd, 1) := by decide +kernel
theorem dX4_moveBlock_89 : decode cX4_moveBlock 89 = .ok (.putfield 50, 3) := by decide +kernel
theorem dX4_moveBlock_92 : decode cX4_moveBlock 92 = .ok (.goto 13, 3) := by decide +kernel
theorem dX4_moveBlock_95 : decode cX4_moveBlock 95 = .ok (.aload_n 0, 1) := by decide +kernel
theorem dX4_moveBlock_96 : decode cX4_moveBlock 96 = .ok (.dup, 1) := by decide +kernel
theorem dX4_moveBlock_97 : decode cX4_moveBlock 97 = .ok (.getfield 53, 3) := by decide +kernel
theorem dX4_moveBlock_100 : decode cX4_moveBlock 100 = .ok (.iconst 1, 1) := by decide +kernel
theorem dX4_moveBlock_101 : decode cX4_moveBlock 101 = .ok (.iadd, 1) := by decide +kernel
theorem dX4_moveBlock_102 : decode cX4_moveBlock 102 = .ok (.putfield 53, 3) := by decide +kernel
theorem dX4_moveBlock_105 : decode cX4_moveBlock 105 = .ok (.return_, 1) := by decide +kernel
theorem dX4_lacksReel_0 : decode cX4_lacksReel 0 = .ok (.aload_n 0, 1) := by decide +kernel
theorem dX4_lacksReel_1 : decode cX4_lacksReel 1 = .ok (.getfield 12, 3) := by decide +kernel
theorem dX4_lacksReel_4 : decode cX4_lacksReel 4 = .ok (.aload_n 0, 1) := by decide +kernel
theorem dX4_lacksReel_5 : decode cX4_lacksReel 5 = .ok (.getfield 21, 3) := by decide +kernel
theorem dX4_lacksReel_8 : decode cX4_lacksReel 8 = .ok (.iload_n 1, 1) := by decide +kernel
theorem dX4_lacksReel_9 : decode cX4_lacksReel 9 = .ok (.invokevirtual 121, 3) := by decide +kernel
theorem dX4_lacksReel_12 : decode cX4_lacksReel 12 = .ok (.invokevirtual 125, 3) := by decide +kernel
theorem dX4_lacksReel_15 : decode cX4_lacksReel 15 = .ok (.iconst (-1), 1) := by decide +kernel
theorem dX4_lacksReel_16 : decode cX4_lacksReel 16 = .ok (.if_icmp .ne 7, 3) := by decide +kernel
theorem dX4_lacksReel_19 : decode cX4_lacksReel 19 = .ok (.iconst 1, 1) := by decide +kernel
theorem dX4_lacksReel_20 : decode cX4_lacksReel 20 = .ok (.goto 4, 3) := by decide +kernel
theorem dX4_lacksReel_23 : decode cX4_lacksReel 23 = .ok (.iconst 0, 1) := by decide +kernel
theorem dX4_lacksReel_24 : decode cX4_lacksReel 24 = .ok (.ireturn, 1) := by decide +kernel
theorem dX4_findNextJob_0 : decode cX4_findNextJob 0 = .ok (.iconst (-1), 1) := by decide +kernel
theorem dX4_findNextJob_1 : decode cX4_findNextJob 1 = .ok (.istore_n 1, 1) := by decide +kernel
theorem dX4_findNextJob_2 : decode cX4_findNextJob 2 = .ok (.iconst (-1), 1) := by decide +kernel
theorem dX4_findNextJob_3 : decode cX4_findNextJob 3 = .ok (.istore_n 2, 1) := by decide +kernel
theorem dX4_findNextJob_4 : decode cX4_findNextJob 4 = .ok (.iconst 0, 1) := by decide +kernel
theorem dX4_findNextJob_5 : decode cX4_findNextJob 5 = .ok (.istore_n 3, 1) := by decide +kernel
theorem dX4_findNextJob_6 : decode cX4_findNextJob 6 = .ok (.iload_n 3, 1) := by decide +kernel
theorem dX4_findNextJob_7 : decode cX4_findNextJob 7 = .ok (.aload_n 0, 1) := by decide +kernel
theorem dX4_findNextJob_8 : decode cX4_findNextJob 8 = .ok (.getfield 21, 3) := by decide +kernel
theorem dX4_findNextJob_11 : decode cX4_findNextJob 11 = .ok (.getfield 92, 3) := by decide +kernel
theorem dX4_findNextJob_14 : decode cX4_findNextJob 14 = .ok (.if_icmp .ge 54, 3) := by decide +kernel
theorem dX4_findNextJob_17 : decode cX4_findNextJob 17 = .ok (.aload_n 0, 1) := by decide +kernel
theorem dX4_findNextJob_18 : decode cX4_findNextJob 18 = .ok (.getfield 21, 3) := by decide +kernel
theorem dX4_findNextJob_21 : decode cX4_findNextJob 21 = .ok (.getfield 85, 3) := by decide +kernel
theorem dX4_findNextJob_24 : decode cX4_findNextJob 24 = .ok (.iload_n 3, 1) := by decide +kernel
theorem dX4_findNextJob_25 : decode cX4_findNextJob 25 = .ok (.iaload, 1) := by decide +kernel
theorem dX4_findNextJob_26 : decode cX4_findNextJob 26 = .ok (.ifCond .ne 36, 3) := by decide +kernel
theorem dX4_findNextJob_29 : decode cX4_findNextJob 29 = .ok (.aload_n 0, 1) := by decide +kernel
theorem dX4_findNextJob_30 : decode cX4_findNextJob 30 = .ok (.getfield 21, 3) := by decide +kernel
theorem dX4_findNextJob_33 : decode cX4_findNextJob 33 = .ok (.getfield 128, 3) := by decide +kernel
theorem dX4_findNextJob_36 : decode cX4_findNextJob 36 = .ok (.iload_n 3, 1) := by decide +kernel
theorem dX4_findNextJob_37 : decode cX4_findNextJob 37 = .ok (.iaload, 1) := by decide +kernel
theorem dX4_findNextJob_38 : decode cX4_findNextJob 38 = .ok (.iload_n 2, 1) := by decide +kernel
theorem dX4_findNextJob_39 : decode cX4_findNextJob 39 = .ok (.if_icmp .le 23, 3) := by decide +kernel
theorem dX4_findNextJob_42 : decode cX4_findNextJob 42 = .ok (.aload_n 0, 1) := by decide +kernel
theorem dX4_findNextJob_43 : decode cX4_findNextJob 43 = .ok (.iload_n 3, 1) := by decide +kernel
theorem dX4_findNextJob_44 : decode cX4_findNextJob 44 = .ok (.invokevirtual 131, 3) := by decide +kernel
theorem dX4_findNextJob_47 : decode cX4_findNextJob 47 = .ok (.ifCond .ne 15, 3) := by decide +kernel
theorem dX4_findNextJob_50 : decode cX4_findNextJob 50 = .ok (.iload_n 3, 1) := by decide +kernel
theorem dX4_findNextJob_51 : decode cX4_findNextJob 51 = .ok (.istore_n 1, 1) := by decide +kernel
theorem dX4_findNextJob_52 : decode cX4_findNextJob 52 = .ok (.aload_n 0, 1) := by decide +kernel
theorem dX4_findNextJob_53 : decode cX4_findNextJob 53 = .ok (.getfield 21, 3) := by decide +kernel
theorem dX4_findNextJob_56 : decode cX4_findNextJob 56 = .ok (.getfield 128, 3) := by decide +kernel
theorem dX4_findNextJob_59 : decode cX4_findNextJob 59 = .ok (.iload_n 3, 1) := by decide +kernel
theorem dX4_findNextJob_60 : decode cX4_findNextJob 60 = .ok (.iaload, 1) := by decide +kernel
theorem dX4_findNextJob_61 : decode cX4_findNextJob 61 = .ok (.istore_n 2, 1) := by decide +kernel
theorem dX4_findNextJob_62 : decode cX4_findNextJob 62 = .ok (.iinc 3 1, 3) := by decide +kernel
theorem dX4_findNextJob_65 : decode cX4_findNextJob 65 = .ok (.goto (-59), 3) := by decide +kernel
theorem dX4_findNextJob_68 : decode cX4_findNextJob 68 = .ok (.iload_n 1, 1) := by decide +kernel
theorem dX4_findNextJob_69 : decode cX4_findNextJob 69 = .ok (.ireturn, 1) := by decide +kernel
theorem dX4_isSlip_0 : decode cX4_isSlip 0 = .ok (.aload_n 0, 1) := by decide +kernel
theorem dX4_isSlip_1 : decode cX4_isSlip 1 = .ok (.getfield 29, 3) := by decide +kernel
theorem dX4_isSlip_4 : decode cX4_isSlip 4 = .ok (.ifCond .eq 16, 3) := by decide +kernel
theorem dX4_isSlip_7 : decode cX4_isSlip 7 = .ok (.iload_n 1, 1) := by decide +kernel
theorem dX4_isSlip_8 : decode cX4_isSlip 8 = .ok (.aload_n 0, 1) := by decide +kernel
theorem dX4_isSlip_9 : decode cX4_isSlip 9 = .ok (.getfield 29, 3) := by decide +kernel
theorem dX4_isSlip_12 : decode cX4_isSlip 12 = .ok (.irem, 1) := by decide +kernel
theorem dX4_isSlip_13 : decode cX4_isSlip 13 = .ok (.ifCond .ne 7, 3) := by decide +kernel
theorem dX4_isSlip_16 : decode cX4_isSlip 16 = .ok (.iconst 1, 1) := by decide +kernel
theorem dX4_isSlip_17 : decode cX4_isSlip 17 = .ok (.goto 4, 3) := by decide +kernel
theorem dX4_isSlip_20 : decode cX4_isSlip 20 = .ok (.iconst 0, 1) := by decide +kernel
theorem dX4_isSlip_21 : decode cX4_isSlip 21 = .ok (.ireturn, 1) := by decide +kernel
theorem dX4_chooseReel_0 : decode cX4_chooseReel 0 = .ok (.aload_n 0, 1) := by decide +kernel
theorem dX4_chooseReel_1 : decode cX4_chooseReel 1 = .ok (.getfield 12, 3) := by decide +kernel
theorem dX4_chooseReel_4 : decode cX4_chooseReel 4 = .ok (.aload_n 0, 1) := by decide +kernel
theorem dX4_chooseReel_5 : decode cX4_chooseReel 5 = .ok (.getfield 21, 3) := by decide +kernel
theorem dX4_chooseReel_8 : decode cX4_chooseReel 8 = .ok (.iload_n 1, 1) := by decide +kernel
theorem dX4_chooseReel_9 : decode cX4_chooseReel 9 = .ok (.invokevirtual 121, 3) := by decide +kernel
theorem dX4_chooseReel_12 : decode cX4_chooseReel 12 = .ok (.invokevirtual 125, 3) := by decide +kernel
theorem dX4_chooseReel_15 : decode cX4_chooseReel 15 = .ok (.istore_n 3, 1) := by decide +kernel
theorem dX4_chooseReel_16 : decode cX4_chooseReel 16 = .ok (.iload_n 2, 1) := by decide +kernel
theorem dX4_chooseReel_17 : decode cX4_chooseReel 17 = .ok (.ifCond .eq 19, 3) := by decide +kernel
theorem dX4_chooseReel_20 : decode cX4_chooseReel 20 = .ok (.iload_n 3, 1) := by decide +kernel
theorem dX4_chooseReel_21 : decode cX4_chooseReel 21 = .ok (.iconst (-1), 1) := by decide +kernel
theorem dX4_chooseReel_22 : decode cX4_chooseReel 22 = .ok (.if_icmp .eq 14, 3) := by decide +kernel
theorem dX4_chooseReel_25 : decode cX4_chooseReel 25 = .ok (.aload_n 0, 1) := by decide +kernel
theorem dX4_chooseReel_26 : decode cX4_chooseReel 26 = .ok (.getfield 12, 3) := by decide +kernel
theorem dX4_chooseReel_29 : decode cX4_chooseReel 29 = .ok (.iload_n 3, 1) := by decide +kernel
theorem dX4_chooseReel_30 : decode cX4_chooseReel 30 = .ok (.invokevirtual 134, 3) := by decide +kernel
theorem dX4_chooseReel_33 : decode cX4_chooseReel 33 = .ok (.goto 4, 3) := by decide +kernel
theorem dX4_chooseReel_36 : decode cX4_chooseReel 36 = .ok (.iload_n 3, 1) := by decide +kernel
theorem dX4_chooseReel_37 : decode cX4_chooseReel 37 = .ok (.ireturn, 1) := by decide +kernel
theorem dX4_serve_0 : decode cX4_serve 0 = .ok (.aload_n 0, 1) := by decide +kernel
theorem dX4_serve_1 : decode cX4_serve 1 = .ok (.dup, 1) := by decide +kernel
theorem dX4_serve_2 : decode cX4_serve 2 = .ok (.getfield 38, 3) := by decide +kernel
theorem dX4_serve_5 : decode cX4_serve 5 = .ok (.iconst 1, 1) := by decide +kernel
theorem dX4_serve_6 : decode cX4_serve 6 = .ok (.iadd, 1) := by decide +kernel
theorem dX4_serve_7 : decode cX4_serve 7 = .ok (.putfield 38, 3) := by decide +kernel
theorem dX4_serve_10 : decode cX4_serve 10 = .ok (.aload_n 0, 1) := by decide +kernel
theorem dX4_serve_11 : decode cX4_serve 11 = .ok (.aload_n 0, 1) := by decide +kernel
theorem dX4_serve_12 : decode cX4_serve 12 = .ok (.getfield 38, 3) := by decide +kernel
theorem dX4_serve_15 : decode cX4_serve 15 = .ok (.invokevirtual 137, 3) := by decide +kernel
theorem dX4_serve_18 : decode cX4_serve 18 = .ok (.istore_n 3, 1) := by decide +kernel
theorem dX4_serve_19 : decode cX4_serve 19 = .ok (.aload_n 0, 1) := by decide +kernel
theorem dX4_serve_20 : decode cX4_serve 20 = .ok (.iload_n 1, 1) := by decide +kernel
theorem dX4_serve_21 : decode cX4_serve 21 = .ok (.iload_n 3, 1) := by decide +kernel
theorem dX4_serve_22 : decode cX4_serve 22 = .ok (.invokevirtual 140, 3) := by decide +kernel
theorem dX4_serve_25 : decode cX4_serve 25 = .ok (.istore 4, 2) := by decide +kernel
theorem dX4_serve_27 : decode cX4_serve 27 = .ok (.iload 4, 2) := by decide +kernel
theorem dX4_serve_29 : decode cX4_serve 29 = .ok (.invokestatic 79, 3) := by decide +kernel
theorem dX4_serve_32 : decode cX4_serve 32 = .ok (.ifCond .ne 4, 3) := by decide +kernel
theorem dX4_serve_35 : decode cX4_serve 35 = .ok (.return_, 1) := by decide +kernel
theorem dX4_serve_36 : decode cX4_serve 36 = .ok (.iload_n 3, 1) := by decide +kernel
theorem dX4_serve_37 : decode cX4_serve 37 = .ok (.ifCond .eq 16, 3) := by decide +kernel
theorem dX4_serve_40 : decode cX4_serve 40 = .ok (.aload_n 0, 1) := by decide +kernel
theorem dX4_serve_41 : decode cX4_serve 41 = .ok (.dup, 1) := by decide +kernel
theorem dX4_serve_42 : decode cX4_serve 42 = .ok (.getfield 41, 3) := by decide +kernel
theorem dX4_serve_45 : decode cX4_serve 45 = .ok (.iconst 1, 1) := by decide +kernel
theorem dX4_serve_46 : decode cX4_serve 46 = .ok (.iadd, 1) := by decide +kernel
theorem dX4_serve_47 : decode cX4_serve 47 = .ok (.putfield 41, 3) := by decide +kernel
theorem dX4_serve_50 : decode cX4_serve 50 = .ok (.goto 30, 3) := by decide +kernel
theorem dX4_serve_53 : decode cX4_serve 53 = .ok (.aload_n 0, 1) := by decide +kernel
theorem dX4_serve_54 : decode cX4_serve 54 = .ok (.getfield 12, 3) := by decide +kernel
theorem dX4_serve_57 : decode cX4_serve 57 = .ok (.getfield 144, 3) := by decide +kernel
theorem dX4_serve_60 : decode cX4_serve 60 = .ok (.iload 4, 2) := by decide +kernel
theorem dX4_serve_62 : decode cX4_serve 62 = .ok (.aload_n 0, 1) := by decide +kernel
theorem dX4_serve_63 : decode cX4_serve 63 = .ok (.getfield 21, 3) := by decide +kernel
theorem dX4_serve_66 : decode cX4_serve 66 = .ok (.getfield 117, 3) := by decide +kernel
theorem dX4_serve_69 : decode cX4_serve 69 = .ok (.iload_n 1, 1) := by decide +kernel
theorem dX4_serve_70 : decode cX4_serve 70 = .ok (.iaload, 1) := by decide +kernel
theorem dX4_serve_71 : decode cX4_serve 71 = .ok (.ifCond .eq 7, 3) := by decide +kernel
theorem dX4_serve_74 : decode cX4_serve 74 = .ok (.iconst 1, 1) := by decide +kernel
theorem dX4_serve_75 : decode cX4_serve 75 = .ok (.goto 4, 3) := by decide +kernel
theorem dX4_serve_78 : decode cX4_serve 78 = .ok (.iconst 0, 1) := by decide +kernel
theorem dX4_serve_79 : decode cX4_serve 79 = .ok (.bastore, 1) := by decide +kernel
theorem dX4_serve_80 : decode cX4_serve 80 = .ok (.aload_n 0, 1) := by decide +kernel
theorem dX4_serve_81 : decode cX4_serve 81 = .ok (.iload_n 1, 1) := by decide +kernel
theorem dX4_serve_82 : decode cX4_serve 82 = .ok (.iload 4, 2) := by decide +kernel
theorem dX4_serve_84 : decode cX4_serve 84 = .ok (.invokevirtual 148, 3) := by decide +kernel
theorem dX4_serve_87 : decode cX4_serve 87 = .ok (.ifCond .ne 14, 3) := by decide +kernel
theorem dX4_serve_90 : decode cX4_serve 90 = .ok (.aload_n 0, 1) := by decide +kernel
theorem dX4_serve_91 : decode cX4_serve 91 = .ok (.iload_n 1, 1) := by decide +kernel
theorem dX4_serve_92 : decode cX4_serve 92 = .ok (.iload 4, 2) := by decide +kernel
theorem dX4_serve_94 : decode cX4_serve 94 = .ok (.iload_n 2, 1) := by decide +kernel
theorem dX4_serve_95 : decode cX4_serve 95 = .ok (.invokevirtual 152, 3) := by decide +kernel
theorem dX4_serve_98 : decode cX4_serve 98 = .ok (.goto 10, 3) := by decide +kernel
theorem dX4_serve_101 : decode cX4_serve 101 = .ok (.aload_n 0, 1) := by decide +kernel
theorem dX4_serve_102 : decode cX4_serve 102 = .ok (.iload_n 1, 1) := by decide +kernel
theorem dX4_serve_103 : decode cX4_serve 103 = .ok (.iload 4, 2) := by decide +kernel
theorem dX4_serve_105 : decode cX4_serve 105 = .ok (.invokevirtual 156, 3) := by decide +kernel
theorem dX4_serve_108 : decode cX4_serve 108 = .ok (.return_, 1) := by decide +kernel
theorem dX4_check_0 : decode cX4_check 0 = .ok (.aload_n 0, 1) := by decide +kernel
theorem dX4_check_1 : decode cX4_check 1 = .ok (.getfield 21, 3) := by decide +kernel
theorem dX4_check_4 : decode cX4_check 4 = .ok (.getfield 117, 3) := by decide +kernel
theorem dX4_check_7 : decode cX4_check 7 = .ok (.iload_n 1, 1) := by decide +kernel
theorem dX4_check_8 : decode cX4_check 8 = .ok (.iaload, 1) := by decide +kernel
theorem dX4_check_9 : decode cX4_check 9 = .ok (.istore_n 3, 1) := by decide +kernel
theorem dX4_check_10 : decode cX4_check 10 = .ok (.iload_n 3, 1) := by decide +kernel
theorem dX4_check_11 : decode cX4_check 11 = .ok (.iconst 2, 1) := by decide +kernel
theorem dX4_check_12 : decode cX4_check 12 = .ok (.if_icmp .eq 26, 3) := by decide +kernel
theorem dX4_check_15 : decode cX4_check 15 = .ok (.aload_n 0, 1) := by decide +kernel
theorem dX4_check_16 : decode cX4_check 16 = .ok (.getfield 12, 3) := by decide +kernel
theorem dX4_check_19 : decode cX4_check 19 = .ok (.getfield 159, 3) := by decide +kernel
theorem dX4_check_22 : decode cX4_check 22 = .ok (.iload_n 2, 1) := by decide +kernel
theorem dX4_check_23 : decode cX4_check 23 = .ok (.iaload, 1) := by decide +kernel
theorem dX4_check_24 : decode cX4_check 24 = .ok (.aload_n 0, 1) := by decide +kernel
theorem dX4_check_25 : decode cX4_check 25 = .ok (.getfield 21, 3) := by decide +kernel
theorem dX4_check_28 : decode cX4_check 28 = .ok (.getfield 162, 3) := by decide +kernel
theorem dX4_check_31 : decode cX4_check 31 = .ok (.iload_n 1, 1) := by decide +kernel
theorem dX4_check_32 : decode cX4_check 32 = .ok (.iaload, 1) := by decide +kernel
theorem dX4_check_33 : decode cX4_check 33 = .ok (.if_icmp .eq 5, 3) := by decide +kernel
theorem dX4_check_36 : decode cX4_check 36 = .ok (.iconst 1, 1) := by decide +kernel
theorem dX4_check_37 : decode cX4_check 37 = .ok (.ireturn, 1) := by decide +kernel
theorem dX4_check_38 : decode cX4_check 38 = .ok (.iload_n 3, 1) := by decide +kernel
theorem dX4_check_39 : decode cX4_check 39 = .ok (.iconst 2, 1) := by decide +kernel
theorem dX4_check_40 : decode cX4_check 40 = .ok (.if_icmp .ne 20, 3) := by decide +kernel
theorem dX4_check_43 : decode cX4_check 43 = .ok (.aload_n 0, 1) := by decide +kernel
theorem dX4_check_44 : decode cX4_check 44 = .ok (.getfield 12, 3) := by decide +kernel
theorem dX4_check_47 : decode cX4_check 47 = .ok (.iload_n 2, 1) := by decide +kernel
theorem dX4_check_48 : decode cX4_check 48 = .ok (.aload_n 0, 1) := by decide +kernel
theorem dX4_check_49 : decode cX4_check 49 = .ok (.getfield 25, 3) := by decide +kernel
theorem dX4_check_52 : decode cX4_check 52 = .ok (.invokevirtual 165, 3) := by decide +kernel
theorem dX4_check_55 : decode cX4_check 55 = .ok (.ifCond .ne 5, 3) := by decide +kernel
theorem dX4_check_58 : decode cX4_check 58 = .ok (.iconst 2, 1) := by decide +kernel
theorem dX4_check_59 : decode cX4_check 59 = .ok (.ireturn, 1) := by decide +kernel
theorem dX4_check_60 : decode cX4_check 60 = .ok (.iload_n 3, 1) := by decide +kernel
theorem dX4_check_61 : decode cX4_check 61 = .ok (.ifCond .ne 17, 3) := by decide +kernel
theorem dX4_check_64 : decode cX4_check 64 = .ok (.aload_n 0, 1) := by decide +kernel
theorem dX4_check_65 : decode cX4_check 65 = .ok (.getfield 12, 3) := by decide +kernel
theorem dX4_check_68 : decode cX4_check 68 = .ok (.getfield 144, 3) := by decide +kernel
theorem dX4_check_71 : decode cX4_check 71 = .ok (.iload_n 2, 1) := by decide +kernel
theorem dX4_check_72 : decode cX4_check 72 = .ok (.baload, 1) := by decide +kernel
theorem dX4_check_73 : decode cX4_check 73 = .ok (.ifCond .eq 5, 3) := by decide +kernel
theorem dX4_check_76 : decode cX4_check 76 = .ok (.iconst 3, 1) := by decide +kernel
theorem dX4_check_77 : decode cX4_check 77 = .ok (.ireturn, 1) := by decide +kernel
theorem dX4_check_78 : decode cX4_check 78 = .ok (.iload_n 3, 1) := by decide +kernel
theorem dX4_check_79 : decode cX4_check 79 = .ok (.ifCond .eq 17, 3) := by decide +kernel
theorem dX4_check_82 : decode cX4_check 82 = .ok (.aload_n 0, 1) := by decide +kernel
theorem dX4_check_83 : decode cX4_check 83 = .ok (.getfield 12, 3) := by decide +kernel
theorem dX4_check_86 : decode cX4_check 86 = .ok (.getfield 144, 3) := by decide +kernel
theorem dX4_check_89 : decode cX4_check 89 = .ok (.iload_n 2, 1) := by decide +kernel
theorem dX4_check_90 : decode cX4_check 90 = .ok (.baload, 1) := by decide +kernel
theorem dX4_check_91 : decode cX4_check 91 = .ok (.ifCond .ne 5, 3) := by decide +kernel
theorem dX4_check_94 : decode cX4_check 94 = .ok (.iconst 4, 1) := by decide +kernel
theorem dX4_check_95 : decode cX4_check 95 = .ok (.ireturn, 1) := by decide +kernel
theorem dX4_check_96 : decode cX4_check 96 = .ok (.iconst 0, 1) := by decide +kernel
theorem dX4_check_97 : decode cX4_check 97 = .ok (.ireturn, 1) := by decide +kernel
theorem dX4_mount_0 : decode cX4_mount 0 = .ok (.aload_n 0, 1) := by decide +kernel
theorem dX4_mount_1 : decode cX4_mount 1 = .ok (.getfield 12, 3) := by decide +kernel
theorem dX4_mount_4 : decode cX4_mount 4 = .ok (.getfield 82, 3) := by decide +kernel
theorem dX4_mount_7 : decode cX4_mount 7 = .ok (.iload_n 2, 1) := by decide +kernel
theorem dX4_mount_8 : decode cX4_mount 8 = .ok (.iload_n 3, 1) := by decide +kernel
theorem dX4_mount_9 : decode cX4_mount 9 = .ok (.iastore, 1) := by decide +kernel
theorem dX4_mount_10 : decode cX4_mount 10 = .ok (.aload_n 0, 1) := by decide +kernel
theorem dX4_mount_11 : decode cX4_mount 11 = .ok (.getfield 21, 3) := by decide +kernel
theorem dX4_mount_14 : decode cX4_mount 14 = .ok (.getfield 75, 3) := by decide +kernel
theorem dX4_mount_17 : decode cX4_mount 17 = .ok (.iload_n 1, 1) := by decide +kernel
theorem dX4_mount_18 : decode cX4_mount 18 = .ok (.iload_n 2, 1) := by decide +kernel
theorem dX4_mount_19 : decode cX4_mount 19 = .ok (.iastore, 1) := by decide +kernel
theorem dX4_mount_20 : decode cX4_mount 20 = .ok (.aload_n 0, 1) := by decide +kernel
theorem dX4_mount_21 : decode cX4_mount 21 = .ok (.getfield 21, 3) := by decide +kernel
theorem dX4_mount_24 : decode cX4_mount 24 = .ok (.getfield 85, 3) := by decide +kernel
theorem dX4_mount_27 : decode cX4_mount 27 = .ok (.iload_n 1, 1) := by decide +kernel
theorem dX4_mount_28 : decode cX4_mount 28 = .ok (.iconst 1, 1) := by decide +kernel
theorem dX4_mount_29 : decode cX4_mount 29 = .ok (.iastore, 1) := by decide +kernel
theorem dX4_mount_30 : decode cX4_mount 30 = .ok (.aload_n 0, 1) := by decide +kernel
theorem dX4_mount_31 : decode cX4_mount 31 = .ok (.getfield 21, 3) := by decide +kernel
theorem dX4_mount_34 : decode cX4_mount 34 = .ok (.getfield 117, 3) := by decide +kernel
theorem dX4_mount_37 : decode cX4_mount 37 = .ok (.iload_n 1, 1) := by decide +kernel
theorem dX4_mount_38 : decode cX4_mount 38 = .ok (.iaload, 1) := by decide +kernel
theorem dX4_mount_39 : decode cX4_mount 39 = .ok (.iconst 2, 1) := by decide +kernel
theorem dX4_mount_40 : decode cX4_mount 40 = .ok (.if_icmp .ne 67, 3) := by decide +kernel
theorem dX4_mount_43 : decode cX4_mount 43 = .ok (.aload_n 0, 1) := by decide +kernel
theorem dX4_mount_44 : decode cX4_mount 44 = .ok (.getfield 12, 3) := by decide +kernel
theorem dX4_mount_47 : decode cX4_mount 47 = .ok (.getfield 159, 3) := by decide +kernel
theorem dX4_mount_50 : decode cX4_mount 50 = .ok (.iload_n 2, 1) := by decide +kernel
theorem dX4_mount_51 : decode cX4_mount 51 = .ok (.aload_n 0, 1) := by decide +kernel
theorem dX4_mount_52 : decode cX4_mount 52 = .ok (.getfield 21, 3) := by decide +kernel
theorem dX4_mount_55 : decode cX4_mount 55 = .ok (.getfield 162, 3) := by decide +kernel
theorem dX4_mount_58 : decode cX4_mount 58 = .ok (.iload_n 1, 1) := by decide +kernel
theorem dX4_mount_59 : decode cX4_mount 59 = .ok (.iaload, 1) := by decide +kernel
theorem dX4_mount_60 : decode cX4_mount 60 = .ok (.iastore, 1) := by decide +kernel
theorem dX4_mount_61 : decode cX4_mount 61 = .ok (.aload_n 0, 1) := by decide +kernel
theorem dX4_mount_62 : decode cX4_mount 62 = .ok (.getfield 12, 3) := by decide +kernel
theorem dX4_mount_65 : decode cX4_mount 65 = .ok (.getfield 168, 3) := by decide +kernel
theorem dX4_mount_68 : decode cX4_mount 68 = .ok (.iload_n 2, 1) := by decide +kernel
theorem dX4_mount_69 : decode cX4_mount 69 = .ok (.aload_n 0, 1) := by decide +kernel
theorem dX4_mount_70 : decode cX4_mount 70 = .ok (.getfield 21, 3) := by decide +kernel
theorem dX4_mount_73 : decode cX4_mount 73 = .ok (.getfield 162, 3) := by decide +kernel
theorem dX4_mount_76 : decode cX4_mount 76 = .ok (.iload_n 1, 1) := by decide +kernel
theorem dX4_mount_77 : decode cX4_mount 77 = .ok (.iaload, 1) := by decide +kernel
theorem dX4_mount_78 : decode cX4_mount 78 = .ok (.iastore, 1) := by decide +kernel
theorem dX4_mount_79 : decode cX4_mount 79 = .ok (.aload_n 0, 1) := by decide +kernel
theorem dX4_mount_80 : decode cX4_mount 80 = .ok (.getfield 12, 3) := by decide +kernel
theorem dX4_mount_83 : decode cX4_mount 83 = .ok (.getfield 171, 3) := by decide +kernel
theorem dX4_mount_86 : decode cX4_mount 86 = .ok (.iload_n 2, 1) := by decide +kernel
theorem dX4_mount_87 : decode cX4_mount 87 = .ok (.aload_n 0, 1) := by decide +kernel
theorem dX4_mount_88 : decode cX4_mount 88 = .ok (.getfield 25, 3) := by decide +kernel
theorem dX4_mount_91 : decode cX4_mount 91 = .ok (.aload_n 0, 1) := by decide +kernel
theorem dX4_mount_92 : decode cX4_mount 92 = .ok (.getfield 32, 3) := by decide +kernel
theorem dX4_mount_95 : decode cX4_mount 95 = .ok (.iadd, 1) := by decide +kernel
theorem dX4_mount_96 : decode cX4_mount 96 = .ok (.iastore, 1) := by decide +kernel
theorem dX4_mount_97 : decode cX4_mount 97 = .ok (.aload_n 0, 1) := by decide +kernel
theorem dX4_mount_98 : decode cX4_mount 98 = .ok (.getfield 12, 3) := by decide +kernel
theorem dX4_mount_101 : decode cX4_mount 101 = .ok (.getfield 120, 3) := by decide +kernel
theorem dX4_mount_104 : decode cX4_mount 104 = .ok (.iload_n 2, 1) := by decide +kernel
theorem dX4_mount_105 : decode cX4_mount 105 = .ok (.iconst 0, 1) := by decide +kernel
theorem dX4_mount_106 : decode cX4_mount 106 = .ok (.iastore, 1) := by decide +kernel
theorem dX4_mount_107 : decode cX4_mount 107 = .ok (.return_, 1) := by decide +kernel
theorem dX4_sendBack_0 : decode cX4_sendBack 0 = .ok (.aload_n 0, 1) := by decide +kernel
theorem dX4_sendBack_1 : decode cX4_sendBack 1 = .ok (.dup, 1) := by decide +kernel
theorem dX4_sendBack_2 : decode cX4_sendBack 2 = .ok (.getfield 44, 3) := by decide +kernel
theorem dX4_sendBack_5 : decode cX4_sendBack 5 = .ok (.iconst 1, 1) := by decide +kernel
theorem dX4_sendBack_6 : decode cX4_sendBack 6 = .ok (.iadd, 1) := by decide +kernel
theorem dX4_sendBack_7 : decode cX4_sendBack 7 = .ok (.putfield 44, 3) := by decide +kernel
theorem dX4_sendBack_10 : decode cX4_sendBack 10 = .ok (.aload_n 0, 1) := by decide +kernel
theorem dX4_sendBack_11 : decode cX4_sendBack 11 = .ok (.getfield 21, 3) := by decide +kernel
theorem dX4_sendBack_14 : decode cX4_sendBack 14 = .ok (.getfield 174, 3) := by decide +kernel
theorem dX4_sendBack_17 : decode cX4_sendBack 17 = .ok (.iload_n 1, 1) := by decide +kernel
theorem dX4_sendBack_18 : decode cX4_sendBack 18 = .ok (.dup2, 1) := by decide +kernel
theorem dX4_sendBack_19 : decode cX4_sendBack 19 = .ok (.iaload, 1) := by decide +kernel
theorem dX4_sendBack_20 : decode cX4_sendBack 20 = .ok (.iconst 1, 1) := by decide +kernel
theorem dX4_sendBack_21 : decode cX4_sendBack 21 = .ok (.iadd, 1) := by decide +kernel
theorem dX4_sendBack_22 : decode cX4_sendBack 22 = .ok (.iastore, 1) := by decide +kernel
theorem dX4_sendBack_23 : decode cX4_sendBack 23 = .ok (.aload_n 0, 1) := by decide +kernel
theorem dX4_sendBack_24 : decode cX4_sendBack 24 = .ok (.getfield 12, 3) := by decide +kernel
theorem dX4_sendBack_27 : decode cX4_sendBack 27 = .ok (.getfield 168, 3) := by decide +kernel
theorem dX4_sendBack_30 : decode cX4_sendBack 30 = .ok (.iload_n 2, 1) := by decide +kernel
theorem dX4_sendBack_31 : decode cX4_sendBack 31 = .ok (.aload_n 0, 1) := by decide +kernel
theorem dX4_sendBack_32 : decode cX4_sendBack 32 = .ok (.getfield 12, 3) := by decide +kernel
theorem dX4_sendBack_35 : decode cX4_sendBack 35 = .ok (.iload_n 2, 1) := by decide +kernel
theorem dX4_sendBack_36 : decode cX4_sendBack 36 = .ok (.aload_n 0, 1) := by decide +kernel
theorem dX4_sendBack_37 : decode cX4_sendBack 37 = .ok (.getfield 25, 3) := by decide +kernel
theorem dX4_sendBack_40 : decode cX4_sendBack 40 = .ok (.invokevirtual 165, 3) := by decide +kernel
theorem dX4_sendBack_43 : decode cX4_sendBack 43 = .ok (.ifCond .eq 7, 3) := by decide +kernel
theorem dX4_sendBack_46 : decode cX4_sendBack 46 = .ok (.iconst 0, 1) := by decide +kernel
theorem dX4_sendBack_47 : decode cX4_sendBack 47 = .ok (.goto 12, 3) := by decide +kernel
theorem dX4_sendBack_50 : decode cX4_sendBack 50 = .ok (.aload_n 0, 1) := by decide +kernel
theorem dX4_sendBack_51 : decode cX4_sendBack 51 = .ok (.getfield 12, 3) := by decide +kernel
theorem dX4_sendBack_54 : decode cX4_sendBack 54 = .ok (.getfield 159, 3) := by decide +kernel
theorem dX4_sendBack_57 : decode cX4_sendBack 57 = .ok (.iload_n 2, 1) := by decide +kernel
theorem dX4_sendBack_58 : decode cX4_sendBack 58 = .ok (.iaload, 1) := by decide +kernel
theorem dX4_sendBack_59 : decode cX4_sendBack 59 = .ok (.iastore, 1) := by decide +kernel
theorem dX4_sendBack_60 : decode cX4_sendBack 60 = .ok (.return_, 1) := by decide +kernel
theorem dX5_init_0 : decode cX5_init 0 = .ok (.aload_n 0, 1) := by decide +kernel
theorem dX5_init_1 : decode cX5_init 1 = .ok (.invokespecial 1, 3) := by decide +kernel
theorem dX5_init_4 : decode cX5_init 4 = .ok (.aload_n 0, 1) := by decide +kernel
theorem dX5_init_5 : decode cX5_init 5 = .ok (.new 7, 3) := by decide +kernel
theorem dX5_init_8 : decode cX5_init 8 = .ok (.dup, 1) := by decide +kernel
theorem dX5_init_9 : decode cX5_init 9 = .ok (.invokespecial 9, 3) := by decide +kernel
theorem dX5_init_12 : decode cX5_init 12 = .ok (.putfield 10, 3) := by decide +kernel
theorem dX5_init_15 : decode cX5_init 15 = .ok (.aload_n 0, 1) := by decide +kernel
theorem dX5_init_16 : decode cX5_init 16 = .ok (.new 7, 3) := by decide +kernel
theorem dX5_init_19 : decode cX5_init 19 = .ok (.dup, 1) := by decide +kernel
theorem dX5_init_20 : decode cX5_init 20 = .ok (.invokespecial 9, 3) := by decide +kernel
theorem dX5_init_23 : decode cX5_init 23 = .ok (.putfield 16, 3) := by decide +kernel
theorem dX5_init_26 : decode cX5_init 26 = .ok (.aload_n 0, 1) := by decide +kernel
theorem dX5_init_27 : decode cX5_init 27 = .ok (.new 19, 3) := by decide +kernel
theorem dX5_init_30 : decode cX5_init 30 = .ok (.dup, 1) := by decide +kernel
theorem dX5_init_31 : decode cX5_init 31 = .ok (.invokespecial 21, 3) := by decide +kernel
theorem dX5_init_34 : decode cX5_init 34 = .ok (.putfield 22, 3) := by decide +kernel
theorem dX5_init_37 : decode cX5_init 37 = .ok (.aload_n 0, 1) := by decide +kernel
theorem dX5_init_38 : decode cX5_init 38 = .ok (.new 26, 3) := by decide +kernel
theorem dX5_init_41 : decode cX5_init 41 = .ok (.dup, 1) := by decide +kernel
theorem dX5_init_42 : decode cX5_init 42 = .ok (.invokespecial 28, 3) := by decide +kernel
theorem dX5_init_45 : decode cX5_init 45 = .ok (.putfield 29, 3) := by decide +kernel
theorem dX5_init_48 : decode cX5_init 48 = .ok (.return_, 1) := by decide +kernel
theorem dX5_submit_0 : decode cX5_submit 0 = .ok (.iload_n 1, 1) := by decide +kernel
theorem dX5_submit_1 : decode cX5_submit 1 = .ok (.iconst 0, 1) := by decide +kernel
theorem dX5_submit_2 : decode cX5_submit 2 = .ok (.iconst 2, 1) := by decide +kernel
theorem dX5_submit_3 : decode cX5_submit 3 = .ok (.invokestatic 33, 3) := by decide +kernel
theorem dX5_submit_6 : decode cX5_submit 6 = .ok (.ifCond .eq 34, 3) := by decide +kernel
theorem dX5_submit_9 : decode cX5_submit 9 = .ok (.iload_n 2, 1) := by decide +kernel
theorem dX5_submit_10 : decode cX5_submit 10 = .ok (.iconst 1, 1) := by decide +kernel
theorem dX5_submit_11 : decode cX5_submit 11 = .ok (.bipush 99, 2) := by decide +kernel
theorem dX5_submit_13 : decode cX5_submit 13 = .ok (.invokestatic 33, 3) := by decide +kernel
theorem dX5_submit_16 : decode cX5_submit 16 = .ok (.ifCond .eq 24, 3) := by decide +kernel
theorem dX5_submit_19 : decode cX5_submit 19 = .ok (.iload_n 3, 1) := by decide +kernel
theorem dX5_submit_20 : decode cX5_submit 20 = .ok (.iconst 1, 1) := by decide +kernel
theorem dX5_submit_21 : decode cX5_submit 21 = .ok (.bipush 20, 2) := by decide +kernel
theorem dX5_submit_23 : decode cX5_submit 23 = .ok (.invokestatic 33, 3) := by decide +kernel
theorem dX5_submit_26 : decode cX5_submit 26 = .ok (.ifCond .eq 14, 3) := by decide +kernel
theorem dX5_submit_29 : decode cX5_submit 29 = .ok (.iload 4, 2) := by decide +kernel
theorem dX5_submit_31 : decode cX5_submit 31 = .ok (.iconst 0, 1) := by decide +kernel
theorem dX5_submit_32 : decode cX5_submit 32 = .ok (.bipush 9, 2) := by decide +kernel
theorem dX5_submit_34 : decode cX5_submit 34 = .ok (.invokestatic 33, 3) := by decide +kernel
theorem dX5_submit_37 : decode cX5_submit 37 = .ok (.ifCond .ne 13, 3) := by decide +kernel
theorem dX5_submit_40 : decode cX5_submit 40 = .ok (.new 37, 3) := by decide +kernel
theorem dX5_submit_43 : decode cX5_submit 43 = .ok (.dup, 1) := by decide +kernel
theorem dX5_submit_44 : decode cX5_submit 44 = .ok (.ldc 39, 2) := by decide +kernel
theorem dX5_submit_46 : decode cX5_submit 46 = .ok (.invokespecial 41, 3) := by decide +kernel
theorem dX5_submit_49 : decode cX5_submit 49 = .ok (.athrow, 1) := by decide +kernel
theorem dX5_submit_50 : decode cX5_submit 50 = .ok (.aload_n 0, 1) := by decide +kernel
theorem dX5_submit_51 : decode cX5_submit 51 = .ok (.getfield 10, 3) := by decide +kernel
theorem dX5_submit_54 : decode cX5_submit 54 = .ok (.iload_n 1, 1) := by decide +kernel
theorem dX5_submit_55 : decode cX5_submit 55 = .ok (.iload_n 2, 1) := by decide +kernel
theorem dX5_submit_56 : decode cX5_submit 56 = .ok (.invokevirtual 44, 3) := by decide +kernel
theorem dX5_submit_59 : decode cX5_submit 59 = .ok (.ifCond .ne 13, 3) := by decide +kernel
theorem dX5_submit_62 : decode cX5_submit 62 = .ok (.new 48, 3) := by decide +kernel
theorem dX5_submit_65 : decode cX5_submit 65 = .ok (.dup, 1) := by decide +kernel
theorem dX5_submit_66 : decode cX5_submit 66 = .ok (.ldc 50, 2) := by decide +kernel
theorem dX5_submit_68 : decode cX5_submit 68 = .ok (.invokespecial 52, 3) := by decide +kernel
theorem dX5_submit_71 : decode cX5_submit 71 = .ok (.athrow, 1) := by decide +kernel
theorem dX5_submit_72 : decode cX5_submit 72 = .ok (.aload_n 0, 1) := by decide +kernel
theorem dX5_submit_73 : decode cX5_submit 73 = .ok (.getfield 22, 3) := by decide +kernel
theorem dX5_submit_76 : decode cX5_submit 76 = .ok (.aload_n 0, 1) := by decide +kernel
theorem dX5_submit_77 : decode cX5_submit 77 = .ok (.getfield 10, 3) := by decide +kernel
theorem dX5_submit_80 : decode cX5_submit 80 = .ok (.invokevirtual 53, 3) := by decide +kernel
theorem dX5_submit_83 : decode cX5_submit 83 = .ok (.aload_n 0, 1) := by decide +kernel
theorem dX5_submit_84 : decode cX5_submit 84 = .ok (.getfield 10, 3) := by decide +kernel
theorem dX5_submit_87 : decode cX5_submit 87 = .ok (.getfield 57, 3) := by decide +kernel
theorem dX5_submit_90 : decode cX5_submit 90 = .ok (.iload_n 1, 1) := by decide +kernel
theorem dX5_submit_91 : decode cX5_submit 91 = .ok (.iload_n 2, 1) := by decide +kernel
theorem dX5_submit_92 : decode cX5_submit 92 = .ok (.iload_n 3, 1) := by decide +kernel
theorem dX5_submit_93 : decode cX5_submit 93 = .ok (.iload 4, 2) := by decide +kernel
theorem dX5_submit_95 : decode cX5_submit 95 = .ok (.invokevirtual 61, 3) := by decide +kernel
theorem dX5_submit_98 : decode cX5_submit 98 = .ok (.ireturn, 1) := by decide +kernel
theorem dX5_cancel_0 : decode cX5_cancel 0 = .ok (.aload_n 0, 1) := by decide +kernel
theorem dX5_cancel_1 : decode cX5_cancel 1 = .ok (.getfield 10, 3) := by decide +kernel
theorem dX5_cancel_4 : decode cX5_cancel 4 = .ok (.getfield 57, 3) := by decide +kernel
theorem dX5_cancel_7 : decode cX5_cancel 7 = .ok (.iload_n 1, 1) := by decide +kernel
theorem dX5_cancel_8 : decode cX5_cancel 8 = .ok (.invokevirtual 67, 3) := by decide +kernel
theorem dX5_cancel_11 : decode cX5_cancel 11 = .ok (.ifCond .ne 13, 3) := by decide +kernel
theorem dX5_cancel_14 : decode cX5_cancel 14 = .ok (.new 71, 3) := by decide +kernel
theorem dX5_cancel_17 : decode cX5_cancel 17 = .ok (.dup, 1) := by decide +kernel
theorem dX5_cancel_18 : decode cX5_cancel 18 = .ok (.ldc 73, 2) := by decide +kernel
theorem dX5_cancel_20 : decode cX5_cancel 20 = .ok (.invokespecial 75, 3) := by decide +kernel
theorem dX5_cancel_23 : decode cX5_cancel 23 = .ok (.athrow, 1) := by decide +kernel
theorem dX5_cancel_24 : decode cX5_cancel 24 = .ok (.aload_n 0, 1) := by decide +kernel
theorem dX5_cancel_25 : decode cX5_cancel 25 = .ok (.getfield 10, 3) := by decide +kernel
theorem dX5_cancel_28 : decode cX5_cancel 28 = .ok (.getfield 57, 3) := by decide +kernel
theorem dX5_cancel_31 : decode cX5_cancel 31 = .ok (.getfield 76, 3) := by decide +kernel
theorem dX5_cancel_34 : decode cX5_cancel 34 = .ok (.iload_n 1, 1) := by decide +kernel
theorem dX5_cancel_35 : decode cX5_cancel 35 = .ok (.iaload, 1) := by decide +kernel
theorem dX5_cancel_36 : decode cX5_cancel 36 = .ok (.ifCond .eq 29, 3) := by decide +kernel
theorem dX5_cancel_39 : decode cX5_cancel 39 = .ok (.aload_n 0, 1) := by decide +kernel
theorem dX5_cancel_40 : decode cX5_cancel 40 = .ok (.getfield 10, 3) := by decide +kernel
theorem dX5_cancel_43 : decode cX5_cancel 43 = .ok (.getfield 57, 3) := by decide +kernel
theorem dX5_cancel_46 : decode cX5_cancel 46 = .ok (.getfield 76, 3) := by decide +kernel
theorem dX5_cancel_49 : decode cX5_cancel 49 = .ok (.iload_n 1, 1) := by decide +kernel
theorem dX5_cancel_50 : decode cX5_cancel 50 = .ok (.iaload, 1) := by decide +kernel
theorem dX5_cancel_51 : decode cX5_cancel 51 = .ok (.iconst 1, 1) := by decide +kernel
theorem dX5_cancel_52 : decode cX5_cancel 52 = .ok (.if_icmp .eq 13, 3) := by decide +kernel
theorem dX5_cancel_55 : decode cX5_cancel 55 = .ok (.new 48, 3) := by decide +kernel
theorem dX5_cancel_58 : decode cX5_cancel 58 = .ok (.dup, 1) := by decide +kernel
theorem dX5_cancel_59 : decode cX5_cancel 59 = .ok (.ldc 80, 2) := by decide +kernel
theorem dX5_cancel_61 : decode cX5_cancel 61 = .ok (.invokespecial 52, 3) := by decide +kernel
theorem dX5_cancel_64 : decode cX5_cancel 64 = .ok (.athrow, 1) := by decide +kernel
theorem dX5_cancel_65 : decode cX5_cancel 65 = .ok (.aload_n 0, 1) := by decide +kernel
theorem dX5_cancel_66 : decode cX5_cancel 66 = .ok (.getfield 22, 3) := by decide +kernel
theorem dX5_cancel_69 : decode cX5_cancel 69 = .ok (.aload_n 0, 1) := by decide +kernel
theorem dX5_cancel_70 : decode cX5_cancel 70 = .ok (.getfield 10, 3) := by decide +kernel
theorem dX5_cancel_73 : decode cX5_cancel 73 = .ok (.invokevirtual 53, 3) := by decide +kernel
theorem dX5_cancel_76 : decode cX5_cancel 76 = .ok (.aload_n 0, 1) := by decide +kernel
theorem dX5_cancel_77 : decode cX5_cancel 77 = .ok (.getfield 10, 3) := by decide +kernel
theorem dX5_cancel_80 : decode cX5_cancel 80 = .ok (.iload_n 1, 1) := by decide +kernel
theorem dX5_cancel_81 : decode cX5_cancel 81 = .ok (.iconst 3, 1) := by decide +kernel
theorem dX5_cancel_82 : decode cX5_cancel 82 = .ok (.invokevirtual 82, 3) := by decide +kernel
theorem dX5_cancel_85 : decode cX5_cancel 85 = .ok (.aload_n 0, 1) := by decide +kernel
theorem dX5_cancel_86 : decode cX5_cancel 86 = .ok (.getfield 10, 3) := by decide +kernel
theorem dX5_cancel_89 : decode cX5_cancel 89 = .ok (.getfield 57, 3) := by decide +kernel
theorem dX5_cancel_92 : decode cX5_cancel 92 = .ok (.getfield 86, 3) := by decide +kernel
theorem dX5_cancel_95 : decode cX5_cancel 95 = .ok (.iload_n 1, 1) := by decide +kernel
theorem dX5_cancel_96 : decode cX5_cancel 96 = .ok (.iaload, 1) := by decide +kernel
theorem dX5_cancel_97 : decode cX5_cancel 97 = .ok (.ireturn, 1) := by decide +kernel
theorem dX5_setSticker_0 : decode cX5_setSticker 0 = .ok (.iload_n 1, 1) := by decide +kernel
theorem dX5_setSticker_1 : decode cX5_setSticker 1 = .ok (.invokestatic 89, 3) := by decide +kernel
theorem dX5_setSticker_4 : decode cX5_setSticker 4 = .ok (.ifCond .ne 13, 3) := by decide +kernel
theorem dX5_setSticker_7 : decode cX5_setSticker 7 = .ok (.new 71, 3) := by decide +kernel
theorem dX5_setSticker_10 : decode cX5_setSticker 10 = .ok (.dup, 1) := by decide +kernel
theorem dX5_setSticker_11 : decode cX5_setSticker 11 = .ok (.ldc 92, 2) := by decide +kernel
theorem dX5_setSticker_13 : decode cX5_setSticker 13 = .ok (.invokespecial 75, 3) := by decide +kernel
theorem dX5_setSticker_16 : decode cX5_setSticker 16 = .ok (.athrow, 1) := by decide +kernel
theorem dX5_setSticker_17 : decode cX5_setSticker 17 = .ok (.iload_n 2, 1) := by decide +kernel
theorem dX5_setSticker_18 : decode cX5_setSticker 18 = .ok (.iconst 0, 1) := by decide +kernel
theorem dX5_setSticker_19 : decode cX5_setSticker 19 = .ok (.bipush 99, 2) := by decide +kernel
theorem dX5_setSticker_21 : decode cX5_setSticker 21 = .ok (.invokestatic 33, 3) := by decide +kernel
theorem dX5_setSticker_24 : decode cX5_setSticker 24 = .ok (.ifCond .ne 13, 3) := by decide +kernel
theorem dX5_setSticker_27 : decode cX5_setSticker 27 = .ok (.new 37, 3) := by decide +kernel
theorem dX5_setSticker_30 : decode cX5_setSticker 30 = .ok (.dup, 1) := by decide +kernel
theorem dX5_setSticker_31 : decode cX5_setSticker 31 = .ok (.ldc 94, 2) := by decide +kernel
theorem dX5_setSticker_33 : decode cX5_setSticker 33 = .ok (.invokespecial 41, 3) := by decide +kernel
theorem dX5_setSticker_36 : decode cX5_setSticker 36 = .ok (.athrow, 1) := by decide +kernel
theorem dX5_setSticker_37 : decode cX5_setSticker 37 = .ok (.aload_n 0, 1) := by decide +kernel
theorem dX5_setSticker_38 : decode cX5_setSticker 38 = .ok (.getfield 22, 3) := by decide +kernel
theorem dX5_setSticker_41 : decode cX5_setSticker 41 = .ok (.aload_n 0, 1) := by decide +kernel
theorem dX5_setSticker_42 : decode cX5_setSticker 42 = .ok (.getfield 10, 3) := by decide +kernel
theorem dX5_setSticker_45 : decode cX5_setSticker 45 = .ok (.invokevirtual 53, 3) := by decide +kernel
theorem dX5_setSticker_48 : decode cX5_setSticker 48 = .ok (.aload_n 0, 1) := by decide +kernel
theorem dX5_setSticker_49 : decode cX5_setSticker 49 = .ok (.getfield 10, 3) := by decide +kernel
theorem dX5_setSticker_52 : decode cX5_setSticker 52 = .ok (.getfield 96, 3) := by decide +kernel
theorem dX5_setSticker_55 : decode cX5_setSticker 55 = .ok (.getfield 100, 3) := by decide +kernel
theorem dX5_setSticker_58 : decode cX5_setSticker 58 = .ok (.iload_n 1, 1) := by decide +kernel
theorem dX5_setSticker_59 : decode cX5_setSticker 59 = .ok (.iaload, 1) := by decide +kernel
theorem dX5_setSticker_60 : decode cX5_setSticker 60 = .ok (.istore_n 3, 1) := by decide +kernel
theorem dX5_setSticker_61 : decode cX5_setSticker 61 = .ok (.aload_n 0, 1) := by decide +kernel
theorem dX5_setSticker_62 : decode cX5_setSticker 62 = .ok (.getfield 10, 3) := by decide +kernel
theorem dX5_setSticker_65 : decode cX5_setSticker 65 = .ok (.getfield 96, 3) := by decide +kernel
theorem dX5_setSticker_68 : decode cX5_setSticker 68 = .ok (.getfield 100, 3) := by decide +kernel
theorem dX5_setSticker_71 : decode cX5_setSticker 71 = .ok (.iload_n 1, 1) := by decide +kernel
theorem dX5_setSticker_72 : decode cX5_setSticker 72 = .ok (.iload_n 2, 1) := by decide +kernel
theorem dX5_setSticker_73 : decode cX5_setSticker 73 = .ok (.iastore, 1) := by decide +kernel
theorem dX5_setSticker_74 : decode cX5_setSticker 74 = .ok (.iload_n 3, 1) := by decide +kernel
theorem dX5_setSticker_75 : decode cX5_setSticker 75 = .ok (.ireturn, 1) := by decide +kernel
theorem dX5_setRing_0 : decode cX5_setRing 0 = .ok (.iload_n 1, 1) := by decide +kernel
theorem dX5_setRing_1 : decode cX5_setRing 1 = .ok (.invokestatic 89, 3) := by decide +kernel
theorem dX5_setRing_4 : decode cX5_setRing 4 = .ok (.ifCond .ne 13, 3) := by decide +kernel
theorem dX5_setRing_7 : decode cX5_setRing 7 = .ok (.new 71, 3) := by decide +kernel
theorem dX5_setRing_10 : decode cX5_setRing 10 = .ok (.dup, 1) := by decide +kernel
theorem dX5_setRing_11 : decode cX5_setRing 11 = .ok (.ldc 92, 2) := by decide +kernel
theorem dX5_setRing_13 : decode cX5_setRing 13 = .ok (.invokespecial 75, 3) := by decide +kernel
theorem dX5_setRing_16 : decode cX5_setRing 16 = .ok (.athrow, 1) := by decide +kernel
theorem dX5_setRing_17 : decode cX5_setRing 17 = .ok (.aload_n 0, 1) := by decide +kernel
theorem dX5_setRing_18 : decode cX5_setRing 18 = .ok (.getfield 10, 3) := by decide +kernel
theorem dX5_setRing_21 : decode cX5_setRing 21 = .ok (.getfield 96, 3) := by decide +kernel
theorem dX5_setRing_24 : decode cX5_setRing 24 = .ok (.getfield 105, 3) := by decide +kernel
theorem dX5_setRing_27 : decode cX5_setRing 27 = .ok (.iload_n 1, 1) := by decide +kernel
theorem dX5_setRing_28 : decode cX5_setRing 28 = .ok (.iaload, 1) := by decide +kernel
theorem dX5_setRing_29 : decode cX5_setRing 29 = .ok (.iconst (-1), 1) := by decide +kernel
theorem dX5_setRing_30 : decode cX5_setRing 30 = .ok (.if_icmp .eq 13, 3) := by decide +kernel
theorem dX5_setRing_33 : decode cX5_setRing 33 = .ok (.new 48, 3) := by decide +kernel
theorem dX5_setRing_36 : decode cX5_setRing 36 = .ok (.dup, 1) := by decide +kernel
theorem dX5_setRing_37 : decode cX5_setRing 37 = .ok (.ldc 108, 2) := by decide +kernel
theorem dX5_setRing_39 : decode cX5_setRing 39 = .ok (.invokespecial 52, 3) := by decide +kernel
theorem dX5_setRing_42 : decode cX5_setRing 42 = .ok (.athrow, 1) := by decide +kernel
theorem dX5_setRing_43 : decode cX5_setRing 43 = .ok (.aload_n 0, 1) := by decide +kernel
theorem dX5_setRing_44 : decode cX5_setRing 44 = .ok (.getfield 22, 3) := by decide +kernel
theorem dX5_setRing_47 : decode cX5_setRing 47 = .ok (.aload_n 0, 1) := by decide +kernel
theorem dX5_setRing_48 : decode cX5_setRing 48 = .ok (.getfield 10, 3) := by decide +kernel
theorem dX5_setRing_51 : decode cX5_setRing 51 = .ok (.invokevirtual 53, 3) := by decide +kernel
theorem dX5_setRing_54 : decode cX5_setRing 54 = .ok (.aload_n 0, 1) := by decide +kernel
theorem dX5_setRing_55 : decode cX5_setRing 55 = .ok (.getfield 10, 3) := by decide +kernel
theorem dX5_setRing_58 : decode cX5_setRing 58 = .ok (.getfield 96, 3) := by decide +kernel
theorem dX5_setRing_61 : decode cX5_setRing 61 = .ok (.getfield 110, 3) := by decide +kernel
theorem dX5_setRing_64 : decode cX5_setRing 64 = .ok (.iload_n 1, 1) := by decide +kernel
theorem dX5_setRing_65 : decode cX5_setRing 65 = .ok (.baload, 1) := by decide +kernel
theorem dX5_setRing_66 : decode cX5_setRing 66 = .ok (.istore_n 3, 1) := by decide +kernel
theorem dX5_setRing_67 : decode cX5_setRing 67 = .ok (.aload_n 0, 1) := by decide +kernel
theorem dX5_setRing_68 : decode cX5_setRing 68 = .ok (.getfield 10, 3) := by decide +kernel
theorem dX5_setRing_71 : decode cX5_setRing 71 = .ok (.getfield 96, 3) := by decide +kernel
theorem dX5_setRing_74 : decode cX5_setRing 74 = .ok (.getfield 110, 3) := by decide +kernel
theorem dX5_setRing_77 : decode cX5_setRing 77 = .ok (.iload_n 1, 1) := by decide +kernel
theorem dX5_setRing_78 : decode cX5_setRing 78 = .ok (.iload_n 2, 1) := by decide +kernel
theorem dX5_setRing_79 : decode cX5_setRing 79 = .ok (.bastore, 1) := by decide +kernel
theorem dX5_setRing_80 : decode cX5_setRing 80 = .ok (.iload_n 3, 1) := by decide +kernel
theorem dX5_setRing_81 : decode cX5_setRing 81 = .ok (.ireturn, 1) := by decide +kernel
theorem dX5_pass_0 : decode cX5_pass 0 = .ok (.iload_n 1, 1) := by decide +kernel
theorem dX5_pass_1 : decode cX5_pass 1 = .ok (.iconst 1, 1) := by decide +kernel
theorem dX5_pass_2 : decode cX5_pass 2 = .ok (.bipush 99, 2) := by decide +kernel
theorem dX5_pass_4 : decode cX5_pass 4 = .ok (.invokestatic 33, 3) := by decide +kernel
theorem dX5_pass_7 : decode cX5_pass 7 = .ok (.ifCond .ne 13, 3) := by decide +kernel
theorem dX5_pass_10 : decode cX5_pass 10 = .ok (.new 37, 3) := by decide +kernel
theorem dX5_pass_13 : decode cX5_pass 13 = .ok (.dup, 1) := by decide +kernel
theorem dX5_pass_14 : decode cX5_pass 14 = .ok (.ldc 114, 2) := by decide +kernel
theorem dX5_pass_16 : decode cX5_pass 16 = .ok (.invokespecial 41, 3) := by decide +kernel
theorem dX5_pass_19 : decode cX5_pass 19 = .ok (.athrow, 1) := by decide +kernel
theorem dX5_pass_20 : decode cX5_pass 20 = .ok (.aload_n 0, 1) := by decide +kernel
theorem dX5_pass_21 : decode cX5_pass 21 = .ok (.getfield 22, 3) := by decide +kernel
theorem dX5_pass_24 : decode cX5_pass 24 = .ok (.aload_n 0, 1) := by decide +kernel
theorem dX5_pass_25 : decode cX5_pass 25 = .ok (.getfield 10, 3) := by decide +kernel
theorem dX5_pass_28 : decode cX5_pass 28 = .ok (.invokevirtual 53, 3) := by decide +kernel
theorem dX5_pass_31 : decode cX5_pass 31 = .ok (.aload_n 0, 1) := by decide +kernel
theorem dX5_pass_32 : decode cX5_pass 32 = .ok (.getfield 10, 3) := by decide +kernel
theorem dX5_pass_35 : decode cX5_pass 35 = .ok (.iload_n 1, 1) := by decide +kernel
theorem dX5_pass_36 : decode cX5_pass 36 = .ok (.invokevirtual 116, 3) := by decide +kernel
theorem dX5_pass_39 : decode cX5_pass 39 = .ok (.ireturn, 1) := by decide +kernel
theorem dX5_nextDay_0 : decode cX5_nextDay 0 = .ok (.aload_n 0, 1) := by decide +kernel
theorem dX5_nextDay_1 : decode cX5_nextDay 1 = .ok (.getfield 10, 3) := by decide +kernel
theorem dX5_nextDay_4 : decode cX5_nextDay 4 = .ok (.invokevirtual 120, 3) := by decide +kernel
theorem dX5_nextDay_7 : decode cX5_nextDay 7 = .ok (.ifCond .ne 13, 3) := by decide +kernel
theorem dX5_nextDay_10 : decode cX5_nextDay 10 = .ok (.new 48, 3) := by decide +kernel
theorem dX5_nextDay_13 : decode cX5_nextDay 13 = .ok (.dup, 1) := by decide +kernel
theorem dX5_nextDay_14 : decode cX5_nextDay 14 = .ok (.ldc 124, 2) := by decide +kernel
theorem dX5_nextDay_16 : decode cX5_nextDay 16 = .ok (.invokespecial 52, 3) := by decide +kernel
theorem dX5_nextDay_19 : decode cX5_nextDay 19 = .ok (.athrow, 1) := by decide +kernel
theorem dX5_nextDay_20 : decode cX5_nextDay 20 = .ok (.aload_n 0, 1) := by decide +kernel
theorem dX5_nextDay_21 : decode cX5_nextDay 21 = .ok (.getfield 22, 3) := by decide +kernel
theorem dX5_nextDay_24 : decode cX5_nextDay 24 = .ok (.aload_n 0, 1) := by decide +kernel
theorem dX5_nextDay_25 : decode cX5_nextDay 25 = .ok (.getfield 10, 3) := by decide +kernel
theorem dX5_nextDay_28 : decode cX5_nextDay 28 = .ok (.invokevirtual 53, 3) := by decide +kernel
theorem dX5_nextDay_31 : decode cX5_nextDay 31 = .ok (.aload_n 0, 1) := by decide +kernel
theorem dX5_nextDay_32 : decode cX5_nextDay 32 = .ok (.getfield 10, 3) := by decide +kernel
theorem dX5_nextDay_35 : decode cX5_nextDay 35 = .ok (.dup, 1) := by decide +kernel
theorem dX5_nextDay_36 : decode cX5_nextDay 36 = .ok (.getfield 126, 3) := by decide +kernel
theorem dX5_nextDay_39 : decode cX5_nextDay 39 = .ok (.iconst 1, 1) := by decide +kernel
theorem dX5_nextDay_40 : decode cX5_nextDay 40 = .ok (.iadd, 1) := by decide +kernel
theorem dX5_nextDay_41 : decode cX5_nextDay 41 = .ok (.putfield 126, 3) := by decide +kernel
theorem dX5_nextDay_44 : decode cX5_nextDay 44 = .ok (.aload_n 0, 1) := by decide +kernel
theorem dX5_nextDay_45 : decode cX5_nextDay 45 = .ok (.getfield 10, 3) := by decide +kernel
theorem dX5_nextDay_48 : decode cX5_nextDay 48 = .ok (.getfield 126, 3) := by decide +kernel
theorem dX5_nextDay_51 : decode cX5_nextDay 51 = .ok (.ireturn, 1) := by decide +kernel
theorem dX5_set_0 : decode cX5_set 0 = .ok (.iload_n 1, 1) := by decide +kernel
theorem dX5_set_1 : decode cX5_set 1 = .ok (.ifCond .eq 18, 3) := by decide +kernel
theorem dX5_set_4 : decode cX5_set 4 = .ok (.iload_n 1, 1) := by decide +kernel
theorem dX5_set_5 : decode cX5_set 5 = .ok (.iconst 1, 1) := by decide +kernel
theorem dX5_set_6 : decode cX5_set 6 = .ok (.if_icmp .eq 13, 3) := by decide +kernel
theorem dX5_set_9 : decode cX5_set 9 = .ok (.new 71, 3) := by decide +kernel
theorem dX5_set_12 : decode cX5_set 12 = .ok (.dup, 1) := by decide +kernel
theorem dX5_set_13 : decode cX5_set 13 = .ok (.ldc 130, 2) := by decide +kernel
theorem dX5_set_15 : decode cX5_set 15 = .ok (.invokespecial 75, 3) := by decide +kernel
theorem dX5_set_18 : decode cX5_set 18 = .ok (.athrow, 1) := by decide +kernel
theorem dX5_set_19 : decode cX5_set 19 = .ok (.iload_n 2, 1) := by decide +kernel
theorem dX5_set_20 : decode cX5_set 20 = .ok (.iconst 0, 1) := by decide +kernel
theorem dX5_set_21 : decode cX5_set 21 = .ok (.iload_n 1, 1) := by decide +kernel
theorem dX5_set_22 : decode cX5_set 22 = .ok (.ifCond .ne 8, 3) := by decide +kernel
theorem dX5_set_25 : decode cX5_set 25 = .ok (.bipush 9, 2) := by decide +kernel
theorem dX5_set_27 : decode cX5_set 27 = .ok (.goto 5, 3) := by decide +kernel
theorem dX5_set_30 : decode cX5_set 30 = .ok (.bipush 99, 2) := by decide +kernel
theorem dX5_set_32 : decode cX5_set 32 = .ok (.invokestatic 33, 3) := by decide +kernel
theorem dX5_set_35 : decode cX5_set 35 = .ok (.ifCond .ne 13, 3) := by decide +kernel
theorem dX5_set_38 : decode cX5_set 38 = .ok (.new 37, 3) := by decide +kernel
theorem dX5_set_41 : decode cX5_set 41 = .ok (.dup, 1) := by decide +kernel
theorem dX5_set_42 : decode cX5_set 42 = .ok (.ldc 132, 2) := by decide +kernel
theorem dX5_set_44 : decode cX5_set 44 = .ok (.invokespecial 41, 3) := by decide +kernel
theorem dX5_set_47 : decode cX5_set 47 = .ok (.athrow, 1) := by decide +kernel
theorem dX5_set_48 : decode cX5_set 48 = .ok (.aload_n 0, 1) := by decide +kernel
theorem dX5_set_49 : decode cX5_set 49 = .ok (.getfield 22, 3) := by decide +kernel
theorem dX5_set_52 : decode cX5_set 52 = .ok (.aload_n 0, 1) := by decide +kernel
theorem dX5_set_53 : decode cX5_set 53 = .ok (.getfield 10, 3) := by decide +kernel
theorem dX5_set_56 : decode cX5_set 56 = .ok (.invokevirtual 53, 3) := by decide +kernel
theorem dX5_set_59 : decode cX5_set 59 = .ok (.iload_n 1, 1) := by decide +kernel
theorem dX5_set_60 : decode cX5_set 60 = .ok (.ifCond .ne 22, 3) := by decide +kernel
theorem dX5_set_63 : decode cX5_set 63 = .ok (.aload_n 0, 1) := by decide +kernel
theorem dX5_set_64 : decode cX5_set 64 = .ok (.getfield 10, 3) := by decide +kernel
theorem dX5_set_67 : decode cX5_set 67 = .ok (.getfield 134, 3) := by decide +kernel
theorem dX5_set_70 : decode cX5_set 70 = .ok (.istore_n 3, 1) := by decide +kernel
theorem dX5_set_71 : decode cX5_set 71 = .ok (.aload_n 0, 1) := by decide +kernel
theorem dX5_set_72 : decode cX5_set 72 = .ok (.getfield 10, 3) := by decide +kernel
theorem dX5_set_75 : decode cX5_set 75 = .ok (.iload_n 2, 1) := by decide +kernel
theorem dX5_set_76 : decode cX5_set 76 = .ok (.putfield 134, 3) := by decide +kernel
theorem dX5_set_79 : decode cX5_set 79 = .ok (.goto 19, 3) := by decide +kernel
theorem dX5_set_82 : decode cX5_set 82 = .ok (.aload_n 0, 1) := by decide +kernel
theorem dX5_set_83 : decode cX5_set 83 = .ok (.getfield 10, 3) := by decide +kernel
theorem dX5_set_86 : decode cX5_set 86 = .ok (.getfield 137, 3) := by decide +kernel
theorem dX5_set_89 : decode cX5_set 89 = .ok (.istore_n 3, 1) := by decide +kernel
theorem dX5_set_90 : decode cX5_set 90 = .ok (.aload_n 0, 1) := by decide +kernel
theorem dX5_set_91 : decode cX5_set 91 = .ok (.getfield 10, 3) := by decide +kernel
theorem dX5_set_94 : decode cX5_set 94 = .ok (.iload_n 2, 1) := by decide +kernel
theorem dX5_set_95 : decode cX5_set 95 = .ok (.putfield 137, 3) := by decide +kernel
theorem dX5_set_98 : decode cX5_set 98 = .ok (.iload_n 3, 1) := by decide +kernel
theorem dX5_set_99 : decode cX5_set 99 = .ok (.ireturn, 1) := by decide +kernel
theorem dX5_reel_0 : decode cX5_reel 0 = .ok (.iload_n 1, 1) := by decide +kernel
theorem dX5_reel_1 : decode cX5_reel 1 = .ok (.invokestatic 89, 3) := by decide +kernel
theorem dX5_reel_4 : decode cX5_reel 4 = .ok (.ifCond .ne 13, 3) := by decide +kernel
theorem dX5_reel_7 : decode cX5_reel 7 = .ok (.new 71, 3) := by decide +kernel
theorem dX5_reel_10 : decode cX5_reel 10 = .ok (.dup, 1) := by decide +kernel
theorem dX5_reel_11 : decode cX5_reel 11 = .ok (.ldc 92, 2) := by decide +kernel
theorem dX5_reel_13 : decode cX5_reel 13 = .ok (.invokespecial 75, 3) := by decide +kernel
theorem dX5_reel_16 : decode cX5_reel 16 = .ok (.athrow, 1) := by decide +kernel
theorem dX5_reel_17 : decode cX5_reel 17 = .ok (.iload_n 2, 1) := by decide +kernel
theorem dX5_reel_18 : decode cX5_reel 18 = .ok (.tableswitch 155 0 6 #[42, 55, 68, 89, 102, 115, 128], 42) := by decide +kernel
theorem dX5_reel_60 : decode cX5_reel 60 = .ok (.aload_n 0, 1) := by decide +kernel
theorem dX5_reel_61 : decode cX5_reel 61 = .ok (.getfield 10, 3) := by decide +kernel
theorem dX5_reel_64 : decode cX5_reel 64 = .ok (.getfield 96, 3) := by decide +kernel
theorem dX5_reel_67 : decode cX5_reel 67 = .ok (.getfield 193, 3) := by decide +kernel
theorem dX5_reel_70 : decode cX5_reel 70 = .ok (.iload_n 1, 1) := by decide +kernel
theorem dX5_reel_71 : decode cX5_reel 71 = .ok (.iaload, 1) := by decide +kernel
theorem dX5_reel_72 : decode cX5_reel 72 = .ok (.ireturn, 1) := by decide +kernel
theorem dX5_reel_73 : decode cX5_reel 73 = .ok (.aload_n 0, 1) := by decide +kernel
theorem dX5_reel_74 : decode cX5_reel 74 = .ok (.getfield 10, 3) := by decide +kernel
theorem dX5_reel_77 : decode cX5_reel 77 = .ok (.getfield 96, 3) := by decide +kernel
theorem dX5_reel_80 : decode cX5_reel 80 = .ok (.getfield 100, 3) := by decide +kernel
theorem dX5_reel_83 : decode cX5_reel 83 = .ok (.iload_n 1, 1) := by decide +kernel
theorem dX5_reel_84 : decode cX5_reel 84 = .ok (.iaload, 1) := by decide +kernel
theorem dX5_reel_85 : decode cX5_reel 85 = .ok (.ireturn, 1) := by decide +kernel
theorem dX5_reel_86 : decode cX5_reel 86 = .ok (.aload_n 0, 1) := by decide +kernel
theorem dX5_reel_87 : decode cX5_reel 87 = .ok (.getfield 10, 3) := by decide +kernel
theorem dX5_reel_90 : decode cX5_reel 90 = .ok (.getfield 96, 3) := by decide +kernel
theorem dX5_reel_93 : decode cX5_reel 93 = .ok (.getfield 110, 3) := by decide +kernel
theorem dX5_reel_96 : decode cX5_reel 96 = .ok (.iload_n 1, 1) := by decide +kernel
theorem dX5_reel_97 : decode cX5_reel 97 = .ok (.baload, 1) := by decide +kernel
theorem dX5_reel_98 : decode cX5_reel 98 = .ok (.ifCond .eq 7, 3) := by decide +kernel
theorem dX5_reel_101 : decode cX5_reel 101 = .ok (.iconst 1, 1) := by decide +kernel
theorem dX5_reel_102 : decode cX5_reel 102 = .ok (.goto 4, 3) := by decide +kernel
theorem dX5_reel_105 : decode cX5_reel 105 = .ok (.iconst 0, 1) := by decide +kernel
theorem dX5_reel_106 : decode cX5_reel 106 = .ok (.ireturn, 1) := by decide +kernel
theorem dX5_reel_107 : decode cX5_reel 107 = .ok (.aload_n 0, 1) := by decide +kernel
theorem dX5_reel_108 : decode cX5_reel 108 = .ok (.getfield 10, 3) := by decide +kernel
theorem dX5_reel_111 : decode cX5_reel 111 = .ok (.getfield 96, 3) := by decide +kernel
theorem dX5_reel_114 : decode cX5_reel 114 = .ok (.getfield 196, 3) := by decide +kernel
theorem dX5_reel_117 : decode cX5_reel 117 = .ok (.iload_n 1, 1) := by decide +kernel
theorem dX5_reel_118 : decode cX5_reel 118 = .ok (.iaload, 1) := by decide +kernel
theorem dX5_reel_119 : decode cX5_reel 119 = .ok (.ireturn, 1) := by decide +kernel
theorem dX5_reel_120 : decode cX5_reel 120 = .ok (.aload_n 0, 1) := by decide +kernel
theorem dX5_reel_121 : decode cX5_reel 121 = .ok (.getfield 10, 3) := by decide +kernel
theorem dX5_reel_124 : decode cX5_reel 124 = .ok (.getfield 96, 3) := by decide +kernel
theorem dX5_reel_127 : decode cX5_reel 127 = .ok (.getfield 199, 3) := by decide +kernel
theorem dX5_reel_130 : decode cX5_reel 130 = .ok (.iload_n 1, 1) := by decide +kernel
theorem dX5_reel_131 : decode cX5_reel 131 = .ok (.iaload, 1) := by decide +kernel
theorem dX5_reel_132 : decode cX5_reel 132 = .ok (.ireturn, 1) := by decide +kernel
theorem dX5_reel_133 : decode cX5_reel 133 = .ok (.aload_n 0, 1) := by decide +kernel
theorem dX5_reel_134 : decode cX5_reel 134 = .ok (.getfield 10, 3) := by decide +kernel
theorem dX5_reel_137 : decode cX5_reel 137 = .ok (.getfield 96, 3) := by decide +kernel
theorem dX5_reel_140 : decode cX5_reel 140 = .ok (.getfield 105, 3) := by decide +kernel
theorem dX5_reel_143 : decode cX5_reel 143 = .ok (.iload_n 1, 1) := by decide +kernel
theorem dX5_reel_144 : decode cX5_reel 144 = .ok (.iaload, 1) := by decide +kernel
theorem dX5_reel_145 : decode cX5_reel 145 = .ok (.ireturn, 1) := by decide +kernel
theorem dX5_reel_146 : decode cX5_reel 146 = .ok (.aload_n 0, 1) := by decide +kernel
theorem dX5_reel_147 : decode cX5_reel 147 = .ok (.getfield 10, 3) := by decide +kernel
theorem dX5_reel_150 : decode cX5_reel 150 = .ok (.getfield 96, 3) := by decide +kernel
theorem dX5_reel_153 : decode cX5_reel 153 = .ok (.iload_n 1, 1) := by decide +kernel
theorem dX5_reel_154 : decode cX5_reel 154 = .ok (.aload_n 0, 1) := by decide +kernel
theorem dX5_reel_155 : decode cX5_reel 155 = .ok (.getfield 10, 3) := by decide +kernel
theorem dX5_reel_158 : decode cX5_reel 158 = .ok (.getfield 126, 3) := by decide +kernel
theorem dX5_reel_161 : decode cX5_reel 161 = .ok (.invokevirtual 200, 3) := by decide +kernel
theorem dX5_reel_164 : decode cX5_reel 164 = .ok (.ifCond .eq 7, 3) := by decide +kernel
theorem dX5_reel_167 : decode cX5_reel 167 = .ok (.iconst 1, 1) := by decide +kernel
theorem dX5_reel_168 : decode cX5_reel 168 = .ok (.goto 4, 3) := by decide +kernel
theorem dX5_reel_171 : decode cX5_reel 171 = .ok (.iconst 0, 1) := by decide +kernel
theorem dX5_reel_172 : decode cX5_reel 172 = .ok (.ireturn, 1) := by decide +kernel
theorem dX5_reel_173 : decode cX5_reel 173 = .ok (.new 37, 3) := by decide +kernel
theorem dX5_reel_176 : decode cX5_reel 176 = .ok (.dup, 1) := by decide +kernel
theorem dX5_reel_177 : decode cX5_reel 177 = .ok (.ldc 203, 2) := by decide +kernel
theorem dX5_reel_179 : decode cX5_reel 179 = .ok (.invokespecial 41, 3) := by decide +kernel
theorem dX5_reel_182 : decode cX5_reel 182 = .ok (.athrow, 1) := by decide +kernel
theorem dX5_reelOn_0 : decode cX5_reelOn 0 = .ok (.iload_n 1, 1) := by decide +kernel
theorem dX5_reelOn_1 : decode cX5_reelOn 1 = .ok (.iconst 0, 1) := by decide +kernel
theorem dX5_reelOn_2 : decode cX5_reelOn 2 = .ok (.iconst 2, 1) := by decide +kernel
theorem dX5_reelOn_3 : decode cX5_reelOn 3 = .ok (.invokestatic 33, 3) := by decide +kernel
theorem dX5_reelOn_6 : decode cX5_reelOn 6 = .ok (.ifCond .ne 13, 3) := by decide +kernel
theorem dX5_reelOn_9 : decode cX5_reelOn 9 = .ok (.new 71, 3) := by decide +kernel
theorem dX5_reelOn_12 : decode cX5_reelOn 12 = .ok (.dup, 1) := by decide +kernel
theorem dX5_reelOn_13 : decode cX5_reelOn 13 = .ok (.ldc 205, 2) := by decide +kernel
theorem dX5_reelOn_15 : decode cX5_reelOn 15 = .ok (.invokespecial 75, 3) := by decide +kernel
theorem dX5_reelOn_18 : decode cX5_reelOn 18 = .ok (.athrow, 1) := by decide +kernel
theorem dX5_reelOn_19 : decode cX5_reelOn 19 = .ok (.aload_n 0, 1) := by decide +kernel
theorem dX5_reelOn_20 : decode cX5_reelOn 20 = .ok (.getfield 10, 3) := by decide +kernel
theorem dX5_reelOn_23 : decode cX5_reelOn 23 = .ok (.getfield 96, 3) := by decide +kernel
theorem dX5_reelOn_26 : decode cX5_reelOn 26 = .ok (.iload_n 1, 1) := by decide +kernel
theorem dX5_reelOn_27 : decode cX5_reelOn 27 = .ok (.invokevirtual 207, 3) := by decide +kernel
theorem dX5_reelOn_30 : decode cX5_reelOn 30 = .ok (.ireturn, 1) := by decide +kernel
theorem dX5_scratchReels_0 : decode cX5_scratchReels 0 = .ok (.iconst 0, 1) := by decide +kernel
theorem dX5_scratchReels_1 : decode cX5_scratchReels 1 = .ok (.istore_n 1, 1) := by decide +kernel
theorem dX5_scratchReels_2 : decode cX5_scratchReels 2 = .ok (.iconst 0, 1) := by decide +kernel
theorem dX5_scratchReels_3 : decode cX5_scratchReels 3 = .ok (.istore_n 2, 1) := by decide +kernel
theorem dX5_scratchReels_4 : decode cX5_scratchReels 4 = .ok (.iload_n 2, 1) := by decide +kernel
theorem dX5_scratchReels_5 : decode cX5_scratchReels 5 = .ok (.bipush 12, 2) := by decide +kernel
theorem dX5_scratchReels_7 : decode cX5_scratchReels 7 = .ok (.if_icmp .ge 33, 3) := by decide +kernel
theorem dX5_scratchReels_10 : decode cX5_scratchReels 10 = .ok (.aload_n 0, 1) := by decide +kernel
theorem dX5_scratchReels_11 : decode cX5_scratchReels 11 = .ok (.getfield 10, 3) := by decide +kernel
theorem dX5_scratchReels_14 : decode cX5_scratchReels 14 = .ok (.getfield 96, 3) := by decide +kernel
theorem dX5_scratchReels_17 : decode cX5_scratchReels 17 = .ok (.iload_n 2, 1) := by decide +kernel
theorem dX5_scratchReels_18 : decode cX5_scratchReels 18 = .ok (.aload_n 0, 1) := by decide +kernel
theorem dX5_scratchReels_19 : decode cX5_scratchReels 19 = .ok (.getfield 10, 3) := by decide +kernel
theorem dX5_scratchReels_22 : decode cX5_scratchReels 22 = .ok (.getfield 126, 3) := by decide +kernel
theorem dX5_scratchReels_25 : decode cX5_scratchReels 25 = .ok (.invokevirtual 200, 3) := by decide +kernel
theorem dX5_scratchReels_28 : decode cX5_scratchReels 28 = .ok (.ifCond .eq 6, 3) := by decide +kernel
theorem dX5_scratchReels_31 : decode cX5_scratchReels 31 = .ok (.iinc 1 1, 3) := by decide +kernel
theorem dX5_scratchReels_34 : decode cX5_scratchReels 34 = .ok (.iinc 2 1, 3) := by decide +kernel
theorem dX5_scratchReels_37 : decode cX5_scratchReels 37 = .ok (.goto (-33), 3) := by decide +kernel
theorem dX5_scratchReels_40 : decode cX5_scratchReels 40 = .ok (.iload_n 1, 1) := by decide +kernel
theorem dX5_scratchReels_41 : decode cX5_scratchReels 41 = .ok (.ireturn, 1) := by decide +kernel
theorem dX5_jobs_0 : decode cX5_jobs 0 = .ok (.aload_n 0, 1) := by decide +kernel
theorem dX5_jobs_1 : decode cX5_jobs 1 = .ok (.getfield 10, 3) := by decide +kernel
theorem dX5_jobs_4 : decode cX5_jobs 4 = .ok (.getfield 57, 3) := by decide +kernel
theorem dX5_jobs_7 : decode cX5_jobs 7 = .ok (.getfield 210, 3) := by decide +kernel
theorem dX5_jobs_10 : decode cX5_jobs 10 = .ok (.ireturn, 1) := by decide +kernel
theorem dX5_job_0 : decode cX5_job 0 = .ok (.aload_n 0, 1) := by decide +kernel
theorem dX5_job_1 : decode cX5_job 1 = .ok (.getfield 10, 3) := by decide +kernel
theorem dX5_job_4 : decode cX5_job 4 = .ok (.getfield 57, 3) := by decide +kernel
theorem dX5_job_7 : decode cX5_job 7 = .ok (.iload_n 1, 1) := by decide +kernel
theorem dX5_job_8 : decode cX5_job 8 = .ok (.invokevirtual 67, 3) := by decide +kernel
theorem dX5_job_11 : decode cX5_job 11 = .ok (.ifCond .ne 13, 3) := by decide +kernel
theorem dX5_job_14 : decode cX5_job 14 = .ok (.new 71, 3) := by decide +kernel
theorem dX5_job_17 : decode cX5_job 17 = .ok (.dup, 1) := by decide +kernel
theorem dX5_job_18 : decode cX5_job 18 = .ok (.ldc 73, 2) := by decide +kernel
theorem dX5_job_20 : decode cX5_job 20 = .ok (.invokespecial 75, 3) := by decide +kernel
theorem dX5_job_23 : decode cX5_job 23 = .ok (.athrow, 1) := by decide +kernel
theorem dX5_job_24 : decode cX5_job 24 = .ok (.iload_n 2, 1) := by decide +kernel
theorem dX5_job_25 : decode cX5_job 25 = .ok (.tableswitch 151 0 7 #[47, 60, 73, 86, 99, 112, 125, 138], 47) := by decide +kernel
theorem dX5_job_72 : decode cX5_job 72 = .ok (.aload_n 0, 1) := by decide +kernel
theorem dX5_job_73 : decode cX5_job 73 = .ok (.getfield 10, 3) := by decide +kernel
theorem dX5_job_76 : decode cX5_job 76 = .ok (.getfield 57, 3) := by decide +kernel
theorem dX5_job_79 : decode cX5_job 79 = .ok (.getfield 213, 3) := by decide +kernel
theorem dX5_job_82 : decode cX5_job 82 = .ok (.iload_n 1, 1) := by decide +kernel
theorem dX5_job_83 : decode cX5_job 83 = .ok (.iaload, 1) := by decide +kernel
theorem dX5_job_84 : decode cX5_job 84 = .ok (.ireturn, 1) := by decide +kernel
theorem dX5_job_85 : decode cX5_job 85 = .ok (.aload_n 0, 1) := by decide +kernel
theorem dX5_job_86 : decode cX5_job 86 = .ok (.getfield 10, 3) := by decide +kernel
theorem dX5_job_89 : decode cX5_job 89 = .ok (.getfield 57, 3) := by decide +kernel
theorem dX5_job_92 : decode cX5_job 92 = .ok (.getfield 216, 3) := by decide +kernel
theorem dX5_job_95 : decode cX5_job 95 = .ok (.iload_n 1, 1) := by decide +kernel
theorem dX5_job_96 : decode cX5_job 96 = .ok (.iaload, 1) := by decide +kernel
theorem dX5_job_97 : decode cX5_job 97 = .ok (.ireturn, 1) := by decide +kernel
theorem dX5_job_98 : decode cX5_job 98 = .ok (.aload_n 0, 1) := by decide +kernel
theorem dX5_job_99 : decode cX5_job 99 = .ok (.getfield 10, 3) := by decide +kernel
theorem dX5_job_102 : decode cX5_job 102 = .ok (.getfield 57, 3) := by decide +kernel
theorem dX5_job_105 : decode cX5_job 105 = .ok (.getfield 219, 3) := by decide +kernel
theorem dX5_job_108 : decode cX5_job 108 = .ok (.iload_n 1, 1) := by decide +kernel
theorem dX5_job_109 : decode cX5_job 109 = .ok (.iaload, 1) := by decide +kernel
theorem dX5_job_110 : decode cX5_job 110 = .ok (.ireturn, 1) := by decide +kernel
theorem dX5_job_111 : decode cX5_job 111 = .ok (.aload_n 0, 1) := by decide +kernel
theorem dX5_job_112 : decode cX5_job 112 = .ok (.getfield 10, 3) := by decide +kernel
theorem dX5_job_115 : decode cX5_job 115 = .ok (.getfield 57, 3) := by decide +kernel
theorem dX5_job_118 : decode cX5_job 118 = .ok (.getfield 221, 3) := by decide +kernel
theorem dX5_job_121 : decode cX5_job 121 = .ok (.iload_n 1, 1) := by decide +kernel
theorem dX5_job_122 : decode cX5_job 122 = .ok (.iaload, 1) := by decide +kernel
theorem dX5_job_123 : decode cX5_job 123 = .ok (.ireturn, 1) := by decide +kernel
theorem dX5_job_124 : decode cX5_job 124 = .ok (.aload_n 0, 1) := by decide +kernel
theorem dX5_job_125 : decode cX5_job 125 = .ok (.getfield 10, 3) := by decide +kernel
theorem dX5_job_128 : decode cX5_job 128 = .ok (.getfield 57, 3) := by decide +kernel
theorem dX5_job_131 : decode cX5_job 131 = .ok (.getfield 76, 3) := by decide +kernel
theorem dX5_job_134 : decode cX5_job 134 = .ok (.iload_n 1, 1) := by decide +kernel
theorem dX5_job_135 : decode cX5_job 135 = .ok (.iaload, 1) := by decide +kernel
theorem dX5_job_136 : decode cX5_job 136 = .ok (.ireturn, 1) := by decide +kernel
theorem dX5_job_137 : decode cX5_job 137 = .ok (.aload_n 0, 1) := by decide +kernel
theorem dX5_job_138 : decode cX5_job 138 = .ok (.getfield 10, 3) := by decide +kernel
theorem dX5_job_141 : decode cX5_job 141 = .ok (.getfield 57, 3) := by decide +kernel
theorem dX5_job_144 : decode cX5_job 144 = .ok (.getfield 86, 3) := by decide +kernel
theorem dX5_job_147 : decode cX5_job 147 = .ok (.iload_n 1, 1) := by decide +kernel
theorem dX5_job_148 : decode cX5_job 148 = .ok (.iaload, 1) := by decide +kernel
theorem dX5_job_149 : decode cX5_job 149 = .ok (.ireturn, 1) := by decide +kernel
theorem dX5_job_150 : decode cX5_job 150 = .ok (.aload_n 0, 1) := by decide +kernel
theorem dX5_job_151 : decode cX5_job 151 = .ok (.getfield 10, 3) := by decide +kernel
theorem dX5_job_154 : decode cX5_job 154 = .ok (.getfield 57, 3) := by decide +kernel
theorem dX5_job_157 : decode cX5_job 157 = .ok (.getfield 224, 3) := by decide +kernel
theorem dX5_job_160 : decode cX5_job 160 = .ok (.iload_n 1, 1) := by decide +kernel
theorem dX5_job_161 : decode cX5_job 161 = .ok (.iaload, 1) := by decide +kernel
theorem dX5_job_162 : decode cX5_job 162 = .ok (.ireturn, 1) := by decide +kernel
theorem dX5_job_163 : decode cX5_job 163 = .ok (.aload_n 0, 1) := by decide +kernel
theorem dX5_job_164 : decode cX5_job 164 = .ok (.getfield 10, 3) := by decide +kernel
theorem dX5_job_167 : decode cX5_job 167 = .ok (.getfield 57, 3) := by decide +kernel
theorem dX5_job_170 : decode cX5_job 170 = .ok (.getfield 227, 3) := by decide +kernel
theorem dX5_job_173 : decode cX5_job 173 = .ok (.iload_n 1, 1) := by decide +kernel
theorem dX5_job_174 : decode cX5_job 174 = .ok (.iaload, 1) := by decide +kernel
theorem dX5_job_175 : decode cX5_job 175 = .ok (.ireturn, 1) := by decide +kernel
theorem dX5_job_176 : decode cX5_job 176 = .ok (.new 37, 3) := by decide +kernel
theorem dX5_job_179 : decode cX5_job 179 = .ok (.dup, 1) := by decide +kernel
theorem dX5_job_180 : decode cX5_job 180 = .ok (.ldc 230, 2) := by decide +kernel
theorem dX5_job_182 : decode cX5_job 182 = .ok (.invokespecial 41, 3) := by decide +kernel
theorem dX5_job_185 : decode cX5_job 185 = .ok (.athrow, 1) := by decide +kernel
theorem dX5_isStuck_0 : decode cX5_isStuck 0 = .ok (.aload_n 0, 1) := by decide +kernel
theorem dX5_isStuck_1 : decode cX5_isStuck 1 = .ok (.getfield 10, 3) := by decide +kernel
theorem dX5_isStuck_4 : decode cX5_isStuck 4 = .ok (.getfield 57, 3) := by decide +kernel
theorem dX5_isStuck_7 : decode cX5_isStuck 7 = .ok (.iload_n 1, 1) := by decide +kernel
theorem dX5_isStuck_8 : decode cX5_isStuck 8 = .ok (.invokevirtual 67, 3) := by decide +kernel
theorem dX5_isStuck_11 : decode cX5_isStuck 11 = .ok (.ifCond .ne 13, 3) := by decide +kernel
theorem dX5_isStuck_14 : decode cX5_isStuck 14 = .ok (.new 71, 3) := by decide +kernel
theorem dX5_isStuck_17 : decode cX5_isStuck 17 = .ok (.dup, 1) := by decide +kernel
theorem dX5_isStuck_18 : decode cX5_isStuck 18 = .ok (.ldc 73, 2) := by decide +kernel
theorem dX5_isStuck_20 : decode cX5_isStuck 20 = .ok (.invokespecial 75, 3) := by decide +kernel
theorem dX5_isStuck_23 : decode cX5_isStuck 23 = .ok (.athrow, 1) := by decide +kernel
theorem dX5_isStuck_24 : decode cX5_isStuck 24 = .ok (.aload_n 0, 1) := by decide +kernel
theorem dX5_isStuck_25 : decode cX5_isStuck 25 = .ok (.getfield 10, 3) := by decide +kernel
theorem dX5_isStuck_28 : decode cX5_isStuck 28 = .ok (.getfield 57, 3) := by decide +kernel
theorem dX5_isStuck_31 : decode cX5_isStuck 31 = .ok (.getfield 76, 3) := by decide +kernel
theorem dX5_isStuck_34 : decode cX5_isStuck 34 = .ok (.iload_n 1, 1) := by decide +kernel
theorem dX5_isStuck_35 : decode cX5_isStuck 35 = .ok (.iaload, 1) := by decide +kernel
theorem dX5_isStuck_36 : decode cX5_isStuck 36 = .ok (.ifCond .ne 18, 3) := by decide +kernel
theorem dX5_isStuck_39 : decode cX5_isStuck 39 = .ok (.aload_n 0, 1) := by decide +kernel
theorem dX5_isStuck_40 : decode cX5_isStuck 40 = .ok (.getfield 10, 3) := by decide +kernel
theorem dX5_isStuck_43 : decode cX5_isStuck 43 = .ok (.iload_n 1, 1) := by decide +kernel
theorem dX5_isStuck_44 : decode cX5_isStuck 44 = .ok (.invokevirtual 232, 3) := by decide +kernel
theorem dX5_isStuck_47 : decode cX5_isStuck 47 = .ok (.ifCond .eq 7, 3) := by decide +kernel
theorem dX5_isStuck_50 : decode cX5_isStuck 50 = .ok (.iconst 1, 1) := by decide +kernel
theorem dX5_isStuck_51 : decode cX5_isStuck 51 = .ok (.goto 4, 3) := by decide +kernel
theorem dX5_isStuck_54 : decode cX5_isStuck 54 = .ok (.iconst 0, 1) := by decide +kernel
theorem dX5_isStuck_55 : decode cX5_isStuck 55 = .ok (.ireturn, 1) := by decide +kernel
theorem dX5_verdict_0 : decode cX5_verdict 0 = .ok (.aload_n 0, 1) := by decide +kernel
theorem dX5_verdict_1 : decode cX5_verdict 1 = .ok (.getfield 10, 3) := by decide +kernel
theorem dX5_verdict_4 : decode cX5_verdict 4 = .ok (.getfield 57, 3) := by decide +kernel
theorem dX5_verdict_7 : decode cX5_verdict 7 = .ok (.iload_n 1, 1) := by decide +kernel
theorem dX5_verdict_8 : decode cX5_verdict 8 = .ok (.invokevirtual 67, 3) := by decide +kernel
theorem dX5_verdict_11 : decode cX5_verdict 11 = .ok (.ifCond .eq 10, 3) := by decide +kernel
theorem dX5_verdict_14 : decode cX5_verdict 14 = .ok (.iload_n 2, 1) := by decide +kernel
theorem dX5_verdict_15 : decode cX5_verdict 15 = .ok (.invokestatic 89, 3) := by decide +kernel
theorem dX5_verdict_18 : decode cX5_verdict 18 = .ok (.ifCond .ne 13, 3) := by decide +kernel
theorem dX5_verdict_21 : decode cX5_verdict 21 = .ok (.new 71, 3) := by decide +kernel
theorem dX5_verdict_24 : decode cX5_verdict 24 = .ok (.dup, 1) := by decide +kernel
theorem dX5_verdict_25 : decode cX5_verdict 25 = .ok (.ldc 235, 2) := by decide +kernel
theorem dX5_verdict_27 : decode cX5_verdict 27 = .ok (.invokespecial 75, 3) := by decide +kernel
theorem dX5_verdict_30 : decode cX5_verdict 30 = .ok (.athrow, 1) := by decide +kernel
theorem dX5_verdict_31 : decode cX5_verdict 31 = .ok (.aload_n 0, 1) := by decide +kernel
theorem dX5_verdict_32 : decode cX5_verdict 32 = .ok (.getfield 10, 3) := by decide +kernel
theorem dX5_verdict_35 : decode cX5_verdict 35 = .ok (.iload_n 1, 1) := by decide +kernel
theorem dX5_verdict_36 : decode cX5_verdict 36 = .ok (.iload_n 2, 1) := by decide +kernel
theorem dX5_verdict_37 : decode cX5_verdict 37 = .ok (.invokevirtual 237, 3) := by decide +kernel
theorem dX5_verdict_40 : decode cX5_verdict 40 = .ok (.ireturn, 1) := by decide +kernel
theorem dX5_nextJob_0 : decode cX5_nextJob 0 = .ok (.aload_n 0, 1) := by decide +kernel
theorem dX5_nextJob_1 : decode cX5_nextJob 1 = .ok (.getfield 10, 3) := by decide +kernel
theorem dX5_nextJob_4 : decode cX5_nextJob 4 = .ok (.invokevirtual 241, 3) := by decide +kernel
theorem dX5_nextJob_7 : decode cX5_nextJob 7 = .ok (.ireturn, 1) := by decide +kernel
theorem dX5_nextReel_0 : decode cX5_nextReel 0 = .ok (.aload_n 0, 1) := by decide +kernel
theorem dX5_nextReel_1 : decode cX5_nextReel 1 = .ok (.getfield 10, 3) := by decide +kernel
theorem dX5_nextReel_4 : decode cX5_nextReel 4 = .ok (.invokevirtual 241, 3) := by decide +kernel
theorem dX5_nextReel_7 : decode cX5_nextReel 7 = .ok (.istore_n 1, 1) := by decide +kernel
theorem dX5_nextReel_8 : decode cX5_nextReel 8 = .ok (.iload_n 1, 1) := by decide +kernel
theorem dX5_nextReel_9 : decode cX5_nextReel 9 = .ok (.iconst (-1), 1) := by decide +kernel
theorem dX5_nextReel_10 : decode cX5_nextReel 10 = .ok (.if_icmp .ne 7, 3) := by decide +kernel
theorem dX5_nextReel_13 : decode cX5_nextReel 13 = .ok (.iconst (-1), 1) := by decide +kernel
theorem dX5_nextReel_14 : decode cX5_nextReel 14 = .ok (.goto 27, 3) := by decide +kernel
theorem dX5_nextReel_17 : decode cX5_nextReel 17 = .ok (.aload_n 0, 1) := by decide +kernel
theorem dX5_nextReel_18 : decode cX5_nextReel 18 = .ok (.getfield 10, 3) := by decide +kernel
theorem dX5_nextReel_21 : decode cX5_nextReel 21 = .ok (.iload_n 1, 1) := by decide +kernel
theorem dX5_nextReel_22 : decode cX5_nextReel 22 = .ok (.aload_n 0, 1) := by decide +kernel
theorem dX5_nextReel_23 : decode cX5_nextReel 23 = .ok (.getfield 10, 3) := by decide +kernel
theorem dX5_nextReel_26 : decode cX5_nextReel 26 = .ok (.aload_n 0, 1) := by decide +kernel
theorem dX5_nextReel_27 : decode cX5_nextReel 27 = .ok (.getfield 10, 3) := by decide +kernel
theorem dX5_nextReel_30 : decode cX5_nextReel 30 = .ok (.getfield 244, 3) := by decide +kernel
theorem dX5_nextReel_33 : decode cX5_nextReel 33 = .ok (.iconst 1, 1) := by decide +kernel
theorem dX5_nextReel_34 : decode cX5_nextReel 34 = .ok (.iadd, 1) := by decide +kernel
theorem dX5_nextReel_35 : decode cX5_nextReel 35 = .ok (.invokevirtual 247, 3) := by decide +kernel
theorem dX5_nextReel_38 : decode cX5_nextReel 38 = .ok (.invokevirtual 250, 3) := by decide +kernel
theorem dX5_nextReel_41 : decode cX5_nextReel 41 = .ok (.ireturn, 1) := by decide +kernel
theorem dX5_minutesToDone_0 : decode cX5_minutesToDone 0 = .ok (.aload_n 0, 1) := by decide +kernel
theorem dX5_minutesToDone_1 : decode cX5_minutesToDone 1 = .ok (.getfield 10, 3) := by decide +kernel
theorem dX5_minutesToDone_4 : decode cX5_minutesToDone 4 = .ok (.getfield 57, 3) := by decide +kernel
theorem dX5_minutesToDone_7 : decode cX5_minutesToDone 7 = .ok (.iload_n 1, 1) := by decide +kernel
theorem dX5_minutesToDone_8 : decode cX5_minutesToDone 8 = .ok (.invokevirtual 67, 3) := by decide +kernel
theorem dX5_minutesToDone_11 : decode cX5_minutesToDone 11 = .ok (.ifCond .ne 13, 3) := by decide +kernel
theorem dX5_minutesToDone_14 : decode cX5_minutesToDone 14 = .ok (.new 71, 3) := by decide +kernel
theorem dX5_minutesToDone_17 : decode cX5_minutesToDone 17 = .ok (.dup, 1) := by decide +kernel
theorem dX5_minutesToDone_18 : decode cX5_minutesToDone 18 = .ok (.ldc 73, 2) := by decide +kernel
theorem dX5_minutesToDone_20 : decode cX5_minutesToDone 20 = .ok (.invokespecial 75, 3) := by decide +kernel
theorem dX5_minutesToDone_23 : decode cX5_minutesToDone 23 = .ok (.athrow, 1) := by decide +kernel
theorem dX5_minutesToDone_24 : decode cX5_minutesToDone 24 = .ok (.aload_n 0, 1) := by decide +kernel
theorem dX5_minutesToDone_25 : decode cX5_minutesToDone 25 = .ok (.getfield 10, 3) := by decide +kernel
theorem dX5_minutesToDone_28 : decode cX5_minutesToDone 28 = .ok (.getfield 57, 3) := by decide +kernel
theorem dX5_minutesToDone_31 : decode cX5_minutesToDone 31 = .ok (.getfield 76, 3) := by decide +kernel
theorem dX5_minutesToDone_34 : decode cX5_minutesToDone 34 = .ok (.iload_n 1, 1) := by decide +kernel
theorem dX5_minutesToDone_35 : decode cX5_minutesToDone 35 = .ok (.iaload, 1) := by decide +kernel
theorem dX5_minutesToDone_36 : decode cX5_minutesToDone 36 = .ok (.iconst 2, 1) := by decide +kernel
theorem dX5_minutesToDone_37 : decode cX5_minutesToDone 37 = .ok (.if_icmp .ne 5, 3) := by decide +kernel
theorem dX5_minutesToDone_40 : decode cX5_minutesToDone 40 = .ok (.iconst 0, 1) := by decide +kernel
theorem dX5_minutesToDone_41 : decode cX5_minutesToDone 41 = .ok (.ireturn, 1) := by decide +kernel
theorem dX5_minutesToDone_42 : decode cX5_minutesToDone 42 = .ok (.aload_n 0, 1) := by decide +kernel
theorem dX5_minutesToDone_43 : decode cX5_minutesToDone 43 = .ok (.getfield 10, 3) := by decide +kernel
theorem dX5_minutesToDone_46 : decode cX5_minutesToDone 46 = .ok (.getfield 57, 3) := by decide +kernel
theorem dX5_minutesToDone_49 : decode cX5_minutesToDone 49 = .ok (.getfield 76, 3) := by decide +kernel
theorem dX5_minutesToDone_52 : decode cX5_minutesToDone 52 = .ok (.iload_n 1, 1) := by decide +kernel
theorem dX5_minutesToDone_53 : decode cX5_minutesToDone 53 = .ok (.iaload, 1) := by decide +kernel
theorem dX5_minutesToDone_54 : decode cX5_minutesToDone 54 = .ok (.iconst 3, 1) := by decide +kernel
theorem dX5_minutesToDone_55 : decode cX5_minutesToDone 55 = .ok (.if_icmp .ne 5, 3) := by decide +kernel
theorem dX5_minutesToDone_58 : decode cX5_minutesToDone 58 = .ok (.iconst (-1), 1) := by decide +kernel
theorem dX5_minutesToDone_59 : decode cX5_minutesToDone 59 = .ok (.ireturn, 1) := by decide +kernel
theorem dX5_minutesToDone_60 : decode cX5_minutesToDone 60 = .ok (.aload_n 0, 1) := by decide +kernel
theorem dX5_minutesToDone_61 : decode cX5_minutesToDone 61 = .ok (.getfield 16, 3) := by decide +kernel
theorem dX5_minutesToDone_64 : decode cX5_minutesToDone 64 = .ok (.aload_n 0, 1) := by decide +kernel
theorem dX5_minutesToDone_65 : decode cX5_minutesToDone 65 = .ok (.getfield 10, 3) := by decide +kernel
theorem dX5_minutesToDone_68 : decode cX5_minutesToDone 68 = .ok (.invokevirtual 254, 3) := by decide +kernel
theorem dX5_minutesToDone_71 : decode cX5_minutesToDone 71 = .ok (.iconst 1, 1) := by decide +kernel
theorem dX5_minutesToDone_72 : decode cX5_minutesToDone 72 = .ok (.istore_n 2, 1) := by decide +kernel
theorem dX5_minutesToDone_73 : decode cX5_minutesToDone 73 = .ok (.iload_n 2, 1) := by decide +kernel
theorem dX5_minutesToDone_74 : decode cX5_minutesToDone 74 = .ok (.sipush 300, 3) := by decide +kernel
theorem dX5_minutesToDone_77 : decode cX5_minutesToDone 77 = .ok (.if_icmp .gt 35, 3) := by decide +kernel
theorem dX5_minutesToDone_80 : decode cX5_minutesToDone 80 = .ok (.aload_n 0, 1) := by decide +kernel
theorem dX5_minutesToDone_81 : decode cX5_minutesToDone 81 = .ok (.getfield 16, 3) := by decide +kernel
theorem dX5_minutesToDone_84 : decode cX5_minutesToDone 84 = .ok (.invokevirtual 257, 3) := by decide +kernel
theorem dX5_minutesToDone_87 : decode cX5_minutesToDone 87 = .ok (.pop, 1) := by decide +kernel
theorem dX5_minutesToDone_88 : decode cX5_minutesToDone 88 = .ok (.aload_n 0, 1) := by decide +kernel
theorem dX5_minutesToDone_89 : decode cX5_minutesToDone 89 = .ok (.getfield 16, 3) := by decide +kernel
theorem dX5_minutesToDone_92 : decode cX5_minutesToDone 92 = .ok (.getfield 57, 3) := by decide +kernel
theorem dX5_minutesToDone_95 : decode cX5_minutesToDone 95 = .ok (.getfield 76, 3) := by decide +kernel
theorem dX5_minutesToDone_98 : decode cX5_minutesToDone 98 = .ok (.iload_n 1, 1) := by decide +kernel
theorem dX5_minutesToDone_99 : decode cX5_minutesToDone 99 = .ok (.iaload, 1) := by decide +kernel
theorem dX5_minutesToDone_100 : decode cX5_minutesToDone 100 = .ok (.iconst 2, 1) := by decide +kernel
theorem dX5_minutesToDone_101 : decode cX5_minutesToDone 101 = .ok (.if_icmp .ne 5, 3) := by decide +kernel
theorem dX5_minutesToDone_104 : decode cX5_minutesToDone 104 = .ok (.iload_n 2, 1) := by decide +kernel
theorem dX5_minutesToDone_105 : decode cX5_minutesToDone 105 = .ok (.ireturn, 1) := by decide +kernel
theorem dX5_minutesToDone_106 : decode cX5_minutesToDone 106 = .ok (.iinc 2 1, 3) := by decide +kernel
theorem dX5_minutesToDone_109 : decode cX5_minutesToDone 109 = .ok (.goto (-36), 3) := by decide +kernel
theorem dX5_minutesToDone_112 : decode cX5_minutesToDone 112 = .ok (.iconst (-1), 1) := by decide +kernel
theorem dX5_minutesToDone_113 : decode cX5_minutesToDone 113 = .ok (.ireturn, 1) := by decide +kernel
theorem dX5_count_0 : decode cX5_count 0 = .ok (.iload_n 1, 1) := by decide +kernel
theorem dX5_count_1 : decode cX5_count 1 = .ok (.tableswitch 159 0 10 #[59, 67, 75, 83, 91, 99, 107, 115, 123, 135, 147], 59) := by decide +kernel
theorem dX5_count_60 : decode cX5_count 60 = .ok (.aload_n 0, 1) := by decide +kernel
theorem dX5_count_61 : decode cX5_count 61 = .ok (.getfield 10, 3) := by decide +kernel
theorem dX5_count_64 : decode cX5_count 64 = .ok (.getfield 126, 3) := by decide +kernel
theorem dX5_count_67 : decode cX5_count 67 = .ok (.ireturn, 1) := by decide +kernel
theorem dX5_count_68 : decode cX5_count 68 = .ok (.aload_n 0, 1) := by decide +kernel
theorem dX5_count_69 : decode cX5_count 69 = .ok (.getfield 10, 3) := by decide +kernel
theorem dX5_count_72 : decode cX5_count 72 = .ok (.getfield 260, 3) := by decide +kernel
theorem dX5_count_75 : decode cX5_count 75 = .ok (.ireturn, 1) := by decide +kernel
theorem dX5_count_76 : decode cX5_count 76 = .ok (.aload_n 0, 1) := by decide +kernel
theorem dX5_count_77 : decode cX5_count 77 = .ok (.getfield 10, 3) := by decide +kernel
theorem dX5_count_80 : decode cX5_count 80 = .ok (.getfield 244, 3) := by decide +kernel
theorem dX5_count_83 : decode cX5_count 83 = .ok (.ireturn, 1) := by decide +kernel
theorem dX5_count_84 : decode cX5_count 84 = .ok (.aload_n 0, 1) := by decide +kernel
theorem dX5_count_85 : decode cX5_count 85 = .ok (.getfield 10, 3) := by decide +kernel
theorem dX5_count_88 : decode cX5_count 88 = .ok (.getfield 261, 3) := by decide +kernel
theorem dX5_count_91 : decode cX5_count 91 = .ok (.ireturn, 1) := by decide +kernel
theorem dX5_count_92 : decode cX5_count 92 = .ok (.aload_n 0, 1) := by decide +kernel
theorem dX5_count_93 : decode cX5_count 93 = .ok (.getfield 10, 3) := by decide +kernel
theorem dX5_count_96 : decode cX5_count 96 = .ok (.getfield 264, 3) := by decide +kernel
theorem dX5_count_99 : decode cX5_count 99 = .ok (.ireturn, 1) := by decide +kernel
theorem dX5_count_100 : decode cX5_count 100 = .ok (.aload_n 0, 1) := by decide +kernel
theorem dX5_count_101 : decode cX5_count 101 = .ok (.getfield 10, 3) := by decide +kernel
theorem dX5_count_104 : decode cX5_count 104 = .ok (.getfield 266, 3) := by decide +kernel
theorem dX5_count_107 : decode cX5_count 107 = .ok (.ireturn, 1) := by decide +kernel
theorem dX5_count_108 : decode cX5_count 108 = .ok (.aload_n 0, 1) := by decide +kernel
theorem dX5_count_109 : decode cX5_count 109 = .ok (.getfield 10, 3) := by decide +kernel
theorem dX5_count_112 : decode cX5_count 112 = .ok (.getfield 269, 3) := by decide +kernel
theorem dX5_count_115 : decode cX5_count 115 = .ok (.ireturn, 1) := by decide +kernel
theorem dX5_count_116 : decode cX5_count 116 = .ok (.aload_n 0, 1) := by decide +kernel
theorem dX5_count_117 : decode cX5_count 117 = .ok (.getfield 10, 3) := by decide +kernel
theorem dX5_count_120 : decode cX5_count 120 = .ok (.getfield 272, 3) := by decide +kernel
theorem dX5_count_123 : decode cX5_count 123 = .ok (.ireturn, 1) := by decide +kernel
theorem dX5_count_124 : decode cX5_count 124 = .ok (.aload_n 0, 1) := by decide +kernel
theorem dX5_count_125 : decode cX5_count 125 = .ok (.getfield 10, 3) := by decide +kernel
theorem dX5_count_128 : decode cX5_count 128 = .ok (.getfield 57, 3) := by decide +kernel
theorem dX5_count_131 : decode cX5_count 131 = .ok (.iconst 0, 1) := by decide +kernel
theorem dX5_count_132 : decode cX5_count 132 = .ok (.invokevirtual 275, 3) := by decide +kernel
theorem dX5_count_135 : decode cX5_count 135 = .ok (.ireturn, 1) := by decide +kernel
theorem dX5_count_136 : decode cX5_count 136 = .ok (.aload_n 0, 1) := by decide +kernel
theorem dX5_count_137 : decode cX5_count 137 = .ok (.getfield 10, 3) := by decide +kernel
theorem dX5_count_140 : decode cX5_count 140 = .ok (.getfield 57, 3) := by decide +kernel
theorem dX5_count_143 : decode cX5_count 143 = .ok (.iconst 1, 1) := by decide +kernel
theorem dX5_count_144 : decode cX5_count 144 = .ok (.invokevirtual 275, 3) := by decide +kernel
theorem dX5_count_147 : decode cX5_count 147 = .ok (.ireturn, 1) := by decide +kernel
theorem dX5_count_148 : decode cX5_count 148 = .ok (.aload_n 0, 1) := by decide +kernel
theorem dX5_count_149 : decode cX5_count 149 = .ok (.getfield 10, 3) := by decide +kernel
theorem dX5_count_152 : decode cX5_count 152 = .ok (.getfield 57, 3) := by decide +kernel
theorem dX5_count_155 : decode cX5_count 155 = .ok (.iconst 2, 1) := by decide +kernel
theorem dX5_count_156 : decode cX5_count 156 = .ok (.invokevirtual 275, 3) := by decide +kernel
theorem dX5_count_159 : decode cX5_count 159 = .ok (.ireturn, 1) := by decide +kernel
theorem dX5_count_160 : decode cX5_count 160 = .ok (.new 37, 3) := by decide +kernel
theorem dX5_count_163 : decode cX5_count 163 = .ok (.dup, 1) := by decide +kernel
theorem dX5_count_164 : decode cX5_count 164 = .ok (.ldc_w 278, 3) := by decide +kernel
theorem dX5_count_167 : decode cX5_count 167 = .ok (.invokespecial 41, 3) := by decide +kernel
theorem dX5_count_170 : decode cX5_count 170 = .ok (.athrow, 1) := by decide +kernel
theorem dX5_success_0 : decode cX5_success 0 = .ok (.aload_n 0, 1) := by decide +kernel
theorem dX5_success_1 : decode cX5_success 1 = .ok (.getfield 10, 3) := by decide +kernel
theorem dX5_success_4 : decode cX5_success 4 = .ok (.getfield 244, 3) := by decide +kernel
theorem dX5_success_7 : decode cX5_success 7 = .ok (.ifCond .ne 5, 3) := by decide +kernel
theorem dX5_success_10 : decode cX5_success 10 = .ok (.dconst 1, 1) := by decide +kernel
theorem dX5_success_11 : decode cX5_success 11 = .ok (.dreturn, 1) := by decide +kernel
theorem dX5_success_12 : decode cX5_success 12 = .ok (.aload_n 0, 1) := by decide +kernel
theorem dX5_success_13 : decode cX5_success 13 = .ok (.getfield 10, 3) := by decide +kernel
theorem dX5_success_16 : decode cX5_success 16 = .ok (.getfield 244, 3) := by decide +kernel
theorem dX5_success_19 : decode cX5_success 19 = .ok (.aload_n 0, 1) := by decide +kernel
theorem dX5_success_20 : decode cX5_success 20 = .ok (.getfield 10, 3) := by decide +kernel
theorem dX5_success_23 : decode cX5_success 23 = .ok (.getfield 264, 3) := by decide +kernel
theorem dX5_success_26 : decode cX5_success 26 = .ok (.isub, 1) := by decide +kernel
theorem dX5_success_27 : decode cX5_success 27 = .ok (.i2d, 1) := by decide +kernel
theorem dX5_success_28 : decode cX5_success 28 = .ok (.aload_n 0, 1) := by decide +kernel
theorem dX5_success_29 : decode cX5_success 29 = .ok (.getfield 10, 3) := by decide +kernel
theorem dX5_success_32 : decode cX5_success 32 = .ok (.getfield 244, 3) := by decide +kernel
theorem dX5_success_35 : decode cX5_success 35 = .ok (.i2d, 1) := by decide +kernel
theorem dX5_success_36 : decode cX5_success 36 = .ok (.ddiv, 1) := by decide +kernel
theorem dX5_success_37 : decode cX5_success 37 = .ok (.dreturn, 1) := by decide +kernel
theorem dX5_isWithin_0 : decode cX5_isWithin 0 = .ok (.iload_n 0, 1) := by decide +kernel
theorem dX5_isWithin_1 : decode cX5_isWithin 1 = .ok (.iload_n 1, 1) := by decide +kernel
theorem dX5_isWithin_2 : decode cX5_isWithin 2 = .ok (.if_icmp .lt 12, 3) := by decide +kernel
theorem dX5_isWithin_5 : decode cX5_isWithin 5 = .ok (.iload_n 0, 1) := by decide +kernel
theorem dX5_isWithin_6 : decode cX5_isWithin 6 = .ok (.iload_n 2, 1) := by decide +kernel
theorem dX5_isWithin_7 : decode cX5_isWithin 7 = .ok (.if_icmp .gt 7, 3) := by decide +kernel
theorem dX5_isWithin_10 : decode cX5_isWithin 10 = .ok (.iconst 1, 1) := by decide +kernel
theorem dX5_isWithin_11 : decode cX5_isWithin 11 = .ok (.goto 4, 3) := by decide +kernel
theorem dX5_isWithin_14 : decode cX5_isWithin 14 = .ok (.iconst 0, 1) := by decide +kernel
theorem dX5_isWithin_15 : decode cX5_isWithin 15 = .ok (.ireturn, 1) := by decide +kernel
theorem dX5_isReel_0 : decode cX5_isReel 0 = .ok (.iload_n 0, 1) := by decide +kernel
theorem dX5_isReel_1 : decode cX5_isReel 1 = .ok (.iconst 0, 1) := by decide +kernel
theorem dX5_isReel_2 : decode cX5_isReel 2 = .ok (.bipush 11, 2) := by decide +kernel
theorem dX5_isReel_4 : decode cX5_isReel 4 = .ok (.invokestatic 33, 3) := by decide +kernel
theorem dX5_isReel_7 : decode cX5_isReel 7 = .ok (.ireturn, 1) := by decide +kernel
theorem dJ9_floorMod_7cf53_0 : decode cJ9_floorMod_7cf53 0 = .ok (.iload_n 0, 1) := by decide +kernel
theorem dJ9_floorMod_7cf53_1 : decode cJ9_floorMod_7cf53 1 = .ok (.iload_n 1, 1) := by decide +kernel
theorem dJ9_floorMod_7cf53_2 : decode cJ9_floorMod_7cf53 2 = .ok (.irem, 1) := by decide +kernel
theorem dJ9_floorMod_7cf53_3 : decode cJ9_floorMod_7cf53 3 = .ok (.istore_n 2, 1) := by decide +kernel
theorem dJ9_floorMod_7cf53_4 : decode cJ9_floorMod_7cf53 4 = .ok (.iload_n 0, 1) := by decide +kernel
theorem dJ9_floorMod_7cf53_5 : decode cJ9_floorMod_7cf53 5 = .ok (.iload_n 1, 1) := by decide +kernel
theorem dJ9_floorMod_7cf53_6 : decode cJ9_floorMod_7cf53 6 = .ok (.ixor, 1) := by decide +kernel
theorem dJ9_floorMod_7cf53_7 : decode cJ9_floorMod_7cf53 7 = .ok (.ifCond .ge 11, 3) := by decide +kernel
theorem dJ9_floorMod_7cf53_10 : decode cJ9_floorMod_7cf53 10 = .ok (.iload_n 2, 1) := by decide +kernel
theorem dJ9_floorMod_7cf53_11 : decode cJ9_floorMod_7cf53 11 = .ok (.ifCond .eq 7, 3) := by decide +kernel
theorem dJ9_floorMod_7cf53_14 : decode cJ9_floorMod_7cf53 14 = .ok (.iload_n 2, 1) := by decide +kernel
theorem dJ9_floorMod_7cf53_15 : decode cJ9_floorMod_7cf53 15 = .ok (.iload_n 1, 1) := by decide +kernel
theorem dJ9_floorMod_7cf53_16 : decode cJ9_floorMod_7cf53 16 = .ok (.iadd, 1) := by decide +kernel
theorem dJ9_floorMod_7cf53_17 : decode cJ9_floorMod_7cf53 17 = .ok (.ireturn, 1) := by decide +kernel
theorem dJ9_floorMod_7cf53_18 : decode cJ9_floorMod_7cf53 18 = .ok (.iload_n 2, 1) := by decide +kernel
theorem dJ9_floorMod_7cf53_19 : decode cJ9_floorMod_7cf53 19 = .ok (.ireturn, 1) := by decide +kernel
theorem dL_cell_0 : decode cL_cell 0 = .ok (.iload_n 1, 1) := by decide +kernel
theorem dL_cell_1 : decode cL_cell 1 = .ok (.aload_n 0, 1) := by decide +kernel
theorem dL_cell_2 : decode cL_cell 2 = .ok (.arraylength, 1) := by decide +kernel
theorem dL_cell_3 : decode cL_cell 3 = .ok (.if_icmp .ge 9, 3) := by decide +kernel
theorem dL_cell_6 : decode cL_cell 6 = .ok (.aload_n 0, 1) := by decide +kernel
theorem dL_cell_7 : decode cL_cell 7 = .ok (.iload_n 1, 1) := by decide +kernel
theorem dL_cell_8 : decode cL_cell 8 = .ok (.iaload, 1) := by decide +kernel
theorem dL_cell_9 : decode cL_cell 9 = .ok (.goto 9, 3) := by decide +kernel
theorem dL_cell_12 : decode cL_cell 12 = .ok (.ldc 7, 2) := by decide +kernel
theorem dL_cell_14 : decode cL_cell 14 = .ok (.iload_n 1, 1) := by decide +kernel
theorem dL_cell_15 : decode cL_cell 15 = .ok (.iconst 1, 1) := by decide +kernel
theorem dL_cell_16 : decode cL_cell 16 = .ok (.iadd, 1) := by decide +kernel
theorem dL_cell_17 : decode cL_cell 17 = .ok (.imul, 1) := by decide +kernel
theorem dL_cell_18 : decode cL_cell 18 = .ok (.ireturn, 1) := by decide +kernel
theorem dL_low_0 : decode cL_low 0 = .ok (.iload_n 0, 1) := by decide +kernel
theorem dL_low_1 : decode cL_low 1 = .ok (.ldc 8, 2) := by decide +kernel
theorem dL_low_3 : decode cL_low 3 = .ok (.iand, 1) := by decide +kernel
theorem dL_low_4 : decode cL_low 4 = .ok (.iload_n 1, 1) := by decide +kernel
theorem dL_low_5 : decode cL_low 5 = .ok (.irem, 1) := by decide +kernel
theorem dL_low_6 : decode cL_low 6 = .ok (.ireturn, 1) := by decide +kernel
theorem dL_scratch_0 : decode cL_scratch 0 = .ok (.aload_n 0, 1) := by decide +kernel
theorem dL_scratch_1 : decode cL_scratch 1 = .ok (.iconst 3, 1) := by decide +kernel
theorem dL_scratch_2 : decode cL_scratch 2 = .ok (.iload_n 3, 1) := by decide +kernel
theorem dL_scratch_3 : decode cL_scratch 3 = .ok (.imul, 1) := by decide +kernel
theorem dL_scratch_4 : decode cL_scratch 4 = .ok (.iaload, 1) := by decide +kernel
theorem dL_scratch_5 : decode cL_scratch 5 = .ok (.ifCond .eq 14, 3) := by decide +kernel
theorem dL_scratch_8 : decode cL_scratch 8 = .ok (.aload_n 2, 1) := by decide +kernel
theorem dL_scratch_9 : decode cL_scratch 9 = .ok (.iconst 0, 1) := by decide +kernel
theorem dL_scratch_10 : decode cL_scratch 10 = .ok (.iaload, 1) := by decide +kernel
theorem dL_scratch_11 : decode cL_scratch 11 = .ok (.aload_n 1, 1) := by decide +kernel
theorem dL_scratch_12 : decode cL_scratch 12 = .ok (.iconst 3, 1) := by decide +kernel
theorem dL_scratch_13 : decode cL_scratch 13 = .ok (.iload_n 3, 1) := by decide +kernel
theorem dL_scratch_14 : decode cL_scratch 14 = .ok (.imul, 1) := by decide +kernel
theorem dL_scratch_15 : decode cL_scratch 15 = .ok (.iaload, 1) := by decide +kernel
theorem dL_scratch_16 : decode cL_scratch 16 = .ok (.if_icmp .le 7, 3) := by decide +kernel
theorem dL_scratch_19 : decode cL_scratch 19 = .ok (.iconst 1, 1) := by decide +kernel
theorem dL_scratch_20 : decode cL_scratch 20 = .ok (.goto 4, 3) := by decide +kernel
theorem dL_scratch_23 : decode cL_scratch 23 = .ok (.iconst 0, 1) := by decide +kernel
theorem dL_scratch_24 : decode cL_scratch 24 = .ok (.ireturn, 1) := by decide +kernel
theorem dL_looks_0 : decode cL_looks 0 = .ok (.iconst 0, 1) := by decide +kernel
theorem dL_looks_1 : decode cL_looks 1 = .ok (.istore 4, 2) := by decide +kernel
theorem dL_looks_3 : decode cL_looks 3 = .ok (.iload 4, 2) := by decide +kernel
theorem dL_looks_5 : decode cL_looks 5 = .ok (.bipush 12, 2) := by decide +kernel
theorem dL_looks_7 : decode cL_looks 7 = .ok (.if_icmp .ge 54, 3) := by decide +kernel
theorem dL_looks_10 : decode cL_looks 10 = .ok (.aload_n 1, 1) := by decide +kernel
theorem dL_looks_11 : decode cL_looks 11 = .ok (.iconst 3, 1) := by decide +kernel
theorem dL_looks_12 : decode cL_looks 12 = .ok (.iload 4, 2) := by decide +kernel
theorem dL_looks_14 : decode cL_looks 14 = .ok (.imul, 1) := by decide +kernel
theorem dL_looks_15 : decode cL_looks 15 = .ok (.iconst 2, 1) := by decide +kernel
theorem dL_looks_16 : decode cL_looks 16 = .ok (.iadd, 1) := by decide +kernel
theorem dL_looks_17 : decode cL_looks 17 = .ok (.iaload, 1) := by decide +kernel
theorem dL_looks_18 : decode cL_looks 18 = .ok (.ifCond .ge 37, 3) := by decide +kernel
theorem dL_looks_21 : decode cL_looks 21 = .ok (.aload_n 0, 1) := by decide +kernel
theorem dL_looks_22 : decode cL_looks 22 = .ok (.iconst 3, 1) := by decide +kernel
theorem dL_looks_23 : decode cL_looks 23 = .ok (.iload 4, 2) := by decide +kernel
theorem dL_looks_25 : decode cL_looks 25 = .ok (.imul, 1) := by decide +kernel
theorem dL_looks_26 : decode cL_looks 26 = .ok (.iconst 1, 1) := by decide +kernel
theorem dL_looks_27 : decode cL_looks 27 = .ok (.iadd, 1) := by decide +kernel
theorem dL_looks_28 : decode cL_looks 28 = .ok (.iaload, 1) := by decide +kernel
theorem dL_looks_29 : decode cL_looks 29 = .ok (.aload_n 2, 1) := by decide +kernel
theorem dL_looks_30 : decode cL_looks 30 = .ok (.iconst 4, 1) := by decide +kernel
theorem dL_looks_31 : decode cL_looks 31 = .ok (.iload_n 3, 1) := by decide +kernel
theorem dL_looks_32 : decode cL_looks 32 = .ok (.imul, 1) := by decide +kernel
theorem dL_looks_33 : decode cL_looks 33 = .ok (.iaload, 1) := by decide +kernel
theorem dL_looks_34 : decode cL_looks 34 = .ok (.iconst 2, 1) := by decide +kernel
theorem dL_looks_35 : decode cL_looks 35 = .ok (.if_icmp .ne 7, 3) := by decide +kernel
theorem dL_looks_38 : decode cL_looks 38 = .ok (.iconst 0, 1) := by decide +kernel
theorem dL_looks_39 : decode cL_looks 39 = .ok (.goto 10, 3) := by decide +kernel
theorem dL_looks_42 : decode cL_looks 42 = .ok (.aload_n 2, 1) := by decide +kernel
theorem dL_looks_43 : decode cL_looks 43 = .ok (.iconst 4, 1) := by decide +kernel
theorem dL_looks_44 : decode cL_looks 44 = .ok (.iload_n 3, 1) := by decide +kernel
theorem dL_looks_45 : decode cL_looks 45 = .ok (.imul, 1) := by decide +kernel
theorem dL_looks_46 : decode cL_looks 46 = .ok (.iconst 1, 1) := by decide +kernel
theorem dL_looks_47 : decode cL_looks 47 = .ok (.iadd, 1) := by decide +kernel
theorem dL_looks_48 : decode cL_looks 48 = .ok (.iaload, 1) := by decide +kernel
theorem dL_looks_49 : decode cL_looks 49 = .ok (.if_icmp .ne 6, 3) := by decide +kernel
theorem dL_looks_52 : decode cL_looks 52 = .ok (.iload 4, 2) := by decide +kernel
theorem dL_looks_54 : decode cL_looks 54 = .ok (.ireturn, 1) := by decide +kernel
theorem dL_looks_55 : decode cL_looks 55 = .ok (.iinc 4 1, 3) := by decide +kernel
theorem dL_looks_58 : decode cL_looks 58 = .ok (.goto (-55), 3) := by decide +kernel
theorem dL_looks_61 : decode cL_looks 61 = .ok (.iconst (-1), 1) := by decide +kernel
theorem dL_looks_62 : decode cL_looks 62 = .ok (.ireturn, 1) := by decide +kernel
theorem dL_next_0 : decode cL_next 0 = .ok (.bipush 9, 2) := by decide +kernel
theorem dL_next_2 : decode cL_next 2 = .ok (.istore 5, 2) := by decide +kernel
theorem dL_next_4 : decode cL_next 4 = .ok (.iload 5, 2) := by decide +kernel
theorem dL_next_6 : decode cL_next 6 = .ok (.ifCond .lt 64, 3) := by decide +kernel
theorem dL_next_9 : decode cL_next 9 = .ok (.iconst 0, 1) := by decide +kernel
theorem dL_next_10 : decode cL_next 10 = .ok (.istore 6, 2) := by decide +kernel
theorem dL_next_12 : decode cL_next 12 = .ok (.iload 6, 2) := by decide +kernel
theorem dL_next_14 : decode cL_next 14 = .ok (.aload 4, 2) := by decide +kernel
theorem dL_next_16 : decode cL_next 16 = .ok (.bipush 10, 2) := by decide +kernel
theorem dL_next_18 : decode cL_next 18 = .ok (.iaload, 1) := by decide +kernel
theorem dL_next_19 : decode cL_next 19 = .ok (.if_icmp .ge 45, 3) := by decide +kernel
theorem dL_next_22 : decode cL_next 22 = .ok (.aload_n 3, 1) := by decide +kernel
theorem dL_next_23 : decode cL_next 23 = .ok (.iconst 4, 1) := by decide +kernel
theorem dL_next_24 : decode cL_next 24 = .ok (.iload 6, 2) := by decide +kernel
theorem dL_next_26 : decode cL_next 26 = .ok (.imul, 1) := by decide +kernel
theorem dL_next_27 : decode cL_next 27 = .ok (.iaload, 1) := by decide +kernel
theorem dL_next_28 : decode cL_next 28 = .ok (.ifCond .ne 30, 3) := by decide +kernel
theorem dL_next_31 : decode cL_next 31 = .ok (.aload_n 2, 1) := by decide +kernel
theorem dL_next_32 : decode cL_next 32 = .ok (.iconst 4, 1) := by decide +kernel
theorem dL_next_33 : decode cL_next 33 = .ok (.iload 6, 2) := by decide +kernel
theorem dL_next_35 : decode cL_next 35 = .ok (.imul, 1) := by decide +kernel
theorem dL_next_36 : decode cL_next 36 = .ok (.iconst 3, 1) := by decide +kernel
theorem dL_next_37 : decode cL_next 37 = .ok (.iadd, 1) := by decide +kernel
theorem dL_next_38 : decode cL_next 38 = .ok (.iaload, 1) := by decide +kernel
theorem dL_next_39 : decode cL_next 39 = .ok (.iload 5, 2) := by decide +kernel
theorem dL_next_41 : decode cL_next 41 = .ok (.if_icmp .ne 17, 3) := by decide +kernel
theorem dL_next_44 : decode cL_next 44 = .ok (.aload_n 0, 1) := by decide +kernel
theorem dL_next_45 : decode cL_next 45 = .ok (.aload_n 1, 1) := by decide +kernel
theorem dL_next_46 : decode cL_next 46 = .ok (.aload_n 2, 1) := by decide +kernel
theorem dL_next_47 : decode cL_next 47 = .ok (.iload 6, 2) := by decide +kernel
theorem dL_next_49 : decode cL_next 49 = .ok (.invokestatic 11, 3) := by decide +kernel
theorem dL_next_52 : decode cL_next 52 = .ok (.ifCond .lt 6, 3) := by decide +kernel
theorem dL_next_55 : decode cL_next 55 = .ok (.iload 6, 2) := by decide +kernel
theorem dL_next_57 : decode cL_next 57 = .ok (.ireturn, 1) := by decide +kernel
theorem dL_next_58 : decode cL_next 58 = .ok (.iinc 6 1, 3) := by decide +kernel
theorem dL_next_61 : decode cL_next 61 = .ok (.goto (-49), 3) := by decide +kernel
theorem dL_next_64 : decode cL_next 64 = .ok (.iinc 5 (-1), 3) := by decide +kernel
theorem dL_next_67 : decode cL_next 67 = .ok (.goto (-63), 3) := by decide +kernel
theorem dL_next_70 : decode cL_next 70 = .ok (.iconst (-1), 1) := by decide +kernel
theorem dL_next_71 : decode cL_next 71 = .ok (.ireturn, 1) := by decide +kernel
theorem dL_takes_0 : decode cL_takes 0 = .ok (.aload_n 0, 1) := by decide +kernel
theorem dL_takes_1 : decode cL_takes 1 = .ok (.aload_n 1, 1) := by decide +kernel
theorem dL_takes_2 : decode cL_takes 2 = .ok (.aload_n 2, 1) := by decide +kernel
theorem dL_takes_3 : decode cL_takes 3 = .ok (.iload 4, 2) := by decide +kernel
theorem dL_takes_5 : decode cL_takes 5 = .ok (.invokestatic 11, 3) := by decide +kernel
theorem dL_takes_8 : decode cL_takes 8 = .ok (.istore 6, 2) := by decide +kernel
theorem dL_takes_10 : decode cL_takes 10 = .ok (.aload_n 3, 1) := by decide +kernel
theorem dL_takes_11 : decode cL_takes 11 = .ok (.bipush 8, 2) := by decide +kernel
theorem dL_takes_13 : decode cL_takes 13 = .ok (.iaload, 1) := by decide +kernel
theorem dL_takes_14 : decode cL_takes 14 = .ok (.ifCond .le 33, 3) := by decide +kernel
theorem dL_takes_17 : decode cL_takes 17 = .ok (.iload 5, 2) := by decide +kernel
theorem dL_takes_19 : decode cL_takes 19 = .ok (.aload_n 3, 1) := by decide +kernel
theorem dL_takes_20 : decode cL_takes 20 = .ok (.bipush 8, 2) := by decide +kernel
theorem dL_takes_22 : decode cL_takes 22 = .ok (.iaload, 1) := by decide +kernel
theorem dL_takes_23 : decode cL_takes 23 = .ok (.irem, 1) := by decide +kernel
theorem dL_takes_24 : decode cL_takes 24 = .ok (.ifCond .ne 23, 3) := by decide +kernel
theorem dL_takes_27 : decode cL_takes 27 = .ok (.iload 6, 2) := by decide +kernel
theorem dL_takes_29 : decode cL_takes 29 = .ok (.iconst 1, 1) := by decide +kernel
theorem dL_takes_30 : decode cL_takes 30 = .ok (.iadd, 1) := by decide +kernel
theorem dL_takes_31 : decode cL_takes 31 = .ok (.bipush 12, 2) := by decide +kernel
theorem dL_takes_33 : decode cL_takes 33 = .ok (.irem, 1) := by decide +kernel
theorem dL_takes_34 : decode cL_takes 34 = .ok (.istore 6, 2) := by decide +kernel
theorem dL_takes_36 : decode cL_takes 36 = .ok (.aload_n 1, 1) := by decide +kernel
theorem dL_takes_37 : decode cL_takes 37 = .ok (.iconst 3, 1) := by decide +kernel
theorem dL_takes_38 : decode cL_takes 38 = .ok (.iload 6, 2) := by decide +kernel
theorem dL_takes_40 : decode cL_takes 40 = .ok (.imul, 1) := by decide +kernel
theorem dL_takes_41 : decode cL_takes 41 = .ok (.iconst 2, 1) := by decide +kernel
theorem dL_takes_42 : decode cL_takes 42 = .ok (.iadd, 1) := by decide +kernel
theorem dL_takes_43 : decode cL_takes 43 = .ok (.iaload, 1) := by decide +kernel
theorem dL_takes_44 : decode cL_takes 44 = .ok (.ifCond .ge (-17), 3) := by decide +kernel
theorem dL_takes_47 : decode cL_takes 47 = .ok (.iload 6, 2) := by decide +kernel
theorem dL_takes_49 : decode cL_takes 49 = .ok (.ireturn, 1) := by decide +kernel
theorem dL_checks_0 : decode cL_checks 0 = .ok (.aload_n 2, 1) := by decide +kernel
theorem dL_checks_1 : decode cL_checks 1 = .ok (.iconst 4, 1) := by decide +kernel
theorem dL_checks_2 : decode cL_checks 2 = .ok (.iload 4, 2) := by decide +kernel
theorem dL_checks_4 : decode cL_checks 4 = .ok (.imul, 1) := by decide +kernel
theorem dL_checks_5 : decode cL_checks 5 = .ok (.iaload, 1) := by decide +kernel
theorem dL_checks_6 : decode cL_checks 6 = .ok (.istore 6, 2) := by decide +kernel
theorem dL_checks_8 : decode cL_checks 8 = .ok (.iload 6, 2) := by decide +kernel
theorem dL_checks_10 : decode cL_checks 10 = .ok (.iconst 2, 1) := by decide +kernel
theorem dL_checks_11 : decode cL_checks 11 = .ok (.if_icmp .ge 22, 3) := by decide +kernel
theorem dL_checks_14 : decode cL_checks 14 = .ok (.aload_n 0, 1) := by decide +kernel
theorem dL_checks_15 : decode cL_checks 15 = .ok (.iconst 3, 1) := by decide +kernel
theorem dL_checks_16 : decode cL_checks 16 = .ok (.iload 5, 2) := by decide +kernel
theorem dL_checks_18 : decode cL_checks 18 = .ok (.imul, 1) := by decide +kernel
theorem dL_checks_19 : decode cL_checks 19 = .ok (.iaload, 1) := by decide +kernel
theorem dL_checks_20 : decode cL_checks 20 = .ok (.aload_n 2, 1) := by decide +kernel
theorem dL_checks_21 : decode cL_checks 21 = .ok (.iconst 4, 1) := by decide +kernel
theorem dL_checks_22 : decode cL_checks 22 = .ok (.iload 4, 2) := by decide +kernel
theorem dL_checks_24 : decode cL_checks 24 = .ok (.imul, 1) := by decide +kernel
theorem dL_checks_25 : decode cL_checks 25 = .ok (.iconst 1, 1) := by decide +kernel
theorem dL_checks_26 : decode cL_checks 26 = .ok (.iadd, 1) := by decide +kernel
theorem dL_checks_27 : decode cL_checks 27 = .ok (.iaload, 1) := by decide +kernel
theorem dL_checks_28 : decode cL_checks 28 = .ok (.if_icmp .eq 5, 3) := by decide +kernel
theorem dL_checks_31 : decode cL_checks 31 = .ok (.iconst 1, 1) := by decide +kernel
theorem dL_checks_32 : decode cL_checks 32 = .ok (.ireturn, 1) := by decide +kernel
theorem dL_checks_33 : decode cL_checks 33 = .ok (.iload 6, 2) := by decide +kernel
theorem dL_checks_35 : decode cL_checks 35 = .ok (.iconst 2, 1) := by decide +kernel
theorem dL_checks_36 : decode cL_checks 36 = .ok (.if_icmp .ne 16, 3) := by decide +kernel
theorem dL_checks_39 : decode cL_checks 39 = .ok (.aload_n 0, 1) := by decide +kernel
theorem dL_checks_40 : decode cL_checks 40 = .ok (.aload_n 1, 1) := by decide +kernel
theorem dL_checks_41 : decode cL_checks 41 = .ok (.aload_n 3, 1) := by decide +kernel
theorem dL_checks_42 : decode cL_checks 42 = .ok (.iload 5, 2) := by decide +kernel
theorem dL_checks_44 : decode cL_checks 44 = .ok (.invokestatic 15, 3) := by decide +kernel
theorem dL_checks_47 : decode cL_checks 47 = .ok (.ifCond .ne 5, 3) := by decide +kernel
theorem dL_checks_50 : decode cL_checks 50 = .ok (.iconst 2, 1) := by decide +kernel
theorem dL_checks_51 : decode cL_checks 51 = .ok (.ireturn, 1) := by decide +kernel
theorem dL_checks_52 : decode cL_checks 52 = .ok (.iload 6, 2) := by decide +kernel
theorem dL_checks_54 : decode cL_checks 54 = .ok (.ifCond .ne 16, 3) := by decide +kernel
theorem dL_checks_57 : decode cL_checks 57 = .ok (.iconst 3, 1) := by decide +kernel
theorem dL_checks_58 : decode cL_checks 58 = .ok (.aload_n 0, 1) := by decide +kernel
theorem dL_checks_59 : decode cL_checks 59 = .ok (.iconst 3, 1) := by decide +kernel
theorem dL_checks_60 : decode cL_checks 60 = .ok (.iload 5, 2) := by decide +kernel
theorem dL_checks_62 : decode cL_checks 62 = .ok (.imul, 1) := by decide +kernel
theorem dL_checks_63 : decode cL_checks 63 = .ok (.iconst 2, 1) := by decide +kernel
theorem dL_checks_64 : decode cL_checks 64 = .ok (.iadd, 1) := by decide +kernel
theorem dL_checks_65 : decode cL_checks 65 = .ok (.iaload, 1) := by decide +kernel
theorem dL_checks_66 : decode cL_checks 66 = .ok (.imul, 1) := by decide +kernel
theorem dL_checks_67 : decode cL_checks 67 = .ok (.goto 15, 3) := by decide +kernel
theorem dL_checks_70 : decode cL_checks 70 = .ok (.iconst 4, 1) := by decide +kernel
theorem dL_checks_71 : decode cL_checks 71 = .ok (.iconst 4, 1) := by decide +kernel
theorem dL_checks_72 : decode cL_checks 72 = .ok (.aload_n 0, 1) := by decide +kernel
theorem dL_checks_73 : decode cL_checks 73 = .ok (.iconst 3, 1) := by decide +kernel
theorem dL_checks_74 : decode cL_checks 74 = .ok (.iload 5, 2) := by decide +kernel
theorem dL_checks_76 : decode cL_checks 76 = .ok (.imul, 1) := by decide +kernel
theorem dL_checks_77 : decode cL_checks 77 = .ok (.iconst 2, 1) := by decide +kernel
theorem dL_checks_78 : decode cL_checks 78 = .ok (.iadd, 1) := by decide +kernel
theorem dL_checks_79 : decode cL_checks 79 = .ok (.iaload, 1) := by decide +kernel
theorem dL_checks_80 : decode cL_checks 80 = .ok (.imul, 1) := by decide +kernel
theorem dL_checks_81 : decode cL_checks 81 = .ok (.isub, 1) := by decide +kernel
theorem dL_checks_82 : decode cL_checks 82 = .ok (.ireturn, 1) := by decide +kernel
theorem dL_on_0 : decode cL_on 0 = .ok (.iconst 0, 1) := by decide +kernel
theorem dL_on_1 : decode cL_on 1 = .ok (.istore_n 2, 1) := by decide +kernel
theorem dL_on_2 : decode cL_on 2 = .ok (.iload_n 2, 1) := by decide +kernel
theorem dL_on_3 : decode cL_on 3 = .ok (.bipush 12, 2) := by decide +kernel
theorem dL_on_5 : decode cL_on 5 = .ok (.if_icmp .ge 22, 3) := by decide +kernel
theorem dL_on_8 : decode cL_on 8 = .ok (.aload_n 0, 1) := by decide +kernel
theorem dL_on_9 : decode cL_on 9 = .ok (.iconst 3, 1) := by decide +kernel
theorem dL_on_10 : decode cL_on 10 = .ok (.iload_n 2, 1) := by decide +kernel
theorem dL_on_11 : decode cL_on 11 = .ok (.imul, 1) := by decide +kernel
theorem dL_on_12 : decode cL_on 12 = .ok (.iconst 2, 1) := by decide +kernel
theorem dL_on_13 : decode cL_on 13 = .ok (.iadd, 1) := by decide +kernel
theorem dL_on_14 : decode cL_on 14 = .ok (.iaload, 1) := by decide +kernel
theorem dL_on_15 : decode cL_on 15 = .ok (.iload_n 1, 1) := by decide +kernel
theorem dL_on_16 : decode cL_on 16 = .ok (.if_icmp .ne 5, 3) := by decide +kernel
theorem dL_on_19 : decode cL_on 19 = .ok (.iload_n 2, 1) := by decide +kernel
theorem dL_on_20 : decode cL_on 20 = .ok (.ireturn, 1) := by decide +kernel
theorem dL_on_21 : decode cL_on 21 = .ok (.iinc 2 1, 3) := by decide +kernel
theorem dL_on_24 : decode cL_on 24 = .ok (.goto (-22), 3) := by decide +kernel
theorem dL_on_27 : decode cL_on 27 = .ok (.iconst (-1), 1) := by decide +kernel
theorem dL_on_28 : decode cL_on 28 = .ok (.ireturn, 1) := by decide +kernel
theorem dL_serves_0 : decode cL_serves 0 = .ok (.aload 4, 2) := by decide +kernel
theorem dL_serves_2 : decode cL_serves 2 = .ok (.iconst 2, 1) := by decide +kernel
theorem dL_serves_3 : decode cL_serves 3 = .ok (.dup2, 1) := by decide +kernel
theorem dL_serves_4 : decode cL_serves 4 = .ok (.iaload, 1) := by decide +kernel
theorem dL_serves_5 : decode cL_serves 5 = .ok (.iconst 1, 1) := by decide +kernel
theorem dL_serves_6 : decode cL_serves 6 = .ok (.iadd, 1) := by decide +kernel
theorem dL_serves_7 : decode cL_serves 7 = .ok (.iastore, 1) := by decide +kernel
theorem dL_serves_8 : decode cL_serves 8 = .ok (.aload_n 0, 1) := by decide +kernel
theorem dL_serves_9 : decode cL_serves 9 = .ok (.aload_n 1, 1) := by decide +kernel
theorem dL_serves_10 : decode cL_serves 10 = .ok (.aload_n 2, 1) := by decide +kernel
theorem dL_serves_11 : decode cL_serves 11 = .ok (.aload 4, 2) := by decide +kernel
theorem dL_serves_13 : decode cL_serves 13 = .ok (.iload 5, 2) := by decide +kernel
theorem dL_serves_15 : decode cL_serves 15 = .ok (.aload 4, 2) := by decide +kernel
theorem dL_serves_17 : decode cL_serves 17 = .ok (.iconst 2, 1) := by decide +kernel
theorem dL_serves_18 : decode cL_serves 18 = .ok (.iaload, 1) := by decide +kernel
theorem dL_serves_19 : decode cL_serves 19 = .ok (.invokestatic 19, 3) := by decide +kernel
theorem dL_serves_22 : decode cL_serves 22 = .ok (.istore 7, 2) := by decide +kernel
theorem dL_serves_24 : decode cL_serves 24 = .ok (.aload 4, 2) := by decide +kernel
theorem dL_serves_26 : decode cL_serves 26 = .ok (.bipush 8, 2) := by decide +kernel
theorem dL_serves_28 : decode cL_serves 28 = .ok (.iaload, 1) := by decide +kernel
theorem dL_serves_29 : decode cL_serves 29 = .ok (.ifCond .le 20, 3) := by decide +kernel
theorem dL_serves_32 : decode cL_serves 32 = .ok (.aload 4, 2) := by decide +kernel
theorem dL_serves_34 : decode cL_serves 34 = .ok (.iconst 2, 1) := by decide +kernel
theorem dL_serves_35 : decode cL_serves 35 = .ok (.iaload, 1) := by decide +kernel
theorem dL_serves_36 : decode cL_serves 36 = .ok (.aload 4, 2) := by decide +kernel
theorem dL_serves_38 : decode cL_serves 38 = .ok (.bipush 8, 2) := by decide +kernel
theorem dL_serves_40 : decode cL_serves 40 = .ok (.iaload, 1) := by decide +kernel
theorem dL_serves_41 : decode cL_serves 41 = .ok (.irem, 1) := by decide +kernel
theorem dL_serves_42 : decode cL_serves 42 = .ok (.ifCond .ne 7, 3) := by decide +kernel
theorem dL_serves_45 : decode cL_serves 45 = .ok (.iconst 1, 1) := by decide +kernel
theorem dL_serves_46 : decode cL_serves 46 = .ok (.goto 4, 3) := by decide +kernel
theorem dL_serves_49 : decode cL_serves 49 = .ok (.iconst 0, 1) := by decide +kernel
theorem dL_serves_50 : decode cL_serves 50 = .ok (.istore 8, 2) := by decide +kernel
theorem dL_serves_52 : decode cL_serves 52 = .ok (.aload 4, 2) := by decide +kernel
theorem dL_serves_54 : decode cL_serves 54 = .ok (.iconst 3, 1) := by decide +kernel
theorem dL_serves_55 : decode cL_serves 55 = .ok (.dup2, 1) := by decide +kernel
theorem dL_serves_56 : decode cL_serves 56 = .ok (.iaload, 1) := by decide +kernel
theorem dL_serves_57 : decode cL_serves 57 = .ok (.iload 8, 2) := by decide +kernel
theorem dL_serves_59 : decode cL_serves 59 = .ok (.ifCond .eq 7, 3) := by decide +kernel
theorem dL_serves_62 : decode cL_serves 62 = .ok (.iconst 1, 1) := by decide +kernel
theorem dL_serves_63 : decode cL_serves 63 = .ok (.goto 4, 3) := by decide +kernel
theorem dL_serves_66 : decode cL_serves 66 = .ok (.iconst 0, 1) := by decide +kernel
theorem dL_serves_67 : decode cL_serves 67 = .ok (.iadd, 1) := by decide +kernel
theorem dL_serves_68 : decode cL_serves 68 = .ok (.iastore, 1) := by decide +kernel
theorem dL_serves_69 : decode cL_serves 69 = .ok (.aload_n 0, 1) := by decide +kernel
theorem dL_serves_70 : decode cL_serves 70 = .ok (.iconst 3, 1) := by decide +kernel
theorem dL_serves_71 : decode cL_serves 71 = .ok (.iload 7, 2) := by decide +kernel
theorem dL_serves_73 : decode cL_serves 73 = .ok (.imul, 1) := by decide +kernel
theorem dL_serves_74 : decode cL_serves 74 = .ok (.iconst 2, 1) := by decide +kernel
theorem dL_serves_75 : decode cL_serves 75 = .ok (.iadd, 1) := by decide +kernel
theorem dL_serves_76 : decode cL_serves 76 = .ok (.iload 8, 2) := by decide +kernel
theorem dL_serves_78 : decode cL_serves 78 = .ok (.ifCond .eq 14, 3) := by decide +kernel
theorem dL_serves_81 : decode cL_serves 81 = .ok (.aload_n 0, 1) := by decide +kernel
theorem dL_serves_82 : decode cL_serves 82 = .ok (.iconst 3, 1) := by decide +kernel
theorem dL_serves_83 : decode cL_serves 83 = .ok (.iload 7, 2) := by decide +kernel
theorem dL_serves_85 : decode cL_serves 85 = .ok (.imul, 1) := by decide +kernel
theorem dL_serves_86 : decode cL_serves 86 = .ok (.iconst 2, 1) := by decide +kernel
theorem dL_serves_87 : decode cL_serves 87 = .ok (.iadd, 1) := by decide +kernel
theorem dL_serves_88 : decode cL_serves 88 = .ok (.iaload, 1) := by decide +kernel
theorem dL_serves_89 : decode cL_serves 89 = .ok (.goto 17, 3) := by decide +kernel
theorem dL_serves_92 : decode cL_serves 92 = .ok (.aload_n 2, 1) := by decide +kernel
theorem dL_serves_93 : decode cL_serves 93 = .ok (.iconst 4, 1) := by decide +kernel
theorem dL_serves_94 : decode cL_serves 94 = .ok (.iload 5, 2) := by decide +kernel
theorem dL_serves_96 : decode cL_serves 96 = .ok (.imul, 1) := by decide +kernel
theorem dL_serves_97 : decode cL_serves 97 = .ok (.iaload, 1) := by decide +kernel
theorem dL_serves_98 : decode cL_serves 98 = .ok (.ifCond .le 7, 3) := by decide +kernel
theorem dL_serves_101 : decode cL_serves 101 = .ok (.iconst 1, 1) := by decide +kernel
theorem dL_serves_102 : decode cL_serves 102 = .ok (.goto 4, 3) := by decide +kernel
theorem dL_serves_105 : decode cL_serves 105 = .ok (.iconst 0, 1) := by decide +kernel
theorem dL_serves_106 : decode cL_serves 106 = .ok (.iastore, 1) := by decide +kernel
theorem dL_serves_107 : decode cL_serves 107 = .ok (.aload_n 0, 1) := by decide +kernel
theorem dL_serves_108 : decode cL_serves 108 = .ok (.aload_n 1, 1) := by decide +kernel
theorem dL_serves_109 : decode cL_serves 109 = .ok (.aload_n 2, 1) := by decide +kernel
theorem dL_serves_110 : decode cL_serves 110 = .ok (.aload 4, 2) := by decide +kernel
theorem dL_serves_112 : decode cL_serves 112 = .ok (.iload 5, 2) := by decide +kernel
theorem dL_serves_114 : decode cL_serves 114 = .ok (.iload 7, 2) := by decide +kernel
theorem dL_serves_116 : decode cL_serves 116 = .ok (.invokestatic 23, 3) := by decide +kernel
theorem dL_serves_119 : decode cL_serves 119 = .ok (.ifCond .le 54, 3) := by decide +kernel
theorem dL_serves_122 : decode cL_serves 122 = .ok (.aload 4, 2) := by decide +kernel
theorem dL_serves_124 : decode cL_serves 124 = .ok (.iconst 4, 1) := by decide +kernel
theorem dL_serves_125 : decode cL_serves 125 = .ok (.dup2, 1) := by decide +kernel
theorem dL_serves_126 : decode cL_serves 126 = .ok (.iaload, 1) := by decide +kernel
theorem dL_serves_127 : decode cL_serves 127 = .ok (.iconst 1, 1) := by decide +kernel
theorem dL_serves_128 : decode cL_serves 128 = .ok (.iadd, 1) := by decide +kernel
theorem dL_serves_129 : decode cL_serves 129 = .ok (.iastore, 1) := by decide +kernel
theorem dL_serves_130 : decode cL_serves 130 = .ok (.aload_n 3, 1) := by decide +kernel
theorem dL_serves_131 : decode cL_serves 131 = .ok (.iconst 4, 1) := by decide +kernel
theorem dL_serves_132 : decode cL_serves 132 = .ok (.iload 5, 2) := by decide +kernel
theorem dL_serves_134 : decode cL_serves 134 = .ok (.imul, 1) := by decide +kernel
theorem dL_serves_135 : decode cL_serves 135 = .ok (.iconst 3, 1) := by decide +kernel
theorem dL_serves_136 : decode cL_serves 136 = .ok (.iadd, 1) := by decide +kernel
theorem dL_serves_137 : decode cL_serves 137 = .ok (.dup2, 1) := by decide +kernel
theorem dL_serves_138 : decode cL_serves 138 = .ok (.iaload, 1) := by decide +kernel
theorem dL_serves_139 : decode cL_serves 139 = .ok (.iconst 1, 1) := by decide +kernel
theorem dL_serves_140 : decode cL_serves 140 = .ok (.iadd, 1) := by decide +kernel
theorem dL_serves_141 : decode cL_serves 141 = .ok (.iastore, 1) := by decide +kernel
theorem dL_serves_142 : decode cL_serves 142 = .ok (.aload_n 0, 1) := by decide +kernel
theorem dL_serves_143 : decode cL_serves 143 = .ok (.iconst 3, 1) := by decide +kernel
theorem dL_serves_144 : decode cL_serves 144 = .ok (.iload 7, 2) := by decide +kernel
theorem dL_serves_146 : decode cL_serves 146 = .ok (.imul, 1) := by decide +kernel
theorem dL_serves_147 : decode cL_serves 147 = .ok (.iconst 1, 1) := by decide +kernel
theorem dL_serves_148 : decode cL_serves 148 = .ok (.iadd, 1) := by decide +kernel
theorem dL_serves_149 : decode cL_serves 149 = .ok (.aload_n 0, 1) := by decide +kernel
theorem dL_serves_150 : decode cL_serves 150 = .ok (.aload_n 1, 1) := by decide +kernel
theorem dL_serves_151 : decode cL_serves 151 = .ok (.aload 4, 2) := by decide +kernel
theorem dL_serves_153 : decode cL_serves 153 = .ok (.iload 7, 2) := by decide +kernel
theorem dL_serves_155 : decode cL_serves 155 = .ok (.invokestatic 15, 3) := by decide +kernel
theorem dL_serves_158 : decode cL_serves 158 = .ok (.ifCond .eq 7, 3) := by decide +kernel
theorem dL_serves_161 : decode cL_serves 161 = .ok (.iconst 0, 1) := by decide +kernel
theorem dL_serves_162 : decode cL_serves 162 = .ok (.goto 9, 3) := by decide +kernel
theorem dL_serves_165 : decode cL_serves 165 = .ok (.aload_n 0, 1) := by decide +kernel
theorem dL_serves_166 : decode cL_serves 166 = .ok (.iconst 3, 1) := by decide +kernel
theorem dL_serves_167 : decode cL_serves 167 = .ok (.iload 7, 2) := by decide +kernel
theorem dL_serves_169 : decode cL_serves 169 = .ok (.imul, 1) := by decide +kernel
theorem dL_serves_170 : decode cL_serves 170 = .ok (.iaload, 1) := by decide +kernel
theorem dL_serves_171 : decode cL_serves 171 = .ok (.iastore, 1) := by decide +kernel
theorem dL_serves_172 : decode cL_serves 172 = .ok (.return_, 1) := by decide +kernel
theorem dL_serves_173 : decode cL_serves 173 = .ok (.aload_n 1, 1) := by decide +kernel
theorem dL_serves_174 : decode cL_serves 174 = .ok (.iconst 3, 1) := by decide +kernel
theorem dL_serves_175 : decode cL_serves 175 = .ok (.iload 7, 2) := by decide +kernel
theorem dL_serves_177 : decode cL_serves 177 = .ok (.imul, 1) := by decide +kernel
theorem dL_serves_178 : decode cL_serves 178 = .ok (.iconst 2, 1) := by decide +kernel
theorem dL_serves_179 : decode cL_serves 179 = .ok (.iadd, 1) := by decide +kernel
theorem dL_serves_180 : decode cL_serves 180 = .ok (.iload 6, 2) := by decide +kernel
theorem dL_serves_182 : decode cL_serves 182 = .ok (.iastore, 1) := by decide +kernel
theorem dL_serves_183 : decode cL_serves 183 = .ok (.aload_n 3, 1) := by decide +kernel
theorem dL_serves_184 : decode cL_serves 184 = .ok (.iconst 4, 1) := by decide +kernel
theorem dL_serves_185 : decode cL_serves 185 = .ok (.iload 5, 2) := by decide +kernel
theorem dL_serves_187 : decode cL_serves 187 = .ok (.imul, 1) := by decide +kernel
theorem dL_serves_188 : decode cL_serves 188 = .ok (.iconst 1, 1) := by decide +kernel
theorem dL_serves_189 : decode cL_serves 189 = .ok (.iastore, 1) := by decide +kernel
theorem dL_serves_190 : decode cL_serves 190 = .ok (.aload_n 3, 1) := by decide +kernel
theorem dL_serves_191 : decode cL_serves 191 = .ok (.iconst 4, 1) := by decide +kernel
theorem dL_serves_192 : decode cL_serves 192 = .ok (.iload 5, 2) := by decide +kernel
theorem dL_serves_194 : decode cL_serves 194 = .ok (.imul, 1) := by decide +kernel
theorem dL_serves_195 : decode cL_serves 195 = .ok (.iconst 2, 1) := by decide +kernel
theorem dL_serves_196 : decode cL_serves 196 = .ok (.iadd, 1) := by decide +kernel
theorem dL_serves_197 : decode cL_serves 197 = .ok (.iload 7, 2) := by decide +kernel
theorem dL_serves_199 : decode cL_serves 199 = .ok (.iastore, 1) := by decide +kernel
theorem dL_serves_200 : decode cL_serves 200 = .ok (.aload_n 2, 1) := by decide +kernel
theorem dL_serves_201 : decode cL_serves 201 = .ok (.iconst 4, 1) := by decide +kernel
theorem dL_serves_202 : decode cL_serves 202 = .ok (.iload 5, 2) := by decide +kernel
theorem dL_serves_204 : decode cL_serves 204 = .ok (.imul, 1) := by decide +kernel
theorem dL_serves_205 : decode cL_serves 205 = .ok (.iaload, 1) := by decide +kernel
theorem dL_serves_206 : decode cL_serves 206 = .ok (.iconst 2, 1) := by decide +kernel
theorem dL_serves_207 : decode cL_serves 207 = .ok (.if_icmp .ne 58, 3) := by decide +kernel
theorem dL_serves_210 : decode cL_serves 210 = .ok (.aload_n 0, 1) := by decide +kernel
theorem dL_serves_211 : decode cL_serves 211 = .ok (.iconst 3, 1) := by decide +kernel
theorem dL_serves_212 : decode cL_serves 212 = .ok (.iload 7, 2) := by decide +kernel
theorem dL_serves_214 : decode cL_serves 214 = .ok (.imul, 1) := by decide +kernel
theorem dL_serves_215 : decode cL_serves 215 = .ok (.aload_n 2, 1) := by decide +kernel
theorem dL_serves_216 : decode cL_serves 216 = .ok (.iconst 4, 1) := by decide +kernel
theorem dL_serves_217 : decode cL_serves 217 = .ok (.iload 5, 2) := by decide +kernel
theorem dL_serves_219 : decode cL_serves 219 = .ok (.imul, 1) := by decide +kernel
theorem dL_serves_220 : decode cL_serves 220 = .ok (.iconst 1, 1) := by decide +kernel
theorem dL_serves_221 : decode cL_serves 221 = .ok (.iadd, 1) := by decide +kernel
theorem dL_serves_222 : decode cL_serves 222 = .ok (.iaload, 1) := by decide +kernel
theorem dL_serves_223 : decode cL_serves 223 = .ok (.iastore, 1) := by decide +kernel
theorem dL_serves_224 : decode cL_serves 224 = .ok (.aload_n 0, 1) := by decide +kernel
theorem dL_serves_225 : decode cL_serves 225 = .ok (.iconst 3, 1) := by decide +kernel
theorem dL_serves_226 : decode cL_serves 226 = .ok (.iload 7, 2) := by decide +kernel
theorem dL_serves_228 : decode cL_serves 228 = .ok (.imul, 1) := by decide +kernel
theorem dL_serves_229 : decode cL_serves 229 = .ok (.iconst 1, 1) := by decide +kernel
theorem dL_serves_230 : decode cL_serves 230 = .ok (.iadd, 1) := by decide +kernel
theorem dL_serves_231 : decode cL_serves 231 = .ok (.aload_n 2, 1) := by decide +kernel
theorem dL_serves_232 : decode cL_serves 232 = .ok (.iconst 4, 1) := by decide +kernel
theorem dL_serves_233 : decode cL_serves 233 = .ok (.iload 5, 2) := by decide +kernel
theorem dL_serves_235 : decode cL_serves 235 = .ok (.imul, 1) := by decide +kernel
theorem dL_serves_236 : decode cL_serves 236 = .ok (.iconst 1, 1) := by decide +kernel
theorem dL_serves_237 : decode cL_serves 237 = .ok (.iadd, 1) := by decide +kernel
theorem dL_serves_238 : decode cL_serves 238 = .ok (.iaload, 1) := by decide +kernel
theorem dL_serves_239 : decode cL_serves 239 = .ok (.iastore, 1) := by decide +kernel
theorem dL_serves_240 : decode cL_serves 240 = .ok (.aload_n 1, 1) := by decide +kernel
theorem dL_serves_241 : decode cL_serves 241 = .ok (.iconst 3, 1) := by decide +kernel
theorem dL_serves_242 : decode cL_serves 242 = .ok (.iload 7, 2) := by decide +kernel
theorem dL_serves_244 : decode cL_serves 244 = .ok (.imul, 1) := by decide +kernel
theorem dL_serves_245 : decode cL_serves 245 = .ok (.aload 4, 2) := by decide +kernel
theorem dL_serves_247 : decode cL_serves 247 = .ok (.iconst 0, 1) := by decide +kernel
theorem dL_serves_248 : decode cL_serves 248 = .ok (.iaload, 1) := by decide +kernel
theorem dL_serves_249 : decode cL_serves 249 = .ok (.aload 4, 2) := by decide +kernel
theorem dL_serves_251 : decode cL_serves 251 = .ok (.bipush 9, 2) := by decide +kernel
theorem dL_serves_253 : decode cL_serves 253 = .ok (.iaload, 1) := by decide +kernel
theorem dL_serves_254 : decode cL_serves 254 = .ok (.iadd, 1) := by decide +kernel
theorem dL_serves_255 : decode cL_serves 255 = .ok (.iastore, 1) := by decide +kernel
theorem dL_serves_256 : decode cL_serves 256 = .ok (.aload_n 1, 1) := by decide +kernel
theorem dL_serves_257 : decode cL_serves 257 = .ok (.iconst 3, 1) := by decide +kernel
theorem dL_serves_258 : decode cL_serves 258 = .ok (.iload 7, 2) := by decide +kernel
theorem dL_serves_260 : decode cL_serves 260 = .ok (.imul, 1) := by decide +kernel
theorem dL_serves_261 : decode cL_serves 261 = .ok (.iconst 1, 1) := by decide +kernel
theorem dL_serves_262 : decode cL_serves 262 = .ok (.iadd, 1) := by decide +kernel
theorem dL_serves_263 : decode cL_serves 263 = .ok (.iconst 0, 1) := by decide +kernel
theorem dL_serves_264 : decode cL_serves 264 = .ok (.iastore, 1) := by decide +kernel
theorem dL_serves_265 : decode cL_serves 265 = .ok (.return_, 1) := by decide +kernel
theorem dL_minutes_0 : decode cL_minutes 0 = .ok (.iconst 0, 1) := by decide +kernel
theorem dL_minutes_1 : decode cL_minutes 1 = .ok (.istore 5, 2) := by decide +kernel
theorem dL_minutes_3 : decode cL_minutes 3 = .ok (.aload 4, 2) := by decide +kernel
theorem dL_minutes_5 : decode cL_minutes 5 = .ok (.iconst 1, 1) := by decide +kernel
theorem dL_minutes_6 : decode cL_minutes 6 = .ok (.dup2, 1) := by decide +kernel
theorem dL_minutes_7 : decode cL_minutes 7 = .ok (.iaload, 1) := by decide +kernel
theorem dL_minutes_8 : decode cL_minutes 8 = .ok (.iconst 1, 1) := by decide +kernel
theorem dL_minutes_9 : decode cL_minutes 9 = .ok (.iadd, 1) := by decide +kernel
theorem dL_minutes_10 : decode cL_minutes 10 = .ok (.iastore, 1) := by decide +kernel
theorem dL_minutes_11 : decode cL_minutes 11 = .ok (.iconst 0, 1) := by decide +kernel
theorem dL_minutes_12 : decode cL_minutes 12 = .ok (.istore 6, 2) := by decide +kernel
theorem dL_minutes_14 : decode cL_minutes 14 = .ok (.iload 6, 2) := by decide +kernel
theorem dL_minutes_16 : decode cL_minutes 16 = .ok (.aload 4, 2) := by decide +kernel
theorem dL_minutes_18 : decode cL_minutes 18 = .ok (.bipush 10, 2) := by decide +kernel
theorem dL_minutes_20 : decode cL_minutes 20 = .ok (.iaload, 1) := by decide +kernel
theorem dL_minutes_21 : decode cL_minutes 21 = .ok (.if_icmp .ge 217, 3) := by decide +kernel
theorem dL_minutes_24 : decode cL_minutes 24 = .ok (.aload_n 3, 1) := by decide +kernel
theorem dL_minutes_25 : decode cL_minutes 25 = .ok (.iconst 4, 1) := by decide +kernel
theorem dL_minutes_26 : decode cL_minutes 26 = .ok (.iload 6, 2) := by decide +kernel
theorem dL_minutes_28 : decode cL_minutes 28 = .ok (.imul, 1) := by decide +kernel
theorem dL_minutes_29 : decode cL_minutes 29 = .ok (.iaload, 1) := by decide +kernel
theorem dL_minutes_30 : decode cL_minutes 30 = .ok (.iconst 1, 1) := by decide +kernel
theorem dL_minutes_31 : decode cL_minutes 31 = .ok (.if_icmp .ne 201, 3) := by decide +kernel
theorem dL_minutes_34 : decode cL_minutes 34 = .ok (.aload_n 3, 1) := by decide +kernel
theorem dL_minutes_35 : decode cL_minutes 35 = .ok (.iconst 4, 1) := by decide +kernel
theorem dL_minutes_36 : decode cL_minutes 36 = .ok (.iload 6, 2) := by decide +kernel
theorem dL_minutes_38 : decode cL_minutes 38 = .ok (.imul, 1) := by decide +kernel
theorem dL_minutes_39 : decode cL_minutes 39 = .ok (.iconst 2, 1) := by decide +kernel
theorem dL_minutes_40 : decode cL_minutes 40 = .ok (.iadd, 1) := by decide +kernel
theorem dL_minutes_41 : decode cL_minutes 41 = .ok (.iaload, 1) := by decide +kernel
theorem dL_minutes_42 : decode cL_minutes 42 = .ok (.istore 7, 2) := by decide +kernel
theorem dL_minutes_44 : decode cL_minutes 44 = .ok (.aload 4, 2) := by decide +kernel
theorem dL_minutes_46 : decode cL_minutes 46 = .ok (.iconst 5, 1) := by decide +kernel
theorem dL_minutes_47 : decode cL_minutes 47 = .ok (.dup2, 1) := by decide +kernel
theorem dL_minutes_48 : decode cL_minutes 48 = .ok (.iaload, 1) := by decide +kernel
theorem dL_minutes_49 : decode cL_minutes 49 = .ok (.aload_n 2, 1) := by decide +kernel
theorem dL_minutes_50 : decode cL_minutes 50 = .ok (.iconst 4, 1) := by decide +kernel
theorem dL_minutes_51 : decode cL_minutes 51 = .ok (.iload 6, 2) := by decide +kernel
theorem dL_minutes_53 : decode cL_minutes 53 = .ok (.imul, 1) := by decide +kernel
theorem dL_minutes_54 : decode cL_minutes 54 = .ok (.iaload, 1) := by decide +kernel
theorem dL_minutes_55 : decode cL_minutes 55 = .ok (.ifCond .ne 7, 3) := by decide +kernel
theorem dL_minutes_58 : decode cL_minutes 58 = .ok (.iconst 1, 1) := by decide +kernel
theorem dL_minutes_59 : decode cL_minutes 59 = .ok (.goto 4, 3) := by decide +kernel
theorem dL_minutes_62 : decode cL_minutes 62 = .ok (.iconst 0, 1) := by decide +kernel
theorem dL_minutes_63 : decode cL_minutes 63 = .ok (.iadd, 1) := by decide +kernel
theorem dL_minutes_64 : decode cL_minutes 64 = .ok (.iastore, 1) := by decide +kernel
theorem dL_minutes_65 : decode cL_minutes 65 = .ok (.aload 4, 2) := by decide +kernel
theorem dL_minutes_67 : decode cL_minutes 67 = .ok (.bipush 6, 2) := by decide +kernel
theorem dL_minutes_69 : decode cL_minutes 69 = .ok (.dup2, 1) := by decide +kernel
theorem dL_minutes_70 : decode cL_minutes 70 = .ok (.iaload, 1) := by decide +kernel
theorem dL_minutes_71 : decode cL_minutes 71 = .ok (.aload_n 2, 1) := by decide +kernel
theorem dL_minutes_72 : decode cL_minutes 72 = .ok (.iconst 4, 1) := by decide +kernel
theorem dL_minutes_73 : decode cL_minutes 73 = .ok (.iload 6, 2) := by decide +kernel
theorem dL_minutes_75 : decode cL_minutes 75 = .ok (.imul, 1) := by decide +kernel
theorem dL_minutes_76 : decode cL_minutes 76 = .ok (.iaload, 1) := by decide +kernel
theorem dL_minutes_77 : decode cL_minutes 77 = .ok (.ifCond .le 20, 3) := by decide +kernel
theorem dL_minutes_80 : decode cL_minutes 80 = .ok (.aload_n 1, 1) := by decide +kernel
theorem dL_minutes_81 : decode cL_minutes 81 = .ok (.iconst 3, 1) := by decide +kernel
theorem dL_minutes_82 : decode cL_minutes 82 = .ok (.iload 7, 2) := by decide +kernel
theorem dL_minutes_84 : decode cL_minutes 84 = .ok (.imul, 1) := by decide +kernel
theorem dL_minutes_85 : decode cL_minutes 85 = .ok (.iconst 1, 1) := by decide +kernel
theorem dL_minutes_86 : decode cL_minutes 86 = .ok (.iadd, 1) := by decide +kernel
theorem dL_minutes_87 : decode cL_minutes 87 = .ok (.iaload, 1) := by decide +kernel
theorem dL_minutes_88 : decode cL_minutes 88 = .ok (.bipush 99, 2) := by decide +kernel
theorem dL_minutes_90 : decode cL_minutes 90 = .ok (.if_icmp .ge 7, 3) := by decide +kernel
theorem dL_minutes_93 : decode cL_minutes 93 = .ok (.iconst 1, 1) := by decide +kernel
theorem dL_minutes_94 : decode cL_minutes 94 = .ok (.goto 4, 3) := by decide +kernel
theorem dL_minutes_97 : decode cL_minutes 97 = .ok (.iconst 0, 1) := by decide +kernel
theorem dL_minutes_98 : decode cL_minutes 98 = .ok (.iadd, 1) := by decide +kernel
theorem dL_minutes_99 : decode cL_minutes 99 = .ok (.iastore, 1) := by decide +kernel
theorem dL_minutes_100 : decode cL_minutes 100 = .ok (.aload 4, 2) := by decide +kernel
theorem dL_minutes_102 : decode cL_minutes 102 = .ok (.bipush 7, 2) := by decide +kernel
theorem dL_minutes_104 : decode cL_minutes 104 = .ok (.dup2, 1) := by decide +kernel
theorem dL_minutes_105 : decode cL_minutes 105 = .ok (.iaload, 1) := by decide +kernel
theorem dL_minutes_106 : decode cL_minutes 106 = .ok (.aload_n 2, 1) := by decide +kernel
theorem dL_minutes_107 : decode cL_minutes 107 = .ok (.iconst 4, 1) := by decide +kernel
theorem dL_minutes_108 : decode cL_minutes 108 = .ok (.iload 6, 2) := by decide +kernel
theorem dL_minutes_110 : decode cL_minutes 110 = .ok (.imul, 1) := by decide +kernel
theorem dL_minutes_111 : decode cL_minutes 111 = .ok (.iaload, 1) := by decide +kernel
theorem dL_minutes_112 : decode cL_minutes 112 = .ok (.ifCond .le 20, 3) := by decide +kernel
theorem dL_minutes_115 : decode cL_minutes 115 = .ok (.aload_n 1, 1) := by decide +kernel
theorem dL_minutes_116 : decode cL_minutes 116 = .ok (.iconst 3, 1) := by decide +kernel
theorem dL_minutes_117 : decode cL_minutes 117 = .ok (.iload 7, 2) := by decide +kernel
theorem dL_minutes_119 : decode cL_minutes 119 = .ok (.imul, 1) := by decide +kernel
theorem dL_minutes_120 : decode cL_minutes 120 = .ok (.iconst 1, 1) := by decide +kernel
theorem dL_minutes_121 : decode cL_minutes 121 = .ok (.iadd, 1) := by decide +kernel
theorem dL_minutes_122 : decode cL_minutes 122 = .ok (.iaload, 1) := by decide +kernel
theorem dL_minutes_123 : decode cL_minutes 123 = .ok (.bipush 99, 2) := by decide +kernel
theorem dL_minutes_125 : decode cL_minutes 125 = .ok (.if_icmp .ne 7, 3) := by decide +kernel
theorem dL_minutes_128 : decode cL_minutes 128 = .ok (.iconst 1, 1) := by decide +kernel
theorem dL_minutes_129 : decode cL_minutes 129 = .ok (.goto 4, 3) := by decide +kernel
theorem dL_minutes_132 : decode cL_minutes 132 = .ok (.iconst 0, 1) := by decide +kernel
theorem dL_minutes_133 : decode cL_minutes 133 = .ok (.iadd, 1) := by decide +kernel
theorem dL_minutes_134 : decode cL_minutes 134 = .ok (.iastore, 1) := by decide +kernel
theorem dL_minutes_135 : decode cL_minutes 135 = .ok (.aload_n 1, 1) := by decide +kernel
theorem dL_minutes_136 : decode cL_minutes 136 = .ok (.iconst 3, 1) := by decide +kernel
theorem dL_minutes_137 : decode cL_minutes 137 = .ok (.iload 7, 2) := by decide +kernel
theorem dL_minutes_139 : decode cL_minutes 139 = .ok (.imul, 1) := by decide +kernel
theorem dL_minutes_140 : decode cL_minutes 140 = .ok (.iconst 1, 1) := by decide +kernel
theorem dL_minutes_141 : decode cL_minutes 141 = .ok (.iadd, 1) := by decide +kernel
theorem dL_minutes_142 : decode cL_minutes 142 = .ok (.dup2, 1) := by decide +kernel
theorem dL_minutes_143 : decode cL_minutes 143 = .ok (.iaload, 1) := by decide +kernel
theorem dL_minutes_144 : decode cL_minutes 144 = .ok (.aload_n 2, 1) := by decide +kernel
theorem dL_minutes_145 : decode cL_minutes 145 = .ok (.iconst 4, 1) := by decide +kernel
theorem dL_minutes_146 : decode cL_minutes 146 = .ok (.iload 6, 2) := by decide +kernel
theorem dL_minutes_148 : decode cL_minutes 148 = .ok (.imul, 1) := by decide +kernel
theorem dL_minutes_149 : decode cL_minutes 149 = .ok (.iaload, 1) := by decide +kernel
theorem dL_minutes_150 : decode cL_minutes 150 = .ok (.ifCond .le 20, 3) := by decide +kernel
theorem dL_minutes_153 : decode cL_minutes 153 = .ok (.aload_n 1, 1) := by decide +kernel
theorem dL_minutes_154 : decode cL_minutes 154 = .ok (.iconst 3, 1) := by decide +kernel
theorem dL_minutes_155 : decode cL_minutes 155 = .ok (.iload 7, 2) := by decide +kernel
theorem dL_minutes_157 : decode cL_minutes 157 = .ok (.imul, 1) := by decide +kernel
theorem dL_minutes_158 : decode cL_minutes 158 = .ok (.iconst 1, 1) := by decide +kernel
theorem dL_minutes_159 : decode cL_minutes 159 = .ok (.iadd, 1) := by decide +kernel
theorem dL_minutes_160 : decode cL_minutes 160 = .ok (.iaload, 1) := by decide +kernel
theorem dL_minutes_161 : decode cL_minutes 161 = .ok (.bipush 99, 2) := by decide +kernel
theorem dL_minutes_163 : decode cL_minutes 163 = .ok (.if_icmp .ge 7, 3) := by decide +kernel
theorem dL_minutes_166 : decode cL_minutes 166 = .ok (.iconst 1, 1) := by decide +kernel
theorem dL_minutes_167 : decode cL_minutes 167 = .ok (.goto 4, 3) := by decide +kernel
theorem dL_minutes_170 : decode cL_minutes 170 = .ok (.iconst 0, 1) := by decide +kernel
theorem dL_minutes_171 : decode cL_minutes 171 = .ok (.iadd, 1) := by decide +kernel
theorem dL_minutes_172 : decode cL_minutes 172 = .ok (.iastore, 1) := by decide +kernel
theorem dL_minutes_173 : decode cL_minutes 173 = .ok (.aload_n 3, 1) := by decide +kernel
theorem dL_minutes_174 : decode cL_minutes 174 = .ok (.iconst 4, 1) := by decide +kernel
theorem dL_minutes_175 : decode cL_minutes 175 = .ok (.iload 6, 2) := by decide +kernel
theorem dL_minutes_177 : decode cL_minutes 177 = .ok (.imul, 1) := by decide +kernel
theorem dL_minutes_178 : decode cL_minutes 178 = .ok (.iconst 1, 1) := by decide +kernel
theorem dL_minutes_179 : decode cL_minutes 179 = .ok (.iadd, 1) := by decide +kernel
theorem dL_minutes_180 : decode cL_minutes 180 = .ok (.dup2, 1) := by decide +kernel
theorem dL_minutes_181 : decode cL_minutes 181 = .ok (.iaload, 1) := by decide +kernel
theorem dL_minutes_182 : decode cL_minutes 182 = .ok (.iconst 1, 1) := by decide +kernel
theorem dL_minutes_183 : decode cL_minutes 183 = .ok (.iadd, 1) := by decide +kernel
theorem dL_minutes_184 : decode cL_minutes 184 = .ok (.iastore, 1) := by decide +kernel
theorem dL_minutes_185 : decode cL_minutes 185 = .ok (.aload_n 3, 1) := by decide +kernel
theorem dL_minutes_186 : decode cL_minutes 186 = .ok (.iconst 4, 1) := by decide +kernel
theorem dL_minutes_187 : decode cL_minutes 187 = .ok (.iload 6, 2) := by decide +kernel
theorem dL_minutes_189 : decode cL_minutes 189 = .ok (.imul, 1) := by decide +kernel
theorem dL_minutes_190 : decode cL_minutes 190 = .ok (.iconst 1, 1) := by decide +kernel
theorem dL_minutes_191 : decode cL_minutes 191 = .ok (.iadd, 1) := by decide +kernel
theorem dL_minutes_192 : decode cL_minutes 192 = .ok (.iaload, 1) := by decide +kernel
theorem dL_minutes_193 : decode cL_minutes 193 = .ok (.aload_n 2, 1) := by decide +kernel
theorem dL_minutes_194 : decode cL_minutes 194 = .ok (.iconst 4, 1) := by decide +kernel
theorem dL_minutes_195 : decode cL_minutes 195 = .ok (.iload 6, 2) := by decide +kernel
theorem dL_minutes_197 : decode cL_minutes 197 = .ok (.imul, 1) := by decide +kernel
theorem dL_minutes_198 : decode cL_minutes 198 = .ok (.iconst 2, 1) := by decide +kernel
theorem dL_minutes_199 : decode cL_minutes 199 = .ok (.iadd, 1) := by decide +kernel
theorem dL_minutes_200 : decode cL_minutes 200 = .ok (.iaload, 1) := by decide +kernel
theorem dL_minutes_201 : decode cL_minutes 201 = .ok (.if_icmp .ne 31, 3) := by decide +kernel
theorem dL_minutes_204 : decode cL_minutes 204 = .ok (.aload_n 3, 1) := by decide +kernel
theorem dL_minutes_205 : decode cL_minutes 205 = .ok (.iconst 4, 1) := by decide +kernel
theorem dL_minutes_206 : decode cL_minutes 206 = .ok (.iload 6, 2) := by decide +kernel
theorem dL_minutes_208 : decode cL_minutes 208 = .ok (.imul, 1) := by decide +kernel
theorem dL_minutes_209 : decode cL_minutes 209 = .ok (.iconst 2, 1) := by decide +kernel
theorem dL_minutes_210 : decode cL_minutes 210 = .ok (.iastore, 1) := by decide +kernel
theorem dL_minutes_211 : decode cL_minutes 211 = .ok (.aload_n 3, 1) := by decide +kernel
theorem dL_minutes_212 : decode cL_minutes 212 = .ok (.iconst 4, 1) := by decide +kernel
theorem dL_minutes_213 : decode cL_minutes 213 = .ok (.iload 6, 2) := by decide +kernel
theorem dL_minutes_215 : decode cL_minutes 215 = .ok (.imul, 1) := by decide +kernel
theorem dL_minutes_216 : decode cL_minutes 216 = .ok (.iconst 2, 1) := by decide +kernel
theorem dL_minutes_217 : decode cL_minutes 217 = .ok (.iadd, 1) := by decide +kernel
theorem dL_minutes_218 : decode cL_minutes 218 = .ok (.iconst (-1), 1) := by decide +kernel
theorem dL_minutes_219 : decode cL_minutes 219 = .ok (.iastore, 1) := by decide +kernel
theorem dL_minutes_220 : decode cL_minutes 220 = .ok (.aload_n 1, 1) := by decide +kernel
theorem dL_minutes_221 : decode cL_minutes 221 = .ok (.iconst 3, 1) := by decide +kernel
theorem dL_minutes_222 : decode cL_minutes 222 = .ok (.iload 7, 2) := by decide +kernel
theorem dL_minutes_224 : decode cL_minutes 224 = .ok (.imul, 1) := by decide +kernel
theorem dL_minutes_225 : decode cL_minutes 225 = .ok (.iconst 2, 1) := by decide +kernel
theorem dL_minutes_226 : decode cL_minutes 226 = .ok (.iadd, 1) := by decide +kernel
theorem dL_minutes_227 : decode cL_minutes 227 = .ok (.iconst (-1), 1) := by decide +kernel
theorem dL_minutes_228 : decode cL_minutes 228 = .ok (.iastore, 1) := by decide +kernel
theorem dL_minutes_229 : decode cL_minutes 229 = .ok (.iinc 5 1, 3) := by decide +kernel
theorem dL_minutes_232 : decode cL_minutes 232 = .ok (.iinc 6 1, 3) := by decide +kernel
theorem dL_minutes_235 : decode cL_minutes 235 = .ok (.goto (-221), 3) := by decide +kernel
theorem dL_minutes_238 : decode cL_minutes 238 = .ok (.aload_n 0, 1) := by decide +kernel
theorem dL_minutes_239 : decode cL_minutes 239 = .ok (.aload_n 1, 1) := by decide +kernel
theorem dL_minutes_240 : decode cL_minutes 240 = .ok (.aload_n 2, 1) := by decide +kernel
theorem dL_minutes_241 : decode cL_minutes 241 = .ok (.aload_n 3, 1) := by decide +kernel
theorem dL_minutes_242 : decode cL_minutes 242 = .ok (.aload 4, 2) := by decide +kernel
theorem dL_minutes_244 : decode cL_minutes 244 = .ok (.invokestatic 26, 3) := by decide +kernel
theorem dL_minutes_247 : decode cL_minutes 247 = .ok (.istore 6, 2) := by decide +kernel
theorem dL_minutes_249 : decode cL_minutes 249 = .ok (.iconst 0, 1) := by decide +kernel
theorem dL_minutes_250 : decode cL_minutes 250 = .ok (.istore 7, 2) := by decide +kernel
theorem dL_minutes_252 : decode cL_minutes 252 = .ok (.iload 7, 2) := by decide +kernel
theorem dL_minutes_254 : decode cL_minutes 254 = .ok (.iconst 3, 1) := by decide +kernel
theorem dL_minutes_255 : decode cL_minutes 255 = .ok (.if_icmp .ge 39, 3) := by decide +kernel
theorem dL_minutes_258 : decode cL_minutes 258 = .ok (.iload 6, 2) := by decide +kernel
theorem dL_minutes_260 : decode cL_minutes 260 = .ok (.ifCond .lt 34, 3) := by decide +kernel
theorem dL_minutes_263 : decode cL_minutes 263 = .ok (.aload_n 1, 1) := by decide +kernel
theorem dL_minutes_264 : decode cL_minutes 264 = .ok (.iload 7, 2) := by decide +kernel
theorem dL_minutes_266 : decode cL_minutes 266 = .ok (.invokestatic 30, 3) := by decide +kernel
theorem dL_minutes_269 : decode cL_minutes 269 = .ok (.ifCond .ge 19, 3) := by decide +kernel
theorem dL_minutes_272 : decode cL_minutes 272 = .ok (.aload_n 0, 1) := by decide +kernel
theorem dL_minutes_273 : decode cL_minutes 273 = .ok (.aload_n 1, 1) := by decide +kernel
theorem dL_minutes_274 : decode cL_minutes 274 = .ok (.aload_n 2, 1) := by decide +kernel
theorem dL_minutes_275 : decode cL_minutes 275 = .ok (.aload_n 3, 1) := by decide +kernel
theorem dL_minutes_276 : decode cL_minutes 276 = .ok (.aload 4, 2) := by decide +kernel
theorem dL_minutes_278 : decode cL_minutes 278 = .ok (.iload 6, 2) := by decide +kernel
theorem dL_minutes_280 : decode cL_minutes 280 = .ok (.iload 7, 2) := by decide +kernel
theorem dL_minutes_282 : decode cL_minutes 282 = .ok (.invokestatic 34, 3) := by decide +kernel
theorem dL_minutes_285 : decode cL_minutes 285 = .ok (.iconst (-1), 1) := by decide +kernel
theorem dL_minutes_286 : decode cL_minutes 286 = .ok (.istore 6, 2) := by decide +kernel
theorem dL_minutes_288 : decode cL_minutes 288 = .ok (.iinc 7 1, 3) := by decide +kernel
theorem dL_minutes_291 : decode cL_minutes 291 = .ok (.goto (-39), 3) := by decide +kernel
theorem dL_minutes_294 : decode cL_minutes 294 = .ok (.iload 5, 2) := by decide +kernel
theorem dL_minutes_296 : decode cL_minutes 296 = .ok (.ireturn, 1) := by decide +kernel
theorem dL_areReels_0 : decode cL_areReels 0 = .ok (.iconst 0, 1) := by decide +kernel
theorem dL_areReels_1 : decode cL_areReels 1 = .ok (.istore 4, 2) := by decide +kernel
theorem dL_areReels_3 : decode cL_areReels 3 = .ok (.iconst 1, 1) := by decide +kernel
theorem dL_areReels_4 : decode cL_areReels 4 = .ok (.istore 5, 2) := by decide +kernel
theorem dL_areReels_6 : decode cL_areReels 6 = .ok (.iconst 0, 1) := by decide +kernel
theorem dL_areReels_7 : decode cL_areReels 7 = .ok (.istore 6, 2) := by decide +kernel
theorem dL_areReels_9 : decode cL_areReels 9 = .ok (.iload 6, 2) := by decide +kernel
theorem dL_areReels_11 : decode cL_areReels 11 = .ok (.bipush 12, 2) := by decide +kernel
theorem dL_areReels_13 : decode cL_areReels 13 = .ok (.if_icmp .ge 163, 3) := by decide +kernel
theorem dL_areReels_16 : decode cL_areReels 16 = .ok (.iload 5, 2) := by decide +kernel
theorem dL_areReels_18 : decode cL_areReels 18 = .ok (.ifCond .eq 158, 3) := by decide +kernel
theorem dL_areReels_21 : decode cL_areReels 21 = .ok (.aload_n 1, 1) := by decide +kernel
theorem dL_areReels_22 : decode cL_areReels 22 = .ok (.aload_n 2, 1) := by decide +kernel
theorem dL_areReels_23 : decode cL_areReels 23 = .ok (.aload_n 3, 1) := by decide +kernel
theorem dL_areReels_24 : decode cL_areReels 24 = .ok (.iload 6, 2) := by decide +kernel
theorem dL_areReels_26 : decode cL_areReels 26 = .ok (.invokestatic 15, 3) := by decide +kernel
theorem dL_areReels_29 : decode cL_areReels 29 = .ok (.ifCond .eq 7, 3) := by decide +kernel
theorem dL_areReels_32 : decode cL_areReels 32 = .ok (.iconst 1, 1) := by decide +kernel
theorem dL_areReels_33 : decode cL_areReels 33 = .ok (.goto 4, 3) := by decide +kernel
theorem dL_areReels_36 : decode cL_areReels 36 = .ok (.iconst 0, 1) := by decide +kernel
theorem dL_areReels_37 : decode cL_areReels 37 = .ok (.istore 7, 2) := by decide +kernel
theorem dL_areReels_39 : decode cL_areReels 39 = .ok (.aload_n 0, 1) := by decide +kernel
theorem dL_areReels_40 : decode cL_areReels 40 = .ok (.iload 6, 2) := by decide +kernel
theorem dL_areReels_42 : decode cL_areReels 42 = .ok (.iconst 0, 1) := by decide +kernel
theorem dL_areReels_43 : decode cL_areReels 43 = .ok (.invokevirtual 38, 3) := by decide +kernel
theorem dL_areReels_46 : decode cL_areReels 46 = .ok (.aload_n 1, 1) := by decide +kernel
theorem dL_areReels_47 : decode cL_areReels 47 = .ok (.iconst 3, 1) := by decide +kernel
theorem dL_areReels_48 : decode cL_areReels 48 = .ok (.iload 6, 2) := by decide +kernel
theorem dL_areReels_50 : decode cL_areReels 50 = .ok (.imul, 1) := by decide +kernel
theorem dL_areReels_51 : decode cL_areReels 51 = .ok (.iaload, 1) := by decide +kernel
theorem dL_areReels_52 : decode cL_areReels 52 = .ok (.if_icmp .ne 108, 3) := by decide +kernel
theorem dL_areReels_55 : decode cL_areReels 55 = .ok (.aload_n 0, 1) := by decide +kernel
theorem dL_areReels_56 : decode cL_areReels 56 = .ok (.iload 6, 2) := by decide +kernel
theorem dL_areReels_58 : decode cL_areReels 58 = .ok (.iconst 1, 1) := by decide +kernel
theorem dL_areReels_59 : decode cL_areReels 59 = .ok (.invokevirtual 38, 3) := by decide +kernel
theorem dL_areReels_62 : decode cL_areReels 62 = .ok (.aload_n 1, 1) := by decide +kernel
theorem dL_areReels_63 : decode cL_areReels 63 = .ok (.iconst 3, 1) := by decide +kernel
theorem dL_areReels_64 : decode cL_areReels 64 = .ok (.iload 6, 2) := by decide +kernel
theorem dL_areReels_66 : decode cL_areReels 66 = .ok (.imul, 1) := by decide +kernel
theorem dL_areReels_67 : decode cL_areReels 67 = .ok (.iconst 1, 1) := by decide +kernel
theorem dL_areReels_68 : decode cL_areReels 68 = .ok (.iadd, 1) := by decide +kernel
theorem dL_areReels_69 : decode cL_areReels 69 = .ok (.iaload, 1) := by decide +kernel
theorem dL_areReels_70 : decode cL_areReels 70 = .ok (.if_icmp .ne 90, 3) := by decide +kernel
theorem dL_areReels_73 : decode cL_areReels 73 = .ok (.aload_n 0, 1) := by decide +kernel
theorem dL_areReels_74 : decode cL_areReels 74 = .ok (.iload 6, 2) := by decide +kernel
theorem dL_areReels_76 : decode cL_areReels 76 = .ok (.iconst 2, 1) := by decide +kernel
theorem dL_areReels_77 : decode cL_areReels 77 = .ok (.invokevirtual 38, 3) := by decide +kernel
theorem dL_areReels_80 : decode cL_areReels 80 = .ok (.aload_n 1, 1) := by decide +kernel
theorem dL_areReels_81 : decode cL_areReels 81 = .ok (.iconst 3, 1) := by decide +kernel
theorem dL_areReels_82 : decode cL_areReels 82 = .ok (.iload 6, 2) := by decide +kernel
theorem dL_areReels_84 : decode cL_areReels 84 = .ok (.imul, 1) := by decide +kernel
theorem dL_areReels_85 : decode cL_areReels 85 = .ok (.iconst 2, 1) := by decide +kernel
theorem dL_areReels_86 : decode cL_areReels 86 = .ok (.iadd, 1) := by decide +kernel
theorem dL_areReels_87 : decode cL_areReels 87 = .ok (.iaload, 1) := by decide +kernel
theorem dL_areReels_88 : decode cL_areReels 88 = .ok (.if_icmp .ne 72, 3) := by decide +kernel
theorem dL_areReels_91 : decode cL_areReels 91 = .ok (.aload_n 0, 1) := by decide +kernel
theorem dL_areReels_92 : decode cL_areReels 92 = .ok (.iload 6, 2) := by decide +kernel
theorem dL_areReels_94 : decode cL_areReels 94 = .ok (.iconst 3, 1) := by decide +kernel
theorem dL_areReels_95 : decode cL_areReels 95 = .ok (.invokevirtual 38, 3) := by decide +kernel
theorem dL_areReels_98 : decode cL_areReels 98 = .ok (.aload_n 2, 1) := by decide +kernel
theorem dL_areReels_99 : decode cL_areReels 99 = .ok (.iconst 3, 1) := by decide +kernel
theorem dL_areReels_100 : decode cL_areReels 100 = .ok (.iload 6, 2) := by decide +kernel
theorem dL_areReels_102 : decode cL_areReels 102 = .ok (.imul, 1) := by decide +kernel
theorem dL_areReels_103 : decode cL_areReels 103 = .ok (.iaload, 1) := by decide +kernel
theorem dL_areReels_104 : decode cL_areReels 104 = .ok (.if_icmp .ne 56, 3) := by decide +kernel
theorem dL_areReels_107 : decode cL_areReels 107 = .ok (.aload_n 0, 1) := by decide +kernel
theorem dL_areReels_108 : decode cL_areReels 108 = .ok (.iload 6, 2) := by decide +kernel
theorem dL_areReels_110 : decode cL_areReels 110 = .ok (.iconst 4, 1) := by decide +kernel
theorem dL_areReels_111 : decode cL_areReels 111 = .ok (.invokevirtual 38, 3) := by decide +kernel
theorem dL_areReels_114 : decode cL_areReels 114 = .ok (.aload_n 2, 1) := by decide +kernel
theorem dL_areReels_115 : decode cL_areReels 115 = .ok (.iconst 3, 1) := by decide +kernel
theorem dL_areReels_116 : decode cL_areReels 116 = .ok (.iload 6, 2) := by decide +kernel
theorem dL_areReels_118 : decode cL_areReels 118 = .ok (.imul, 1) := by decide +kernel
theorem dL_areReels_119 : decode cL_areReels 119 = .ok (.iconst 1, 1) := by decide +kernel
theorem dL_areReels_120 : decode cL_areReels 120 = .ok (.iadd, 1) := by decide +kernel
theorem dL_areReels_121 : decode cL_areReels 121 = .ok (.iaload, 1) := by decide +kernel
theorem dL_areReels_122 : decode cL_areReels 122 = .ok (.if_icmp .ne 38, 3) := by decide +kernel
theorem dL_areReels_125 : decode cL_areReels 125 = .ok (.aload_n 0, 1) := by decide +kernel
theorem dL_areReels_126 : decode cL_areReels 126 = .ok (.iload 6, 2) := by decide +kernel
theorem dL_areReels_128 : decode cL_areReels 128 = .ok (.iconst 5, 1) := by decide +kernel
theorem dL_areReels_129 : decode cL_areReels 129 = .ok (.invokevirtual 38, 3) := by decide +kernel
theorem dL_areReels_132 : decode cL_areReels 132 = .ok (.aload_n 2, 1) := by decide +kernel
theorem dL_areReels_133 : decode cL_areReels 133 = .ok (.iconst 3, 1) := by decide +kernel
theorem dL_areReels_134 : decode cL_areReels 134 = .ok (.iload 6, 2) := by decide +kernel
theorem dL_areReels_136 : decode cL_areReels 136 = .ok (.imul, 1) := by decide +kernel
theorem dL_areReels_137 : decode cL_areReels 137 = .ok (.iconst 2, 1) := by decide +kernel
theorem dL_areReels_138 : decode cL_areReels 138 = .ok (.iadd, 1) := by decide +kernel
theorem dL_areReels_139 : decode cL_areReels 139 = .ok (.iaload, 1) := by decide +kernel
theorem dL_areReels_140 : decode cL_areReels 140 = .ok (.if_icmp .ne 20, 3) := by decide +kernel
theorem dL_areReels_143 : decode cL_areReels 143 = .ok (.aload_n 0, 1) := by decide +kernel
theorem dL_areReels_144 : decode cL_areReels 144 = .ok (.iload 6, 2) := by decide +kernel
theorem dL_areReels_146 : decode cL_areReels 146 = .ok (.bipush 6, 2) := by decide +kernel
theorem dL_areReels_148 : decode cL_areReels 148 = .ok (.invokevirtual 38, 3) := by decide +kernel
theorem dL_areReels_151 : decode cL_areReels 151 = .ok (.iload 7, 2) := by decide +kernel
theorem dL_areReels_153 : decode cL_areReels 153 = .ok (.if_icmp .ne 7, 3) := by decide +kernel
theorem dL_areReels_156 : decode cL_areReels 156 = .ok (.iconst 1, 1) := by decide +kernel
theorem dL_areReels_157 : decode cL_areReels 157 = .ok (.goto 4, 3) := by decide +kernel
theorem dL_areReels_160 : decode cL_areReels 160 = .ok (.iconst 0, 1) := by decide +kernel
theorem dL_areReels_161 : decode cL_areReels 161 = .ok (.istore 5, 2) := by decide +kernel
theorem dL_areReels_163 : decode cL_areReels 163 = .ok (.iload 4, 2) := by decide +kernel
theorem dL_areReels_165 : decode cL_areReels 165 = .ok (.iload 7, 2) := by decide +kernel
theorem dL_areReels_167 : decode cL_areReels 167 = .ok (.iadd, 1) := by decide +kernel
theorem dL_areReels_168 : decode cL_areReels 168 = .ok (.istore 4, 2) := by decide +kernel
theorem dL_areReels_170 : decode cL_areReels 170 = .ok (.iinc 6 1, 3) := by decide +kernel
theorem dL_areReels_173 : decode cL_areReels 173 = .ok (.goto (-164), 3) := by decide +kernel
theorem dL_areReels_176 : decode cL_areReels 176 = .ok (.iload 5, 2) := by decide +kernel
theorem dL_areReels_178 : decode cL_areReels 178 = .ok (.ifCond .eq 55, 3) := by decide +kernel
theorem dL_areReels_181 : decode cL_areReels 181 = .ok (.aload_n 0, 1) := by decide +kernel
theorem dL_areReels_182 : decode cL_areReels 182 = .ok (.invokevirtual 44, 3) := by decide +kernel
theorem dL_areReels_185 : decode cL_areReels 185 = .ok (.iload 4, 2) := by decide +kernel
theorem dL_areReels_187 : decode cL_areReels 187 = .ok (.if_icmp .ne 46, 3) := by decide +kernel
theorem dL_areReels_190 : decode cL_areReels 190 = .ok (.aload_n 0, 1) := by decide +kernel
theorem dL_areReels_191 : decode cL_areReels 191 = .ok (.iconst 0, 1) := by decide +kernel
theorem dL_areReels_192 : decode cL_areReels 192 = .ok (.invokevirtual 48, 3) := by decide +kernel
theorem dL_areReels_195 : decode cL_areReels 195 = .ok (.aload_n 2, 1) := by decide +kernel
theorem dL_areReels_196 : decode cL_areReels 196 = .ok (.iconst 0, 1) := by decide +kernel
theorem dL_areReels_197 : decode cL_areReels 197 = .ok (.invokestatic 30, 3) := by decide +kernel
theorem dL_areReels_200 : decode cL_areReels 200 = .ok (.if_icmp .ne 33, 3) := by decide +kernel
theorem dL_areReels_203 : decode cL_areReels 203 = .ok (.aload_n 0, 1) := by decide +kernel
theorem dL_areReels_204 : decode cL_areReels 204 = .ok (.iconst 1, 1) := by decide +kernel
theorem dL_areReels_205 : decode cL_areReels 205 = .ok (.invokevirtual 48, 3) := by decide +kernel
theorem dL_areReels_208 : decode cL_areReels 208 = .ok (.aload_n 2, 1) := by decide +kernel
theorem dL_areReels_209 : decode cL_areReels 209 = .ok (.iconst 1, 1) := by decide +kernel
theorem dL_areReels_210 : decode cL_areReels 210 = .ok (.invokestatic 30, 3) := by decide +kernel
theorem dL_areReels_213 : decode cL_areReels 213 = .ok (.if_icmp .ne 20, 3) := by decide +kernel
theorem dL_areReels_216 : decode cL_areReels 216 = .ok (.aload_n 0, 1) := by decide +kernel
theorem dL_areReels_217 : decode cL_areReels 217 = .ok (.iconst 2, 1) := by decide +kernel
theorem dL_areReels_218 : decode cL_areReels 218 = .ok (.invokevirtual 48, 3) := by decide +kernel
theorem dL_areReels_221 : decode cL_areReels 221 = .ok (.aload_n 2, 1) := by decide +kernel
theorem dL_areReels_222 : decode cL_areReels 222 = .ok (.iconst 2, 1) := by decide +kernel
theorem dL_areReels_223 : decode cL_areReels 223 = .ok (.invokestatic 30, 3) := by decide +kernel
theorem dL_areReels_226 : decode cL_areReels 226 = .ok (.if_icmp .ne 7, 3) := by decide +kernel
theorem dL_areReels_229 : decode cL_areReels 229 = .ok (.iconst 1, 1) := by decide +kernel
theorem dL_areReels_230 : decode cL_areReels 230 = .ok (.goto 4, 3) := by decide +kernel
theorem dL_areReels_233 : decode cL_areReels 233 = .ok (.iconst 0, 1) := by decide +kernel
theorem dL_areReels_234 : decode cL_areReels 234 = .ok (.ireturn, 1) := by decide +kernel
theorem dL_areJobs_0 : decode cL_areJobs 0 = .ok (.iconst 4, 1) := by decide +kernel
theorem dL_areJobs_1 : decode cL_areJobs 1 = .ok (.newarray .int, 2) := by decide +kernel
theorem dL_areJobs_3 : decode cL_areJobs 3 = .ok (.astore 6, 2) := by decide +kernel
theorem dL_areJobs_5 : decode cL_areJobs 5 = .ok (.aload_n 0, 1) := by decide +kernel
theorem dL_areJobs_6 : decode cL_areJobs 6 = .ok (.invokevirtual 52, 3) := by decide +kernel
theorem dL_areJobs_9 : decode cL_areJobs 9 = .ok (.aload 5, 2) := by decide +kernel
theorem dL_areJobs_11 : decode cL_areJobs 11 = .ok (.bipush 10, 2) := by decide +kernel
theorem dL_areJobs_13 : decode cL_areJobs 13 = .ok (.iaload, 1) := by decide +kernel
theorem dL_areJobs_14 : decode cL_areJobs 14 = .ok (.if_icmp .ne 7, 3) := by decide +kernel
theorem dL_areJobs_17 : decode cL_areJobs 17 = .ok (.iconst 1, 1) := by decide +kernel
theorem dL_areJobs_18 : decode cL_areJobs 18 = .ok (.goto 4, 3) := by decide +kernel
theorem dL_areJobs_21 : decode cL_areJobs 21 = .ok (.iconst 0, 1) := by decide +kernel
theorem dL_areJobs_22 : decode cL_areJobs 22 = .ok (.istore 7, 2) := by decide +kernel
theorem dL_areJobs_24 : decode cL_areJobs 24 = .ok (.iconst 0, 1) := by decide +kernel
theorem dL_areJobs_25 : decode cL_areJobs 25 = .ok (.istore 8, 2) := by decide +kernel
theorem dL_areJobs_27 : decode cL_areJobs 27 = .ok (.iload 8, 2) := by decide +kernel
theorem dL_areJobs_29 : decode cL_areJobs 29 = .ok (.aload 5, 2) := by decide +kernel
theorem dL_areJobs_31 : decode cL_areJobs 31 = .ok (.bipush 10, 2) := by decide +kernel
theorem dL_areJobs_33 : decode cL_areJobs 33 = .ok (.iaload, 1) := by decide +kernel
theorem dL_areJobs_34 : decode cL_areJobs 34 = .ok (.if_icmp .ge 196, 3) := by decide +kernel
theorem dL_areJobs_37 : decode cL_areJobs 37 = .ok (.iload 7, 2) := by decide +kernel
theorem dL_areJobs_39 : decode cL_areJobs 39 = .ok (.ifCond .eq 191, 3) := by decide +kernel
theorem dL_areJobs_42 : decode cL_areJobs 42 = .ok (.iconst 0, 1) := by decide +kernel
theorem dL_areJobs_43 : decode cL_areJobs 43 = .ok (.istore 9, 2) := by decide +kernel
theorem dL_areJobs_45 : decode cL_areJobs 45 = .ok (.iload 9, 2) := by decide +kernel
theorem dL_areJobs_47 : decode cL_areJobs 47 = .ok (.iconst 4, 1) := by decide +kernel
theorem dL_areJobs_48 : decode cL_areJobs 48 = .ok (.if_icmp .ge 64, 3) := by decide +kernel
theorem dL_areJobs_51 : decode cL_areJobs 51 = .ok (.iload 7, 2) := by decide +kernel
theorem dL_areJobs_53 : decode cL_areJobs 53 = .ok (.ifCond .eq 50, 3) := by decide +kernel
theorem dL_areJobs_56 : decode cL_areJobs 56 = .ok (.aload_n 0, 1) := by decide +kernel
theorem dL_areJobs_57 : decode cL_areJobs 57 = .ok (.iload 8, 2) := by decide +kernel
theorem dL_areJobs_59 : decode cL_areJobs 59 = .ok (.iload 9, 2) := by decide +kernel
theorem dL_areJobs_61 : decode cL_areJobs 61 = .ok (.invokevirtual 55, 3) := by decide +kernel
theorem dL_areJobs_64 : decode cL_areJobs 64 = .ok (.aload_n 3, 1) := by decide +kernel
theorem dL_areJobs_65 : decode cL_areJobs 65 = .ok (.iconst 4, 1) := by decide +kernel
theorem dL_areJobs_66 : decode cL_areJobs 66 = .ok (.iload 8, 2) := by decide +kernel
theorem dL_areJobs_68 : decode cL_areJobs 68 = .ok (.imul, 1) := by decide +kernel
theorem dL_areJobs_69 : decode cL_areJobs 69 = .ok (.iload 9, 2) := by decide +kernel
theorem dL_areJobs_71 : decode cL_areJobs 71 = .ok (.iadd, 1) := by decide +kernel
theorem dL_areJobs_72 : decode cL_areJobs 72 = .ok (.iaload, 1) := by decide +kernel
theorem dL_areJobs_73 : decode cL_areJobs 73 = .ok (.if_icmp .ne 30, 3) := by decide +kernel
theorem dL_areJobs_76 : decode cL_areJobs 76 = .ok (.aload_n 0, 1) := by decide +kernel
theorem dL_areJobs_77 : decode cL_areJobs 77 = .ok (.iload 8, 2) := by decide +kernel
theorem dL_areJobs_79 : decode cL_areJobs 79 = .ok (.iload 9, 2) := by decide +kernel
theorem dL_areJobs_81 : decode cL_areJobs 81 = .ok (.iconst 4, 1) := by decide +kernel
theorem dL_areJobs_82 : decode cL_areJobs 82 = .ok (.iadd, 1) := by decide +kernel
theorem dL_areJobs_83 : decode cL_areJobs 83 = .ok (.invokevirtual 55, 3) := by decide +kernel
theorem dL_areJobs_86 : decode cL_areJobs 86 = .ok (.aload 4, 2) := by decide +kernel
theorem dL_areJobs_88 : decode cL_areJobs 88 = .ok (.iconst 4, 1) := by decide +kernel
theorem dL_areJobs_89 : decode cL_areJobs 89 = .ok (.iload 8, 2) := by decide +kernel
theorem dL_areJobs_91 : decode cL_areJobs 91 = .ok (.imul, 1) := by decide +kernel
theorem dL_areJobs_92 : decode cL_areJobs 92 = .ok (.iload 9, 2) := by decide +kernel
theorem dL_areJobs_94 : decode cL_areJobs 94 = .ok (.iadd, 1) := by decide +kernel
theorem dL_areJobs_95 : decode cL_areJobs 95 = .ok (.iaload, 1) := by decide +kernel
theorem dL_areJobs_96 : decode cL_areJobs 96 = .ok (.if_icmp .ne 7, 3) := by decide +kernel
theorem dL_areJobs_99 : decode cL_areJobs 99 = .ok (.iconst 1, 1) := by decide +kernel
theorem dL_areJobs_100 : decode cL_areJobs 100 = .ok (.goto 4, 3) := by decide +kernel
theorem dL_areJobs_103 : decode cL_areJobs 103 = .ok (.iconst 0, 1) := by decide +kernel
theorem dL_areJobs_104 : decode cL_areJobs 104 = .ok (.istore 7, 2) := by decide +kernel
theorem dL_areJobs_106 : decode cL_areJobs 106 = .ok (.iinc 9 1, 3) := by decide +kernel
theorem dL_areJobs_109 : decode cL_areJobs 109 = .ok (.goto (-64), 3) := by decide +kernel
theorem dL_areJobs_112 : decode cL_areJobs 112 = .ok (.iload 7, 2) := by decide +kernel
theorem dL_areJobs_114 : decode cL_areJobs 114 = .ok (.ifCond .eq 42, 3) := by decide +kernel
theorem dL_areJobs_117 : decode cL_areJobs 117 = .ok (.aload_n 0, 1) := by decide +kernel
theorem dL_areJobs_118 : decode cL_areJobs 118 = .ok (.iload 8, 2) := by decide +kernel
theorem dL_areJobs_120 : decode cL_areJobs 120 = .ok (.invokevirtual 58, 3) := by decide +kernel
theorem dL_areJobs_123 : decode cL_areJobs 123 = .ok (.aload 4, 2) := by decide +kernel
theorem dL_areJobs_125 : decode cL_areJobs 125 = .ok (.iconst 4, 1) := by decide +kernel
theorem dL_areJobs_126 : decode cL_areJobs 126 = .ok (.iload 8, 2) := by decide +kernel
theorem dL_areJobs_128 : decode cL_areJobs 128 = .ok (.imul, 1) := by decide +kernel
theorem dL_areJobs_129 : decode cL_areJobs 129 = .ok (.iaload, 1) := by decide +kernel
theorem dL_areJobs_130 : decode cL_areJobs 130 = .ok (.ifCond .ne 18, 3) := by decide +kernel
theorem dL_areJobs_133 : decode cL_areJobs 133 = .ok (.aload_n 1, 1) := by decide +kernel
theorem dL_areJobs_134 : decode cL_areJobs 134 = .ok (.aload_n 2, 1) := by decide +kernel
theorem dL_areJobs_135 : decode cL_areJobs 135 = .ok (.aload_n 3, 1) := by decide +kernel
theorem dL_areJobs_136 : decode cL_areJobs 136 = .ok (.iload 8, 2) := by decide +kernel
theorem dL_areJobs_138 : decode cL_areJobs 138 = .ok (.invokestatic 11, 3) := by decide +kernel
theorem dL_areJobs_141 : decode cL_areJobs 141 = .ok (.ifCond .ge 7, 3) := by decide +kernel
theorem dL_areJobs_144 : decode cL_areJobs 144 = .ok (.iconst 1, 1) := by decide +kernel
theorem dL_areJobs_145 : decode cL_areJobs 145 = .ok (.goto 4, 3) := by decide +kernel
theorem dL_areJobs_148 : decode cL_areJobs 148 = .ok (.iconst 0, 1) := by decide +kernel
theorem dL_areJobs_149 : decode cL_areJobs 149 = .ok (.if_icmp .ne 7, 3) := by decide +kernel
theorem dL_areJobs_152 : decode cL_areJobs 152 = .ok (.iconst 1, 1) := by decide +kernel
theorem dL_areJobs_153 : decode cL_areJobs 153 = .ok (.goto 4, 3) := by decide +kernel
theorem dL_areJobs_156 : decode cL_areJobs 156 = .ok (.iconst 0, 1) := by decide +kernel
theorem dL_areJobs_157 : decode cL_areJobs 157 = .ok (.istore 7, 2) := by decide +kernel
theorem dL_areJobs_159 : decode cL_areJobs 159 = .ok (.iconst 0, 1) := by decide +kernel
theorem dL_areJobs_160 : decode cL_areJobs 160 = .ok (.istore 9, 2) := by decide +kernel
theorem dL_areJobs_162 : decode cL_areJobs 162 = .ok (.iload 9, 2) := by decide +kernel
theorem dL_areJobs_164 : decode cL_areJobs 164 = .ok (.bipush 12, 2) := by decide +kernel
theorem dL_areJobs_166 : decode cL_areJobs 166 = .ok (.if_icmp .ge 44, 3) := by decide +kernel
theorem dL_areJobs_169 : decode cL_areJobs 169 = .ok (.iload 7, 2) := by decide +kernel
theorem dL_areJobs_171 : decode cL_areJobs 171 = .ok (.ifCond .eq 30, 3) := by decide +kernel
theorem dL_areJobs_174 : decode cL_areJobs 174 = .ok (.aload_n 0, 1) := by decide +kernel
theorem dL_areJobs_175 : decode cL_areJobs 175 = .ok (.iload 8, 2) := by decide +kernel
theorem dL_areJobs_177 : decode cL_areJobs 177 = .ok (.iload 9, 2) := by decide +kernel
theorem dL_areJobs_179 : decode cL_areJobs 179 = .ok (.invokevirtual 62, 3) := by decide +kernel
theorem dL_areJobs_182 : decode cL_areJobs 182 = .ok (.aload_n 1, 1) := by decide +kernel
theorem dL_areJobs_183 : decode cL_areJobs 183 = .ok (.aload_n 2, 1) := by decide +kernel
theorem dL_areJobs_184 : decode cL_areJobs 184 = .ok (.aload_n 3, 1) := by decide +kernel
theorem dL_areJobs_185 : decode cL_areJobs 185 = .ok (.aload 5, 2) := by decide +kernel
theorem dL_areJobs_187 : decode cL_areJobs 187 = .ok (.iload 8, 2) := by decide +kernel
theorem dL_areJobs_189 : decode cL_areJobs 189 = .ok (.iload 9, 2) := by decide +kernel
theorem dL_areJobs_191 : decode cL_areJobs 191 = .ok (.invokestatic 23, 3) := by decide +kernel
theorem dL_areJobs_194 : decode cL_areJobs 194 = .ok (.if_icmp .ne 7, 3) := by decide +kernel
theorem dL_areJobs_197 : decode cL_areJobs 197 = .ok (.iconst 1, 1) := by decide +kernel
theorem dL_areJobs_198 : decode cL_areJobs 198 = .ok (.goto 4, 3) := by decide +kernel
theorem dL_areJobs_201 : decode cL_areJobs 201 = .ok (.iconst 0, 1) := by decide +kernel
theorem dL_areJobs_202 : decode cL_areJobs 202 = .ok (.istore 7, 2) := by decide +kernel
theorem dL_areJobs_204 : decode cL_areJobs 204 = .ok (.iinc 9 1, 3) := by decide +kernel
theorem dL_areJobs_207 : decode cL_areJobs 207 = .ok (.goto (-45), 3) := by decide +kernel
theorem dL_areJobs_210 : decode cL_areJobs 210 = .ok (.aload 6, 2) := by decide +kernel
theorem dL_areJobs_212 : decode cL_areJobs 212 = .ok (.aload 4, 2) := by decide +kernel
theorem dL_areJobs_214 : decode cL_areJobs 214 = .ok (.iconst 4, 1) := by decide +kernel
theorem dL_areJobs_215 : decode cL_areJobs 215 = .ok (.iload 8, 2) := by decide +kernel
theorem dL_areJobs_217 : decode cL_areJobs 217 = .ok (.imul, 1) := by decide +kernel
theorem dL_areJobs_218 : decode cL_areJobs 218 = .ok (.iaload, 1) := by decide +kernel
theorem dL_areJobs_219 : decode cL_areJobs 219 = .ok (.dup2, 1) := by decide +kernel
theorem dL_areJobs_220 : decode cL_areJobs 220 = .ok (.iaload, 1) := by decide +kernel
theorem dL_areJobs_221 : decode cL_areJobs 221 = .ok (.iconst 1, 1) := by decide +kernel
theorem dL_areJobs_222 : decode cL_areJobs 222 = .ok (.iadd, 1) := by decide +kernel
theorem dL_areJobs_223 : decode cL_areJobs 223 = .ok (.iastore, 1) := by decide +kernel
theorem dL_areJobs_224 : decode cL_areJobs 224 = .ok (.iinc 8 1, 3) := by decide +kernel
theorem dL_areJobs_227 : decode cL_areJobs 227 = .ok (.goto (-200), 3) := by decide +kernel
theorem dL_areJobs_230 : decode cL_areJobs 230 = .ok (.aload_n 1, 1) := by decide +kernel
theorem dL_areJobs_231 : decode cL_areJobs 231 = .ok (.aload_n 2, 1) := by decide +kernel
theorem dL_areJobs_232 : decode cL_areJobs 232 = .ok (.aload_n 3, 1) := by decide +kernel
theorem dL_areJobs_233 : decode cL_areJobs 233 = .ok (.aload 4, 2) := by decide +kernel
theorem dL_areJobs_235 : decode cL_areJobs 235 = .ok (.aload 5, 2) := by decide +kernel
theorem dL_areJobs_237 : decode cL_areJobs 237 = .ok (.invokestatic 26, 3) := by decide +kernel
theorem dL_areJobs_240 : decode cL_areJobs 240 = .ok (.istore 8, 2) := by decide +kernel
theorem dL_areJobs_242 : decode cL_areJobs 242 = .ok (.iload 7, 2) := by decide +kernel
theorem dL_areJobs_244 : decode cL_areJobs 244 = .ok (.ifCond .eq 48, 3) := by decide +kernel
theorem dL_areJobs_247 : decode cL_areJobs 247 = .ok (.aload_n 0, 1) := by decide +kernel
theorem dL_areJobs_248 : decode cL_areJobs 248 = .ok (.invokevirtual 65, 3) := by decide +kernel
theorem dL_areJobs_251 : decode cL_areJobs 251 = .ok (.iload 8, 2) := by decide +kernel
theorem dL_areJobs_253 : decode cL_areJobs 253 = .ok (.if_icmp .ne 39, 3) := by decide +kernel
theorem dL_areJobs_256 : decode cL_areJobs 256 = .ok (.aload_n 0, 1) := by decide +kernel
theorem dL_areJobs_257 : decode cL_areJobs 257 = .ok (.invokevirtual 68, 3) := by decide +kernel
theorem dL_areJobs_260 : decode cL_areJobs 260 = .ok (.iload 8, 2) := by decide +kernel
theorem dL_areJobs_262 : decode cL_areJobs 262 = .ok (.ifCond .ge 7, 3) := by decide +kernel
theorem dL_areJobs_265 : decode cL_areJobs 265 = .ok (.iconst (-1), 1) := by decide +kernel
theorem dL_areJobs_266 : decode cL_areJobs 266 = .ok (.goto 19, 3) := by decide +kernel
theorem dL_areJobs_269 : decode cL_areJobs 269 = .ok (.aload_n 1, 1) := by decide +kernel
theorem dL_areJobs_270 : decode cL_areJobs 270 = .ok (.aload_n 2, 1) := by decide +kernel
theorem dL_areJobs_271 : decode cL_areJobs 271 = .ok (.aload_n 3, 1) := by decide +kernel
theorem dL_areJobs_272 : decode cL_areJobs 272 = .ok (.aload 5, 2) := by decide +kernel
theorem dL_areJobs_274 : decode cL_areJobs 274 = .ok (.iload 8, 2) := by decide +kernel
theorem dL_areJobs_276 : decode cL_areJobs 276 = .ok (.aload 5, 2) := by decide +kernel
theorem dL_areJobs_278 : decode cL_areJobs 278 = .ok (.iconst 2, 1) := by decide +kernel
theorem dL_areJobs_279 : decode cL_areJobs 279 = .ok (.iaload, 1) := by decide +kernel
theorem dL_areJobs_280 : decode cL_areJobs 280 = .ok (.iconst 1, 1) := by decide +kernel
theorem dL_areJobs_281 : decode cL_areJobs 281 = .ok (.iadd, 1) := by decide +kernel
theorem dL_areJobs_282 : decode cL_areJobs 282 = .ok (.invokestatic 19, 3) := by decide +kernel
theorem dL_areJobs_285 : decode cL_areJobs 285 = .ok (.if_icmp .ne 7, 3) := by decide +kernel
theorem dL_areJobs_288 : decode cL_areJobs 288 = .ok (.iconst 1, 1) := by decide +kernel
theorem dL_areJobs_289 : decode cL_areJobs 289 = .ok (.goto 4, 3) := by decide +kernel
theorem dL_areJobs_292 : decode cL_areJobs 292 = .ok (.iconst 0, 1) := by decide +kernel
theorem dL_areJobs_293 : decode cL_areJobs 293 = .ok (.istore 7, 2) := by decide +kernel
theorem dL_areJobs_295 : decode cL_areJobs 295 = .ok (.iconst 0, 1) := by decide +kernel
theorem dL_areJobs_296 : decode cL_areJobs 296 = .ok (.istore 9, 2) := by decide +kernel
theorem dL_areJobs_298 : decode cL_areJobs 298 = .ok (.iload 9, 2) := by decide +kernel
theorem dL_areJobs_300 : decode cL_areJobs 300 = .ok (.bipush 8, 2) := by decide +kernel
theorem dL_areJobs_302 : decode cL_areJobs 302 = .ok (.if_icmp .ge 35, 3) := by decide +kernel
theorem dL_areJobs_305 : decode cL_areJobs 305 = .ok (.iload 7, 2) := by decide +kernel
theorem dL_areJobs_307 : decode cL_areJobs 307 = .ok (.ifCond .eq 21, 3) := by decide +kernel
theorem dL_areJobs_310 : decode cL_areJobs 310 = .ok (.aload_n 0, 1) := by decide +kernel
theorem dL_areJobs_311 : decode cL_areJobs 311 = .ok (.iload 9, 2) := by decide +kernel
theorem dL_areJobs_313 : decode cL_areJobs 313 = .ok (.invokevirtual 71, 3) := by decide +kernel
theorem dL_areJobs_316 : decode cL_areJobs 316 = .ok (.aload 5, 2) := by decide +kernel
theorem dL_areJobs_318 : decode cL_areJobs 318 = .ok (.iload 9, 2) := by decide +kernel
theorem dL_areJobs_320 : decode cL_areJobs 320 = .ok (.iaload, 1) := by decide +kernel
theorem dL_areJobs_321 : decode cL_areJobs 321 = .ok (.if_icmp .ne 7, 3) := by decide +kernel
theorem dL_areJobs_324 : decode cL_areJobs 324 = .ok (.iconst 1, 1) := by decide +kernel
theorem dL_areJobs_325 : decode cL_areJobs 325 = .ok (.goto 4, 3) := by decide +kernel
theorem dL_areJobs_328 : decode cL_areJobs 328 = .ok (.iconst 0, 1) := by decide +kernel
theorem dL_areJobs_329 : decode cL_areJobs 329 = .ok (.istore 7, 2) := by decide +kernel
theorem dL_areJobs_331 : decode cL_areJobs 331 = .ok (.iinc 9 1, 3) := by decide +kernel
theorem dL_areJobs_334 : decode cL_areJobs 334 = .ok (.goto (-36), 3) := by decide +kernel
theorem dL_areJobs_337 : decode cL_areJobs 337 = .ok (.iload 7, 2) := by decide +kernel
theorem dL_areJobs_339 : decode cL_areJobs 339 = .ok (.ifCond .eq 81, 3) := by decide +kernel
theorem dL_areJobs_342 : decode cL_areJobs 342 = .ok (.aload_n 0, 1) := by decide +kernel
theorem dL_areJobs_343 : decode cL_areJobs 343 = .ok (.bipush 8, 2) := by decide +kernel
theorem dL_areJobs_345 : decode cL_areJobs 345 = .ok (.invokevirtual 71, 3) := by decide +kernel
theorem dL_areJobs_348 : decode cL_areJobs 348 = .ok (.aload 6, 2) := by decide +kernel
theorem dL_areJobs_350 : decode cL_areJobs 350 = .ok (.iconst 0, 1) := by decide +kernel
theorem dL_areJobs_351 : decode cL_areJobs 351 = .ok (.iaload, 1) := by decide +kernel
theorem dL_areJobs_352 : decode cL_areJobs 352 = .ok (.if_icmp .ne 68, 3) := by decide +kernel
theorem dL_areJobs_355 : decode cL_areJobs 355 = .ok (.aload_n 0, 1) := by decide +kernel
theorem dL_areJobs_356 : decode cL_areJobs 356 = .ok (.bipush 9, 2) := by decide +kernel
theorem dL_areJobs_358 : decode cL_areJobs 358 = .ok (.invokevirtual 71, 3) := by decide +kernel
theorem dL_areJobs_361 : decode cL_areJobs 361 = .ok (.aload 6, 2) := by decide +kernel
theorem dL_areJobs_363 : decode cL_areJobs 363 = .ok (.iconst 1, 1) := by decide +kernel
theorem dL_areJobs_364 : decode cL_areJobs 364 = .ok (.iaload, 1) := by decide +kernel
theorem dL_areJobs_365 : decode cL_areJobs 365 = .ok (.if_icmp .ne 55, 3) := by decide +kernel
theorem dL_areJobs_368 : decode cL_areJobs 368 = .ok (.aload_n 0, 1) := by decide +kernel
theorem dL_areJobs_369 : decode cL_areJobs 369 = .ok (.bipush 10, 2) := by decide +kernel
theorem dL_areJobs_371 : decode cL_areJobs 371 = .ok (.invokevirtual 71, 3) := by decide +kernel
theorem dL_areJobs_374 : decode cL_areJobs 374 = .ok (.aload 6, 2) := by decide +kernel
theorem dL_areJobs_376 : decode cL_areJobs 376 = .ok (.iconst 2, 1) := by decide +kernel
theorem dL_areJobs_377 : decode cL_areJobs 377 = .ok (.iaload, 1) := by decide +kernel
theorem dL_areJobs_378 : decode cL_areJobs 378 = .ok (.if_icmp .ne 42, 3) := by decide +kernel
theorem dL_areJobs_381 : decode cL_areJobs 381 = .ok (.aload_n 0, 1) := by decide +kernel
theorem dL_areJobs_382 : decode cL_areJobs 382 = .ok (.invokevirtual 74, 3) := by decide +kernel
theorem dL_areJobs_385 : decode cL_areJobs 385 = .ok (.aload 5, 2) := by decide +kernel
theorem dL_areJobs_387 : decode cL_areJobs 387 = .ok (.iconst 2, 1) := by decide +kernel
theorem dL_areJobs_388 : decode cL_areJobs 388 = .ok (.iaload, 1) := by decide +kernel
theorem dL_areJobs_389 : decode cL_areJobs 389 = .ok (.ifCond .ne 7, 3) := by decide +kernel
theorem dL_areJobs_392 : decode cL_areJobs 392 = .ok (.dconst 1, 1) := by decide +kernel
theorem dL_areJobs_393 : decode cL_areJobs 393 = .ok (.goto 19, 3) := by decide +kernel
theorem dL_areJobs_396 : decode cL_areJobs 396 = .ok (.aload 5, 2) := by decide +kernel
theorem dL_areJobs_398 : decode cL_areJobs 398 = .ok (.iconst 2, 1) := by decide +kernel
theorem dL_areJobs_399 : decode cL_areJobs 399 = .ok (.iaload, 1) := by decide +kernel
theorem dL_areJobs_400 : decode cL_areJobs 400 = .ok (.aload 5, 2) := by decide +kernel
theorem dL_areJobs_402 : decode cL_areJobs 402 = .ok (.iconst 4, 1) := by decide +kernel
theorem dL_areJobs_403 : decode cL_areJobs 403 = .ok (.iaload, 1) := by decide +kernel
theorem dL_areJobs_404 : decode cL_areJobs 404 = .ok (.isub, 1) := by decide +kernel
theorem dL_areJobs_405 : decode cL_areJobs 405 = .ok (.i2d, 1) := by decide +kernel
theorem dL_areJobs_406 : decode cL_areJobs 406 = .ok (.aload 5, 2) := by decide +kernel
theorem dL_areJobs_408 : decode cL_areJobs 408 = .ok (.iconst 2, 1) := by decide +kernel
theorem dL_areJobs_409 : decode cL_areJobs 409 = .ok (.iaload, 1) := by decide +kernel
theorem dL_areJobs_410 : decode cL_areJobs 410 = .ok (.i2d, 1) := by decide +kernel
theorem dL_areJobs_411 : decode cL_areJobs 411 = .ok (.ddiv, 1) := by decide +kernel
theorem dL_areJobs_412 : decode cL_areJobs 412 = .ok (.dcmp .l, 1) := by decide +kernel
theorem dL_areJobs_413 : decode cL_areJobs 413 = .ok (.ifCond .ne 7, 3) := by decide +kernel
theorem dL_areJobs_416 : decode cL_areJobs 416 = .ok (.iconst 1, 1) := by decide +kernel
theorem dL_areJobs_417 : decode cL_areJobs 417 = .ok (.goto 4, 3) := by decide +kernel
theorem dL_areJobs_420 : decode cL_areJobs 420 = .ok (.iconst 0, 1) := by decide +kernel
theorem dL_areJobs_421 : decode cL_areJobs 421 = .ok (.ireturn, 1) := by decide +kernel
theorem dL_copy_0 : decode cL_copy 0 = .ok (.iconst 0, 1) := by decide +kernel
theorem dL_copy_1 : decode cL_copy 1 = .ok (.istore_n 2, 1) := by decide +kernel
theorem dL_copy_2 : decode cL_copy 2 = .ok (.iload_n 2, 1) := by decide +kernel
theorem dL_copy_3 : decode cL_copy 3 = .ok (.aload_n 0, 1) := by decide +kernel
theorem dL_copy_4 : decode cL_copy 4 = .ok (.arraylength, 1) := by decide +kernel
theorem dL_copy_5 : decode cL_copy 5 = .ok (.if_icmp .ge 15, 3) := by decide +kernel
theorem dL_copy_8 : decode cL_copy 8 = .ok (.aload_n 1, 1) := by decide +kernel
theorem dL_copy_9 : decode cL_copy 9 = .ok (.iload_n 2, 1) := by decide +kernel
theorem dL_copy_10 : decode cL_copy 10 = .ok (.aload_n 0, 1) := by decide +kernel
theorem dL_copy_11 : decode cL_copy 11 = .ok (.iload_n 2, 1) := by decide +kernel
theorem dL_copy_12 : decode cL_copy 12 = .ok (.iaload, 1) := by decide +kernel
theorem dL_copy_13 : decode cL_copy 13 = .ok (.iastore, 1) := by decide +kernel
theorem dL_copy_14 : decode cL_copy 14 = .ok (.iinc 2 1, 3) := by decide +kernel
theorem dL_copy_17 : decode cL_copy 17 = .ok (.goto (-15), 3) := by decide +kernel
theorem dL_copy_20 : decode cL_copy 20 = .ok (.return_, 1) := by decide +kernel
theorem dL_would_0 : decode cL_would 0 = .ok (.bipush 36, 2) := by decide +kernel
theorem dL_would_2 : decode cL_would 2 = .ok (.newarray .int, 2) := by decide +kernel
theorem dL_would_4 : decode cL_would 4 = .ok (.astore 6, 2) := by decide +kernel
theorem dL_would_6 : decode cL_would 6 = .ok (.bipush 36, 2) := by decide +kernel
theorem dL_would_8 : decode cL_would 8 = .ok (.newarray .int, 2) := by decide +kernel
theorem dL_would_10 : decode cL_would 10 = .ok (.astore 7, 2) := by decide +kernel
theorem dL_would_12 : decode cL_would 12 = .ok (.bipush 48, 2) := by decide +kernel
theorem dL_would_14 : decode cL_would 14 = .ok (.newarray .int, 2) := by decide +kernel
theorem dL_would_16 : decode cL_would 16 = .ok (.astore 8, 2) := by decide +kernel
theorem dL_would_18 : decode cL_would 18 = .ok (.bipush 11, 2) := by decide +kernel
theorem dL_would_20 : decode cL_would 20 = .ok (.newarray .int, 2) := by decide +kernel
theorem dL_would_22 : decode cL_would 22 = .ok (.astore 9, 2) := by decide +kernel
theorem dL_would_24 : decode cL_would 24 = .ok (.bipush 12, 2) := by decide +kernel
theorem dL_would_26 : decode cL_would 26 = .ok (.newarray .int, 2) := by decide +kernel
theorem dL_would_28 : decode cL_would 28 = .ok (.astore 10, 2) := by decide +kernel
theorem dL_would_30 : decode cL_would 30 = .ok (.aload_n 1, 1) := by decide +kernel
theorem dL_would_31 : decode cL_would 31 = .ok (.aload 6, 2) := by decide +kernel
theorem dL_would_33 : decode cL_would 33 = .ok (.invokestatic 78, 3) := by decide +kernel
theorem dL_would_36 : decode cL_would 36 = .ok (.aload_n 2, 1) := by decide +kernel
theorem dL_would_37 : decode cL_would 37 = .ok (.aload 7, 2) := by decide +kernel
theorem dL_would_39 : decode cL_would 39 = .ok (.invokestatic 78, 3) := by decide +kernel
theorem dL_would_42 : decode cL_would 42 = .ok (.aload 4, 2) := by decide +kernel
theorem dL_would_44 : decode cL_would 44 = .ok (.aload 8, 2) := by decide +kernel
theorem dL_would_46 : decode cL_would 46 = .ok (.invokestatic 78, 3) := by decide +kernel
theorem dL_would_49 : decode cL_would 49 = .ok (.aload 5, 2) := by decide +kernel
theorem dL_would_51 : decode cL_would 51 = .ok (.aload 9, 2) := by decide +kernel
theorem dL_would_53 : decode cL_would 53 = .ok (.invokestatic 78, 3) := by decide +kernel
theorem dL_would_56 : decode cL_would 56 = .ok (.iconst 0, 1) := by decide +kernel
theorem dL_would_57 : decode cL_would 57 = .ok (.istore 11, 2) := by decide +kernel
theorem dL_would_59 : decode cL_would 59 = .ok (.iload 11, 2) := by decide +kernel
theorem dL_would_61 : decode cL_would 61 = .ok (.aload 5, 2) := by decide +kernel
theorem dL_would_63 : decode cL_would 63 = .ok (.bipush 10, 2) := by decide +kernel
theorem dL_would_65 : decode cL_would 65 = .ok (.iaload, 1) := by decide +kernel
theorem dL_would_66 : decode cL_would 66 = .ok (.if_icmp .ge 30, 3) := by decide +kernel
theorem dL_would_69 : decode cL_would 69 = .ok (.aload 10, 2) := by decide +kernel
theorem dL_would_71 : decode cL_would 71 = .ok (.iload 11, 2) := by decide +kernel
theorem dL_would_73 : decode cL_would 73 = .ok (.aload 4, 2) := by decide +kernel
theorem dL_would_75 : decode cL_would 75 = .ok (.iconst 4, 1) := by decide +kernel
theorem dL_would_76 : decode cL_would 76 = .ok (.iload 11, 2) := by decide +kernel
theorem dL_would_78 : decode cL_would 78 = .ok (.imul, 1) := by decide +kernel
theorem dL_would_79 : decode cL_would 79 = .ok (.iaload, 1) := by decide +kernel
theorem dL_would_80 : decode cL_would 80 = .ok (.iconst 2, 1) := by decide +kernel
theorem dL_would_81 : decode cL_would 81 = .ok (.if_icmp .ne 7, 3) := by decide +kernel
theorem dL_would_84 : decode cL_would 84 = .ok (.iconst 0, 1) := by decide +kernel
theorem dL_would_85 : decode cL_would 85 = .ok (.goto 4, 3) := by decide +kernel
theorem dL_would_88 : decode cL_would 88 = .ok (.iconst (-1), 1) := by decide +kernel
theorem dL_would_89 : decode cL_would 89 = .ok (.iastore, 1) := by decide +kernel
theorem dL_would_90 : decode cL_would 90 = .ok (.iinc 11 1, 3) := by decide +kernel
theorem dL_would_93 : decode cL_would 93 = .ok (.goto (-34), 3) := by decide +kernel
theorem dL_would_96 : decode cL_would 96 = .ok (.iconst 1, 1) := by decide +kernel
theorem dL_would_97 : decode cL_would 97 = .ok (.istore 11, 2) := by decide +kernel
theorem dL_would_99 : decode cL_would 99 = .ok (.iload 11, 2) := by decide +kernel
theorem dL_would_101 : decode cL_would 101 = .ok (.sipush 300, 3) := by decide +kernel
theorem dL_would_104 : decode cL_would 104 = .ok (.if_icmp .gt 76, 3) := by decide +kernel
theorem dL_would_107 : decode cL_would 107 = .ok (.aload 6, 2) := by decide +kernel
theorem dL_would_109 : decode cL_would 109 = .ok (.aload 7, 2) := by decide +kernel
theorem dL_would_111 : decode cL_would 111 = .ok (.aload_n 3, 1) := by decide +kernel
theorem dL_would_112 : decode cL_would 112 = .ok (.aload 8, 2) := by decide +kernel
theorem dL_would_114 : decode cL_would 114 = .ok (.aload 9, 2) := by decide +kernel
theorem dL_would_116 : decode cL_would 116 = .ok (.invokestatic 82, 3) := by decide +kernel
theorem dL_would_119 : decode cL_would 119 = .ok (.istore 12, 2) := by decide +kernel
theorem dL_would_121 : decode cL_would 121 = .ok (.iconst 0, 1) := by decide +kernel
theorem dL_would_122 : decode cL_would 122 = .ok (.istore 13, 2) := by decide +kernel
theorem dL_would_124 : decode cL_would 124 = .ok (.iload 13, 2) := by decide +kernel
theorem dL_would_126 : decode cL_would 126 = .ok (.aload 5, 2) := by decide +kernel
theorem dL_would_128 : decode cL_would 128 = .ok (.bipush 10, 2) := by decide +kernel
theorem dL_would_130 : decode cL_would 130 = .ok (.iaload, 1) := by decide +kernel
theorem dL_would_131 : decode cL_would 131 = .ok (.if_icmp .ge 43, 3) := by decide +kernel
theorem dL_would_134 : decode cL_would 134 = .ok (.aload 10, 2) := by decide +kernel
theorem dL_would_136 : decode cL_would 136 = .ok (.iload 13, 2) := by decide +kernel
theorem dL_would_138 : decode cL_would 138 = .ok (.aload 10, 2) := by decide +kernel
theorem dL_would_140 : decode cL_would 140 = .ok (.iload 13, 2) := by decide +kernel
theorem dL_would_142 : decode cL_would 142 = .ok (.iaload, 1) := by decide +kernel
theorem dL_would_143 : decode cL_would 143 = .ok (.ifCond .ge 19, 3) := by decide +kernel
theorem dL_would_146 : decode cL_would 146 = .ok (.aload 8, 2) := by decide +kernel
theorem dL_would_148 : decode cL_would 148 = .ok (.iconst 4, 1) := by decide +kernel
theorem dL_would_149 : decode cL_would 149 = .ok (.iload 13, 2) := by decide +kernel
theorem dL_would_151 : decode cL_would 151 = .ok (.imul, 1) := by decide +kernel
theorem dL_would_152 : decode cL_would 152 = .ok (.iaload, 1) := by decide +kernel
theorem dL_would_153 : decode cL_would 153 = .ok (.iconst 2, 1) := by decide +kernel
theorem dL_would_154 : decode cL_would 154 = .ok (.if_icmp .ne 8, 3) := by decide +kernel
theorem dL_would_157 : decode cL_would 157 = .ok (.iload 11, 2) := by decide +kernel
theorem dL_would_159 : decode cL_would 159 = .ok (.goto 8, 3) := by decide +kernel
theorem dL_would_162 : decode cL_would 162 = .ok (.aload 10, 2) := by decide +kernel
theorem dL_would_164 : decode cL_would 164 = .ok (.iload 13, 2) := by decide +kernel
theorem dL_would_166 : decode cL_would 166 = .ok (.iaload, 1) := by decide +kernel
theorem dL_would_167 : decode cL_would 167 = .ok (.iastore, 1) := by decide +kernel
theorem dL_would_168 : decode cL_would 168 = .ok (.iinc 13 1, 3) := by decide +kernel
theorem dL_would_171 : decode cL_would 171 = .ok (.goto (-47), 3) := by decide +kernel
theorem dL_would_174 : decode cL_would 174 = .ok (.iinc 11 1, 3) := by decide +kernel
theorem dL_would_177 : decode cL_would 177 = .ok (.goto (-78), 3) := by decide +kernel
theorem dL_would_180 : decode cL_would 180 = .ok (.iconst 1, 1) := by decide +kernel
theorem dL_would_181 : decode cL_would 181 = .ok (.istore 11, 2) := by decide +kernel
theorem dL_would_183 : decode cL_would 183 = .ok (.iconst 0, 1) := by decide +kernel
theorem dL_would_184 : decode cL_would 184 = .ok (.istore 12, 2) := by decide +kernel
theorem dL_would_186 : decode cL_would 186 = .ok (.iload 12, 2) := by decide +kernel
theorem dL_would_188 : decode cL_would 188 = .ok (.aload 5, 2) := by decide +kernel
theorem dL_would_190 : decode cL_would 190 = .ok (.bipush 10, 2) := by decide +kernel
theorem dL_would_192 : decode cL_would 192 = .ok (.iaload, 1) := by decide +kernel
theorem dL_would_193 : decode cL_would 193 = .ok (.if_icmp .ge 35, 3) := by decide +kernel
theorem dL_would_196 : decode cL_would 196 = .ok (.iload 11, 2) := by decide +kernel
theorem dL_would_198 : decode cL_would 198 = .ok (.ifCond .eq 21, 3) := by decide +kernel
theorem dL_would_201 : decode cL_would 201 = .ok (.aload_n 0, 1) := by decide +kernel
theorem dL_would_202 : decode cL_would 202 = .ok (.iload 12, 2) := by decide +kernel
theorem dL_would_204 : decode cL_would 204 = .ok (.invokevirtual 85, 3) := by decide +kernel
theorem dL_would_207 : decode cL_would 207 = .ok (.aload 10, 2) := by decide +kernel
theorem dL_would_209 : decode cL_would 209 = .ok (.iload 12, 2) := by decide +kernel
theorem dL_would_211 : decode cL_would 211 = .ok (.iaload, 1) := by decide +kernel
theorem dL_would_212 : decode cL_would 212 = .ok (.if_icmp .ne 7, 3) := by decide +kernel
theorem dL_would_215 : decode cL_would 215 = .ok (.iconst 1, 1) := by decide +kernel
theorem dL_would_216 : decode cL_would 216 = .ok (.goto 4, 3) := by decide +kernel
theorem dL_would_219 : decode cL_would 219 = .ok (.iconst 0, 1) := by decide +kernel
theorem dL_would_220 : decode cL_would 220 = .ok (.istore 11, 2) := by decide +kernel
theorem dL_would_222 : decode cL_would 222 = .ok (.iinc 12 1, 3) := by decide +kernel
theorem dL_would_225 : decode cL_would 225 = .ok (.goto (-39), 3) := by decide +kernel
theorem dL_would_228 : decode cL_would 228 = .ok (.iload 11, 2) := by decide +kernel
theorem dL_would_230 : decode cL_would 230 = .ok (.ireturn, 1) := by decide +kernel
theorem dL_refused_0 : decode cL_refused 0 = .ok (.iconst 0, 1) := by decide +kernel
theorem dL_refused_1 : decode cL_refused 1 = .ok (.istore 6, 2) := by decide +kernel
theorem dL_refused_3 : decode cL_refused 3 = .ok (.iconst 0, 1) := by decide +kernel
theorem dL_refused_4 : decode cL_refused 4 = .ok (.istore 7, 2) := by decide +kernel
theorem dL_refused_6 : decode cL_refused 6 = .ok (.iload 7, 2) := by decide +kernel
theorem dL_refused_8 : decode cL_refused 8 = .ok (.bipush 12, 2) := by decide +kernel
theorem dL_refused_10 : decode cL_refused 10 = .ok (.if_icmp .ge 44, 3) := by decide +kernel
theorem dL_refused_13 : decode cL_refused 13 = .ok (.iload 6, 2) := by decide +kernel
theorem dL_refused_15 : decode cL_refused 15 = .ok (.ifCond .ne 26, 3) := by decide +kernel
theorem dL_refused_18 : decode cL_refused 18 = .ok (.aload_n 0, 1) := by decide +kernel
theorem dL_refused_19 : decode cL_refused 19 = .ok (.iconst 3, 1) := by decide +kernel
theorem dL_refused_20 : decode cL_refused 20 = .ok (.iload 7, 2) := by decide +kernel
theorem dL_refused_22 : decode cL_refused 22 = .ok (.imul, 1) := by decide +kernel
theorem dL_refused_23 : decode cL_refused 23 = .ok (.iaload, 1) := by decide +kernel
theorem dL_refused_24 : decode cL_refused 24 = .ok (.iload 5, 2) := by decide +kernel
theorem dL_refused_26 : decode cL_refused 26 = .ok (.if_icmp .ne 19, 3) := by decide +kernel
theorem dL_refused_29 : decode cL_refused 29 = .ok (.aload_n 0, 1) := by decide +kernel
theorem dL_refused_30 : decode cL_refused 30 = .ok (.aload_n 1, 1) := by decide +kernel
theorem dL_refused_31 : decode cL_refused 31 = .ok (.aload 4, 2) := by decide +kernel
theorem dL_refused_33 : decode cL_refused 33 = .ok (.iload 7, 2) := by decide +kernel
theorem dL_refused_35 : decode cL_refused 35 = .ok (.invokestatic 15, 3) := by decide +kernel
theorem dL_refused_38 : decode cL_refused 38 = .ok (.ifCond .ne 7, 3) := by decide +kernel
theorem dL_refused_41 : decode cL_refused 41 = .ok (.iconst 1, 1) := by decide +kernel
theorem dL_refused_42 : decode cL_refused 42 = .ok (.goto 4, 3) := by decide +kernel
theorem dL_refused_45 : decode cL_refused 45 = .ok (.iconst 0, 1) := by decide +kernel
theorem dL_refused_46 : decode cL_refused 46 = .ok (.istore 6, 2) := by decide +kernel
theorem dL_refused_48 : decode cL_refused 48 = .ok (.iinc 7 1, 3) := by decide +kernel
theorem dL_refused_51 : decode cL_refused 51 = .ok (.goto (-45), 3) := by decide +kernel
theorem dL_refused_54 : decode cL_refused 54 = .ok (.iconst 0, 1) := by decide +kernel
theorem dL_refused_55 : decode cL_refused 55 = .ok (.istore 7, 2) := by decide +kernel
theorem dL_refused_57 : decode cL_refused 57 = .ok (.iload 7, 2) := by decide +kernel
theorem dL_refused_59 : decode cL_refused 59 = .ok (.aload 4, 2) := by decide +kernel
theorem dL_refused_61 : decode cL_refused 61 = .ok (.bipush 10, 2) := by decide +kernel
theorem dL_refused_63 : decode cL_refused 63 = .ok (.iaload, 1) := by decide +kernel
theorem dL_refused_64 : decode cL_refused 64 = .ok (.if_icmp .ge 53, 3) := by decide +kernel
theorem dL_refused_67 : decode cL_refused 67 = .ok (.iload 6, 2) := by decide +kernel
theorem dL_refused_69 : decode cL_refused 69 = .ok (.ifCond .ne 35, 3) := by decide +kernel
theorem dL_refused_72 : decode cL_refused 72 = .ok (.aload_n 2, 1) := by decide +kernel
theorem dL_refused_73 : decode cL_refused 73 = .ok (.iconst 4, 1) := by decide +kernel
theorem dL_refused_74 : decode cL_refused 74 = .ok (.iload 7, 2) := by decide +kernel
theorem dL_refused_76 : decode cL_refused 76 = .ok (.imul, 1) := by decide +kernel
theorem dL_refused_77 : decode cL_refused 77 = .ok (.iaload, 1) := by decide +kernel
theorem dL_refused_78 : decode cL_refused 78 = .ok (.iconst 2, 1) := by decide +kernel
theorem dL_refused_79 : decode cL_refused 79 = .ok (.if_icmp .ne 29, 3) := by decide +kernel
theorem dL_refused_82 : decode cL_refused 82 = .ok (.aload_n 2, 1) := by decide +kernel
theorem dL_refused_83 : decode cL_refused 83 = .ok (.iconst 4, 1) := by decide +kernel
theorem dL_refused_84 : decode cL_refused 84 = .ok (.iload 7, 2) := by decide +kernel
theorem dL_refused_86 : decode cL_refused 86 = .ok (.imul, 1) := by decide +kernel
theorem dL_refused_87 : decode cL_refused 87 = .ok (.iconst 1, 1) := by decide +kernel
theorem dL_refused_88 : decode cL_refused 88 = .ok (.iadd, 1) := by decide +kernel
theorem dL_refused_89 : decode cL_refused 89 = .ok (.iaload, 1) := by decide +kernel
theorem dL_refused_90 : decode cL_refused 90 = .ok (.iload 5, 2) := by decide +kernel
theorem dL_refused_92 : decode cL_refused 92 = .ok (.if_icmp .ne 16, 3) := by decide +kernel
theorem dL_refused_95 : decode cL_refused 95 = .ok (.aload_n 3, 1) := by decide +kernel
theorem dL_refused_96 : decode cL_refused 96 = .ok (.iconst 4, 1) := by decide +kernel
theorem dL_refused_97 : decode cL_refused 97 = .ok (.iload 7, 2) := by decide +kernel
theorem dL_refused_99 : decode cL_refused 99 = .ok (.imul, 1) := by decide +kernel
theorem dL_refused_100 : decode cL_refused 100 = .ok (.iaload, 1) := by decide +kernel
theorem dL_refused_101 : decode cL_refused 101 = .ok (.ifCond .ne 7, 3) := by decide +kernel
theorem dL_refused_104 : decode cL_refused 104 = .ok (.iconst 1, 1) := by decide +kernel
theorem dL_refused_105 : decode cL_refused 105 = .ok (.goto 4, 3) := by decide +kernel
theorem dL_refused_108 : decode cL_refused 108 = .ok (.iconst 0, 1) := by decide +kernel
theorem dL_refused_109 : decode cL_refused 109 = .ok (.istore 6, 2) := by decide +kernel
theorem dL_refused_111 : decode cL_refused 111 = .ok (.iinc 7 1, 3) := by decide +kernel
theorem dL_refused_114 : decode cL_refused 114 = .ok (.goto (-57), 3) := by decide +kernel
theorem dL_refused_117 : decode cL_refused 117 = .ok (.iload 6, 2) := by decide +kernel
theorem dL_refused_119 : decode cL_refused 119 = .ok (.ireturn, 1) := by decide +kernel
theorem dL_submits_0 : decode cL_submits 0 = .ok (.iload 6, 2) := by decide +kernel
theorem dL_submits_2 : decode cL_submits 2 = .ok (.iconst 3, 1) := by decide +kernel
theorem dL_submits_3 : decode cL_submits 3 = .ok (.invokestatic 88, 3) := by decide +kernel
theorem dL_submits_6 : decode cL_submits 6 = .ok (.istore 7, 2) := by decide +kernel
theorem dL_submits_8 : decode cL_submits 8 = .ok (.iconst 1, 1) := by decide +kernel
theorem dL_submits_9 : decode cL_submits 9 = .ok (.iload 6, 2) := by decide +kernel
theorem dL_submits_11 : decode cL_submits 11 = .ok (.iconst 2, 1) := by decide +kernel
theorem dL_submits_12 : decode cL_submits 12 = .ok (.ishr, 1) := by decide +kernel
theorem dL_submits_13 : decode cL_submits 13 = .ok (.iload 6, 2) := by decide +kernel
theorem dL_submits_15 : decode cL_submits 15 = .ok (.bipush 12, 2) := by decide +kernel
theorem dL_submits_17 : decode cL_submits 17 = .ok (.ishr, 1) := by decide +kernel
theorem dL_submits_18 : decode cL_submits 18 = .ok (.iconst 4, 1) := by decide +kernel
theorem dL_submits_19 : decode cL_submits 19 = .ok (.invokestatic 88, 3) := by decide +kernel
theorem dL_submits_22 : decode cL_submits 22 = .ok (.ifCond .ne 8, 3) := by decide +kernel
theorem dL_submits_25 : decode cL_submits 25 = .ok (.bipush 99, 2) := by decide +kernel
theorem dL_submits_27 : decode cL_submits 27 = .ok (.goto 5, 3) := by decide +kernel
theorem dL_submits_30 : decode cL_submits 30 = .ok (.bipush 8, 2) := by decide +kernel
theorem dL_submits_32 : decode cL_submits 32 = .ok (.invokestatic 88, 3) := by decide +kernel
theorem dL_submits_35 : decode cL_submits 35 = .ok (.iadd, 1) := by decide +kernel
theorem dL_submits_36 : decode cL_submits 36 = .ok (.istore 8, 2) := by decide +kernel
theorem dL_submits_38 : decode cL_submits 38 = .ok (.iconst 1, 1) := by decide +kernel
theorem dL_submits_39 : decode cL_submits 39 = .ok (.iload 6, 2) := by decide +kernel
theorem dL_submits_41 : decode cL_submits 41 = .ok (.bipush 7, 2) := by decide +kernel
theorem dL_submits_43 : decode cL_submits 43 = .ok (.ishr, 1) := by decide +kernel
theorem dL_submits_44 : decode cL_submits 44 = .ok (.bipush 20, 2) := by decide +kernel
theorem dL_submits_46 : decode cL_submits 46 = .ok (.invokestatic 88, 3) := by decide +kernel
theorem dL_submits_49 : decode cL_submits 49 = .ok (.iadd, 1) := by decide +kernel
theorem dL_submits_50 : decode cL_submits 50 = .ok (.istore 9, 2) := by decide +kernel
theorem dL_submits_52 : decode cL_submits 52 = .ok (.iload 6, 2) := by decide +kernel
theorem dL_submits_54 : decode cL_submits 54 = .ok (.bipush 10, 2) := by decide +kernel
theorem dL_submits_56 : decode cL_submits 56 = .ok (.ishr, 1) := by decide +kernel
theorem dL_submits_57 : decode cL_submits 57 = .ok (.bipush 10, 2) := by decide +kernel
theorem dL_submits_59 : decode cL_submits 59 = .ok (.invokestatic 88, 3) := by decide +kernel
theorem dL_submits_62 : decode cL_submits 62 = .ok (.istore 10, 2) := by decide +kernel
theorem dL_submits_64 : decode cL_submits 64 = .ok (.aload 5, 2) := by decide +kernel
theorem dL_submits_66 : decode cL_submits 66 = .ok (.bipush 10, 2) := by decide +kernel
theorem dL_submits_68 : decode cL_submits 68 = .ok (.iaload, 1) := by decide +kernel
theorem dL_submits_69 : decode cL_submits 69 = .ok (.bipush 12, 2) := by decide +kernel
theorem dL_submits_71 : decode cL_submits 71 = .ok (.if_icmp .eq 24, 3) := by decide +kernel
theorem dL_submits_74 : decode cL_submits 74 = .ok (.iload 7, 2) := by decide +kernel
theorem dL_submits_76 : decode cL_submits 76 = .ok (.iconst 2, 1) := by decide +kernel
theorem dL_submits_77 : decode cL_submits 77 = .ok (.if_icmp .ne 36, 3) := by decide +kernel
theorem dL_submits_80 : decode cL_submits 80 = .ok (.aload_n 1, 1) := by decide +kernel
theorem dL_submits_81 : decode cL_submits 81 = .ok (.aload_n 2, 1) := by decide +kernel
theorem dL_submits_82 : decode cL_submits 82 = .ok (.aload_n 3, 1) := by decide +kernel
theorem dL_submits_83 : decode cL_submits 83 = .ok (.aload 4, 2) := by decide +kernel
theorem dL_submits_85 : decode cL_submits 85 = .ok (.aload 5, 2) := by decide +kernel
theorem dL_submits_87 : decode cL_submits 87 = .ok (.iload 8, 2) := by decide +kernel
theorem dL_submits_89 : decode cL_submits 89 = .ok (.invokestatic 91, 3) := by decide +kernel
theorem dL_submits_92 : decode cL_submits 92 = .ok (.ifCond .eq 21, 3) := by decide +kernel
theorem dL_submits_95 : decode cL_submits 95 = .ok (.aload_n 0, 1) := by decide +kernel
theorem dL_submits_96 : decode cL_submits 96 = .ok (.invokevirtual 52, 3) := by decide +kernel
theorem dL_submits_99 : decode cL_submits 99 = .ok (.aload 5, 2) := by decide +kernel
theorem dL_submits_101 : decode cL_submits 101 = .ok (.bipush 10, 2) := by decide +kernel
theorem dL_submits_103 : decode cL_submits 103 = .ok (.iaload, 1) := by decide +kernel
theorem dL_submits_104 : decode cL_submits 104 = .ok (.if_icmp .ne 7, 3) := by decide +kernel
theorem dL_submits_107 : decode cL_submits 107 = .ok (.iconst 1, 1) := by decide +kernel
theorem dL_submits_108 : decode cL_submits 108 = .ok (.goto 4, 3) := by decide +kernel
theorem dL_submits_111 : decode cL_submits 111 = .ok (.iconst 0, 1) := by decide +kernel
theorem dL_submits_112 : decode cL_submits 112 = .ok (.ireturn, 1) := by decide +kernel
theorem dL_submits_113 : decode cL_submits 113 = .ok (.aload 5, 2) := by decide +kernel
theorem dL_submits_115 : decode cL_submits 115 = .ok (.bipush 10, 2) := by decide +kernel
theorem dL_submits_117 : decode cL_submits 117 = .ok (.iaload, 1) := by decide +kernel
theorem dL_submits_118 : decode cL_submits 118 = .ok (.istore 11, 2) := by decide +kernel
theorem dL_submits_120 : decode cL_submits 120 = .ok (.aload_n 3, 1) := by decide +kernel
theorem dL_submits_121 : decode cL_submits 121 = .ok (.iconst 4, 1) := by decide +kernel
theorem dL_submits_122 : decode cL_submits 122 = .ok (.iload 11, 2) := by decide +kernel
theorem dL_submits_124 : decode cL_submits 124 = .ok (.imul, 1) := by decide +kernel
theorem dL_submits_125 : decode cL_submits 125 = .ok (.iload 7, 2) := by decide +kernel
theorem dL_submits_127 : decode cL_submits 127 = .ok (.iastore, 1) := by decide +kernel
theorem dL_submits_128 : decode cL_submits 128 = .ok (.aload_n 3, 1) := by decide +kernel
theorem dL_submits_129 : decode cL_submits 129 = .ok (.iconst 4, 1) := by decide +kernel
theorem dL_submits_130 : decode cL_submits 130 = .ok (.iload 11, 2) := by decide +kernel
theorem dL_submits_132 : decode cL_submits 132 = .ok (.imul, 1) := by decide +kernel
theorem dL_submits_133 : decode cL_submits 133 = .ok (.iconst 1, 1) := by decide +kernel
theorem dL_submits_134 : decode cL_submits 134 = .ok (.iadd, 1) := by decide +kernel
theorem dL_submits_135 : decode cL_submits 135 = .ok (.iload 8, 2) := by decide +kernel
theorem dL_submits_137 : decode cL_submits 137 = .ok (.iastore, 1) := by decide +kernel
theorem dL_submits_138 : decode cL_submits 138 = .ok (.aload_n 3, 1) := by decide +kernel
theorem dL_submits_139 : decode cL_submits 139 = .ok (.iconst 4, 1) := by decide +kernel
theorem dL_submits_140 : decode cL_submits 140 = .ok (.iload 11, 2) := by decide +kernel
theorem dL_submits_142 : decode cL_submits 142 = .ok (.imul, 1) := by decide +kernel
theorem dL_submits_143 : decode cL_submits 143 = .ok (.iconst 2, 1) := by decide +kernel
theorem dL_submits_144 : decode cL_submits 144 = .ok (.iadd, 1) := by decide +kernel
theorem dL_submits_145 : decode cL_submits 145 = .ok (.iload 9, 2) := by decide +kernel
theorem dL_submits_147 : decode cL_submits 147 = .ok (.iastore, 1) := by decide +kernel
theorem dL_submits_148 : decode cL_submits 148 = .ok (.aload_n 3, 1) := by decide +kernel
theorem dL_submits_149 : decode cL_submits 149 = .ok (.iconst 4, 1) := by decide +kernel
theorem dL_submits_150 : decode cL_submits 150 = .ok (.iload 11, 2) := by decide +kernel
theorem dL_submits_152 : decode cL_submits 152 = .ok (.imul, 1) := by decide +kernel
theorem dL_submits_153 : decode cL_submits 153 = .ok (.iconst 3, 1) := by decide +kernel
theorem dL_submits_154 : decode cL_submits 154 = .ok (.iadd, 1) := by decide +kernel
theorem dL_submits_155 : decode cL_submits 155 = .ok (.iload 10, 2) := by decide +kernel
theorem dL_submits_157 : decode cL_submits 157 = .ok (.iastore, 1) := by decide +kernel
theorem dL_submits_158 : decode cL_submits 158 = .ok (.aload 4, 2) := by decide +kernel
theorem dL_submits_160 : decode cL_submits 160 = .ok (.iconst 4, 1) := by decide +kernel
theorem dL_submits_161 : decode cL_submits 161 = .ok (.iload 11, 2) := by decide +kernel
theorem dL_submits_163 : decode cL_submits 163 = .ok (.imul, 1) := by decide +kernel
theorem dL_submits_164 : decode cL_submits 164 = .ok (.iconst 0, 1) := by decide +kernel
theorem dL_submits_165 : decode cL_submits 165 = .ok (.iastore, 1) := by decide +kernel
theorem dL_submits_166 : decode cL_submits 166 = .ok (.aload 4, 2) := by decide +kernel
theorem dL_submits_168 : decode cL_submits 168 = .ok (.iconst 4, 1) := by decide +kernel
theorem dL_submits_169 : decode cL_submits 169 = .ok (.iload 11, 2) := by decide +kernel
theorem dL_submits_171 : decode cL_submits 171 = .ok (.imul, 1) := by decide +kernel
theorem dL_submits_172 : decode cL_submits 172 = .ok (.iconst 1, 1) := by decide +kernel
theorem dL_submits_173 : decode cL_submits 173 = .ok (.iadd, 1) := by decide +kernel
theorem dL_submits_174 : decode cL_submits 174 = .ok (.iconst 0, 1) := by decide +kernel
theorem dL_submits_175 : decode cL_submits 175 = .ok (.iastore, 1) := by decide +kernel
theorem dL_submits_176 : decode cL_submits 176 = .ok (.aload 4, 2) := by decide +kernel
theorem dL_submits_178 : decode cL_submits 178 = .ok (.iconst 4, 1) := by decide +kernel
theorem dL_submits_179 : decode cL_submits 179 = .ok (.iload 11, 2) := by decide +kernel
theorem dL_submits_181 : decode cL_submits 181 = .ok (.imul, 1) := by decide +kernel
theorem dL_submits_182 : decode cL_submits 182 = .ok (.iconst 2, 1) := by decide +kernel
theorem dL_submits_183 : decode cL_submits 183 = .ok (.iadd, 1) := by decide +kernel
theorem dL_submits_184 : decode cL_submits 184 = .ok (.iconst (-1), 1) := by decide +kernel
theorem dL_submits_185 : decode cL_submits 185 = .ok (.iastore, 1) := by decide +kernel
theorem dL_submits_186 : decode cL_submits 186 = .ok (.aload 4, 2) := by decide +kernel
theorem dL_submits_188 : decode cL_submits 188 = .ok (.iconst 4, 1) := by decide +kernel
theorem dL_submits_189 : decode cL_submits 189 = .ok (.iload 11, 2) := by decide +kernel
theorem dL_submits_191 : decode cL_submits 191 = .ok (.imul, 1) := by decide +kernel
theorem dL_submits_192 : decode cL_submits 192 = .ok (.iconst 3, 1) := by decide +kernel
theorem dL_submits_193 : decode cL_submits 193 = .ok (.iadd, 1) := by decide +kernel
theorem dL_submits_194 : decode cL_submits 194 = .ok (.iconst 0, 1) := by decide +kernel
theorem dL_submits_195 : decode cL_submits 195 = .ok (.iastore, 1) := by decide +kernel
theorem dL_submits_196 : decode cL_submits 196 = .ok (.aload 5, 2) := by decide +kernel
theorem dL_submits_198 : decode cL_submits 198 = .ok (.bipush 10, 2) := by decide +kernel
theorem dL_submits_200 : decode cL_submits 200 = .ok (.dup2, 1) := by decide +kernel
theorem dL_submits_201 : decode cL_submits 201 = .ok (.iaload, 1) := by decide +kernel
theorem dL_submits_202 : decode cL_submits 202 = .ok (.iconst 1, 1) := by decide +kernel
theorem dL_submits_203 : decode cL_submits 203 = .ok (.iadd, 1) := by decide +kernel
theorem dL_submits_204 : decode cL_submits 204 = .ok (.iastore, 1) := by decide +kernel
theorem dL_submits_205 : decode cL_submits 205 = .ok (.aload_n 0, 1) := by decide +kernel
theorem dL_submits_206 : decode cL_submits 206 = .ok (.iload 7, 2) := by decide +kernel
theorem dL_submits_208 : decode cL_submits 208 = .ok (.iload 8, 2) := by decide +kernel
theorem dL_submits_210 : decode cL_submits 210 = .ok (.iload 9, 2) := by decide +kernel
theorem dL_submits_212 : decode cL_submits 212 = .ok (.iload 10, 2) := by decide +kernel
theorem dL_submits_214 : decode cL_submits 214 = .ok (.invokevirtual 95, 3) := by decide +kernel
theorem dL_submits_217 : decode cL_submits 217 = .ok (.iload 11, 2) := by decide +kernel
theorem dL_submits_219 : decode cL_submits 219 = .ok (.if_icmp .ne 7, 3) := by decide +kernel
theorem dL_submits_222 : decode cL_submits 222 = .ok (.iconst 1, 1) := by decide +kernel
theorem dL_submits_223 : decode cL_submits 223 = .ok (.goto 4, 3) := by decide +kernel
theorem dL_submits_226 : decode cL_submits 226 = .ok (.iconst 0, 1) := by decide +kernel
theorem dL_submits_227 : decode cL_submits 227 = .ok (.ireturn, 1) := by decide +kernel
theorem dL_acts_0 : decode cL_acts 0 = .ok (.iload 7, 2) := by decide +kernel
theorem dL_acts_2 : decode cL_acts 2 = .ok (.bipush 12, 2) := by decide +kernel
theorem dL_acts_4 : decode cL_acts 4 = .ok (.invokestatic 88, 3) := by decide +kernel
theorem dL_acts_7 : decode cL_acts 7 = .ok (.istore 8, 2) := by decide +kernel
theorem dL_acts_9 : decode cL_acts 9 = .ok (.aload 5, 2) := by decide +kernel
theorem dL_acts_11 : decode cL_acts 11 = .ok (.bipush 10, 2) := by decide +kernel
theorem dL_acts_13 : decode cL_acts 13 = .ok (.iaload, 1) := by decide +kernel
theorem dL_acts_14 : decode cL_acts 14 = .ok (.ifCond .ne 7, 3) := by decide +kernel
theorem dL_acts_17 : decode cL_acts 17 = .ok (.iconst 0, 1) := by decide +kernel
theorem dL_acts_18 : decode cL_acts 18 = .ok (.goto 5, 3) := by decide +kernel
theorem dL_acts_21 : decode cL_acts 21 = .ok (.iload 6, 2) := by decide +kernel
theorem dL_acts_23 : decode cL_acts 23 = .ok (.tableswitch 457 0 8 #[49, 49, 49, 63, 178, 178, 230, 339, 364], 49) := by decide +kernel
theorem dL_acts_72 : decode cL_acts 72 = .ok (.aload_n 0, 1) := by decide +kernel
theorem dL_acts_73 : decode cL_acts 73 = .ok (.aload_n 1, 1) := by decide +kernel
theorem dL_acts_74 : decode cL_acts 74 = .ok (.aload_n 2, 1) := by decide +kernel
theorem dL_acts_75 : decode cL_acts 75 = .ok (.aload_n 3, 1) := by decide +kernel
theorem dL_acts_76 : decode cL_acts 76 = .ok (.aload 4, 2) := by decide +kernel
theorem dL_acts_78 : decode cL_acts 78 = .ok (.aload 5, 2) := by decide +kernel
theorem dL_acts_80 : decode cL_acts 80 = .ok (.iload 7, 2) := by decide +kernel
theorem dL_acts_82 : decode cL_acts 82 = .ok (.invokestatic 99, 3) := by decide +kernel
theorem dL_acts_85 : decode cL_acts 85 = .ok (.ireturn, 1) := by decide +kernel
theorem dL_acts_86 : decode cL_acts 86 = .ok (.iload 7, 2) := by decide +kernel
theorem dL_acts_88 : decode cL_acts 88 = .ok (.aload 5, 2) := by decide +kernel
theorem dL_acts_90 : decode cL_acts 90 = .ok (.bipush 10, 2) := by decide +kernel
theorem dL_acts_92 : decode cL_acts 92 = .ok (.iaload, 1) := by decide +kernel
theorem dL_acts_93 : decode cL_acts 93 = .ok (.invokestatic 88, 3) := by decide +kernel
theorem dL_acts_96 : decode cL_acts 96 = .ok (.istore 9, 2) := by decide +kernel
theorem dL_acts_98 : decode cL_acts 98 = .ok (.aload 4, 2) := by decide +kernel
theorem dL_acts_100 : decode cL_acts 100 = .ok (.iconst 4, 1) := by decide +kernel
theorem dL_acts_101 : decode cL_acts 101 = .ok (.iload 9, 2) := by decide +kernel
theorem dL_acts_103 : decode cL_acts 103 = .ok (.imul, 1) := by decide +kernel
theorem dL_acts_104 : decode cL_acts 104 = .ok (.iaload, 1) := by decide +kernel
theorem dL_acts_105 : decode cL_acts 105 = .ok (.iconst 1, 1) := by decide +kernel
theorem dL_acts_106 : decode cL_acts 106 = .ok (.if_icmp .le 26, 3) := by decide +kernel
theorem dL_acts_109 : decode cL_acts 109 = .ok (.aload_n 0, 1) := by decide +kernel
theorem dL_acts_110 : decode cL_acts 110 = .ok (.iload 9, 2) := by decide +kernel
theorem dL_acts_112 : decode cL_acts 112 = .ok (.iconst 4, 1) := by decide +kernel
theorem dL_acts_113 : decode cL_acts 113 = .ok (.invokevirtual 55, 3) := by decide +kernel
theorem dL_acts_116 : decode cL_acts 116 = .ok (.aload 4, 2) := by decide +kernel
theorem dL_acts_118 : decode cL_acts 118 = .ok (.iconst 4, 1) := by decide +kernel
theorem dL_acts_119 : decode cL_acts 119 = .ok (.iload 9, 2) := by decide +kernel
theorem dL_acts_121 : decode cL_acts 121 = .ok (.imul, 1) := by decide +kernel
theorem dL_acts_122 : decode cL_acts 122 = .ok (.iaload, 1) := by decide +kernel
theorem dL_acts_123 : decode cL_acts 123 = .ok (.if_icmp .ne 7, 3) := by decide +kernel
theorem dL_acts_126 : decode cL_acts 126 = .ok (.iconst 1, 1) := by decide +kernel
theorem dL_acts_127 : decode cL_acts 127 = .ok (.goto 4, 3) := by decide +kernel
theorem dL_acts_130 : decode cL_acts 130 = .ok (.iconst 0, 1) := by decide +kernel
theorem dL_acts_131 : decode cL_acts 131 = .ok (.ireturn, 1) := by decide +kernel
theorem dL_acts_132 : decode cL_acts 132 = .ok (.aload 4, 2) := by decide +kernel
theorem dL_acts_134 : decode cL_acts 134 = .ok (.iconst 4, 1) := by decide +kernel
theorem dL_acts_135 : decode cL_acts 135 = .ok (.iload 9, 2) := by decide +kernel
theorem dL_acts_137 : decode cL_acts 137 = .ok (.imul, 1) := by decide +kernel
theorem dL_acts_138 : decode cL_acts 138 = .ok (.iaload, 1) := by decide +kernel
theorem dL_acts_139 : decode cL_acts 139 = .ok (.iconst 1, 1) := by decide +kernel
theorem dL_acts_140 : decode cL_acts 140 = .ok (.if_icmp .ne 19, 3) := by decide +kernel
theorem dL_acts_143 : decode cL_acts 143 = .ok (.aload_n 2, 1) := by decide +kernel
theorem dL_acts_144 : decode cL_acts 144 = .ok (.iconst 3, 1) := by decide +kernel
theorem dL_acts_145 : decode cL_acts 145 = .ok (.aload 4, 2) := by decide +kernel
theorem dL_acts_147 : decode cL_acts 147 = .ok (.iconst 4, 1) := by decide +kernel
theorem dL_acts_148 : decode cL_acts 148 = .ok (.iload 9, 2) := by decide +kernel
theorem dL_acts_150 : decode cL_acts 150 = .ok (.imul, 1) := by decide +kernel
theorem dL_acts_151 : decode cL_acts 151 = .ok (.iconst 2, 1) := by decide +kernel
theorem dL_acts_152 : decode cL_acts 152 = .ok (.iadd, 1) := by decide +kernel
theorem dL_acts_153 : decode cL_acts 153 = .ok (.iaload, 1) := by decide +kernel
theorem dL_acts_154 : decode cL_acts 154 = .ok (.imul, 1) := by decide +kernel
theorem dL_acts_155 : decode cL_acts 155 = .ok (.iconst 2, 1) := by decide +kernel
theorem dL_acts_156 : decode cL_acts 156 = .ok (.iadd, 1) := by decide +kernel
theorem dL_acts_157 : decode cL_acts 157 = .ok (.iconst (-1), 1) := by decide +kernel
theorem dL_acts_158 : decode cL_acts 158 = .ok (.iastore, 1) := by decide +kernel
theorem dL_acts_159 : decode cL_acts 159 = .ok (.aload 4, 2) := by decide +kernel
theorem dL_acts_161 : decode cL_acts 161 = .ok (.iconst 4, 1) := by decide +kernel
theorem dL_acts_162 : decode cL_acts 162 = .ok (.iload 9, 2) := by decide +kernel
theorem dL_acts_164 : decode cL_acts 164 = .ok (.imul, 1) := by decide +kernel
theorem dL_acts_165 : decode cL_acts 165 = .ok (.iconst 3, 1) := by decide +kernel
theorem dL_acts_166 : decode cL_acts 166 = .ok (.iastore, 1) := by decide +kernel
theorem dL_acts_167 : decode cL_acts 167 = .ok (.aload 4, 2) := by decide +kernel
theorem dL_acts_169 : decode cL_acts 169 = .ok (.iconst 4, 1) := by decide +kernel
theorem dL_acts_170 : decode cL_acts 170 = .ok (.iload 9, 2) := by decide +kernel
theorem dL_acts_172 : decode cL_acts 172 = .ok (.imul, 1) := by decide +kernel
theorem dL_acts_173 : decode cL_acts 173 = .ok (.iconst 2, 1) := by decide +kernel
theorem dL_acts_174 : decode cL_acts 174 = .ok (.iadd, 1) := by decide +kernel
theorem dL_acts_175 : decode cL_acts 175 = .ok (.iconst (-1), 1) := by decide +kernel
theorem dL_acts_176 : decode cL_acts 176 = .ok (.iastore, 1) := by decide +kernel
theorem dL_acts_177 : decode cL_acts 177 = .ok (.aload_n 0, 1) := by decide +kernel
theorem dL_acts_178 : decode cL_acts 178 = .ok (.iload 9, 2) := by decide +kernel
theorem dL_acts_180 : decode cL_acts 180 = .ok (.invokevirtual 103, 3) := by decide +kernel
theorem dL_acts_183 : decode cL_acts 183 = .ok (.aload 4, 2) := by decide +kernel
theorem dL_acts_185 : decode cL_acts 185 = .ok (.iconst 4, 1) := by decide +kernel
theorem dL_acts_186 : decode cL_acts 186 = .ok (.iload 9, 2) := by decide +kernel
theorem dL_acts_188 : decode cL_acts 188 = .ok (.imul, 1) := by decide +kernel
theorem dL_acts_189 : decode cL_acts 189 = .ok (.iconst 1, 1) := by decide +kernel
theorem dL_acts_190 : decode cL_acts 190 = .ok (.iadd, 1) := by decide +kernel
theorem dL_acts_191 : decode cL_acts 191 = .ok (.iaload, 1) := by decide +kernel
theorem dL_acts_192 : decode cL_acts 192 = .ok (.if_icmp .ne 7, 3) := by decide +kernel
theorem dL_acts_195 : decode cL_acts 195 = .ok (.iconst 1, 1) := by decide +kernel
theorem dL_acts_196 : decode cL_acts 196 = .ok (.goto 4, 3) := by decide +kernel
theorem dL_acts_199 : decode cL_acts 199 = .ok (.iconst 0, 1) := by decide +kernel
theorem dL_acts_200 : decode cL_acts 200 = .ok (.ireturn, 1) := by decide +kernel
theorem dL_acts_201 : decode cL_acts 201 = .ok (.aload_n 1, 1) := by decide +kernel
theorem dL_acts_202 : decode cL_acts 202 = .ok (.iconst 3, 1) := by decide +kernel
theorem dL_acts_203 : decode cL_acts 203 = .ok (.iload 8, 2) := by decide +kernel
theorem dL_acts_205 : decode cL_acts 205 = .ok (.imul, 1) := by decide +kernel
theorem dL_acts_206 : decode cL_acts 206 = .ok (.iconst 1, 1) := by decide +kernel
theorem dL_acts_207 : decode cL_acts 207 = .ok (.iadd, 1) := by decide +kernel
theorem dL_acts_208 : decode cL_acts 208 = .ok (.iaload, 1) := by decide +kernel
theorem dL_acts_209 : decode cL_acts 209 = .ok (.istore 10, 2) := by decide +kernel
theorem dL_acts_211 : decode cL_acts 211 = .ok (.aload_n 1, 1) := by decide +kernel
theorem dL_acts_212 : decode cL_acts 212 = .ok (.iconst 3, 1) := by decide +kernel
theorem dL_acts_213 : decode cL_acts 213 = .ok (.iload 8, 2) := by decide +kernel
theorem dL_acts_215 : decode cL_acts 215 = .ok (.imul, 1) := by decide +kernel
theorem dL_acts_216 : decode cL_acts 216 = .ok (.iconst 1, 1) := by decide +kernel
theorem dL_acts_217 : decode cL_acts 217 = .ok (.iadd, 1) := by decide +kernel
theorem dL_acts_218 : decode cL_acts 218 = .ok (.iload 7, 2) := by decide +kernel
theorem dL_acts_220 : decode cL_acts 220 = .ok (.iconst 4, 1) := by decide +kernel
theorem dL_acts_221 : decode cL_acts 221 = .ok (.ishr, 1) := by decide +kernel
theorem dL_acts_222 : decode cL_acts 222 = .ok (.bipush 9, 2) := by decide +kernel
theorem dL_acts_224 : decode cL_acts 224 = .ok (.invokestatic 88, 3) := by decide +kernel
theorem dL_acts_227 : decode cL_acts 227 = .ok (.iastore, 1) := by decide +kernel
theorem dL_acts_228 : decode cL_acts 228 = .ok (.aload_n 0, 1) := by decide +kernel
theorem dL_acts_229 : decode cL_acts 229 = .ok (.iload 8, 2) := by decide +kernel
theorem dL_acts_231 : decode cL_acts 231 = .ok (.aload_n 1, 1) := by decide +kernel
theorem dL_acts_232 : decode cL_acts 232 = .ok (.iconst 3, 1) := by decide +kernel
theorem dL_acts_233 : decode cL_acts 233 = .ok (.iload 8, 2) := by decide +kernel
theorem dL_acts_235 : decode cL_acts 235 = .ok (.imul, 1) := by decide +kernel
theorem dL_acts_236 : decode cL_acts 236 = .ok (.iconst 1, 1) := by decide +kernel
theorem dL_acts_237 : decode cL_acts 237 = .ok (.iadd, 1) := by decide +kernel
theorem dL_acts_238 : decode cL_acts 238 = .ok (.iaload, 1) := by decide +kernel
theorem dL_acts_239 : decode cL_acts 239 = .ok (.invokevirtual 106, 3) := by decide +kernel
theorem dL_acts_242 : decode cL_acts 242 = .ok (.iload 10, 2) := by decide +kernel
theorem dL_acts_244 : decode cL_acts 244 = .ok (.if_icmp .ne 7, 3) := by decide +kernel
theorem dL_acts_247 : decode cL_acts 247 = .ok (.iconst 1, 1) := by decide +kernel
theorem dL_acts_248 : decode cL_acts 248 = .ok (.goto 4, 3) := by decide +kernel
theorem dL_acts_251 : decode cL_acts 251 = .ok (.iconst 0, 1) := by decide +kernel
theorem dL_acts_252 : decode cL_acts 252 = .ok (.ireturn, 1) := by decide +kernel
theorem dL_acts_253 : decode cL_acts 253 = .ok (.iload 7, 2) := by decide +kernel
theorem dL_acts_255 : decode cL_acts 255 = .ok (.iconst 4, 1) := by decide +kernel
theorem dL_acts_256 : decode cL_acts 256 = .ok (.ishr, 1) := by decide +kernel
theorem dL_acts_257 : decode cL_acts 257 = .ok (.iconst 2, 1) := by decide +kernel
theorem dL_acts_258 : decode cL_acts 258 = .ok (.invokestatic 88, 3) := by decide +kernel
theorem dL_acts_261 : decode cL_acts 261 = .ok (.ifCond .ne 7, 3) := by decide +kernel
theorem dL_acts_264 : decode cL_acts 264 = .ok (.iconst 1, 1) := by decide +kernel
theorem dL_acts_265 : decode cL_acts 265 = .ok (.goto 4, 3) := by decide +kernel
theorem dL_acts_268 : decode cL_acts 268 = .ok (.iconst 0, 1) := by decide +kernel
theorem dL_acts_269 : decode cL_acts 269 = .ok (.istore 11, 2) := by decide +kernel
theorem dL_acts_271 : decode cL_acts 271 = .ok (.aload_n 2, 1) := by decide +kernel
theorem dL_acts_272 : decode cL_acts 272 = .ok (.iconst 3, 1) := by decide +kernel
theorem dL_acts_273 : decode cL_acts 273 = .ok (.iload 8, 2) := by decide +kernel
theorem dL_acts_275 : decode cL_acts 275 = .ok (.imul, 1) := by decide +kernel
theorem dL_acts_276 : decode cL_acts 276 = .ok (.iconst 2, 1) := by decide +kernel
theorem dL_acts_277 : decode cL_acts 277 = .ok (.iadd, 1) := by decide +kernel
theorem dL_acts_278 : decode cL_acts 278 = .ok (.iaload, 1) := by decide +kernel
theorem dL_acts_279 : decode cL_acts 279 = .ok (.ifCond .lt 27, 3) := by decide +kernel
theorem dL_acts_282 : decode cL_acts 282 = .ok (.aload_n 0, 1) := by decide +kernel
theorem dL_acts_283 : decode cL_acts 283 = .ok (.iload 8, 2) := by decide +kernel
theorem dL_acts_285 : decode cL_acts 285 = .ok (.iconst 2, 1) := by decide +kernel
theorem dL_acts_286 : decode cL_acts 286 = .ok (.invokevirtual 38, 3) := by decide +kernel
theorem dL_acts_289 : decode cL_acts 289 = .ok (.aload_n 1, 1) := by decide +kernel
theorem dL_acts_290 : decode cL_acts 290 = .ok (.iconst 3, 1) := by decide +kernel
theorem dL_acts_291 : decode cL_acts 291 = .ok (.iload 8, 2) := by decide +kernel
theorem dL_acts_293 : decode cL_acts 293 = .ok (.imul, 1) := by decide +kernel
theorem dL_acts_294 : decode cL_acts 294 = .ok (.iconst 2, 1) := by decide +kernel
theorem dL_acts_295 : decode cL_acts 295 = .ok (.iadd, 1) := by decide +kernel
theorem dL_acts_296 : decode cL_acts 296 = .ok (.iaload, 1) := by decide +kernel
theorem dL_acts_297 : decode cL_acts 297 = .ok (.if_icmp .ne 7, 3) := by decide +kernel
theorem dL_acts_300 : decode cL_acts 300 = .ok (.iconst 1, 1) := by decide +kernel
theorem dL_acts_301 : decode cL_acts 301 = .ok (.goto 4, 3) := by decide +kernel
theorem dL_acts_304 : decode cL_acts 304 = .ok (.iconst 0, 1) := by decide +kernel
theorem dL_acts_305 : decode cL_acts 305 = .ok (.ireturn, 1) := by decide +kernel
theorem dL_acts_306 : decode cL_acts 306 = .ok (.aload_n 1, 1) := by decide +kernel
theorem dL_acts_307 : decode cL_acts 307 = .ok (.iconst 3, 1) := by decide +kernel
theorem dL_acts_308 : decode cL_acts 308 = .ok (.iload 8, 2) := by decide +kernel
theorem dL_acts_310 : decode cL_acts 310 = .ok (.imul, 1) := by decide +kernel
theorem dL_acts_311 : decode cL_acts 311 = .ok (.iconst 2, 1) := by decide +kernel
theorem dL_acts_312 : decode cL_acts 312 = .ok (.iadd, 1) := by decide +kernel
theorem dL_acts_313 : decode cL_acts 313 = .ok (.iaload, 1) := by decide +kernel
theorem dL_acts_314 : decode cL_acts 314 = .ok (.iconst 1, 1) := by decide +kernel
theorem dL_acts_315 : decode cL_acts 315 = .ok (.if_icmp .ne 7, 3) := by decide +kernel
theorem dL_acts_318 : decode cL_acts 318 = .ok (.iconst 1, 1) := by decide +kernel
theorem dL_acts_319 : decode cL_acts 319 = .ok (.goto 4, 3) := by decide +kernel
theorem dL_acts_322 : decode cL_acts 322 = .ok (.iconst 0, 1) := by decide +kernel
theorem dL_acts_323 : decode cL_acts 323 = .ok (.istore 12, 2) := by decide +kernel
theorem dL_acts_325 : decode cL_acts 325 = .ok (.aload_n 1, 1) := by decide +kernel
theorem dL_acts_326 : decode cL_acts 326 = .ok (.iconst 3, 1) := by decide +kernel
theorem dL_acts_327 : decode cL_acts 327 = .ok (.iload 8, 2) := by decide +kernel
theorem dL_acts_329 : decode cL_acts 329 = .ok (.imul, 1) := by decide +kernel
theorem dL_acts_330 : decode cL_acts 330 = .ok (.iconst 2, 1) := by decide +kernel
theorem dL_acts_331 : decode cL_acts 331 = .ok (.iadd, 1) := by decide +kernel
theorem dL_acts_332 : decode cL_acts 332 = .ok (.iload 11, 2) := by decide +kernel
theorem dL_acts_334 : decode cL_acts 334 = .ok (.ifCond .eq 7, 3) := by decide +kernel
theorem dL_acts_337 : decode cL_acts 337 = .ok (.iconst 1, 1) := by decide +kernel
theorem dL_acts_338 : decode cL_acts 338 = .ok (.goto 4, 3) := by decide +kernel
theorem dL_acts_341 : decode cL_acts 341 = .ok (.iconst 0, 1) := by decide +kernel
theorem dL_acts_342 : decode cL_acts 342 = .ok (.iastore, 1) := by decide +kernel
theorem dL_acts_343 : decode cL_acts 343 = .ok (.aload_n 0, 1) := by decide +kernel
theorem dL_acts_344 : decode cL_acts 344 = .ok (.iload 8, 2) := by decide +kernel
theorem dL_acts_346 : decode cL_acts 346 = .ok (.iload 11, 2) := by decide +kernel
theorem dL_acts_348 : decode cL_acts 348 = .ok (.invokevirtual 109, 3) := by decide +kernel
theorem dL_acts_351 : decode cL_acts 351 = .ok (.iload 12, 2) := by decide +kernel
theorem dL_acts_353 : decode cL_acts 353 = .ok (.if_icmp .ne 7, 3) := by decide +kernel
theorem dL_acts_356 : decode cL_acts 356 = .ok (.iconst 1, 1) := by decide +kernel
theorem dL_acts_357 : decode cL_acts 357 = .ok (.goto 4, 3) := by decide +kernel
theorem dL_acts_360 : decode cL_acts 360 = .ok (.iconst 0, 1) := by decide +kernel
theorem dL_acts_361 : decode cL_acts 361 = .ok (.ireturn, 1) := by decide +kernel
theorem dL_acts_362 : decode cL_acts 362 = .ok (.aload 5, 2) := by decide +kernel
theorem dL_acts_364 : decode cL_acts 364 = .ok (.iconst 0, 1) := by decide +kernel
theorem dL_acts_365 : decode cL_acts 365 = .ok (.dup2, 1) := by decide +kernel
theorem dL_acts_366 : decode cL_acts 366 = .ok (.iaload, 1) := by decide +kernel
theorem dL_acts_367 : decode cL_acts 367 = .ok (.iconst 1, 1) := by decide +kernel
theorem dL_acts_368 : decode cL_acts 368 = .ok (.iadd, 1) := by decide +kernel
theorem dL_acts_369 : decode cL_acts 369 = .ok (.iastore, 1) := by decide +kernel
theorem dL_acts_370 : decode cL_acts 370 = .ok (.aload_n 0, 1) := by decide +kernel
theorem dL_acts_371 : decode cL_acts 371 = .ok (.invokevirtual 113, 3) := by decide +kernel
theorem dL_acts_374 : decode cL_acts 374 = .ok (.aload 5, 2) := by decide +kernel
theorem dL_acts_376 : decode cL_acts 376 = .ok (.iconst 0, 1) := by decide +kernel
theorem dL_acts_377 : decode cL_acts 377 = .ok (.iaload, 1) := by decide +kernel
theorem dL_acts_378 : decode cL_acts 378 = .ok (.if_icmp .ne 7, 3) := by decide +kernel
theorem dL_acts_381 : decode cL_acts 381 = .ok (.iconst 1, 1) := by decide +kernel
theorem dL_acts_382 : decode cL_acts 382 = .ok (.goto 4, 3) := by decide +kernel
theorem dL_acts_385 : decode cL_acts 385 = .ok (.iconst 0, 1) := by decide +kernel
theorem dL_acts_386 : decode cL_acts 386 = .ok (.ireturn, 1) := by decide +kernel
theorem dL_acts_387 : decode cL_acts 387 = .ok (.iload 7, 2) := by decide +kernel
theorem dL_acts_389 : decode cL_acts 389 = .ok (.iconst 2, 1) := by decide +kernel
theorem dL_acts_390 : decode cL_acts 390 = .ok (.invokestatic 88, 3) := by decide +kernel
theorem dL_acts_393 : decode cL_acts 393 = .ok (.istore 13, 2) := by decide +kernel
theorem dL_acts_395 : decode cL_acts 395 = .ok (.aload 5, 2) := by decide +kernel
theorem dL_acts_397 : decode cL_acts 397 = .ok (.bipush 8, 2) := by decide +kernel
theorem dL_acts_399 : decode cL_acts 399 = .ok (.iload 13, 2) := by decide +kernel
theorem dL_acts_401 : decode cL_acts 401 = .ok (.iadd, 1) := by decide +kernel
theorem dL_acts_402 : decode cL_acts 402 = .ok (.iaload, 1) := by decide +kernel
theorem dL_acts_403 : decode cL_acts 403 = .ok (.istore 14, 2) := by decide +kernel
theorem dL_acts_405 : decode cL_acts 405 = .ok (.aload 5, 2) := by decide +kernel
theorem dL_acts_407 : decode cL_acts 407 = .ok (.bipush 8, 2) := by decide +kernel
theorem dL_acts_409 : decode cL_acts 409 = .ok (.iload 13, 2) := by decide +kernel
theorem dL_acts_411 : decode cL_acts 411 = .ok (.iadd, 1) := by decide +kernel
theorem dL_acts_412 : decode cL_acts 412 = .ok (.iload 13, 2) := by decide +kernel
theorem dL_acts_414 : decode cL_acts 414 = .ok (.ifCond .ne 15, 3) := by decide +kernel
theorem dL_acts_417 : decode cL_acts 417 = .ok (.iload 7, 2) := by decide +kernel
theorem dL_acts_419 : decode cL_acts 419 = .ok (.iconst 1, 1) := by decide +kernel
theorem dL_acts_420 : decode cL_acts 420 = .ok (.ishr, 1) := by decide +kernel
theorem dL_acts_421 : decode cL_acts 421 = .ok (.bipush 10, 2) := by decide +kernel
theorem dL_acts_423 : decode cL_acts 423 = .ok (.invokestatic 88, 3) := by decide +kernel
theorem dL_acts_426 : decode cL_acts 426 = .ok (.goto 28, 3) := by decide +kernel
theorem dL_acts_429 : decode cL_acts 429 = .ok (.iload 7, 2) := by decide +kernel
theorem dL_acts_431 : decode cL_acts 431 = .ok (.iconst 1, 1) := by decide +kernel
theorem dL_acts_432 : decode cL_acts 432 = .ok (.ishr, 1) := by decide +kernel
theorem dL_acts_433 : decode cL_acts 433 = .ok (.iload 7, 2) := by decide +kernel
theorem dL_acts_435 : decode cL_acts 435 = .ok (.bipush 8, 2) := by decide +kernel
theorem dL_acts_437 : decode cL_acts 437 = .ok (.ishr, 1) := by decide +kernel
theorem dL_acts_438 : decode cL_acts 438 = .ok (.iconst 2, 1) := by decide +kernel
theorem dL_acts_439 : decode cL_acts 439 = .ok (.invokestatic 88, 3) := by decide +kernel
theorem dL_acts_442 : decode cL_acts 442 = .ok (.ifCond .ne 8, 3) := by decide +kernel
theorem dL_acts_445 : decode cL_acts 445 = .ok (.bipush 100, 2) := by decide +kernel
theorem dL_acts_447 : decode cL_acts 447 = .ok (.goto 4, 3) := by decide +kernel
theorem dL_acts_450 : decode cL_acts 450 = .ok (.iconst 5, 1) := by decide +kernel
theorem dL_acts_451 : decode cL_acts 451 = .ok (.invokestatic 88, 3) := by decide +kernel
theorem dL_acts_454 : decode cL_acts 454 = .ok (.iastore, 1) := by decide +kernel
theorem dL_acts_455 : decode cL_acts 455 = .ok (.aload_n 0, 1) := by decide +kernel
theorem dL_acts_456 : decode cL_acts 456 = .ok (.iload 13, 2) := by decide +kernel
theorem dL_acts_458 : decode cL_acts 458 = .ok (.aload 5, 2) := by decide +kernel
theorem dL_acts_460 : decode cL_acts 460 = .ok (.bipush 8, 2) := by decide +kernel
theorem dL_acts_462 : decode cL_acts 462 = .ok (.iload 13, 2) := by decide +kernel
theorem dL_acts_464 : decode cL_acts 464 = .ok (.iadd, 1) := by decide +kernel
theorem dL_acts_465 : decode cL_acts 465 = .ok (.iaload, 1) := by decide +kernel
theorem dL_acts_466 : decode cL_acts 466 = .ok (.invokevirtual 116, 3) := by decide +kernel
theorem dL_acts_469 : decode cL_acts 469 = .ok (.iload 14, 2) := by decide +kernel
theorem dL_acts_471 : decode cL_acts 471 = .ok (.if_icmp .ne 7, 3) := by decide +kernel
theorem dL_acts_474 : decode cL_acts 474 = .ok (.iconst 1, 1) := by decide +kernel
theorem dL_acts_475 : decode cL_acts 475 = .ok (.goto 4, 3) := by decide +kernel
theorem dL_acts_478 : decode cL_acts 478 = .ok (.iconst 0, 1) := by decide +kernel
theorem dL_acts_479 : decode cL_acts 479 = .ok (.ireturn, 1) := by decide +kernel
theorem dL_acts_480 : decode cL_acts 480 = .ok (.iconst 1, 1) := by decide +kernel
theorem dL_acts_481 : decode cL_acts 481 = .ok (.iload 7, 2) := by decide +kernel
theorem dL_acts_483 : decode cL_acts 483 = .ok (.iload 7, 2) := by decide +kernel
theorem dL_acts_485 : decode cL_acts 485 = .ok (.bipush 8, 2) := by decide +kernel
theorem dL_acts_487 : decode cL_acts 487 = .ok (.ishr, 1) := by decide +kernel
theorem dL_acts_488 : decode cL_acts 488 = .ok (.iconst 4, 1) := by decide +kernel
theorem dL_acts_489 : decode cL_acts 489 = .ok (.invokestatic 88, 3) := by decide +kernel
theorem dL_acts_492 : decode cL_acts 492 = .ok (.ifCond .ne 8, 3) := by decide +kernel
theorem dL_acts_495 : decode cL_acts 495 = .ok (.bipush 99, 2) := by decide +kernel
theorem dL_acts_497 : decode cL_acts 497 = .ok (.goto 5, 3) := by decide +kernel
theorem dL_acts_500 : decode cL_acts 500 = .ok (.bipush 8, 2) := by decide +kernel
theorem dL_acts_502 : decode cL_acts 502 = .ok (.invokestatic 88, 3) := by decide +kernel
theorem dL_acts_505 : decode cL_acts 505 = .ok (.iadd, 1) := by decide +kernel
theorem dL_acts_506 : decode cL_acts 506 = .ok (.istore 15, 2) := by decide +kernel
theorem dL_acts_508 : decode cL_acts 508 = .ok (.iconst 0, 1) := by decide +kernel
theorem dL_acts_509 : decode cL_acts 509 = .ok (.istore 16, 2) := by decide +kernel
theorem dL_acts_511 : decode cL_acts 511 = .ok (.iconst 0, 1) := by decide +kernel
theorem dL_acts_512 : decode cL_acts 512 = .ok (.istore 17, 2) := by decide +kernel
theorem dL_acts_514 : decode cL_acts 514 = .ok (.iload 17, 2) := by decide +kernel
theorem dL_acts_516 : decode cL_acts 516 = .ok (.iload 15, 2) := by decide +kernel
theorem dL_acts_518 : decode cL_acts 518 = .ok (.if_icmp .ge 24, 3) := by decide +kernel
theorem dL_acts_521 : decode cL_acts 521 = .ok (.iload 16, 2) := by decide +kernel
theorem dL_acts_523 : decode cL_acts 523 = .ok (.aload_n 1, 1) := by decide +kernel
theorem dL_acts_524 : decode cL_acts 524 = .ok (.aload_n 2, 1) := by decide +kernel
theorem dL_acts_525 : decode cL_acts 525 = .ok (.aload_n 3, 1) := by decide +kernel
theorem dL_acts_526 : decode cL_acts 526 = .ok (.aload 4, 2) := by decide +kernel
theorem dL_acts_528 : decode cL_acts 528 = .ok (.aload 5, 2) := by decide +kernel
theorem dL_acts_530 : decode cL_acts 530 = .ok (.invokestatic 82, 3) := by decide +kernel
theorem dL_acts_533 : decode cL_acts 533 = .ok (.iadd, 1) := by decide +kernel
theorem dL_acts_534 : decode cL_acts 534 = .ok (.istore 16, 2) := by decide +kernel
theorem dL_acts_536 : decode cL_acts 536 = .ok (.iinc 17 1, 3) := by decide +kernel
theorem dL_acts_539 : decode cL_acts 539 = .ok (.goto (-25), 3) := by decide +kernel
theorem dL_acts_542 : decode cL_acts 542 = .ok (.aload_n 0, 1) := by decide +kernel
theorem dL_acts_543 : decode cL_acts 543 = .ok (.iload 15, 2) := by decide +kernel
theorem dL_acts_545 : decode cL_acts 545 = .ok (.invokevirtual 119, 3) := by decide +kernel
theorem dL_acts_548 : decode cL_acts 548 = .ok (.iload 16, 2) := by decide +kernel
theorem dL_acts_550 : decode cL_acts 550 = .ok (.if_icmp .ne 7, 3) := by decide +kernel
theorem dL_acts_553 : decode cL_acts 553 = .ok (.iconst 1, 1) := by decide +kernel
theorem dL_acts_554 : decode cL_acts 554 = .ok (.goto 4, 3) := by decide +kernel
theorem dL_acts_557 : decode cL_acts 557 = .ok (.iconst 0, 1) := by decide +kernel
theorem dL_acts_558 : decode cL_acts 558 = .ok (.ireturn, 1) := by decide +kernel
theorem dL_law_0 : decode cL_law 0 = .ok (.new 39, 3) := by decide +kernel
theorem dL_law_3 : decode cL_law 3 = .ok (.dup, 1) := by decide +kernel
theorem dL_law_4 : decode cL_law 4 = .ok (.invokespecial 122, 3) := by decide +kernel
theorem dL_law_7 : decode cL_law 7 = .ok (.astore_n 1, 1) := by decide +kernel
theorem dL_law_8 : decode cL_law 8 = .ok (.bipush 36, 2) := by decide +kernel
theorem dL_law_10 : decode cL_law 10 = .ok (.newarray .int, 2) := by decide +kernel
theorem dL_law_12 : decode cL_law 12 = .ok (.astore_n 2, 1) := by decide +kernel
theorem dL_law_13 : decode cL_law 13 = .ok (.bipush 36, 2) := by decide +kernel
theorem dL_law_15 : decode cL_law 15 = .ok (.newarray .int, 2) := by decide +kernel
theorem dL_law_17 : decode cL_law 17 = .ok (.astore_n 3, 1) := by decide +kernel
theorem dL_law_18 : decode cL_law 18 = .ok (.bipush 48, 2) := by decide +kernel
theorem dL_law_20 : decode cL_law 20 = .ok (.newarray .int, 2) := by decide +kernel
theorem dL_law_22 : decode cL_law 22 = .ok (.astore 4, 2) := by decide +kernel
theorem dL_law_24 : decode cL_law 24 = .ok (.bipush 48, 2) := by decide +kernel
theorem dL_law_26 : decode cL_law 26 = .ok (.newarray .int, 2) := by decide +kernel
theorem dL_law_28 : decode cL_law 28 = .ok (.astore 5, 2) := by decide +kernel
theorem dL_law_30 : decode cL_law 30 = .ok (.bipush 11, 2) := by decide +kernel
theorem dL_law_32 : decode cL_law 32 = .ok (.newarray .int, 2) := by decide +kernel
theorem dL_law_34 : decode cL_law 34 = .ok (.astore 6, 2) := by decide +kernel
theorem dL_law_36 : decode cL_law 36 = .ok (.aload 6, 2) := by decide +kernel
theorem dL_law_38 : decode cL_law 38 = .ok (.bipush 9, 2) := by decide +kernel
theorem dL_law_40 : decode cL_law 40 = .ok (.bipush 10, 2) := by decide +kernel
theorem dL_law_42 : decode cL_law 42 = .ok (.iastore, 1) := by decide +kernel
theorem dL_law_43 : decode cL_law 43 = .ok (.iconst 0, 1) := by decide +kernel
theorem dL_law_44 : decode cL_law 44 = .ok (.istore 7, 2) := by decide +kernel
theorem dL_law_46 : decode cL_law 46 = .ok (.iload 7, 2) := by decide +kernel
theorem dL_law_48 : decode cL_law 48 = .ok (.bipush 12, 2) := by decide +kernel
theorem dL_law_50 : decode cL_law 50 = .ok (.if_icmp .ge 53, 3) := by decide +kernel
theorem dL_law_53 : decode cL_law 53 = .ok (.aload_n 2, 1) := by decide +kernel
theorem dL_law_54 : decode cL_law 54 = .ok (.iconst 3, 1) := by decide +kernel
theorem dL_law_55 : decode cL_law 55 = .ok (.iload 7, 2) := by decide +kernel
theorem dL_law_57 : decode cL_law 57 = .ok (.imul, 1) := by decide +kernel
theorem dL_law_58 : decode cL_law 58 = .ok (.iload 7, 2) := by decide +kernel
theorem dL_law_60 : decode cL_law 60 = .ok (.bipush 6, 2) := by decide +kernel
theorem dL_law_62 : decode cL_law 62 = .ok (.if_icmp .ge 10, 3) := by decide +kernel
theorem dL_law_65 : decode cL_law 65 = .ok (.iload 7, 2) := by decide +kernel
theorem dL_law_67 : decode cL_law 67 = .ok (.iconst 1, 1) := by decide +kernel
theorem dL_law_68 : decode cL_law 68 = .ok (.iadd, 1) := by decide +kernel
theorem dL_law_69 : decode cL_law 69 = .ok (.goto 4, 3) := by decide +kernel
theorem dL_law_72 : decode cL_law 72 = .ok (.iconst 0, 1) := by decide +kernel
theorem dL_law_73 : decode cL_law 73 = .ok (.iastore, 1) := by decide +kernel
theorem dL_law_74 : decode cL_law 74 = .ok (.aload_n 2, 1) := by decide +kernel
theorem dL_law_75 : decode cL_law 75 = .ok (.iconst 3, 1) := by decide +kernel
theorem dL_law_76 : decode cL_law 76 = .ok (.iload 7, 2) := by decide +kernel
theorem dL_law_78 : decode cL_law 78 = .ok (.imul, 1) := by decide +kernel
theorem dL_law_79 : decode cL_law 79 = .ok (.iconst 1, 1) := by decide +kernel
theorem dL_law_80 : decode cL_law 80 = .ok (.iadd, 1) := by decide +kernel
theorem dL_law_81 : decode cL_law 81 = .ok (.aload_n 2, 1) := by decide +kernel
theorem dL_law_82 : decode cL_law 82 = .ok (.iconst 3, 1) := by decide +kernel
theorem dL_law_83 : decode cL_law 83 = .ok (.iload 7, 2) := by decide +kernel
theorem dL_law_85 : decode cL_law 85 = .ok (.imul, 1) := by decide +kernel
theorem dL_law_86 : decode cL_law 86 = .ok (.iaload, 1) := by decide +kernel
theorem dL_law_87 : decode cL_law 87 = .ok (.iastore, 1) := by decide +kernel
theorem dL_law_88 : decode cL_law 88 = .ok (.aload_n 3, 1) := by decide +kernel
theorem dL_law_89 : decode cL_law 89 = .ok (.iconst 3, 1) := by decide +kernel
theorem dL_law_90 : decode cL_law 90 = .ok (.iload 7, 2) := by decide +kernel
theorem dL_law_92 : decode cL_law 92 = .ok (.imul, 1) := by decide +kernel
theorem dL_law_93 : decode cL_law 93 = .ok (.iconst 2, 1) := by decide +kernel
theorem dL_law_94 : decode cL_law 94 = .ok (.iadd, 1) := by decide +kernel
theorem dL_law_95 : decode cL_law 95 = .ok (.iconst (-1), 1) := by decide +kernel
theorem dL_law_96 : decode cL_law 96 = .ok (.iastore, 1) := by decide +kernel
theorem dL_law_97 : decode cL_law 97 = .ok (.iinc 7 1, 3) := by decide +kernel
theorem dL_law_100 : decode cL_law 100 = .ok (.goto (-54), 3) := by decide +kernel
theorem dL_law_103 : decode cL_law 103 = .ok (.aload_n 1, 1) := by decide +kernel
theorem dL_law_104 : decode cL_law 104 = .ok (.aload_n 2, 1) := by decide +kernel
theorem dL_law_105 : decode cL_law 105 = .ok (.aload_n 3, 1) := by decide +kernel
theorem dL_law_106 : decode cL_law 106 = .ok (.aload 6, 2) := by decide +kernel
theorem dL_law_108 : decode cL_law 108 = .ok (.invokestatic 123, 3) := by decide +kernel
theorem dL_law_111 : decode cL_law 111 = .ok (.ifCond .eq 46, 3) := by decide +kernel
theorem dL_law_114 : decode cL_law 114 = .ok (.aload_n 1, 1) := by decide +kernel
theorem dL_law_115 : decode cL_law 115 = .ok (.aload_n 2, 1) := by decide +kernel
theorem dL_law_116 : decode cL_law 116 = .ok (.aload_n 3, 1) := by decide +kernel
theorem dL_law_117 : decode cL_law 117 = .ok (.aload 4, 2) := by decide +kernel
theorem dL_law_119 : decode cL_law 119 = .ok (.aload 5, 2) := by decide +kernel
theorem dL_law_121 : decode cL_law 121 = .ok (.aload 6, 2) := by decide +kernel
theorem dL_law_123 : decode cL_law 123 = .ok (.invokestatic 127, 3) := by decide +kernel
theorem dL_law_126 : decode cL_law 126 = .ok (.ifCond .eq 31, 3) := by decide +kernel
theorem dL_law_129 : decode cL_law 129 = .ok (.aload_n 1, 1) := by decide +kernel
theorem dL_law_130 : decode cL_law 130 = .ok (.aload_n 2, 1) := by decide +kernel
theorem dL_law_131 : decode cL_law 131 = .ok (.aload_n 3, 1) := by decide +kernel
theorem dL_law_132 : decode cL_law 132 = .ok (.aload 4, 2) := by decide +kernel
theorem dL_law_134 : decode cL_law 134 = .ok (.aload 5, 2) := by decide +kernel
theorem dL_law_136 : decode cL_law 136 = .ok (.aload 6, 2) := by decide +kernel
theorem dL_law_138 : decode cL_law 138 = .ok (.aload_n 0, 1) := by decide +kernel
theorem dL_law_139 : decode cL_law 139 = .ok (.iconst 0, 1) := by decide +kernel
theorem dL_law_140 : decode cL_law 140 = .ok (.invokestatic 131, 3) := by decide +kernel
theorem dL_law_143 : decode cL_law 143 = .ok (.iconst 3, 1) := by decide +kernel
theorem dL_law_144 : decode cL_law 144 = .ok (.idiv, 1) := by decide +kernel
theorem dL_law_145 : decode cL_law 145 = .ok (.iconst 3, 1) := by decide +kernel
theorem dL_law_146 : decode cL_law 146 = .ok (.imul, 1) := by decide +kernel
theorem dL_law_147 : decode cL_law 147 = .ok (.invokestatic 99, 3) := by decide +kernel
theorem dL_law_150 : decode cL_law 150 = .ok (.ifCond .eq 7, 3) := by decide +kernel
theorem dL_law_153 : decode cL_law 153 = .ok (.iconst 1, 1) := by decide +kernel
theorem dL_law_154 : decode cL_law 154 = .ok (.goto 4, 3) := by decide +kernel
theorem dL_law_157 : decode cL_law 157 = .ok (.iconst 0, 1) := by decide +kernel
theorem dL_law_158 : decode cL_law 158 = .ok (.istore 7, 2) := by decide +kernel
theorem dL_law_160 : decode cL_law 160 = .ok (.iconst 0, 1) := by decide +kernel
theorem dL_law_161 : decode cL_law 161 = .ok (.istore 8, 2) := by decide +kernel
theorem dL_law_163 : decode cL_law 163 = .ok (.iload 8, 2) := by decide +kernel
theorem dL_law_165 : decode cL_law 165 = .ok (.bipush 42, 2) := by decide +kernel
theorem dL_law_167 : decode cL_law 167 = .ok (.if_icmp .ge 117, 3) := by decide +kernel
theorem dL_law_170 : decode cL_law 170 = .ok (.iload 7, 2) := by decide +kernel
theorem dL_law_172 : decode cL_law 172 = .ok (.ifCond .eq 112, 3) := by decide +kernel
theorem dL_law_175 : decode cL_law 175 = .ok (.aload_n 0, 1) := by decide +kernel
theorem dL_law_176 : decode cL_law 176 = .ok (.iconst 1, 1) := by decide +kernel
theorem dL_law_177 : decode cL_law 177 = .ok (.iload 8, 2) := by decide +kernel
theorem dL_law_179 : decode cL_law 179 = .ok (.iadd, 1) := by decide +kernel
theorem dL_law_180 : decode cL_law 180 = .ok (.invokestatic 131, 3) := by decide +kernel
theorem dL_law_183 : decode cL_law 183 = .ok (.istore 9, 2) := by decide +kernel
theorem dL_law_185 : decode cL_law 185 = .ok (.aload_n 1, 1) := by decide +kernel
theorem dL_law_186 : decode cL_law 186 = .ok (.aload_n 2, 1) := by decide +kernel
theorem dL_law_187 : decode cL_law 187 = .ok (.aload_n 3, 1) := by decide +kernel
theorem dL_law_188 : decode cL_law 188 = .ok (.aload 4, 2) := by decide +kernel
theorem dL_law_190 : decode cL_law 190 = .ok (.aload 5, 2) := by decide +kernel
theorem dL_law_192 : decode cL_law 192 = .ok (.aload 6, 2) := by decide +kernel
theorem dL_law_194 : decode cL_law 194 = .ok (.iload 8, 2) := by decide +kernel
theorem dL_law_196 : decode cL_law 196 = .ok (.iconst 3, 1) := by decide +kernel
theorem dL_law_197 : decode cL_law 197 = .ok (.if_icmp .ge 7, 3) := by decide +kernel
theorem dL_law_200 : decode cL_law 200 = .ok (.iconst 0, 1) := by decide +kernel
theorem dL_law_201 : decode cL_law 201 = .ok (.goto 13, 3) := by decide +kernel
theorem dL_law_204 : decode cL_law 204 = .ok (.iload 9, 2) := by decide +kernel
theorem dL_law_206 : decode cL_law 206 = .ok (.bipush 18, 2) := by decide +kernel
theorem dL_law_208 : decode cL_law 208 = .ok (.ishr, 1) := by decide +kernel
theorem dL_law_209 : decode cL_law 209 = .ok (.bipush 16, 2) := by decide +kernel
theorem dL_law_211 : decode cL_law 211 = .ok (.invokestatic 88, 3) := by decide +kernel
theorem dL_law_214 : decode cL_law 214 = .ok (.iload 9, 2) := by decide +kernel
theorem dL_law_216 : decode cL_law 216 = .ok (.invokestatic 134, 3) := by decide +kernel
theorem dL_law_219 : decode cL_law 219 = .ok (.ifCond .eq 56, 3) := by decide +kernel
theorem dL_law_222 : decode cL_law 222 = .ok (.aload_n 1, 1) := by decide +kernel
theorem dL_law_223 : decode cL_law 223 = .ok (.aload_n 2, 1) := by decide +kernel
theorem dL_law_224 : decode cL_law 224 = .ok (.aload_n 3, 1) := by decide +kernel
theorem dL_law_225 : decode cL_law 225 = .ok (.aload 6, 2) := by decide +kernel
theorem dL_law_227 : decode cL_law 227 = .ok (.invokestatic 123, 3) := by decide +kernel
theorem dL_law_230 : decode cL_law 230 = .ok (.ifCond .eq 45, 3) := by decide +kernel
theorem dL_law_233 : decode cL_law 233 = .ok (.aload_n 1, 1) := by decide +kernel
theorem dL_law_234 : decode cL_law 234 = .ok (.aload_n 2, 1) := by decide +kernel
theorem dL_law_235 : decode cL_law 235 = .ok (.aload_n 3, 1) := by decide +kernel
theorem dL_law_236 : decode cL_law 236 = .ok (.aload 4, 2) := by decide +kernel
theorem dL_law_238 : decode cL_law 238 = .ok (.aload 5, 2) := by decide +kernel
theorem dL_law_240 : decode cL_law 240 = .ok (.aload 6, 2) := by decide +kernel
theorem dL_law_242 : decode cL_law 242 = .ok (.invokestatic 127, 3) := by decide +kernel
theorem dL_law_245 : decode cL_law 245 = .ok (.ifCond .eq 30, 3) := by decide +kernel
theorem dL_law_248 : decode cL_law 248 = .ok (.iload 8, 2) := by decide +kernel
theorem dL_law_250 : decode cL_law 250 = .ok (.iconst 4, 1) := by decide +kernel
theorem dL_law_251 : decode cL_law 251 = .ok (.irem, 1) := by decide +kernel
theorem dL_law_252 : decode cL_law 252 = .ok (.iconst 1, 1) := by decide +kernel
theorem dL_law_253 : decode cL_law 253 = .ok (.if_icmp .ne 18, 3) := by decide +kernel
theorem dL_law_256 : decode cL_law 256 = .ok (.aload_n 1, 1) := by decide +kernel
theorem dL_law_257 : decode cL_law 257 = .ok (.aload_n 2, 1) := by decide +kernel
theorem dL_law_258 : decode cL_law 258 = .ok (.aload_n 3, 1) := by decide +kernel
theorem dL_law_259 : decode cL_law 259 = .ok (.aload 4, 2) := by decide +kernel
theorem dL_law_261 : decode cL_law 261 = .ok (.aload 5, 2) := by decide +kernel
theorem dL_law_263 : decode cL_law 263 = .ok (.aload 6, 2) := by decide +kernel
theorem dL_law_265 : decode cL_law 265 = .ok (.invokestatic 138, 3) := by decide +kernel
theorem dL_law_268 : decode cL_law 268 = .ok (.ifCond .eq 7, 3) := by decide +kernel
theorem dL_law_271 : decode cL_law 271 = .ok (.iconst 1, 1) := by decide +kernel
theorem dL_law_272 : decode cL_law 272 = .ok (.goto 4, 3) := by decide +kernel
theorem dL_law_275 : decode cL_law 275 = .ok (.iconst 0, 1) := by decide +kernel
theorem dL_law_276 : decode cL_law 276 = .ok (.istore 7, 2) := by decide +kernel
theorem dL_law_278 : decode cL_law 278 = .ok (.iinc 8 1, 3) := by decide +kernel
theorem dL_law_281 : decode cL_law 281 = .ok (.goto (-118), 3) := by decide +kernel
theorem dL_law_284 : decode cL_law 284 = .ok (.iload 7, 2) := by decide +kernel
theorem dL_law_286 : decode cL_law 286 = .ok (.ireturn, 1) := by decide +kernel
abbrev vwCl : List vw_C := [(RX0, TX0, 8), (RX1, TX1, 3), (RX2, TX2, 9), (RX3, TX3, 6), (RX4, TX4, 12), (RX5, TX5, 4)]
