def RX0 : String := "PachinkoReels$Board"
def TX0 : u_T := fun k => match k with
  | 0 => ("PachinkoReels$Board", "numbers", "[I", true)
  | 1 => ("PachinkoReels$Board", "pins", "[I", true)
  | 2 => ("PachinkoReels$Board", "bentPins", "[I", true)
  | 3 => ("PachinkoReels$Board", "touchedPins", "[I", true)
  | 4 => ("PachinkoReels$Board", "kinds", "[I", true)
  | 5 => ("PachinkoReels$Board", "pays", "[I", true)
  | 6 => ("PachinkoReels$Board", "openTulips", "[I", true)
  | 7 => ("PachinkoReels$Board", "came", "[I", true)
  | 8 => ("PachinkoReels$Board", "paidBy", "[I", true)
  | _ => ("PachinkoReels$Board", "signs", "[I", true)
def tyX0 : Nat → FieldType := fun k => match k with
  | 0 => .array .int
  | 1 => .array .int
  | 2 => .array .int
  | 3 => .array .int
  | 4 => .array .int
  | 5 => .array .int
  | 6 => .array .int
  | 7 => .array .int
  | 8 => .array .int
  | _ => .array .int
abbrev wsX00 : List Cond := u_ws RX0 TX0 10
theorem nmX0 : ∀ a, a < 10 → ∀ b, b < 10 → a ≠ b → (TX0 a).2.1 ≠ (TX0 b).2.1 := by decide +kernel
theorem tyX0_ok : ∀ k, k < 10 → parseFieldDescriptor (TX0 k).2.2.1 = some (tyX0 k) := by decide +kernel
abbrev cX0_init : ByteArray := prog_2_method_1_code
def yX0_init : MethodName := ⟨RX0, "<init>", "()V"⟩
abbrev cX0_copyFrom : ByteArray := prog_2_method_2_code
def yX0_copyFrom : MethodName := ⟨RX0, "copyFrom", "(LPachinkoReels$Board;)V"⟩
abbrev cX0_change : ByteArray := prog_2_method_3_code
def yX0_change : MethodName := ⟨RX0, "change", "(II)I"⟩
abbrev cX0_bendPin : ByteArray := prog_2_method_4_code
def yX0_bendPin : MethodName := ⟨RX0, "bendPin", "(II)I"⟩
abbrev cX0_addBentPin : ByteArray := prog_2_method_5_code
def yX0_addBentPin : MethodName := ⟨RX0, "addBentPin", "(I)V"⟩
abbrev cX0_removeBentPin : ByteArray := prog_2_method_6_code
def yX0_removeBentPin : MethodName := ⟨RX0, "removeBentPin", "(I)V"⟩
abbrev cX0_changePocket : ByteArray := prog_2_method_8_code
def yX0_changePocket : MethodName := ⟨RX0, "changePocket", "(III)I"⟩
abbrev cX0_tellPocket : ByteArray := prog_2_method_9_code
def yX0_tellPocket : MethodName := ⟨RX0, "tellPocket", "(II)I"⟩
abbrev cX0_isHeldOpen : ByteArray := prog_2_method_10_code
def yX0_isHeldOpen : MethodName := ⟨RX0, "isHeldOpen", "()Z"⟩
abbrev cX0_isOpen : ByteArray := prog_2_method_11_code
def yX0_isOpen : MethodName := ⟨RX0, "isOpen", "(I)Z"⟩
abbrev cX0_buyBalls : ByteArray := prog_2_method_12_code
def yX0_buyBalls : MethodName := ⟨RX0, "buyBalls", "(I)V"⟩
abbrev cX0_launchBalls : ByteArray := prog_2_method_13_code
def yX0_launchBalls : MethodName := ⟨RX0, "launchBalls", "(II)I"⟩
abbrev cX0_launchBall : ByteArray := prog_2_method_14_code
def yX0_launchBall : MethodName := ⟨RX0, "launchBall", "(I)I"⟩
abbrev cX0_drawBelow : ByteArray := prog_2_method_15_code
def yX0_drawBelow : MethodName := ⟨RX0, "drawBelow", "(I)I"⟩
abbrev cX0_spinReels : ByteArray := prog_2_method_16_code
def yX0_spinReels : MethodName := ⟨RX0, "spinReels", "()V"⟩
abbrev cX0_fallFrom : ByteArray := prog_2_method_17_code
def yX0_fallFrom : MethodName := ⟨RX0, "fallFrom", "(I)I"⟩
abbrev cX0_comeTo : ByteArray := prog_2_method_18_code
def yX0_comeTo : MethodName := ⟨RX0, "comeTo", "(I)I"⟩
abbrev cX0_payFrom : ByteArray := prog_2_method_19_code
def yX0_payFrom : MethodName := ⟨RX0, "payFrom", "(I)I"⟩
def RX1 : String := "PachinkoReels$History"
def TX1 : u_T := fun k => match k with
  | 0 => ("PachinkoReels$History", "ring", "[LPachinkoReels$Board;", true)
  | 1 => ("PachinkoReels$History", "oldest", "I", false)
  | _ => ("PachinkoReels$History", "size", "I", false)
def tyX1 : Nat → FieldType := fun k => match k with
  | 0 => .array (.object "PachinkoReels$Board")
  | 1 => .int
  | _ => .int
abbrev wsX10 : List Cond := u_ws RX1 TX1 3
theorem nmX1 : ∀ a, a < 3 → ∀ b, b < 3 → a ≠ b → (TX1 a).2.1 ≠ (TX1 b).2.1 := by decide +kernel
theorem tyX1_ok : ∀ k, k < 3 → parseFieldDescriptor (TX1 k).2.2.1 = some (tyX1 k) := by decide +kernel
abbrev cX1_init : ByteArray := prog_3_method_1_code
def yX1_init : MethodName := ⟨RX1, "<init>", "()V"⟩
abbrev cX1_save : ByteArray := prog_3_method_2_code
def yX1_save : MethodName := ⟨RX1, "save", "(LPachinkoReels$Board;)V"⟩
abbrev cX1_takeLatest : ByteArray := prog_3_method_3_code
def yX1_takeLatest : MethodName := ⟨RX1, "takeLatest", "(LPachinkoReels$Board;)Z"⟩
def RX2 : String := "PachinkoReels$Paths"
def TX2 : u_T := fun k => match k with
  | 0 => ("PachinkoReels$Paths", "counted", "[I", true)
  | 1 => ("PachinkoReels$Paths", "gone", "[I", true)
  | _ => ("PachinkoReels$Paths", "next", "[I", true)
def tyX2 : Nat → FieldType := fun k => match k with
  | 0 => .array .int
  | 1 => .array .int
  | _ => .array .int
abbrev wsX20 : List Cond := u_ws RX2 TX2 3
theorem nmX2 : ∀ a, a < 3 → ∀ b, b < 3 → a ≠ b → (TX2 a).2.1 ≠ (TX2 b).2.1 := by decide +kernel
theorem tyX2_ok : ∀ k, k < 3 → parseFieldDescriptor (TX2 k).2.2.1 = some (tyX2 k) := by decide +kernel
abbrev cX2_init : ByteArray := prog_4_method_1_code
def yX2_init : MethodName := ⟨RX2, "<init>", "()V"⟩
abbrev cX2_countByRows : ByteArray := prog_4_method_2_code
def yX2_countByRows : MethodName := ⟨RX2, "countByRows", "([II)V"⟩
abbrev cX2_countRow : ByteArray := prog_4_method_3_code
def yX2_countRow : MethodName := ⟨RX2, "countRow", "([II)V"⟩
abbrev cX2_goAllWays : ByteArray := prog_4_method_4_code
def yX2_goAllWays : MethodName := ⟨RX2, "goAllWays", "([II)V"⟩
abbrev cX2_goOn : ByteArray := prog_4_method_5_code
def yX2_goOn : MethodName := ⟨RX2, "goOn", "([III[I)V"⟩
def RX3 : String := "PachinkoReels$Text"
def TX3 : u_T := fun k => match k with
  | 0 => ("PachinkoReels$Text", "codes", "[I", true)
  | _ => ("PachinkoReels$Text", "length", "I", false)
def tyX3 : Nat → FieldType := fun k => match k with
  | 0 => .array .int
  | _ => .int
abbrev wsX30 : List Cond := u_ws RX3 TX3 2
theorem nmX3 : ∀ a, a < 2 → ∀ b, b < 2 → a ≠ b → (TX3 a).2.1 ≠ (TX3 b).2.1 := by decide +kernel
theorem tyX3_ok : ∀ k, k < 2 → parseFieldDescriptor (TX3 k).2.2.1 = some (tyX3 k) := by decide +kernel
abbrev cX3_init : ByteArray := prog_5_method_1_code
def yX3_init : MethodName := ⟨RX3, "<init>", "()V"⟩
def RX4 : String := "PachinkoReels"
def TX4 : u_T := fun k => match k with
  | 0 => ("PachinkoReels", "board", "LPachinkoReels$Board;", true)
  | 1 => ("PachinkoReels", "tried", "LPachinkoReels$Board;", true)
  | 2 => ("PachinkoReels", "history", "LPachinkoReels$History;", true)
  | 3 => ("PachinkoReels", "text", "LPachinkoReels$Text;", true)
  | 4 => ("PachinkoReels", "paths", "LPachinkoReels$Paths;", true)
  | _ => ("PachinkoReels", "snapshot", "LPachinkoReels$Board;", false)
def tyX4 : Nat → FieldType := fun k => match k with
  | 0 => .object "PachinkoReels$Board"
  | 1 => .object "PachinkoReels$Board"
  | 2 => .object "PachinkoReels$History"
  | 3 => .object "PachinkoReels$Text"
  | 4 => .object "PachinkoReels$Paths"
  | _ => .object "PachinkoReels$Board"
abbrev wsX40 : List Cond := u_ws RX4 TX4 6
theorem nmX4 : ∀ a, a < 6 → ∀ b, b < 6 → a ≠ b → (TX4 a).2.1 ≠ (TX4 b).2.1 := by decide +kernel
theorem tyX4_ok : ∀ k, k < 6 → parseFieldDescriptor (TX4 k).2.2.1 = some (tyX4 k) := by decide +kernel
abbrev cX4_init : ByteArray := prog_1_method_1_code
def yX4_init : MethodName := ⟨RX4, "<init>", "()V"⟩
abbrev cX4_bend : ByteArray := prog_1_method_2_code
def yX4_bend : MethodName := ⟨RX4, "bend", "(III)I"⟩
abbrev cX4_pocket : ByteArray := prog_1_method_3_code
def yX4_pocket : MethodName := ⟨RX4, "pocket", "(III)I"⟩
abbrev cX4_start : ByteArray := prog_1_method_4_code
def yX4_start : MethodName := ⟨RX4, "start", "(I)I"⟩
abbrev cX4_set : ByteArray := prog_1_method_5_code
def yX4_set : MethodName := ⟨RX4, "set", "(II)I"⟩
abbrev cX4_shuffle : ByteArray := prog_1_method_6_code
def yX4_shuffle : MethodName := ⟨RX4, "shuffle", "(I)I"⟩
abbrev cX4_buy : ByteArray := prog_1_method_7_code
def yX4_buy : MethodName := ⟨RX4, "buy", "(I)I"⟩
abbrev cX4_launch : ByteArray := prog_1_method_8_code
def yX4_launch : MethodName := ⟨RX4, "launch", "(I)I"⟩
abbrev cX4_play : ByteArray := prog_1_method_9_code
def yX4_play : MethodName := ⟨RX4, "play", "(II)I"⟩
abbrev cX4_undo : ByteArray := prog_1_method_14_code
def yX4_undo : MethodName := ⟨RX4, "undo", "()I"⟩
abbrev cX4_restore : ByteArray := prog_1_method_16_code
def yX4_restore : MethodName := ⟨RX4, "restore", "()I"⟩
abbrev cX4_pin : ByteArray := prog_1_method_17_code
def yX4_pin : MethodName := ⟨RX4, "pin", "(II)I"⟩
abbrev cX4_touched : ByteArray := prog_1_method_19_code
def yX4_touched : MethodName := ⟨RX4, "touched", "(I)I"⟩
abbrev cX4_pocketOf : ByteArray := prog_1_method_20_code
def yX4_pocketOf : MethodName := ⟨RX4, "pocketOf", "(II)I"⟩
abbrev cX4_reel : ByteArray := prog_1_method_21_code
def yX4_reel : MethodName := ⟨RX4, "reel", "(I)I"⟩
abbrev cX4_count : ByteArray := prog_1_method_22_code
def yX4_count : MethodName := ⟨RX4, "count", "(I)I"⟩
abbrev cX4_ways : ByteArray := prog_1_method_23_code
def yX4_ways : MethodName := ⟨RX4, "ways", "(II)I"⟩
abbrev cX4_walked : ByteArray := prog_1_method_24_code
def yX4_walked : MethodName := ⟨RX4, "walked", "(II)I"⟩
abbrev cX4_ifLaunched : ByteArray := prog_1_method_25_code
def yX4_ifLaunched : MethodName := ⟨RX4, "ifLaunched", "(II)I"⟩
abbrev cX4_bestColumn : ByteArray := prog_1_method_26_code
def yX4_bestColumn : MethodName := ⟨RX4, "bestColumn", "()I"⟩
abbrev cX4_untilOpen : ByteArray := prog_1_method_27_code
def yX4_untilOpen : MethodName := ⟨RX4, "untilOpen", "(I)I"⟩
abbrev cX4_payback : ByteArray := prog_1_method_28_code
def yX4_payback : MethodName := ⟨RX4, "payback", "()D"⟩
abbrev cX4_checkIndex : ByteArray := prog_1_method_30_code
def yX4_checkIndex : MethodName := ⟨RX4, "checkIndex", "(II)V"⟩
abbrev cX4_checkValue : ByteArray := prog_1_method_31_code
def yX4_checkValue : MethodName := ⟨RX4, "checkValue", "(III)V"⟩
abbrev cX4_tryLaunch : ByteArray := prog_1_method_33_code
def yX4_tryLaunch : MethodName := ⟨RX4, "tryLaunch", "(I)V"⟩
abbrev cX4_tellTried : ByteArray := prog_1_method_34_code
def yX4_tellTried : MethodName := ⟨RX4, "tellTried", "(I)I"⟩
abbrev cX4_tryUntilHeld : ByteArray := prog_1_method_35_code
def yX4_tryUntilHeld : MethodName := ⟨RX4, "tryUntilHeld", "(I)I"⟩
abbrev cX4_measurePays : ByteArray := prog_1_method_36_code
def yX4_measurePays : MethodName := ⟨RX4, "measurePays", "(I)I"⟩
abbrev cX4_bounce : ByteArray := prog_1_method_42_code
def yX4_bounce : MethodName := ⟨RX4, "bounce", "(II)I"⟩
def RX5 : String := "PachinkoReelsModel"
def TX5 : u_T := fun k => match k with
  | _ => ("", "", "", false)
def tyX5 : Nat → FieldType := fun k => match k with
  | _ => .int
abbrev wsX50 : List Cond := u_ws RX5 TX5 0
theorem nmX5 : ∀ a, a < 0 → ∀ b, b < 0 → a ≠ b → (TX5 a).2.1 ≠ (TX5 b).2.1 := by decide +kernel
theorem tyX5_ok : ∀ k, k < 0 → parseFieldDescriptor (TX5 k).2.2.1 = some (tyX5 k) := by decide +kernel
def RJx145de : String := "java/io/Serializable"
def TJx145de : u_T := fun k => match k with
  | _ => ("", "", "", false)
def tyJx145de : Nat → FieldType := fun k => match k with
  | _ => .int
abbrev wsJx145de0 : List Cond := u_ws RJx145de TJx145de 0
theorem nmJx145de : ∀ a, a < 0 → ∀ b, b < 0 → a ≠ b → (TJx145de a).2.1 ≠ (TJx145de b).2.1 := by decide +kernel
theorem tyJx145de_ok : ∀ k, k < 0 → parseFieldDescriptor (TJx145de k).2.2.1 = some (tyJx145de k) := by decide +kernel
def RJ0 : String := "java/lang/String"
def TJ0 : u_T := fun k => match k with
  | _ => ("", "", "", false)
def tyJ0 : Nat → FieldType := fun k => match k with
  | _ => .int
abbrev wsJ00 : List Cond := u_ws RJ0 TJ0 0
theorem nmJ0 : ∀ a, a < 0 → ∀ b, b < 0 → a ≠ b → (TJ0 a).2.1 ≠ (TJ0 b).2.1 := by decide +kernel
theorem tyJ0_ok : ∀ k, k < 0 → parseFieldDescriptor (TJ0 k).2.2.1 = some (tyJ0 k) := by decide +kernel
def RJ10 : String := "java/lang/System"
def TJ10 : u_T := fun k => match k with
  | _ => ("", "", "", false)
def tyJ10 : Nat → FieldType := fun k => match k with
  | _ => .int
abbrev wsJ100 : List Cond := u_ws RJ10 TJ10 0
theorem nmJ10 : ∀ a, a < 0 → ∀ b, b < 0 → a ≠ b → (TJ10 a).2.1 ≠ (TJ10 b).2.1 := by decide +kernel
theorem tyJ10_ok : ∀ k, k < 0 → parseFieldDescriptor (TJ10 k).2.2.1 = some (tyJ10 k) := by decide +kernel
def RJ7 : String := "java/util/Arrays"
def TJ7 : u_T := fun k => match k with
  | _ => ("", "", "", false)
def tyJ7 : Nat → FieldType := fun k => match k with
  | _ => .int
abbrev wsJ70 : List Cond := u_ws RJ7 TJ7 0
theorem nmJ7 : ∀ a, a < 0 → ∀ b, b < 0 → a ≠ b → (TJ7 a).2.1 ≠ (TJ7 b).2.1 := by decide +kernel
theorem tyJ7_ok : ∀ k, k < 0 → parseFieldDescriptor (TJ7 k).2.2.1 = some (tyJ7 k) := by decide +kernel
abbrev cJ7_fill_53178 : ByteArray := prog_16_method_103_code
def yJ7_fill_53178 : MethodName := ⟨RJ7, "fill", "([II)V"⟩
def RL : String := "PachinkoReelsLaw"
abbrev cL_cell : ByteArray := method_2_code
def yL_cell : MethodName := ⟨RL, "cell", "([II)I"⟩
abbrev cL_low : ByteArray := method_3_code
def yL_low : MethodName := ⟨RL, "low", "(II)I"⟩
abbrev cL_bend : ByteArray := method_4_code
def yL_bend : MethodName := ⟨RL, "bend", "(LPachinkoReels;III)I"⟩
abbrev cL_pocket : ByteArray := method_5_code
def yL_pocket : MethodName := ⟨RL, "pocket", "(LPachinkoReels;III)I"⟩
abbrev cL_start : ByteArray := method_6_code
def yL_start : MethodName := ⟨RL, "start", "(LPachinkoReels;I)I"⟩
abbrev cL_set : ByteArray := method_7_code
def yL_set : MethodName := ⟨RL, "set", "(LPachinkoReels;II)I"⟩
abbrev cL_shuffle : ByteArray := method_8_code
def yL_shuffle : MethodName := ⟨RL, "shuffle", "(LPachinkoReels;I)I"⟩
abbrev cL_buy : ByteArray := method_9_code
def yL_buy : MethodName := ⟨RL, "buy", "(LPachinkoReels;I)I"⟩
abbrev cL_launch : ByteArray := method_10_code
def yL_launch : MethodName := ⟨RL, "launch", "(LPachinkoReels;I)I"⟩
abbrev cL_play : ByteArray := method_11_code
def yL_play : MethodName := ⟨RL, "play", "(LPachinkoReels;II)I"⟩
abbrev cL_undo : ByteArray := method_12_code
def yL_undo : MethodName := ⟨RL, "undo", "(LPachinkoReels;)I"⟩
abbrev cL_restore : ByteArray := method_13_code
def yL_restore : MethodName := ⟨RL, "restore", "(LPachinkoReels;)I"⟩
abbrev cL_draw : ByteArray := method_14_code
def yL_draw : MethodName := ⟨RL, "draw", "([II)I"⟩
abbrev cL_spin : ByteArray := method_15_code
def yL_spin : MethodName := ⟨RL, "spin", "([I)V"⟩
abbrev cL_isOpen : ByteArray := method_16_code
def yL_isOpen : MethodName := ⟨RL, "isOpen", "(I[I[I)Z"⟩
abbrev cL_launched : ByteArray := method_17_code
def yL_launched : MethodName := ⟨RL, "launched", "(I[I[I[I[I)I"⟩
abbrev cL_copy : ByteArray := method_18_code
def yL_copy : MethodName := ⟨RL, "copy", "([I[I)V"⟩
abbrev cL_ways : ByteArray := method_19_code
def yL_ways : MethodName := ⟨RL, "ways", "(I[I[I)V"⟩
abbrev cL_isAhead : ByteArray := method_20_code
def yL_isAhead : MethodName := ⟨RL, "isAhead", "(LPachinkoReels;I[I[I[I[I)Z"⟩
abbrev cL_isBest : ByteArray := method_21_code
def yL_isBest : MethodName := ⟨RL, "isBest", "(LPachinkoReels;[I[I[I)Z"⟩
abbrev cL_isSo : ByteArray := method_22_code
def yL_isSo : MethodName := ⟨RL, "isSo", "(LPachinkoReels;[I[I[I[I)Z"⟩
abbrev cL_act : ByteArray := method_23_code
def yL_act : MethodName := ⟨RL, "act", "(LPachinkoReels;II[I[I[I[I)Z"⟩
abbrev cL_law : ByteArray := code
def yL_law : MethodName := ⟨RL, "law", "([I)Z"⟩
abbrev vwCl : List vw_C := [(RX0, TX0, 10), (RX1, TX1, 3), (RX2, TX2, 3), (RX3, TX3, 2), (RX4, TX4, 6)]
