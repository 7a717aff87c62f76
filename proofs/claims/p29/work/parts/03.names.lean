def RX0 : String := "PolarPlanimeter$Arm"
def TX0 : u_T := fun k => match k with
  | 0 => ("PolarPlanimeter$Arm", "anchorX", "J", false)
  | 1 => ("PolarPlanimeter$Arm", "anchorY", "J", false)
  | 2 => ("PolarPlanimeter$Arm", "pole", "J", false)
  | 3 => ("PolarPlanimeter$Arm", "tracer", "J", false)
  | 4 => ("PolarPlanimeter$Arm", "otherSide", "Z", false)
  | 5 => ("PolarPlanimeter$Arm", "tracerX", "J", false)
  | 6 => ("PolarPlanimeter$Arm", "tracerY", "J", false)
  | 7 => ("PolarPlanimeter$Arm", "elbowX", "J", false)
  | _ => ("PolarPlanimeter$Arm", "elbowY", "J", false)
def tyX0 : Nat → FieldType := fun k => match k with
  | 0 => .long
  | 1 => .long
  | 2 => .long
  | 3 => .long
  | 4 => .boolean
  | 5 => .long
  | 6 => .long
  | 7 => .long
  | _ => .long
abbrev wsX00 : List Cond := u_ws RX0 TX0 9
theorem nmX0 : ∀ a, a < 9 → ∀ b, b < 9 → a ≠ b → (TX0 a).2.1 ≠ (TX0 b).2.1 := by decide +kernel
theorem tyX0_ok : ∀ k, k < 9 → parseFieldDescriptor (TX0 k).2.2.1 = some (tyX0 k) := by decide +kernel
abbrev cX0_init : ByteArray := prog_2_method_1_code
def yX0_init : MethodName := ⟨RX0, "<init>", "()V"⟩
abbrev cX0_fit : ByteArray := prog_2_method_2_code
def yX0_fit : MethodName := ⟨RX0, "fit", "(LPolarPlanimeter$State;)V"⟩
abbrev cX0_squareTo : ByteArray := prog_2_method_3_code
def yX0_squareTo : MethodName := ⟨RX0, "squareTo", "(JJ)J"⟩
abbrev cX0_spans : ByteArray := prog_2_method_4_code
def yX0_spans : MethodName := ⟨RX0, "spans", "(J)Z"⟩
abbrev cX0_place : ByteArray := prog_2_method_5_code
def yX0_place : MethodName := ⟨RX0, "place", "(JJ)Z"⟩
abbrev cX0_sweepTo : ByteArray := prog_2_method_6_code
def yX0_sweepTo : MethodName := ⟨RX0, "sweepTo", "(JJ)J"⟩
def RX1 : String := "PolarPlanimeter$Follower"
def TX1 : u_T := fun k => match k with
  | 0 => ("PolarPlanimeter$Follower", "arm", "LPolarPlanimeter$Arm;", true)
  | 1 => ("PolarPlanimeter$Follower", "wheel", "LPolarPlanimeter$Wheel;", true)
  | 2 => ("PolarPlanimeter$Follower", "leastSquare", "J", false)
  | _ => ("PolarPlanimeter$Follower", "greatestSquare", "J", false)
def tyX1 : Nat → FieldType := fun k => match k with
  | 0 => .object "PolarPlanimeter$Arm"
  | 1 => .object "PolarPlanimeter$Wheel"
  | 2 => .long
  | _ => .long
abbrev wsX10 : List Cond := u_ws RX1 TX1 4
theorem nmX1 : ∀ a, a < 4 → ∀ b, b < 4 → a ≠ b → (TX1 a).2.1 ≠ (TX1 b).2.1 := by decide +kernel
theorem tyX1_ok : ∀ k, k < 4 → parseFieldDescriptor (TX1 k).2.2.1 = some (tyX1 k) := by decide +kernel
abbrev cX1_init : ByteArray := prog_3_method_1_code
def yX1_init : MethodName := ⟨RX1, "<init>", "()V"⟩
abbrev cX1_measureAll : ByteArray := prog_3_method_2_code
def yX1_measureAll : MethodName := ⟨RX1, "measureAll", "(LPolarPlanimeter$State;)V"⟩
abbrev cX1_reachesSegment : ByteArray := prog_3_method_3_code
def yX1_reachesSegment : MethodName := ⟨RX1, "reachesSegment", "(LPolarPlanimeter$State;I)Z"⟩
abbrev cX1_beginMeasuring : ByteArray := prog_3_method_4_code
def yX1_beginMeasuring : MethodName := ⟨RX1, "beginMeasuring", "(LPolarPlanimeter$State;)V"⟩
abbrev cX1_measure : ByteArray := prog_3_method_5_code
def yX1_measure : MethodName := ⟨RX1, "measure", "(LPolarPlanimeter$State;I)V"⟩
abbrev cX1_reachesMeasured : ByteArray := prog_3_method_6_code
def yX1_reachesMeasured : MethodName := ⟨RX1, "reachesMeasured", "()Z"⟩
abbrev cX1_reachesMeasuredWith : ByteArray := prog_3_method_7_code
def yX1_reachesMeasuredWith : MethodName := ⟨RX1, "reachesMeasuredWith", "(I)Z"⟩
abbrev cX1_roll : ByteArray := prog_3_method_8_code
def yX1_roll : MethodName := ⟨RX1, "roll", "(LPolarPlanimeter$State;I)J"⟩
abbrev cX1_sum : ByteArray := prog_3_method_9_code
def yX1_sum : MethodName := ⟨RX1, "sum", "(LPolarPlanimeter$State;IZ)J"⟩
abbrev cX1_follow : ByteArray := prog_3_method_10_code
def yX1_follow : MethodName := ⟨RX1, "follow", "(LPolarPlanimeter$Outline;IIZ)V"⟩
def RX2 : String := "PolarPlanimeter$History"
def TX2 : u_T := fun k => match k with
  | 0 => ("PolarPlanimeter$History", "saved", "I", false)
  | _ => ("PolarPlanimeter$History", "states", "[LPolarPlanimeter$State;", true)
def tyX2 : Nat → FieldType := fun k => match k with
  | 0 => .int
  | _ => .array (.object "PolarPlanimeter$State")
abbrev wsX20 : List Cond := u_ws RX2 TX2 2
theorem nmX2 : ∀ a, a < 2 → ∀ b, b < 2 → a ≠ b → (TX2 a).2.1 ≠ (TX2 b).2.1 := by decide +kernel
theorem tyX2_ok : ∀ k, k < 2 → parseFieldDescriptor (TX2 k).2.2.1 = some (tyX2 k) := by decide +kernel
abbrev cX2_init : ByteArray := prog_4_method_1_code
def yX2_init : MethodName := ⟨RX2, "<init>", "()V"⟩
abbrev cX2_save : ByteArray := prog_4_method_2_code
def yX2_save : MethodName := ⟨RX2, "save", "(LPolarPlanimeter$State;)V"⟩
abbrev cX2_dropOldest : ByteArray := prog_4_method_3_code
def yX2_dropOldest : MethodName := ⟨RX2, "dropOldest", "()V"⟩
def RX3 : String := "PolarPlanimeter$Mean"
def TX3 : u_T := fun k => match k with
  | 0 => ("PolarPlanimeter$Mean", "areas", "[J", true)
  | 1 => ("PolarPlanimeter$Mean", "ascending", "[J", true)
  | 2 => ("PolarPlanimeter$Mean", "leftOut", "[Z", true)
  | 3 => ("PolarPlanimeter$Mean", "runs", "I", false)
  | 4 => ("PolarPlanimeter$Mean", "kept", "I", false)
  | _ => ("PolarPlanimeter$Mean", "value", "J", false)
def tyX3 : Nat → FieldType := fun k => match k with
  | 0 => .array .long
  | 1 => .array .long
  | 2 => .array .boolean
  | 3 => .int
  | 4 => .int
  | _ => .long
abbrev wsX30 : List Cond := u_ws RX3 TX3 6
theorem nmX3 : ∀ a, a < 6 → ∀ b, b < 6 → a ≠ b → (TX3 a).2.1 ≠ (TX3 b).2.1 := by decide +kernel
theorem tyX3_ok : ∀ k, k < 6 → parseFieldDescriptor (TX3 k).2.2.1 = some (tyX3 k) := by decide +kernel
abbrev cX3_init : ByteArray := prog_5_method_1_code
def yX3_init : MethodName := ⟨RX3, "<init>", "()V"⟩
abbrev cX3_take : ByteArray := prog_5_method_2_code
def yX3_take : MethodName := ⟨RX3, "take", "(LPolarPlanimeter$State;)V"⟩
abbrev cX3_leaveOut : ByteArray := prog_5_method_3_code
def yX3_leaveOut : MethodName := ⟨RX3, "leaveOut", "(I)V"⟩
abbrev cX3_middleOfKept : ByteArray := prog_5_method_4_code
def yX3_middleOfKept : MethodName := ⟨RX3, "middleOfKept", "()J"⟩
abbrev cX3_sortIn : ByteArray := prog_5_method_5_code
def yX3_sortIn : MethodName := ⟨RX3, "sortIn", "(JI)V"⟩
abbrev cX3_farthestFrom : ByteArray := prog_5_method_6_code
def yX3_farthestFrom : MethodName := ⟨RX3, "farthestFrom", "(J)I"⟩
abbrev cX3_sumOfKept : ByteArray := prog_5_method_7_code
def yX3_sumOfKept : MethodName := ⟨RX3, "sumOfKept", "()J"⟩
def RX4 : String := "PolarPlanimeter$Outline"
def TX4 : u_T := fun k => match k with
  | 0 => ("PolarPlanimeter$Outline", "corners", "I", false)
  | 1 => ("PolarPlanimeter$Outline", "xs", "[I", true)
  | 2 => ("PolarPlanimeter$Outline", "ys", "[I", true)
  | _ => ("PolarPlanimeter$Outline", "slips", "[I", true)
def tyX4 : Nat → FieldType := fun k => match k with
  | 0 => .int
  | 1 => .array .int
  | 2 => .array .int
  | _ => .array .int
abbrev wsX40 : List Cond := u_ws RX4 TX4 4
theorem nmX4 : ∀ a, a < 4 → ∀ b, b < 4 → a ≠ b → (TX4 a).2.1 ≠ (TX4 b).2.1 := by decide +kernel
theorem tyX4_ok : ∀ k, k < 4 → parseFieldDescriptor (TX4 k).2.2.1 = some (tyX4 k) := by decide +kernel
abbrev cX4_init : ByteArray := prog_6_method_1_code
def yX4_init : MethodName := ⟨RX4, "<init>", "()V"⟩
abbrev cX4_copy : ByteArray := prog_6_method_2_code
def yX4_copy : MethodName := ⟨RX4, "copy", "(LPolarPlanimeter$Outline;)V"⟩
abbrev cX4_open : ByteArray := prog_6_method_3_code
def yX4_open : MethodName := ⟨RX4, "open", "(III)V"⟩
abbrev cX4_close : ByteArray := prog_6_method_4_code
def yX4_close : MethodName := ⟨RX4, "close", "(I)V"⟩
abbrev cX4_put : ByteArray := prog_6_method_5_code
def yX4_put : MethodName := ⟨RX4, "put", "(IIII)V"⟩
abbrev cX4_next : ByteArray := prog_6_method_6_code
def yX4_next : MethodName := ⟨RX4, "next", "(I)I"⟩
abbrev cX4_previous : ByteArray := prog_6_method_7_code
def yX4_previous : MethodName := ⟨RX4, "previous", "(I)I"⟩
abbrev cX4_steps : ByteArray := prog_6_method_8_code
def yX4_steps : MethodName := ⟨RX4, "steps", "(II)I"⟩
abbrev cX4_allSteps : ByteArray := prog_6_method_9_code
def yX4_allSteps : MethodName := ⟨RX4, "allSteps", "(I)J"⟩
abbrev cX4_twiceArea : ByteArray := prog_6_method_10_code
def yX4_twiceArea : MethodName := ⟨RX4, "twiceArea", "()J"⟩
abbrev cX4_area : ByteArray := prog_6_method_11_code
def yX4_area : MethodName := ⟨RX4, "area", "()J"⟩
abbrev cX4_windingAround : ByteArray := prog_6_method_12_code
def yX4_windingAround : MethodName := ⟨RX4, "windingAround", "(II)J"⟩
abbrev cX4_crossing : ByteArray := prog_6_method_13_code
def yX4_crossing : MethodName := ⟨RX4, "crossing", "(III)I"⟩
abbrev cX4_touches : ByteArray := prog_6_method_14_code
def yX4_touches : MethodName := ⟨RX4, "touches", "(II)Z"⟩
abbrev cX4_fineX : ByteArray := prog_6_method_15_code
def yX4_fineX : MethodName := ⟨RX4, "fineX", "(III)J"⟩
abbrev cX4_fineY : ByteArray := prog_6_method_16_code
def yX4_fineY : MethodName := ⟨RX4, "fineY", "(III)J"⟩
abbrev cX4_finePart : ByteArray := prog_6_method_17_code
def yX4_finePart : MethodName := ⟨RX4, "finePart", "(IIII)J"⟩
def RX5 : String := "PolarPlanimeter$Runs"
def TX5 : u_T := fun k => match k with
  | 0 => ("PolarPlanimeter$Runs", "made", "I", false)
  | 1 => ("PolarPlanimeter$Runs", "corners", "[I", true)
  | 2 => ("PolarPlanimeter$Runs", "backward", "[Z", true)
  | _ => ("PolarPlanimeter$Runs", "sums", "[J", true)
def tyX5 : Nat → FieldType := fun k => match k with
  | 0 => .int
  | 1 => .array .int
  | 2 => .array .boolean
  | _ => .array .long
abbrev wsX50 : List Cond := u_ws RX5 TX5 4
theorem nmX5 : ∀ a, a < 4 → ∀ b, b < 4 → a ≠ b → (TX5 a).2.1 ≠ (TX5 b).2.1 := by decide +kernel
theorem tyX5_ok : ∀ k, k < 4 → parseFieldDescriptor (TX5 k).2.2.1 = some (tyX5 k) := by decide +kernel
abbrev cX5_init : ByteArray := prog_7_method_1_code
def yX5_init : MethodName := ⟨RX5, "<init>", "()V"⟩
abbrev cX5_copy : ByteArray := prog_7_method_2_code
def yX5_copy : MethodName := ⟨RX5, "copy", "(LPolarPlanimeter$Runs;)V"⟩
abbrev cX5_clear : ByteArray := prog_7_method_3_code
def yX5_clear : MethodName := ⟨RX5, "clear", "()I"⟩
abbrev cX5_add : ByteArray := prog_7_method_4_code
def yX5_add : MethodName := ⟨RX5, "add", "(IZJ)V"⟩
abbrev cX5_area : ByteArray := prog_7_method_5_code
def yX5_area : MethodName := ⟨RX5, "area", "(IJ)J"⟩
def RX6 : String := "PolarPlanimeter$State"
def TX6 : u_T := fun k => match k with
  | 0 => ("PolarPlanimeter$State", "anchorX", "I", false)
  | 1 => ("PolarPlanimeter$State", "anchorY", "I", false)
  | 2 => ("PolarPlanimeter$State", "tolerance", "I", false)
  | 3 => ("PolarPlanimeter$State", "settings", "[I", true)
  | 4 => ("PolarPlanimeter$State", "outline", "LPolarPlanimeter$Outline;", true)
  | _ => ("PolarPlanimeter$State", "runs", "LPolarPlanimeter$Runs;", true)
def tyX6 : Nat → FieldType := fun k => match k with
  | 0 => .int
  | 1 => .int
  | 2 => .int
  | 3 => .array .int
  | 4 => .object "PolarPlanimeter$Outline"
  | _ => .object "PolarPlanimeter$Runs"
abbrev wsX60 : List Cond := u_ws RX6 TX6 6
theorem nmX6 : ∀ a, a < 6 → ∀ b, b < 6 → a ≠ b → (TX6 a).2.1 ≠ (TX6 b).2.1 := by decide +kernel
theorem tyX6_ok : ∀ k, k < 6 → parseFieldDescriptor (TX6 k).2.2.1 = some (tyX6 k) := by decide +kernel
abbrev cX6_init : ByteArray := prog_8_method_1_code
def yX6_init : MethodName := ⟨RX6, "<init>", "()V"⟩
abbrev cX6_copy : ByteArray := prog_8_method_2_code
def yX6_copy : MethodName := ⟨RX6, "copy", "(LPolarPlanimeter$State;)V"⟩
abbrev cX6_constant : ByteArray := prog_8_method_3_code
def yX6_constant : MethodName := ⟨RX6, "constant", "()J"⟩
def RX7 : String := "PolarPlanimeter$TextReader"
def TX7 : u_T := fun k => match k with
  | 0 => ("PolarPlanimeter$TextReader", "xs", "[I", true)
  | 1 => ("PolarPlanimeter$TextReader", "ys", "[I", true)
  | 2 => ("PolarPlanimeter$TextReader", "latest", "I", false)
  | 3 => ("PolarPlanimeter$TextReader", "place", "I", false)
  | 4 => ("PolarPlanimeter$TextReader", "atY", "Z", false)
  | 5 => ("PolarPlanimeter$TextReader", "negative", "Z", false)
  | _ => ("PolarPlanimeter$TextReader", "size", "I", false)
def tyX7 : Nat → FieldType := fun k => match k with
  | 0 => .array .int
  | 1 => .array .int
  | 2 => .int
  | 3 => .int
  | 4 => .boolean
  | 5 => .boolean
  | _ => .int
abbrev wsX70 : List Cond := u_ws RX7 TX7 7
theorem nmX7 : ∀ a, a < 7 → ∀ b, b < 7 → a ≠ b → (TX7 a).2.1 ≠ (TX7 b).2.1 := by decide +kernel
theorem tyX7_ok : ∀ k, k < 7 → parseFieldDescriptor (TX7 k).2.2.1 = some (tyX7 k) := by decide +kernel
abbrev cX7_init : ByteArray := prog_9_method_1_code
def yX7_init : MethodName := ⟨RX7, "<init>", "()V"⟩
def RX8 : String := "PolarPlanimeter$Wheel"
def TX8 : u_T := fun k => match k with
  | 0 => ("PolarPlanimeter$Wheel", "play", "J", false)
  | 1 => ("PolarPlanimeter$Wheel", "slack", "J", false)
  | _ => ("PolarPlanimeter$Wheel", "counted", "J", false)
def tyX8 : Nat → FieldType := fun k => match k with
  | 0 => .long
  | 1 => .long
  | _ => .long
abbrev wsX80 : List Cond := u_ws RX8 TX8 3
theorem nmX8 : ∀ a, a < 3 → ∀ b, b < 3 → a ≠ b → (TX8 a).2.1 ≠ (TX8 b).2.1 := by decide +kernel
theorem tyX8_ok : ∀ k, k < 3 → parseFieldDescriptor (TX8 k).2.2.1 = some (tyX8 k) := by decide +kernel
abbrev cX8_init : ByteArray := prog_10_method_1_code
def yX8_init : MethodName := ⟨RX8, "<init>", "()V"⟩
abbrev cX8_start : ByteArray := prog_10_method_2_code
def yX8_start : MethodName := ⟨RX8, "start", "(I)V"⟩
abbrev cX8_turn : ByteArray := prog_10_method_3_code
def yX8_turn : MethodName := ⟨RX8, "turn", "(JI)V"⟩
def RX9 : String := "PolarPlanimeter"
def TX9 : u_T := fun k => match k with
  | 0 => ("PolarPlanimeter", "now", "LPolarPlanimeter$State;", true)
  | 1 => ("PolarPlanimeter", "trial", "LPolarPlanimeter$State;", true)
  | 2 => ("PolarPlanimeter", "history", "LPolarPlanimeter$History;", true)
  | 3 => ("PolarPlanimeter", "follower", "LPolarPlanimeter$Follower;", true)
  | 4 => ("PolarPlanimeter", "mean", "LPolarPlanimeter$Mean;", true)
  | 5 => ("PolarPlanimeter", "reader", "LPolarPlanimeter$TextReader;", true)
  | 6 => ("PolarPlanimeter", "buffer", "[I", true)
  | 7 => ("PolarPlanimeter", "bufferLength", "I", false)
  | _ => ("PolarPlanimeter", "latestReason", "I", false)
def tyX9 : Nat → FieldType := fun k => match k with
  | 0 => .object "PolarPlanimeter$State"
  | 1 => .object "PolarPlanimeter$State"
  | 2 => .object "PolarPlanimeter$History"
  | 3 => .object "PolarPlanimeter$Follower"
  | 4 => .object "PolarPlanimeter$Mean"
  | 5 => .object "PolarPlanimeter$TextReader"
  | 6 => .array .int
  | 7 => .int
  | _ => .int
abbrev wsX90 : List Cond := u_ws RX9 TX9 9
theorem nmX9 : ∀ a, a < 9 → ∀ b, b < 9 → a ≠ b → (TX9 a).2.1 ≠ (TX9 b).2.1 := by decide +kernel
theorem tyX9_ok : ∀ k, k < 9 → parseFieldDescriptor (TX9 k).2.2.1 = some (tyX9 k) := by decide +kernel
abbrev cX9_init : ByteArray := prog_1_method_1_code
def yX9_init : MethodName := ⟨RX9, "<init>", "()V"⟩
abbrev cX9_setAnchor : ByteArray := prog_1_method_2_code
def yX9_setAnchor : MethodName := ⟨RX9, "setAnchor", "(II)I"⟩
abbrev cX9_set : ByteArray := prog_1_method_3_code
def yX9_set : MethodName := ⟨RX9, "set", "(II)I"⟩
abbrev cX9_insert : ByteArray := prog_1_method_5_code
def yX9_insert : MethodName := ⟨RX9, "insert", "(III)I"⟩
abbrev cX9_move : ByteArray := prog_1_method_6_code
def yX9_move : MethodName := ⟨RX9, "move", "(III)I"⟩
abbrev cX9_remove : ByteArray := prog_1_method_7_code
def yX9_remove : MethodName := ⟨RX9, "remove", "(I)I"⟩
abbrev cX9_setSlip : ByteArray := prog_1_method_8_code
def yX9_setSlip : MethodName := ⟨RX9, "setSlip", "(II)I"⟩
abbrev cX9_run : ByteArray := prog_1_method_9_code
def yX9_run : MethodName := ⟨RX9, "run", "(IZ)I"⟩
abbrev cX9_reason : ByteArray := prog_1_method_17_code
def yX9_reason : MethodName := ⟨RX9, "reason", "()I"⟩
abbrev cX9_corner : ByteArray := prog_1_method_18_code
def yX9_corner : MethodName := ⟨RX9, "corner", "(II)J"⟩
abbrev cX9_made : ByteArray := prog_1_method_19_code
def yX9_made : MethodName := ⟨RX9, "made", "(II)J"⟩
abbrev cX9_elbow : ByteArray := prog_1_method_20_code
def yX9_elbow : MethodName := ⟨RX9, "elbow", "(III)J"⟩
abbrev cX9_count : ByteArray := prog_1_method_21_code
def yX9_count : MethodName := ⟨RX9, "count", "(I)J"⟩
abbrev cX9_setting : ByteArray := prog_1_method_22_code
def yX9_setting : MethodName := ⟨RX9, "setting", "(I)I"⟩
abbrev cX9_why : ByteArray := prog_1_method_23_code
def yX9_why : MethodName := ⟨RX9, "why", "(IZ)I"⟩
abbrev cX9_ifSet : ByteArray := prog_1_method_24_code
def yX9_ifSet : MethodName := ⟨RX9, "ifSet", "(IZII)J"⟩
abbrev cX9_leastArm : ByteArray := prog_1_method_25_code
def yX9_leastArm : MethodName := ⟨RX9, "leastArm", "()I"⟩
abbrev cX9_error : ByteArray := prog_1_method_26_code
def yX9_error : MethodName := ⟨RX9, "error", "()D"⟩
abbrev cX9_isWithin : ByteArray := prog_1_method_28_code
def yX9_isWithin : MethodName := ⟨RX9, "isWithin", "(II)Z"⟩
abbrev cX9_checkSetting : ByteArray := prog_1_method_29_code
def yX9_checkSetting : MethodName := ⟨RX9, "checkSetting", "(I)V"⟩
abbrev cX9_checkValue : ByteArray := prog_1_method_30_code
def yX9_checkValue : MethodName := ⟨RX9, "checkValue", "(II)V"⟩
abbrev cX9_checkPoint : ByteArray := prog_1_method_31_code
def yX9_checkPoint : MethodName := ⟨RX9, "checkPoint", "(II)V"⟩
abbrev cX9_checkWhat : ByteArray := prog_1_method_32_code
def yX9_checkWhat : MethodName := ⟨RX9, "checkWhat", "(II)V"⟩
abbrev cX9_checkCorner : ByteArray := prog_1_method_33_code
def yX9_checkCorner : MethodName := ⟨RX9, "checkCorner", "(I)V"⟩
abbrev cX9_refusal : ByteArray := prog_1_method_34_code
def yX9_refusal : MethodName := ⟨RX9, "refusal", "(LPolarPlanimeter$State;)I"⟩
abbrev cX9_cornerProperty : ByteArray := prog_1_method_35_code
def yX9_cornerProperty : MethodName := ⟨RX9, "cornerProperty", "(II)J"⟩
abbrev cX9_runProperty : ByteArray := prog_1_method_36_code
def yX9_runProperty : MethodName := ⟨RX9, "runProperty", "(II)J"⟩
abbrev cX9_number : ByteArray := prog_1_method_37_code
def yX9_number : MethodName := ⟨RX9, "number", "(I)J"⟩
abbrev cX9_meanMinusArea : ByteArray := prog_1_method_38_code
def yX9_meanMinusArea : MethodName := ⟨RX9, "meanMinusArea", "()J"⟩
abbrev cX9_quotient : ByteArray := prog_1_method_42_code
def yX9_quotient : MethodName := ⟨RX9, "quotient", "(JJ)J"⟩
abbrev cX9_root : ByteArray := prog_1_method_43_code
def yX9_root : MethodName := ⟨RX9, "root", "(J)J"⟩
abbrev cX9_cross : ByteArray := prog_1_method_44_code
def yX9_cross : MethodName := ⟨RX9, "cross", "(JJJJJJ)J"⟩
abbrev cX9_isBetween : ByteArray := prog_1_method_45_code
def yX9_isBetween : MethodName := ⟨RX9, "isBetween", "(III)Z"⟩
def RX10 : String := "PolarPlanimeterModel"
def TX10 : u_T := fun k => match k with
  | _ => ("", "", "", false)
def tyX10 : Nat → FieldType := fun k => match k with
  | _ => .int
abbrev wsX100 : List Cond := u_ws RX10 TX10 0
theorem nmX10 : ∀ a, a < 0 → ∀ b, b < 0 → a ≠ b → (TX10 a).2.1 ≠ (TX10 b).2.1 := by decide +kernel
theorem tyX10_ok : ∀ k, k < 0 → parseFieldDescriptor (TX10 k).2.2.1 = some (tyX10 k) := by decide +kernel
def RJ6 : String := "java/lang/Integer"
def TJ6 : u_T := fun k => match k with
  | _ => ("", "", "", false)
def tyJ6 : Nat → FieldType := fun k => match k with
  | _ => .int
abbrev wsJ60 : List Cond := u_ws RJ6 TJ6 0
theorem nmJ6 : ∀ a, a < 0 → ∀ b, b < 0 → a ≠ b → (TJ6 a).2.1 ≠ (TJ6 b).2.1 := by decide +kernel
theorem tyJ6_ok : ∀ k, k < 0 → parseFieldDescriptor (TJ6 k).2.2.1 = some (tyJ6 k) := by decide +kernel
abbrev cJ6_numberOfLeadingZeros_0f7a4 : ByteArray := prog_17_method_47_code
def yJ6_numberOfLeadingZeros_0f7a4 : MethodName := ⟨RJ6, "numberOfLeadingZeros", "(I)I"⟩
def RJ13 : String := "java/lang/Long"
def TJ13 : u_T := fun k => match k with
  | _ => ("", "", "", false)
def tyJ13 : Nat → FieldType := fun k => match k with
  | _ => .int
abbrev wsJ130 : List Cond := u_ws RJ13 TJ13 0
theorem nmJ13 : ∀ a, a < 0 → ∀ b, b < 0 → a ≠ b → (TJ13 a).2.1 ≠ (TJ13 b).2.1 := by decide +kernel
theorem tyJ13_ok : ∀ k, k < 0 → parseFieldDescriptor (TJ13 k).2.2.1 = some (tyJ13 k) := by decide +kernel
abbrev cJ13_numberOfLeadingZeros_95d88 : ByteArray := prog_18_method_48_code
def yJ13_numberOfLeadingZeros_95d88 : MethodName := ⟨RJ13, "numberOfLeadingZeros", "(J)I"⟩
def RJ9 : String := "java/lang/Math"
def TJ9 : u_T := fun k => match k with
  | _ => ("", "", "", false)
def tyJ9 : Nat → FieldType := fun k => match k with
  | _ => .int
abbrev wsJ90 : List Cond := u_ws RJ9 TJ9 0
theorem nmJ9 : ∀ a, a < 0 → ∀ b, b < 0 → a ≠ b → (TJ9 a).2.1 ≠ (TJ9 b).2.1 := by decide +kernel
theorem tyJ9_ok : ∀ k, k < 0 → parseFieldDescriptor (TJ9 k).2.2.1 = some (tyJ9 k) := by decide +kernel
abbrev cJ9_abs_0f7a4 : ByteArray := prog_19_method_59_code
def yJ9_abs_0f7a4 : MethodName := ⟨RJ9, "abs", "(I)I"⟩
abbrev cJ9_abs_067f4 : ByteArray := prog_19_method_61_code
def yJ9_abs_067f4 : MethodName := ⟨RJ9, "abs", "(J)J"⟩
abbrev cJ9_max_7cf53 : ByteArray := prog_19_method_65_code
def yJ9_max_7cf53 : MethodName := ⟨RJ9, "max", "(II)I"⟩
abbrev cJ9_max_f86c9 : ByteArray := prog_19_method_66_code
def yJ9_max_f86c9 : MethodName := ⟨RJ9, "max", "(JJ)J"⟩
abbrev cJ9_min_7cf53 : ByteArray := prog_19_method_69_code
def yJ9_min_7cf53 : MethodName := ⟨RJ9, "min", "(II)I"⟩
abbrev cJ9_min_f86c9 : ByteArray := prog_19_method_70_code
def yJ9_min_f86c9 : MethodName := ⟨RJ9, "min", "(JJ)J"⟩
def RJ0 : String := "java/lang/String"
def TJ0 : u_T := fun k => match k with
  | _ => ("", "", "", false)
def tyJ0 : Nat → FieldType := fun k => match k with
  | _ => .int
abbrev wsJ00 : List Cond := u_ws RJ0 TJ0 0
theorem nmJ0 : ∀ a, a < 0 → ∀ b, b < 0 → a ≠ b → (TJ0 a).2.1 ≠ (TJ0 b).2.1 := by decide +kernel
theorem tyJ0_ok : ∀ k, k < 0 → parseFieldDescriptor (TJ0 k).2.2.1 = some (tyJ0 k) := by decide +kernel
def RJ10 : String := "java/lang/System"
def TJ10 : u_T := fun k => match k with
  | _ => ("", "", "", false)
def tyJ10 : Nat → FieldType := fun k => match k with
  | _ => .int
abbrev wsJ100 : List Cond := u_ws RJ10 TJ10 0
theorem nmJ10 : ∀ a, a < 0 → ∀ b, b < 0 → a ≠ b → (TJ10 a).2.1 ≠ (TJ10 b).2.1 := by decide +kernel
theorem tyJ10_ok : ∀ k, k < 0 → parseFieldDescriptor (TJ10 k).2.2.1 = some (tyJ10 k) := by decide +kernel
def RL : String := "PolarPlanimeterLaw"
abbrev cL_cell : ByteArray := method_2_code
def yL_cell : MethodName := ⟨RL, "cell", "([II)I"⟩
abbrev cL_at : ByteArray := method_3_code
def yL_at : MethodName := ⟨RL, "at", "(II)I"⟩
abbrev cL_abs : ByteArray := method_4_code
def yL_abs : MethodName := ⟨RL, "abs", "(J)J"⟩
abbrev cL_root : ByteArray := method_5_code
def yL_root : MethodName := ⟨RL, "root", "(J)J"⟩
abbrev cL_find : ByteArray := method_6_code
def yL_find : MethodName := ⟨RL, "find", "(JJ[I[J)V"⟩
abbrev cL_steps : ByteArray := method_7_code
def yL_steps : MethodName := ⟨RL, "steps", "(I[I[I[I)I"⟩
abbrev cL_point : ByteArray := method_8_code
def yL_point : MethodName := ⟨RL, "point", "(III[I[I[I)J"⟩
abbrev cL_four : ByteArray := method_9_code
def yL_four : MethodName := ⟨RL, "four", "(JJJJJJJJ)J"⟩
abbrev cL_swept : ByteArray := method_10_code
def yL_swept : MethodName := ⟨RL, "swept", "(III[I[I[I[J)J"⟩
abbrev cL_reached : ByteArray := method_11_code
def yL_reached : MethodName := ⟨RL, "reached", "(I[I[I[I[J)Z"⟩
abbrev cL_all : ByteArray := method_12_code
def yL_all : MethodName := ⟨RL, "all", "([I[I[I[J)Z"⟩
abbrev cL_on : ByteArray := method_13_code
def yL_on : MethodName := ⟨RL, "on", "([I[I[I)Z"⟩
abbrev cL_why : ByteArray := method_14_code
def yL_why : MethodName := ⟨RL, "why", "([I[I[I[J)I"⟩
abbrev cL_sum : ByteArray := method_15_code
def yL_sum : MethodName := ⟨RL, "sum", "(IZ[I[I[I[J)J"⟩
abbrev cL_area2 : ByteArray := method_16_code
def yL_area2 : MethodName := ⟨RL, "area2", "([I[I)J"⟩
abbrev cL_told : ByteArray := method_17_code
def yL_told : MethodName := ⟨RL, "told", "(LPolarPlanimeter;I[I[I[I[J)Z"⟩
abbrev cL_ahead : ByteArray := method_18_code
def yL_ahead : MethodName := ⟨RL, "ahead", "(LPolarPlanimeter;II[I[I[I[J)Z"⟩
abbrev cL_value : ByteArray := method_19_code
def yL_value : MethodName := ⟨RL, "value", "(II)I"⟩
abbrev cL_act : ByteArray := method_20_code
def yL_act : MethodName := ⟨RL, "act", "(LPolarPlanimeter;III[I[I[I[J)Z"⟩
abbrev cL_law : ByteArray := code
def yL_law : MethodName := ⟨RL, "law", "([I)Z"⟩
def wsJ6_numberOfLeadingZeros_0f7a4 : List Cond := .code yJ6_numberOfLeadingZeros_0f7a4 cJ6_numberOfLeadingZeros_0f7a4 2 (some .int) :: ([.constant RJ6 264 (65536)])
def wsJ13_numberOfLeadingZeros_95d88 : List Cond := .code yJ13_numberOfLeadingZeros_95d88 cJ13_numberOfLeadingZeros_95d88 3 (some .int) :: ([.methodLink RJ13 308 yJ6_numberOfLeadingZeros_0f7a4, .static yJ6_numberOfLeadingZeros_0f7a4, .initialized RJ6, .code yJ6_numberOfLeadingZeros_0f7a4 cJ6_numberOfLeadingZeros_0f7a4 2 (some .int), .constant RJ6 264 (65536)])
def wsJ9_abs_0f7a4 : List Cond := .code yJ9_abs_0f7a4 cJ9_abs_0f7a4 1 (some .int) :: ([])
def wsJ9_abs_067f4 : List Cond := .code yJ9_abs_067f4 cJ9_abs_067f4 2 (some .long) :: ([])
def wsJ9_max_7cf53 : List Cond := .code yJ9_max_7cf53 cJ9_max_7cf53 2 (some .int) :: ([])
def wsJ9_max_f86c9 : List Cond := .code yJ9_max_f86c9 cJ9_max_f86c9 4 (some .long) :: ([])
def wsJ9_min_7cf53 : List Cond := .code yJ9_min_7cf53 cJ9_min_7cf53 2 (some .int) :: ([])
def wsJ9_min_f86c9 : List Cond := .code yJ9_min_f86c9 cJ9_min_f86c9 4 (some .long) :: ([])
def wsL_law0_r1 : List Cond := [Cond.classLink RL 58 RX9, Cond.instantiable RX9 9, Cond.initialized RX9, Cond.arrayClass .int, Cond.arrayClass .long, Cond.constantLong RL 141 (200), Cond.constant RL 151 (2147483647), Cond.methodLink RL 136 yX9_init, Cond.instanceMethod yX9_init, Cond.code yX9_init cX9_init 1 none, Cond.methodLink RX9 1 objectInit, Cond.instanceMethod objectInit, Cond.code objectInit ⟨#[0xb1]⟩ 1 none, Cond.classLink RX9 7 RX6, Cond.instantiable RX6 6, Cond.initialized RX6, Cond.fieldLink RX9 10 "PolarPlanimeter" "now" "LPolarPlanimeter$State;", Cond.fieldLink RX9 16 "PolarPlanimeter" "trial" "LPolarPlanimeter$State;", Cond.classLink RX9 19 RX2, Cond.instantiable RX2 2, Cond.initialized RX2, Cond.fieldLink RX9 22 "PolarPlanimeter" "history" "LPolarPlanimeter$History;", Cond.classLink RX9 26 RX1, Cond.instantiable RX1 4]
def wsL_law0_r2 : List Cond := [Cond.initialized RX1, Cond.fieldLink RX9 29 "PolarPlanimeter" "follower" "LPolarPlanimeter$Follower;", Cond.classLink RX9 33 RX3, Cond.instantiable RX3 6, Cond.initialized RX3, Cond.fieldLink RX9 36 "PolarPlanimeter" "mean" "LPolarPlanimeter$Mean;", Cond.classLink RX9 40 RX7, Cond.instantiable RX7 7, Cond.initialized RX7, Cond.fieldLink RX9 43 "PolarPlanimeter" "reader" "LPolarPlanimeter$TextReader;", Cond.fieldLink RX9 47 "PolarPlanimeter" "buffer" "[I", Cond.instanceMethod yX6_init, Cond.code yX6_init cX6_init 1 none, Cond.methodLink RX6 3 objectInit, Cond.fieldLink RX6 9 "PolarPlanimeter$State" "tolerance" "I", Cond.fieldLink RX6 15 "PolarPlanimeter$State" "settings" "[I", Cond.classLink RX6 19 RX4, Cond.instantiable RX4 4, Cond.initialized RX4, Cond.fieldLink RX6 22 "PolarPlanimeter$State" "outline" "LPolarPlanimeter$Outline;", Cond.classLink RX6 26 RX5, Cond.instantiable RX5 4, Cond.initialized RX5, Cond.fieldLink RX6 29 "PolarPlanimeter$State" "runs" "LPolarPlanimeter$Runs;"]
def wsL_law0_r3 : List Cond := [Cond.methodLink RX6 36 arraycopyName, Cond.native arraycopyName, Cond.static arraycopyName, Cond.initialized "java/lang/System", Cond.instanceMethod yX4_init, Cond.code yX4_init cX4_init 1 none, Cond.methodLink RX4 3 objectInit, Cond.fieldLink RX4 9 "PolarPlanimeter$Outline" "xs" "[I", Cond.fieldLink RX4 15 "PolarPlanimeter$Outline" "ys" "[I", Cond.fieldLink RX4 18 "PolarPlanimeter$Outline" "slips" "[I", Cond.instanceMethod yX5_init, Cond.code yX5_init cX5_init 1 none, Cond.methodLink RX5 3 objectInit, Cond.fieldLink RX5 9 "PolarPlanimeter$Runs" "corners" "[I", Cond.arrayClass .boolean, Cond.fieldLink RX5 15 "PolarPlanimeter$Runs" "backward" "[Z", Cond.fieldLink RX5 19 "PolarPlanimeter$Runs" "sums" "[J", Cond.instanceMethod yX2_init, Cond.code yX2_init cX2_init 2 none, Cond.methodLink RX2 3 objectInit, Cond.classLink RX2 9 RX6, Cond.fieldLink RX2 11 "PolarPlanimeter$History" "states" "[LPolarPlanimeter$State;", Cond.instanceMethod yX1_init, Cond.code yX1_init cX1_init 1 none]
def wsL_law0_r4 : List Cond := [Cond.methodLink RX1 3 objectInit, Cond.classLink RX1 9 RX0, Cond.instantiable RX0 9, Cond.initialized RX0, Cond.fieldLink RX1 12 "PolarPlanimeter$Follower" "arm" "LPolarPlanimeter$Arm;", Cond.classLink RX1 18 RX8, Cond.instantiable RX8 3, Cond.initialized RX8, Cond.fieldLink RX1 21 "PolarPlanimeter$Follower" "wheel" "LPolarPlanimeter$Wheel;", Cond.instanceMethod yX0_init, Cond.code yX0_init cX0_init 1 none, Cond.methodLink RX0 3 objectInit, Cond.instanceMethod yX8_init, Cond.code yX8_init cX8_init 1 none, Cond.methodLink RX8 3 objectInit, Cond.instanceMethod yX3_init, Cond.code yX3_init cX3_init 1 none, Cond.methodLink RX3 3 objectInit, Cond.fieldLink RX3 9 "PolarPlanimeter$Mean" "areas" "[J", Cond.fieldLink RX3 15 "PolarPlanimeter$Mean" "ascending" "[J", Cond.fieldLink RX3 18 "PolarPlanimeter$Mean" "leftOut" "[Z", Cond.instanceMethod yX7_init, Cond.code yX7_init cX7_init 1 none, Cond.methodLink RX7 3 objectInit]
def wsL_law0_r5 : List Cond := [Cond.fieldLink RX7 9 "PolarPlanimeter$TextReader" "xs" "[I", Cond.fieldLink RX7 15 "PolarPlanimeter$TextReader" "ys" "[I", Cond.methodLink RL 137 yL_told, Cond.static yL_told, Cond.initialized RL, Cond.code yL_told cL_told 14 (some .boolean), Cond.constant RL 63 (60001), Cond.constantLong RL 91 (2), Cond.methodLink RL 37 yL_reached, Cond.static yL_reached, Cond.code yL_reached cL_reached 6 (some .boolean), Cond.methodLink RL 21 yL_steps, Cond.static yL_steps, Cond.code yL_steps cL_steps 12 (some .int), Cond.methodLink RL 18 yL_abs, Cond.static yL_abs, Cond.code yL_abs cL_abs 2 (some .long), Cond.methodLink RL 25 yL_point, Cond.static yL_point, Cond.code yL_point cL_point 7 (some .long), Cond.constantLong RL 10 (16), Cond.methodLink RL 29 yL_find, Cond.static yL_find, Cond.code yL_find cL_find 22 none]
def wsL_law0_r6 : List Cond := [Cond.methodLink RL 12 yL_root, Cond.static yL_root, Cond.code yL_root cL_root 6 (some .long), Cond.constantLong RL 8 (16777216), Cond.methodLink RL 51 yL_swept, Cond.static yL_swept, Cond.code yL_swept cL_swept 19 (some .long), Cond.methodLink RL 33 yL_four, Cond.static yL_four, Cond.code yL_four cL_four 16 (some .long), Cond.methodLink RL 57 yX9_corner, Cond.instanceMethod yX9_corner, Cond.selects RX9 yX9_corner yX9_corner, Cond.code yX9_corner cX9_corner 3 (some .long), Cond.methodLink RX9 126 yX9_checkCorner, Cond.instanceMethod yX9_checkCorner, Cond.selects RX9 yX9_checkCorner yX9_checkCorner, Cond.code yX9_checkCorner cX9_checkCorner 2 none, Cond.classLink RX9 109 "java/lang/IndexOutOfBoundsException", Cond.initialized "java/lang/IndexOutOfBoundsException", Cond.methodLink RX9 192 yX9_checkWhat, Cond.static yX9_checkWhat, Cond.code yX9_checkWhat cX9_checkWhat 2 none, Cond.classLink RX9 55 "java/lang/IllegalArgumentException"]
def wsL_law0_r7 : List Cond := [Cond.initialized "java/lang/IllegalArgumentException", Cond.methodLink RX9 195 yX9_cornerProperty, Cond.instanceMethod yX9_cornerProperty, Cond.selects RX9 yX9_cornerProperty yX9_cornerProperty, Cond.code yX9_cornerProperty cX9_cornerProperty 4 (some .long), Cond.instanceMethod yX4_steps, Cond.selects RX4 yX4_steps yX4_steps, Cond.code yX4_steps cX4_steps 5 (some .int), Cond.methodLink RX4 39 Lib.Math.abs.name, Cond.static Lib.Math.abs.name, Cond.initialized "java/lang/Math", Cond.code Lib.Math.abs.name Lib.Math.abs.code 1 (some .int), Cond.methodLink RX4 44 Lib.Math.max.name, Cond.static Lib.Math.max.name, Cond.code Lib.Math.max.name Lib.Math.max.code 2 (some .int), Cond.methodLink RX4 52 Lib.MathLoose.max_long.x, Cond.static Lib.MathLoose.max_long.x, Cond.code Lib.MathLoose.max_long.x Lib.MathLoose.max_long.code 4 (some .long), Cond.methodLink RX4 35 yX4_next, Cond.instanceMethod yX4_next, Cond.selects RX4 yX4_next yX4_next, Cond.code yX4_next cX4_next 2 (some .int), Cond.fieldLink RX4 21 "PolarPlanimeter$Outline" "corners" "I", Cond.static yX9_quotient]
def wsL_law0_r8 : List Cond := [Cond.code yX9_quotient cX9_quotient 4 (some .long), Cond.instanceMethod yX1_reachesSegment, Cond.selects RX1 yX1_reachesSegment yX1_reachesSegment, Cond.code yX1_reachesSegment cX1_reachesSegment 3 (some .boolean), Cond.methodLink RX1 25 yX1_beginMeasuring, Cond.instanceMethod yX1_beginMeasuring, Cond.selects RX1 yX1_beginMeasuring yX1_beginMeasuring, Cond.code yX1_beginMeasuring cX1_beginMeasuring 2 none, Cond.constantLong RX1 52 (4611686018427387904), Cond.fieldLink RX1 54 "PolarPlanimeter$Follower" "leastSquare" "J", Cond.fieldLink RX1 58 "PolarPlanimeter$Follower" "greatestSquare" "J", Cond.instanceMethod yX0_fit, Cond.selects RX0 yX0_fit yX0_fit, Cond.code yX0_fit cX0_fit 2 none, Cond.constantLong RX0 9 (16), Cond.fieldLink RX0 17 "PolarPlanimeter$Arm" "anchorX" "J", Cond.fieldLink RX0 25 "PolarPlanimeter$Arm" "anchorY" "J", Cond.fieldLink RX0 31 "PolarPlanimeter$Arm" "pole" "J", Cond.fieldLink RX0 34 "PolarPlanimeter$Arm" "tracer" "J", Cond.fieldLink RX0 37 "PolarPlanimeter$Arm" "otherSide" "Z", Cond.methodLink RX1 41 yX1_measure, Cond.instanceMethod yX1_measure, Cond.selects RX1 yX1_measure yX1_measure, Cond.code yX1_measure cX1_measure 8 none]
def wsL_law0_r9 : List Cond := [Cond.methodLink RX1 80 Lib.MathLoose.min_long.x, Cond.static Lib.MathLoose.min_long.x, Cond.code Lib.MathLoose.min_long.x Lib.MathLoose.min_long.code 4 (some .long), Cond.methodLink RX1 85 Lib.MathLoose.max_long.x, Cond.instanceMethod yX4_fineX, Cond.selects RX4 yX4_fineX yX4_fineX, Cond.code yX4_fineX cX4_fineX 4 (some .long), Cond.methodLink RX4 75 yX4_finePart, Cond.static yX4_finePart, Cond.code yX4_finePart cX4_finePart 4 (some .long), Cond.constantLong RX4 79 (16), Cond.instanceMethod yX4_fineY, Cond.selects RX4 yX4_fineY yX4_fineY, Cond.code yX4_fineY cX4_fineY 4 (some .long), Cond.instanceMethod yX0_squareTo, Cond.selects RX0 yX0_squareTo yX0_squareTo, Cond.code yX0_squareTo cX0_squareTo 9 (some .long), Cond.methodLink RX1 45 yX1_reachesMeasured, Cond.instanceMethod yX1_reachesMeasured, Cond.selects RX1 yX1_reachesMeasured yX1_reachesMeasured, Cond.code yX1_reachesMeasured cX1_reachesMeasured 1 (some .boolean), Cond.static yX9_root, Cond.code yX9_root cX9_root 8 (some .long), Cond.constantLong RX9 364 (2)]
def wsL_law0_r10 : List Cond := [Cond.methodLink RX9 358 yJ13_numberOfLeadingZeros_95d88, Cond.static yJ13_numberOfLeadingZeros_95d88, Cond.initialized RJ13, Cond.code yJ13_numberOfLeadingZeros_95d88 cJ13_numberOfLeadingZeros_95d88 3 (some .int), Cond.methodLink RJ13 308 yJ6_numberOfLeadingZeros_0f7a4, Cond.static yJ6_numberOfLeadingZeros_0f7a4, Cond.initialized RJ6, Cond.code yJ6_numberOfLeadingZeros_0f7a4 cJ6_numberOfLeadingZeros_0f7a4 2 (some .int), Cond.constant RJ6 264 (65536), Cond.methodLink RX9 306 yX9_quotient, Cond.instanceMethod yX0_spans, Cond.selects RX0 yX0_spans yX0_spans, Cond.code yX0_spans cX0_spans 3 (some .boolean), Cond.methodLink RX0 41 Lib.MathLoose.abs_long.x, Cond.static Lib.MathLoose.abs_long.x, Cond.code Lib.MathLoose.abs_long.x Lib.MathLoose.abs_long.code 2 (some .long), Cond.instanceMethod yX1_roll, Cond.selects RX1 yX1_roll yX1_roll, Cond.code yX1_roll cX1_roll 8 (some .long), Cond.instanceMethod yX0_place, Cond.selects RX0 yX0_place yX0_place, Cond.code yX0_place cX0_place 17 (some .boolean), Cond.fieldLink RX0 47 "PolarPlanimeter$Arm" "tracerX" "J", Cond.fieldLink RX0 50 "PolarPlanimeter$Arm" "tracerY" "J"]
def wsL_law0_r11 : List Cond := [Cond.fieldLink RX0 53 "PolarPlanimeter$Arm" "elbowX" "J", Cond.fieldLink RX0 56 "PolarPlanimeter$Arm" "elbowY" "J", Cond.constantLong RX0 70 (2), Cond.methodLink RX0 75 Lib.MathLoose.max_long.x, Cond.methodLink RX0 59 yX0_squareTo, Cond.methodLink RX0 66 yX0_spans, Cond.instanceMethod yX0_sweepTo, Cond.selects RX0 yX0_sweepTo yX0_sweepTo, Cond.code yX0_sweepTo cX0_sweepTo 13 (some .long), Cond.methodLink RX0 78 yX0_place, Cond.static yX9_cross, Cond.code yX9_cross cX9_cross 12 (some .long), Cond.methodLink RL 64 yL_at, Cond.static yL_at, Cond.code yL_at cL_at 2 (some .int), Cond.methodLink RL 68 yX9_elbow, Cond.instanceMethod yX9_elbow, Cond.selects RX9 yX9_elbow yX9_elbow, Cond.code yX9_elbow cX9_elbow 6 (some .long), Cond.constant RX9 204 (40000), Cond.methodLink RX9 51 yX9_isWithin, Cond.static yX9_isWithin, Cond.code yX9_isWithin cX9_isWithin 2 (some .boolean), Cond.methodLink RL 72 yX9_setting]
def wsL_law0_r12 : List Cond := [Cond.instanceMethod yX9_setting, Cond.selects RX9 yX9_setting yX9_setting, Cond.code yX9_setting cX9_setting 2 (some .int), Cond.methodLink RX9 83 yX9_checkSetting, Cond.static yX9_checkSetting, Cond.code yX9_checkSetting cX9_checkSetting 1 none, Cond.methodLink RL 76 yL_why, Cond.static yL_why, Cond.code yL_why cL_why 4 (some .int), Cond.methodLink RL 41 yL_on, Cond.static yL_on, Cond.code yL_on cL_on 13 (some .boolean), Cond.methodLink RL 45 yL_all, Cond.static yL_all, Cond.code yL_all cL_all 5 (some .boolean), Cond.methodLink RL 80 yX9_why, Cond.instanceMethod yX9_why, Cond.selects RX9 yX9_why yX9_why, Cond.code yX9_why cX9_why 3 (some .int), Cond.methodLink RX9 143 yX9_refusal, Cond.instanceMethod yX9_refusal, Cond.selects RX9 yX9_refusal yX9_refusal, Cond.code yX9_refusal cX9_refusal 2 (some .int), Cond.instanceMethod yX4_touches]
def wsL_law0_r13 : List Cond := [Cond.selects RX4 yX4_touches yX4_touches, Cond.code yX4_touches cX4_touches 6 (some .boolean), Cond.static yX9_isBetween, Cond.code yX9_isBetween cX9_isBetween 3 (some .boolean), Cond.methodLink RX9 366 Lib.Math.min.name, Cond.static Lib.Math.min.name, Cond.code Lib.Math.min.name Lib.Math.min.code 2 (some .int), Cond.methodLink RX9 369 Lib.Math.max.name, Cond.instanceMethod yX1_measureAll, Cond.selects RX1 yX1_measureAll yX1_measureAll, Cond.code yX1_measureAll cX1_measureAll 3 none, Cond.methodLink RL 83 yX9_count, Cond.instanceMethod yX9_count, Cond.selects RX9 yX9_count yX9_count, Cond.code yX9_count cX9_count 2 (some .long), Cond.methodLink RX9 227 yX9_number, Cond.instanceMethod yX9_number, Cond.selects RX9 yX9_number yX9_number, Cond.code yX9_number cX9_number 2 (some .long), Cond.instanceMethod yX4_twiceArea, Cond.selects RX4 yX4_twiceArea yX4_twiceArea, Cond.code yX4_twiceArea cX4_twiceArea 5 (some .long), Cond.instanceMethod yX4_area, Cond.selects RX4 yX4_area yX4_area]
def wsL_law0_r14 : List Cond := [Cond.code yX4_area cX4_area 1 (some .long), Cond.constantLong RX4 61 (2), Cond.methodLink RX4 57 yX4_twiceArea, Cond.instanceMethod yX4_windingAround, Cond.selects RX4 yX4_windingAround yX4_windingAround, Cond.code yX4_windingAround cX4_windingAround 6 (some .long), Cond.methodLink RX4 63 yX4_crossing, Cond.instanceMethod yX4_crossing, Cond.selects RX4 yX4_crossing yX4_crossing, Cond.code yX4_crossing cX4_crossing 7 (some .int), Cond.instanceMethod yX6_constant, Cond.selects RX6 yX6_constant yX6_constant, Cond.code yX6_constant cX6_constant 3 (some .long), Cond.fieldLink RX6 42 "PolarPlanimeter$State" "anchorX" "I", Cond.fieldLink RX6 45 "PolarPlanimeter$State" "anchorY" "I", Cond.constantLong RX6 59 (355), Cond.constantLong RX6 61 (113), Cond.instanceMethod yX3_take, Cond.selects RX3 yX3_take yX3_take, Cond.code yX3_take cX3_take 5 none, Cond.fieldLink RX3 34 "PolarPlanimeter$Mean" "runs" "I", Cond.fieldLink RX3 36 "PolarPlanimeter$Mean" "kept" "I", Cond.fieldLink RX3 61 "PolarPlanimeter$Mean" "value" "J", Cond.instanceMethod yX5_area]
def wsL_law0_r15 : List Cond := [Cond.selects RX5 yX5_area yX5_area, Cond.code yX5_area cX5_area 4 (some .long), Cond.constantLong RX5 27 (512), Cond.methodLink RX3 50 yX3_leaveOut, Cond.instanceMethod yX3_leaveOut, Cond.selects RX3 yX3_leaveOut yX3_leaveOut, Cond.code yX3_leaveOut cX3_leaveOut 6 none, Cond.methodLink RX3 72 Lib.MathLoose.abs_long.x, Cond.methodLink RX3 65 yX3_middleOfKept, Cond.instanceMethod yX3_middleOfKept, Cond.selects RX3 yX3_middleOfKept yX3_middleOfKept, Cond.code yX3_middleOfKept cX3_middleOfKept 3 (some .long), Cond.methodLink RX3 82 Lib.Math.max.name, Cond.methodLink RX3 78 yX3_sortIn, Cond.instanceMethod yX3_sortIn, Cond.selects RX3 yX3_sortIn yX3_sortIn, Cond.code yX3_sortIn cX3_sortIn 5 none, Cond.methodLink RX3 68 yX3_farthestFrom, Cond.instanceMethod yX3_farthestFrom, Cond.selects RX3 yX3_farthestFrom yX3_farthestFrom, Cond.code yX3_farthestFrom cX3_farthestFrom 9 (some .int), Cond.constantLong RX3 86 (-1), Cond.methodLink RX3 54 yX3_sumOfKept, Cond.instanceMethod yX3_sumOfKept]
def wsL_law0_r16 : List Cond := [Cond.selects RX3 yX3_sumOfKept yX3_sumOfKept, Cond.code yX3_sumOfKept cX3_sumOfKept 4 (some .long), Cond.methodLink RX9 251 yX9_meanMinusArea, Cond.instanceMethod yX9_meanMinusArea, Cond.selects RX9 yX9_meanMinusArea yX9_meanMinusArea, Cond.code yX9_meanMinusArea cX9_meanMinusArea 1 (some .long), Cond.instanceMethod yX4_allSteps, Cond.selects RX4 yX4_allSteps yX4_allSteps, Cond.code yX4_allSteps cX4_allSteps 5 (some .long), Cond.methodLink RX4 54 yX4_steps, Cond.methodLink RL 87 yL_area2, Cond.static yL_area2, Cond.code yL_area2 cL_area2 5 (some .long), Cond.methodLink RL 143 yX9_error, Cond.instanceMethod yX9_error, Cond.selects RX9 yX9_error yX9_error, Cond.code yX9_error cX9_error 3 (some .double), Cond.methodLink RL 147 yL_cell, Cond.static yL_cell, Cond.code yL_cell cL_cell 2 (some .int), Cond.constant RL 7 (1332534557), Cond.methodLink RL 152 yL_act, Cond.static yL_act, Cond.code yL_act cL_act 15 (some .boolean)]
def wsL_law0_r17 : List Cond := [Cond.constantLong RL 49 (512), Cond.methodLink RL 108 yX9_insert, Cond.instanceMethod yX9_insert, Cond.selects RX9 yX9_insert yX9_insert, Cond.code yX9_insert cX9_insert 4 (some .int), Cond.classLink RX9 117 "java/lang/IllegalStateException", Cond.initialized "java/lang/IllegalStateException", Cond.methodLink RX9 114 yX9_checkPoint, Cond.static yX9_checkPoint, Cond.code yX9_checkPoint cX9_checkPoint 2 none, Cond.instanceMethod yX2_save, Cond.selects RX2 yX2_save yX2_save, Cond.code yX2_save cX2_save 2 none, Cond.fieldLink RX2 18 "PolarPlanimeter$History" "saved" "I", Cond.methodLink RX2 22 yX2_dropOldest, Cond.instanceMethod yX2_dropOldest, Cond.selects RX2 yX2_dropOldest yX2_dropOldest, Cond.code yX2_dropOldest cX2_dropOldest 3 none, Cond.instanceMethod yX6_copy, Cond.selects RX6 yX6_copy yX6_copy, Cond.code yX6_copy cX6_copy 2 none, Cond.instanceMethod yX4_copy, Cond.selects RX4 yX4_copy yX4_copy, Cond.code yX4_copy cX4_copy 2 none]
def wsL_law0_r18 : List Cond := [Cond.methodLink RX4 25 arraycopyName, Cond.instanceMethod yX5_copy, Cond.selects RX5 yX5_copy yX5_copy, Cond.code yX5_copy cX5_copy 3 none, Cond.fieldLink RX5 23 "PolarPlanimeter$Runs" "made" "I", Cond.instanceMethod yX4_open, Cond.selects RX4 yX4_open yX4_open, Cond.code yX4_open cX4_open 5 none, Cond.methodLink RX4 31 yX4_put, Cond.instanceMethod yX4_put, Cond.selects RX4 yX4_put yX4_put, Cond.code yX4_put cX4_put 5 none, Cond.instanceMethod yX5_clear, Cond.selects RX5 yX5_clear yX5_clear, Cond.code yX5_clear cX5_clear 2 (some .int), Cond.methodLink RL 100 yL_sum, Cond.static yL_sum, Cond.code yL_sum cL_sum 20 (some .long), Cond.constantLong RL 55 (100), Cond.methodLink RL 112 yX9_run, Cond.instanceMethod yX9_run, Cond.selects RX9 yX9_run yX9_run, Cond.code yX9_run cX9_run 3 (some .int), Cond.fieldLink RX9 147 "PolarPlanimeter" "latestReason" "I"]
def wsL_law0_r19 : List Cond := [Cond.instanceMethod yX1_sum, Cond.selects RX1 yX1_sum yX1_sum, Cond.code yX1_sum cX1_sum 7 (some .long), Cond.constantLong RX1 96 (16), Cond.instanceMethod yX8_start, Cond.selects RX8 yX8_start yX8_start, Cond.code yX8_start cX8_start 2 none, Cond.constantLong RX8 9 (512), Cond.fieldLink RX8 11 "PolarPlanimeter$Wheel" "play" "J", Cond.fieldLink RX8 17 "PolarPlanimeter$Wheel" "slack" "J", Cond.fieldLink RX8 20 "PolarPlanimeter$Wheel" "counted" "J", Cond.instanceMethod yX4_previous, Cond.selects RX4 yX4_previous yX4_previous, Cond.code yX4_previous cX4_previous 2 (some .int), Cond.methodLink RX1 122 yX1_follow, Cond.instanceMethod yX1_follow, Cond.selects RX1 yX1_follow yX1_follow, Cond.code yX1_follow cX1_follow 9 none, Cond.instanceMethod yX8_turn, Cond.selects RX8 yX8_turn yX8_turn, Cond.code yX8_turn cX8_turn 4 none, Cond.constantLong RX8 23 (100), Cond.instanceMethod yX5_add, Cond.selects RX5 yX5_add yX5_add]
def wsL_law0_r20 : List Cond := [Cond.code yX5_add cX5_add 5 none, Cond.methodLink RL 115 yX9_reason, Cond.instanceMethod yX9_reason, Cond.selects RX9 yX9_reason yX9_reason, Cond.code yX9_reason cX9_reason 1 (some .int), Cond.methodLink RL 118 yX9_made, Cond.instanceMethod yX9_made, Cond.selects RX9 yX9_made yX9_made, Cond.code yX9_made cX9_made 3 (some .long), Cond.methodLink RX9 201 yX9_runProperty, Cond.instanceMethod yX9_runProperty, Cond.selects RX9 yX9_runProperty yX9_runProperty, Cond.code yX9_runProperty cX9_runProperty 4 (some .long), Cond.constantLong RX9 304 (512), Cond.methodLink RL 121 yX9_setSlip, Cond.instanceMethod yX9_setSlip, Cond.selects RX9 yX9_setSlip yX9_setSlip, Cond.code yX9_setSlip cX9_setSlip 4 (some .int), Cond.methodLink RL 124 yX9_move, Cond.instanceMethod yX9_move, Cond.selects RX9 yX9_move yX9_move, Cond.code yX9_move cX9_move 4 (some .int), Cond.methodLink RL 127 yX9_remove, Cond.instanceMethod yX9_remove]
def wsL_law0_r21 : List Cond := [Cond.selects RX9 yX9_remove yX9_remove, Cond.code yX9_remove cX9_remove 2 (some .int), Cond.instanceMethod yX4_close, Cond.selects RX4 yX4_close yX4_close, Cond.code yX4_close cX4_close 3 none, Cond.methodLink RL 130 yX9_setAnchor, Cond.instanceMethod yX9_setAnchor, Cond.selects RX9 yX9_setAnchor yX9_setAnchor, Cond.code yX9_setAnchor cX9_setAnchor 3 (some .int), Cond.methodLink RL 97 yL_value, Cond.static yL_value, Cond.code yL_value cL_value 2 (some .int), Cond.methodLink RL 133 yX9_set, Cond.instanceMethod yX9_set, Cond.selects RX9 yX9_set yX9_set, Cond.code yX9_set cX9_set 4 (some .int), Cond.methodLink RX9 87 yX9_checkValue, Cond.static yX9_checkValue, Cond.code yX9_checkValue cX9_checkValue 2 none, Cond.fieldLink RX9 237 "PolarPlanimeter" "LEAST" "[I", Cond.fieldLink RX9 240 "PolarPlanimeter" "GREATEST" "[I", Cond.methodLink RL 156 yL_ahead, Cond.static yL_ahead, Cond.code yL_ahead cL_ahead 17 (some .boolean)]
def wsL_law0_r22 : List Cond := [Cond.methodLink RL 93 yX9_leastArm, Cond.instanceMethod yX9_leastArm, Cond.selects RX9 yX9_leastArm yX9_leastArm, Cond.code yX9_leastArm cX9_leastArm 2 (some .int), Cond.instanceMethod yX1_reachesMeasuredWith, Cond.selects RX1 yX1_reachesMeasuredWith yX1_reachesMeasuredWith, Cond.code yX1_reachesMeasuredWith cX1_reachesMeasuredWith 2 (some .boolean), Cond.methodLink RL 104 yX9_ifSet, Cond.instanceMethod yX9_ifSet, Cond.selects RX9 yX9_ifSet yX9_ifSet, Cond.code yX9_ifSet cX9_ifSet 5 (some .long)]
def wsL_law0 : List Cond := (wsL_law0_r1 ++ (wsL_law0_r2 ++ (wsL_law0_r3 ++ (wsL_law0_r4 ++ (wsL_law0_r5 ++ (wsL_law0_r6 ++ (wsL_law0_r7 ++ (wsL_law0_r8 ++ (wsL_law0_r9 ++ (wsL_law0_r10 ++ (wsL_law0_r11 ++ (wsL_law0_r12 ++ (wsL_law0_r13 ++ (wsL_law0_r14 ++ (wsL_law0_r15 ++ (wsL_law0_r16 ++ (wsL_law0_r17 ++ (wsL_law0_r18 ++ (wsL_law0_r19 ++ (wsL_law0_r20 ++ (wsL_law0_r21 ++ wsL_law0_r22))))))))))))))))))))) ++ wsX90 ++ wsX60 ++ wsX20 ++ wsX10 ++ wsX30 ++ wsX70 ++ wsX40 ++ wsX50 ++ wsX00 ++ wsX80 ++ ([] : List Cond)
def wsL_law : List Cond := wsL_law0 ++ (vx_atS RX9 113 "java/lang/IndexOutOfBoundsException" ["java/lang/RuntimeException", "java/lang/Exception"]).filter goodWord ++ (vx_atS RX9 59 "java/lang/IllegalArgumentException" ["java/lang/RuntimeException", "java/lang/Exception"]).filter goodWord ++ (vx_atS RX9 121 "java/lang/IllegalStateException" ["java/lang/RuntimeException", "java/lang/Exception"]).filter goodWord
theorem inlX0 : ∀ w ∈ wsX00, w ∈ wsL_law := fun _ h => List.mem_append_left _ (List.mem_append_left _ (List.mem_append_left _ (List.mem_append_left _ (List.mem_append_left _ (List.mem_append_right _ h)))))
theorem inlX1 : ∀ w ∈ wsX10, w ∈ wsL_law := fun _ h => List.mem_append_left _ (List.mem_append_left _ (List.mem_append_left _ (List.mem_append_left _ (List.mem_append_left _ (List.mem_append_left _ (List.mem_append_left _ (List.mem_append_left _ (List.mem_append_left _ (List.mem_append_left _ (List.mem_append_right _ h))))))))))
theorem inlX2 : ∀ w ∈ wsX20, w ∈ wsL_law := fun _ h => List.mem_append_left _ (List.mem_append_left _ (List.mem_append_left _ (List.mem_append_left _ (List.mem_append_left _ (List.mem_append_left _ (List.mem_append_left _ (List.mem_append_left _ (List.mem_append_left _ (List.mem_append_left _ (List.mem_append_left _ (List.mem_append_right _ h)))))))))))
theorem inlX3 : ∀ w ∈ wsX30, w ∈ wsL_law := fun _ h => List.mem_append_left _ (List.mem_append_left _ (List.mem_append_left _ (List.mem_append_left _ (List.mem_append_left _ (List.mem_append_left _ (List.mem_append_left _ (List.mem_append_left _ (List.mem_append_left _ (List.mem_append_right _ h)))))))))
theorem inlX4 : ∀ w ∈ wsX40, w ∈ wsL_law := fun _ h => List.mem_append_left _ (List.mem_append_left _ (List.mem_append_left _ (List.mem_append_left _ (List.mem_append_left _ (List.mem_append_left _ (List.mem_append_left _ (List.mem_append_right _ h)))))))
theorem inlX5 : ∀ w ∈ wsX50, w ∈ wsL_law := fun _ h => List.mem_append_left _ (List.mem_append_left _ (List.mem_append_left _ (List.mem_append_left _ (List.mem_append_left _ (List.mem_append_left _ (List.mem_append_right _ h))))))
theorem inlX6 : ∀ w ∈ wsX60, w ∈ wsL_law := fun _ h => List.mem_append_left _ (List.mem_append_left _ (List.mem_append_left _ (List.mem_append_left _ (List.mem_append_left _ (List.mem_append_left _ (List.mem_append_left _ (List.mem_append_left _ (List.mem_append_left _ (List.mem_append_left _ (List.mem_append_left _ (List.mem_append_left _ (List.mem_append_right _ h))))))))))))
theorem inlX7 : ∀ w ∈ wsX70, w ∈ wsL_law := fun _ h => List.mem_append_left _ (List.mem_append_left _ (List.mem_append_left _ (List.mem_append_left _ (List.mem_append_left _ (List.mem_append_left _ (List.mem_append_left _ (List.mem_append_left _ (List.mem_append_right _ h))))))))
theorem inlX8 : ∀ w ∈ wsX80, w ∈ wsL_law := fun _ h => List.mem_append_left _ (List.mem_append_left _ (List.mem_append_left _ (List.mem_append_left _ (List.mem_append_right _ h))))
theorem inlX9 : ∀ w ∈ wsX90, w ∈ wsL_law := fun _ h => List.mem_append_left _ (List.mem_append_left _ (List.mem_append_left _ (List.mem_append_left _ (List.mem_append_left _ (List.mem_append_left _ (List.mem_append_left _ (List.mem_append_left _ (List.mem_append_left _ (List.mem_append_left _ (List.mem_append_left _ (List.mem_append_left _ (List.mem_append_left _ (List.mem_append_right _ h)))))))))))))
theorem inJ6 : ∀ w ∈ wsJ60, w ∈ lw_tbl := by decide +kernel
theorem inJ13 : ∀ w ∈ wsJ130, w ∈ lw_tbl := by decide +kernel
theorem inJ9 : ∀ w ∈ wsJ90, w ∈ lw_tbl := by decide +kernel
theorem inJ0 : ∀ w ∈ wsJ00, w ∈ lw_tbl := by decide +kernel
theorem inJ10 : ∀ w ∈ wsJ100, w ∈ lw_tbl := by decide +kernel
abbrev vwCl : List vw_C := [(RX0, TX0, 9), (RX1, TX1, 4), (RX2, TX2, 2), (RX3, TX3, 6), (RX4, TX4, 4), (RX5, TX5, 4), (RX6, TX6, 6), (RX7, TX7, 7), (RX8, TX8, 3), (RX9, TX9, 9)]
