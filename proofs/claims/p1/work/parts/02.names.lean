theorem goodIn_ap {big a b : List Cond} (ha : GoodIn big a) (hb : GoodIn big b) : GoodIn big (a ++ b) := fun w h => (List.mem_append.mp h).elim (ha w) (hb w)
def RX0 : String := "LaneWarps$Forecast"
def TX0 : u_T := fun k => match k with
  | 0 => ("LaneWarps$Forecast", "machine", "LLaneWarps$Machine;", true)
  | 1 => ("LaneWarps$Forecast", "origin", "LLaneWarps$State;", true)
  | 2 => ("LaneWarps$Forecast", "scout", "LLaneWarps$State;", true)
  | 3 => ("LaneWarps$Forecast", "trail", "LLaneWarps$State;", true)
  | 4 => ("LaneWarps$Forecast", "courses", "[I", true)
  | 5 => ("LaneWarps$Forecast", "coursesKnown", "I", false)
  | 6 => ("LaneWarps$Forecast", "ends", "[I", true)
  | 7 => ("LaneWarps$Forecast", "endsKnown", "J", false)
  | 8 => ("LaneWarps$Forecast", "solos", "[I", true)
  | 9 => ("LaneWarps$Forecast", "solosKnown", "I", false)
  | 10 => ("LaneWarps$Forecast", "program", "LLaneWarps$Program;", false)
  | 11 => ("LaneWarps$Forecast", "mode", "I", false)
  | 12 => ("LaneWarps$Forecast", "order", "I", false)
  | _ => ("LaneWarps$Forecast", "skew", "I", false)
def tyX0 : Nat → FieldType := fun k => match k with
  | 0 => .object "LaneWarps$Machine"
  | 1 => .object "LaneWarps$State"
  | 2 => .object "LaneWarps$State"
  | 3 => .object "LaneWarps$State"
  | 4 => .array .int
  | 5 => .int
  | 6 => .array .int
  | 7 => .long
  | 8 => .array .int
  | 9 => .int
  | 10 => .object "LaneWarps$Program"
  | 11 => .int
  | 12 => .int
  | _ => .int
abbrev wsX00 : List Cond := u_ws RX0 TX0 14
theorem nmX0 : ∀ a, a < 14 → ∀ b, b < 14 → a ≠ b → (TX0 a).2.1 ≠ (TX0 b).2.1 := by decide +kernel
theorem tyX0_ok : ∀ k, k < 14 → parseFieldDescriptor (TX0 k).2.2.1 = some (tyX0 k) := by decide +kernel
theorem dvX0 : ∀ j, j < 14 → defaultValue (tyX0 j) = vp_V [.null, .null, .null, .null, .null, .int 0, .null, .long 0, .null, .int 0, .null, .int 0, .int 0, .int 0] j := fun j hj => by rcases (show j = 0 ∨ j = 1 ∨ j = 2 ∨ j = 3 ∨ j = 4 ∨ j = 5 ∨ j = 6 ∨ j = 7 ∨ j = 8 ∨ j = 9 ∨ j = 10 ∨ j = 11 ∨ j = 12 ∨ j = 13 by omega) with rfl | rfl | rfl | rfl | rfl | rfl | rfl | rfl | rfl | rfl | rfl | rfl | rfl | rfl <;> rfl
def RX1 : String := "LaneWarps$Machine"
def TX1 : u_T := fun k => match k with
  | 0 => ("LaneWarps$Machine", "addresses", "[I", true)
  | 1 => ("LaneWarps$Machine", "inBank", "[I", true)
  | 2 => ("LaneWarps$Machine", "program", "LLaneWarps$Program;", false)
  | 3 => ("LaneWarps$Machine", "state", "LLaneWarps$State;", false)
  | 4 => ("LaneWarps$Machine", "mover", "LLaneWarps$Warp;", false)
  | 5 => ("LaneWarps$Machine", "row", "[I", false)
  | 6 => ("LaneWarps$Machine", "warp", "I", false)
  | 7 => ("LaneWarps$Machine", "line", "I", false)
  | 8 => ("LaneWarps$Machine", "lanes", "I", false)
  | 9 => ("LaneWarps$Machine", "leader", "I", false)
  | 10 => ("LaneWarps$Machine", "takes", "I", false)
  | _ => ("LaneWarps$Machine", "loaded", "J", false)
def tyX1 : Nat → FieldType := fun k => match k with
  | 0 => .array .int
  | 1 => .array .int
  | 2 => .object "LaneWarps$Program"
  | 3 => .object "LaneWarps$State"
  | 4 => .object "LaneWarps$Warp"
  | 5 => .array .int
  | 6 => .int
  | 7 => .int
  | 8 => .int
  | 9 => .int
  | 10 => .int
  | _ => .long
abbrev wsX10 : List Cond := u_ws RX1 TX1 12
theorem nmX1 : ∀ a, a < 12 → ∀ b, b < 12 → a ≠ b → (TX1 a).2.1 ≠ (TX1 b).2.1 := by decide +kernel
theorem tyX1_ok : ∀ k, k < 12 → parseFieldDescriptor (TX1 k).2.2.1 = some (tyX1 k) := by decide +kernel
theorem dvX1 : ∀ j, j < 12 → defaultValue (tyX1 j) = vp_V [.null, .null, .null, .null, .null, .null, .int 0, .int 0, .int 0, .int 0, .int 0, .long 0] j := fun j hj => by rcases (show j = 0 ∨ j = 1 ∨ j = 2 ∨ j = 3 ∨ j = 4 ∨ j = 5 ∨ j = 6 ∨ j = 7 ∨ j = 8 ∨ j = 9 ∨ j = 10 ∨ j = 11 by omega) with rfl | rfl | rfl | rfl | rfl | rfl | rfl | rfl | rfl | rfl | rfl | rfl <;> rfl
def RX2 : String := "LaneWarps$Program"
def TX2 : u_T := fun k => match k with
  | 0 => ("LaneWarps$Program", "rows", "[[I", true)
  | 1 => ("LaneWarps$Program", "far", "[I", true)
  | 2 => ("LaneWarps$Program", "passed", "[J", true)
  | 3 => ("LaneWarps$Program", "lines", "I", false)
  | 4 => ("LaneWarps$Program", "warps", "I", false)
  | 5 => ("LaneWarps$Program", "mode", "I", false)
  | _ => ("LaneWarps$Program", "order", "I", false)
def tyX2 : Nat → FieldType := fun k => match k with
  | 0 => .array (.array .int)
  | 1 => .array .int
  | 2 => .array .long
  | 3 => .int
  | 4 => .int
  | 5 => .int
  | _ => .int
abbrev wsX20 : List Cond := u_ws RX2 TX2 7
theorem nmX2 : ∀ a, a < 7 → ∀ b, b < 7 → a ≠ b → (TX2 a).2.1 ≠ (TX2 b).2.1 := by decide +kernel
theorem tyX2_ok : ∀ k, k < 7 → parseFieldDescriptor (TX2 k).2.2.1 = some (tyX2 k) := by decide +kernel
theorem dvX2 : ∀ j, j < 7 → defaultValue (tyX2 j) = vp_V [.null, .null, .null, .int 0, .int 0, .int 0, .int 0] j := fun j hj => by rcases (show j = 0 ∨ j = 1 ∨ j = 2 ∨ j = 3 ∨ j = 4 ∨ j = 5 ∨ j = 6 by omega) with rfl | rfl | rfl | rfl | rfl | rfl | rfl <;> rfl
def RX3 : String := "LaneWarps$Reader"
def TX3 : u_T := fun k => match k with
  | 0 => ("LaneWarps$Reader", "nameAt", "[I", true)
  | 1 => ("LaneWarps$Reader", "nameEnd", "[I", true)
  | 2 => ("LaneWarps$Reader", "aimAt", "[I", true)
  | 3 => ("LaneWarps$Reader", "aimEnd", "[I", true)
  | 4 => ("LaneWarps$Reader", "text", "[B", false)
  | 5 => ("LaneWarps$Reader", "length", "I", false)
  | 6 => ("LaneWarps$Reader", "into", "LLaneWarps$Program;", false)
  | 7 => ("LaneWarps$Reader", "kind", "I", false)
  | 8 => ("LaneWarps$Reader", "from", "I", false)
  | 9 => ("LaneWarps$Reader", "to", "I", false)
  | 10 => ("LaneWarps$Reader", "own", "I", false)
  | 11 => ("LaneWarps$Reader", "number", "I", false)
  | 12 => ("LaneWarps$Reader", "address", "I", false)
  | 13 => ("LaneWarps$Reader", "fault", "I", false)
  | _ => ("LaneWarps$Reader", "place", "I", false)
def tyX3 : Nat → FieldType := fun k => match k with
  | 0 => .array .int
  | 1 => .array .int
  | 2 => .array .int
  | 3 => .array .int
  | 4 => .array .byte
  | 5 => .int
  | 6 => .object "LaneWarps$Program"
  | 7 => .int
  | 8 => .int
  | 9 => .int
  | 10 => .int
  | 11 => .int
  | 12 => .int
  | 13 => .int
  | _ => .int
abbrev wsX30 : List Cond := u_ws RX3 TX3 15
theorem nmX3 : ∀ a, a < 15 → ∀ b, b < 15 → a ≠ b → (TX3 a).2.1 ≠ (TX3 b).2.1 := by decide +kernel
theorem tyX3_ok : ∀ k, k < 15 → parseFieldDescriptor (TX3 k).2.2.1 = some (tyX3 k) := by decide +kernel
theorem dvX3 : ∀ j, j < 15 → defaultValue (tyX3 j) = vp_V [.null, .null, .null, .null, .null, .int 0, .null, .int 0, .int 0, .int 0, .int 0, .int 0, .int 0, .int 0, .int 0] j := fun j hj => by rcases (show j = 0 ∨ j = 1 ∨ j = 2 ∨ j = 3 ∨ j = 4 ∨ j = 5 ∨ j = 6 ∨ j = 7 ∨ j = 8 ∨ j = 9 ∨ j = 10 ∨ j = 11 ∨ j = 12 ∨ j = 13 ∨ j = 14 by omega) with rfl | rfl | rfl | rfl | rfl | rfl | rfl | rfl | rfl | rfl | rfl | rfl | rfl | rfl | rfl <;> rfl
def RX4 : String := "LaneWarps$State"
def TX4 : u_T := fun k => match k with
  | 0 => ("LaneWarps$State", "warps", "[LLaneWarps$Warp;", true)
  | 1 => ("LaneWarps$State", "far", "[I", true)
  | 2 => ("LaneWarps$State", "near", "[I", true)
  | 3 => ("LaneWarps$State", "touched", "[I", true)
  | 4 => ("LaneWarps$State", "wrote", "[I", true)
  | 5 => ("LaneWarps$State", "raced", "[I", true)
  | 6 => ("LaneWarps$State", "kept", "[I", true)
  | 7 => ("LaneWarps$State", "used", "I", false)
  | 8 => ("LaneWarps$State", "mode", "I", false)
  | 9 => ("LaneWarps$State", "order", "I", false)
  | 10 => ("LaneWarps$State", "skew", "I", false)
  | 11 => ("LaneWarps$State", "cycle", "I", false)
  | 12 => ("LaneWarps$State", "done", "I", false)
  | 13 => ("LaneWarps$State", "epochs", "I", false)
  | _ => ("LaneWarps$State", "last", "I", false)
def tyX4 : Nat → FieldType := fun k => match k with
  | 0 => .array (.object "LaneWarps$Warp")
  | 1 => .array .int
  | 2 => .array .int
  | 3 => .array .int
  | 4 => .array .int
  | 5 => .array .int
  | 6 => .array .int
  | 7 => .int
  | 8 => .int
  | 9 => .int
  | 10 => .int
  | 11 => .int
  | 12 => .int
  | 13 => .int
  | _ => .int
abbrev wsX40 : List Cond := u_ws RX4 TX4 15
theorem nmX4 : ∀ a, a < 15 → ∀ b, b < 15 → a ≠ b → (TX4 a).2.1 ≠ (TX4 b).2.1 := by decide +kernel
theorem tyX4_ok : ∀ k, k < 15 → parseFieldDescriptor (TX4 k).2.2.1 = some (tyX4 k) := by decide +kernel
theorem dvX4 : ∀ j, j < 15 → defaultValue (tyX4 j) = vp_V [.null, .null, .null, .null, .null, .null, .null, .int 0, .int 0, .int 0, .int 0, .int 0, .int 0, .int 0, .int 0] j := fun j hj => by rcases (show j = 0 ∨ j = 1 ∨ j = 2 ∨ j = 3 ∨ j = 4 ∨ j = 5 ∨ j = 6 ∨ j = 7 ∨ j = 8 ∨ j = 9 ∨ j = 10 ∨ j = 11 ∨ j = 12 ∨ j = 13 ∨ j = 14 by omega) with rfl | rfl | rfl | rfl | rfl | rfl | rfl | rfl | rfl | rfl | rfl | rfl | rfl | rfl | rfl <;> rfl
def RX5 : String := "LaneWarps$Warp"
def TX5 : u_T := fun k => match k with
  | 0 => ("LaneWarps$Warp", "registers", "[I", true)
  | 1 => ("LaneWarps$Warp", "lines", "[I", true)
  | 2 => ("LaneWarps$Warp", "partLine", "[I", true)
  | 3 => ("LaneWarps$Warp", "partMeets", "[I", true)
  | 4 => ("LaneWarps$Warp", "partLanes", "[I", true)
  | 5 => ("LaneWarps$Warp", "parts", "I", false)
  | 6 => ("LaneWarps$Warp", "lives", "I", false)
  | 7 => ("LaneWarps$Warp", "waits", "I", false)
  | 8 => ("LaneWarps$Warp", "ready", "I", false)
  | 9 => ("LaneWarps$Warp", "done", "I", false)
  | _ => ("LaneWarps$Warp", "turn", "I", false)
def tyX5 : Nat → FieldType := fun k => match k with
  | 0 => .array .int
  | 1 => .array .int
  | 2 => .array .int
  | 3 => .array .int
  | 4 => .array .int
  | 5 => .int
  | 6 => .int
  | 7 => .int
  | 8 => .int
  | 9 => .int
  | _ => .int
abbrev wsX50 : List Cond := u_ws RX5 TX5 11
theorem nmX5 : ∀ a, a < 11 → ∀ b, b < 11 → a ≠ b → (TX5 a).2.1 ≠ (TX5 b).2.1 := by decide +kernel
theorem tyX5_ok : ∀ k, k < 11 → parseFieldDescriptor (TX5 k).2.2.1 = some (tyX5 k) := by decide +kernel
theorem dvX5 : ∀ j, j < 11 → defaultValue (tyX5 j) = vp_V [.null, .null, .null, .null, .null, .int 0, .int 0, .int 0, .int 0, .int 0, .int 0] j := fun j hj => by rcases (show j = 0 ∨ j = 1 ∨ j = 2 ∨ j = 3 ∨ j = 4 ∨ j = 5 ∨ j = 6 ∨ j = 7 ∨ j = 8 ∨ j = 9 ∨ j = 10 by omega) with rfl | rfl | rfl | rfl | rfl | rfl | rfl | rfl | rfl | rfl | rfl <;> rfl
def RX6 : String := "LaneWarps"
def TX6 : u_T := fun k => match k with
  | 0 => ("LaneWarps", "tape", "[B", true)
  | 1 => ("LaneWarps", "bytes", "I", false)
  | 2 => ("LaneWarps", "reader", "LLaneWarps$Reader;", true)
  | 3 => ("LaneWarps", "current", "LLaneWarps$Program;", false)
  | 4 => ("LaneWarps", "spare", "LLaneWarps$Program;", false)
  | 5 => ("LaneWarps", "told", "Z", false)
  | 6 => ("LaneWarps", "now", "LLaneWarps$State;", true)
  | 7 => ("LaneWarps", "past", "[LLaneWarps$State;", true)
  | 8 => ("LaneWarps", "oldestAct", "I", false)
  | 9 => ("LaneWarps", "acts", "I", false)
  | 10 => ("LaneWarps", "machine", "LLaneWarps$Machine;", true)
  | 11 => ("LaneWarps", "forecast", "LLaneWarps$Forecast;", true)
  | 12 => ("LaneWarps", "refused", "[I", true)
  | _ => ("LaneWarps", "drawn", "J", false)
def tyX6 : Nat → FieldType := fun k => match k with
  | 0 => .array .byte
  | 1 => .int
  | 2 => .object "LaneWarps$Reader"
  | 3 => .object "LaneWarps$Program"
  | 4 => .object "LaneWarps$Program"
  | 5 => .boolean
  | 6 => .object "LaneWarps$State"
  | 7 => .array (.object "LaneWarps$State")
  | 8 => .int
  | 9 => .int
  | 10 => .object "LaneWarps$Machine"
  | 11 => .object "LaneWarps$Forecast"
  | 12 => .array .int
  | _ => .long
abbrev wsX60 : List Cond := u_ws RX6 TX6 14
theorem nmX6 : ∀ a, a < 14 → ∀ b, b < 14 → a ≠ b → (TX6 a).2.1 ≠ (TX6 b).2.1 := by decide +kernel
theorem tyX6_ok : ∀ k, k < 14 → parseFieldDescriptor (TX6 k).2.2.1 = some (tyX6 k) := by decide +kernel
theorem dvX6 : ∀ j, j < 14 → defaultValue (tyX6 j) = vp_V [.null, .int 0, .null, .null, .null, .int 0, .null, .null, .int 0, .int 0, .null, .null, .null, .long 0] j := fun j hj => by rcases (show j = 0 ∨ j = 1 ∨ j = 2 ∨ j = 3 ∨ j = 4 ∨ j = 5 ∨ j = 6 ∨ j = 7 ∨ j = 8 ∨ j = 9 ∨ j = 10 ∨ j = 11 ∨ j = 12 ∨ j = 13 by omega) with rfl | rfl | rfl | rfl | rfl | rfl | rfl | rfl | rfl | rfl | rfl | rfl | rfl | rfl <;> rfl
def RX7 : String := "LaneWarpsModel"
def TX7 : u_T := fun k => match k with
  | 0 => ("LaneWarpsModel", "tape", "[I", true)
  | 1 => ("LaneWarpsModel", "taped", "I", false)
  | 2 => ("LaneWarpsModel", "at", "I", false)
  | 3 => ("LaneWarpsModel", "end", "I", false)
  | 4 => ("LaneWarpsModel", "ended", "I", false)
  | 5 => ("LaneWarpsModel", "bad", "I", false)
  | 6 => ("LaneWarpsModel", "badPlace", "I", false)
  | 7 => ("LaneWarpsModel", "fault", "I", false)
  | 8 => ("LaneWarpsModel", "faultPlace", "I", false)
  | 9 => ("LaneWarpsModel", "refused", "[I", true)
  | 10 => ("LaneWarpsModel", "own", "[C", true)
  | 11 => ("LaneWarpsModel", "namePlace", "I", false)
  | 12 => ("LaneWarpsModel", "draft", "[I", true)
  | 13 => ("LaneWarpsModel", "program", "[I", true)
  | 14 => ("LaneWarpsModel", "goPlace", "[I", true)
  | 15 => ("LaneWarpsModel", "isTold", "Z", false)
  | 16 => ("LaneWarpsModel", "statements", "I", false)
  | 17 => ("LaneWarpsModel", "isCome", "[Z", true)
  | 18 => ("LaneWarpsModel", "heap", "[I", true)
  | 19 => ("LaneWarpsModel", "heapMany", "I", false)
  | 20 => ("LaneWarpsModel", "now", "[I", true)
  | 21 => ("LaneWarpsModel", "first", "[I", true)
  | 22 => ("LaneWarpsModel", "second", "[I", true)
  | 23 => ("LaneWarpsModel", "behind", "[I", true)
  | 24 => ("LaneWarpsModel", "states", "[I", true)
  | 25 => ("LaneWarpsModel", "how", "I", false)
  | 26 => ("LaneWarpsModel", "many", "I", false)
  | 27 => ("LaneWarpsModel", "round", "I", false)
  | 28 => ("LaneWarpsModel", "alone0", "[I", true)
  | 29 => ("LaneWarpsModel", "endsBy", "[I", true)
  | 30 => ("LaneWarpsModel", "kept0", "[I", true)
  | 31 => ("LaneWarpsModel", "undoable", "I", false)
  | 32 => ("LaneWarpsModel", "newest", "I", false)
  | _ => ("LaneWarpsModel", "seeded", "J", false)
def tyX7 : Nat → FieldType := fun k => match k with
  | 0 => .array .int
  | 1 => .int
  | 2 => .int
  | 3 => .int
  | 4 => .int
  | 5 => .int
  | 6 => .int
  | 7 => .int
  | 8 => .int
  | 9 => .array .int
  | 10 => .array .char
  | 11 => .int
  | 12 => .array .int
  | 13 => .array .int
  | 14 => .array .int
  | 15 => .boolean
  | 16 => .int
  | 17 => .array .boolean
  | 18 => .array .int
  | 19 => .int
  | 20 => .array .int
  | 21 => .array .int
  | 22 => .array .int
  | 23 => .array .int
  | 24 => .array .int
  | 25 => .int
  | 26 => .int
  | 27 => .int
  | 28 => .array .int
  | 29 => .array .int
  | 30 => .array .int
  | 31 => .int
  | 32 => .int
  | _ => .long
abbrev wsX70 : List Cond := u_ws RX7 TX7 34
theorem nmX7 : ∀ a, a < 34 → ∀ b, b < 34 → a ≠ b → (TX7 a).2.1 ≠ (TX7 b).2.1 := by decide +kernel
theorem tyX7_ok : ∀ k, k < 34 → parseFieldDescriptor (TX7 k).2.2.1 = some (tyX7 k) := by decide +kernel
theorem dvX7 : ∀ j, j < 34 → defaultValue (tyX7 j) = vp_V [.null, .int 0, .int 0, .int 0, .int 0, .int 0, .int 0, .int 0, .int 0, .null, .null, .int 0, .null, .null, .null, .int 0, .int 0, .null, .null, .int 0, .null, .null, .null, .null, .null, .int 0, .int 0, .int 0, .null, .null, .null, .int 0, .int 0, .long 0] j := fun j hj => by rcases (show j = 0 ∨ j = 1 ∨ j = 2 ∨ j = 3 ∨ j = 4 ∨ j = 5 ∨ j = 6 ∨ j = 7 ∨ j = 8 ∨ j = 9 ∨ j = 10 ∨ j = 11 ∨ j = 12 ∨ j = 13 ∨ j = 14 ∨ j = 15 ∨ j = 16 ∨ j = 17 ∨ j = 18 ∨ j = 19 ∨ j = 20 ∨ j = 21 ∨ j = 22 ∨ j = 23 ∨ j = 24 ∨ j = 25 ∨ j = 26 ∨ j = 27 ∨ j = 28 ∨ j = 29 ∨ j = 30 ∨ j = 31 ∨ j = 32 ∨ j = 33 by omega) with rfl | rfl | rfl | rfl | rfl | rfl | rfl | rfl | rfl | rfl | rfl | rfl | rfl | rfl | rfl | rfl | rfl | rfl | rfl | rfl | rfl | rfl | rfl | rfl | rfl | rfl | rfl | rfl | rfl | rfl | rfl | rfl | rfl | rfl <;> rfl
def RL : String := "LaneWarpsLaw"
abbrev cL_law : ByteArray := code
def RJ7 : String := "java/util/Arrays"
abbrev cJ7_fill_53178 : ByteArray := prog_16_method_103_code
def yJ7_fill_53178 : MethodName := ⟨RJ7, "fill", "([II)V"⟩
abbrev cX0_init : ByteArray := prog_2_method_1_code
def yX0_init : MethodName := ⟨RX0, "<init>", "()V"⟩
abbrev cX0_take : ByteArray := prog_2_method_2_code
def yX0_take : MethodName := ⟨RX0, "take", "(LLaneWarps$Program;)V"⟩
abbrev cX1_init : ByteArray := prog_3_method_1_code
def yX1_init : MethodName := ⟨RX1, "<init>", "()V"⟩
abbrev cX1_take : ByteArray := prog_3_method_2_code
def yX1_take : MethodName := ⟨RX1, "take", "(LLaneWarps$Program;)V"⟩
abbrev cX2_clear : ByteArray := prog_4_method_2_code
def yX2_clear : MethodName := ⟨RX2, "clear", "()V"⟩
abbrev cX2_init : ByteArray := prog_4_method_1_code
def yX2_init : MethodName := ⟨RX2, "<init>", "()V"⟩
abbrev cX3_fail : ByteArray := prog_5_method_3_code
def yX3_fail : MethodName := ⟨RX3, "fail", "(II)Z"⟩
abbrev cX3_init : ByteArray := prog_5_method_1_code
def yX3_init : MethodName := ⟨RX3, "<init>", "()V"⟩
abbrev cX3_read : ByteArray := prog_5_method_2_code
def yX3_read : MethodName := ⟨RX3, "read", "([BILLaneWarps$Program;)Z"⟩
abbrev cX3_scan : ByteArray := prog_5_method_15_code
def yX3_scan : MethodName := ⟨RX3, "scan", "()V"⟩
abbrev cX4_init : ByteArray := prog_6_method_1_code
def yX4_init : MethodName := ⟨RX4, "<init>", "()V"⟩
abbrev cX5_init : ByteArray := prog_7_method_1_code
def yX5_init : MethodName := ⟨RX5, "<init>", "()V"⟩
abbrev cX6_agrees : ByteArray := prog_1_method_20_code
def yX6_agrees : MethodName := ⟨RX6, "agrees", "()I"⟩
abbrev cX6_alone : ByteArray := prog_1_method_19_code
def yX6_alone : MethodName := ⟨RX6, "alone", "(III)I"⟩
abbrev cX6_begin : ByteArray := prog_1_method_26_code
def yX6_begin : MethodName := ⟨RX6, "begin", "()Z"⟩
abbrev cX6_by : ByteArray := prog_1_method_17_code
def yX6_by : MethodName := ⟨RX6, "by", "(III)I"⟩
abbrev cX6_chance : ByteArray := prog_1_method_27_code
def yX6_chance : MethodName := ⟨RX6, "chance", "(I)I"⟩
abbrev cX6_cycles : ByteArray := prog_1_method_23_code
def yX6_cycles : MethodName := ⟨RX6, "cycles", "(I)I"⟩
abbrev cX6_end : ByteArray := prog_1_method_3_code
def yX6_end : MethodName := ⟨RX6, "end", "(I)Z"⟩
abbrev cX6_fault : ByteArray := prog_1_method_5_code
def yX6_fault : MethodName := ⟨RX6, "fault", "(I)I"⟩
abbrev cX6_feed : ByteArray := prog_1_method_2_code
def yX6_feed : MethodName := ⟨RX6, "feed", "(IIIII)I"⟩
abbrev cX6_goes : ByteArray := prog_1_method_15_code
def yX6_goes : MethodName := ⟨RX6, "goes", "(I)I"⟩
abbrev cX6_has : ByteArray := prog_1_method_6_code
def yX6_has : MethodName := ⟨RX6, "has", "(I)I"⟩
abbrev cX6_hasLane : ByteArray := prog_1_method_34_code
def yX6_hasLane : MethodName := ⟨RX6, "hasLane", "(II)Z"⟩
abbrev cX6_hasWarp : ByteArray := prog_1_method_33_code
def yX6_hasWarp : MethodName := ⟨RX6, "hasWarp", "(I)Z"⟩
abbrev cX6_hasWord : ByteArray := prog_1_method_35_code
def yX6_hasWord : MethodName := ⟨RX6, "hasWord", "(ZI)Z"⟩
abbrev cX6_init : ByteArray := prog_1_method_1_code
def yX6_init : MethodName := ⟨RX6, "<init>", "()V"⟩
abbrev cX6_kept : ByteArray := prog_1_method_13_code
def yX6_kept : MethodName := ⟨RX6, "kept", "(II)I"⟩
abbrev cX6_lane : ByteArray := prog_1_method_8_code
def yX6_lane : MethodName := ⟨RX6, "lane", "(III)I"⟩
abbrev cX6_later : ByteArray := prog_1_method_16_code
def yX6_later : MethodName := ⟨RX6, "later", "(IIII)I"⟩
abbrev cX6_layBytes : ByteArray := prog_1_method_32_code
def yX6_layBytes : MethodName := ⟨RX6, "layBytes", "(I)V"⟩
abbrev cX6_likely : ByteArray := prog_1_method_21_code
def yX6_likely : MethodName := ⟨RX6, "likely", "(III)I"⟩
abbrev cX6_line : ByteArray := prog_1_method_7_code
def yX6_line : MethodName := ⟨RX6, "line", "(II)I"⟩
abbrev cX6_next : ByteArray := prog_1_method_14_code
def yX6_next : MethodName := ⟨RX6, "next", "(I)I"⟩
abbrev cX6_part : ByteArray := prog_1_method_10_code
def yX6_part : MethodName := ⟨RX6, "part", "(III)I"⟩
abbrev cX6_poke : ByteArray := prog_1_method_24_code
def yX6_poke : MethodName := ⟨RX6, "poke", "(ZII)I"⟩
abbrev cX6_program : ByteArray := prog_1_method_4_code
def yX6_program : MethodName := ⟨RX6, "program", "()I"⟩
abbrev cX6_raced : ByteArray := prog_1_method_12_code
def yX6_raced : MethodName := ⟨RX6, "raced", "(ZI)I"⟩
abbrev cX6_refuse : ByteArray := prog_1_method_31_code
def yX6_refuse : MethodName := ⟨RX6, "refuse", "(I)I"⟩
abbrev cX6_seed : ByteArray := prog_1_method_29_code
def yX6_seed : MethodName := ⟨RX6, "seed", "(I)Z"⟩
abbrev cX6_set : ByteArray := prog_1_method_25_code
def yX6_set : MethodName := ⟨RX6, "set", "(III)Z"⟩
abbrev cX6_skew : ByteArray := prog_1_method_18_code
def yX6_skew : MethodName := ⟨RX6, "skew", "(I)I"⟩
abbrev cX6_status : ByteArray := prog_1_method_30_code
def yX6_status : MethodName := ⟨RX6, "status", "(I)I"⟩
abbrev cX6_tells : ByteArray := prog_1_method_22_code
def yX6_tells : MethodName := ⟨RX6, "tells", "(I)I"⟩
abbrev cX6_undo : ByteArray := prog_1_method_28_code
def yX6_undo : MethodName := ⟨RX6, "undo", "()Z"⟩
abbrev cX6_warp : ByteArray := prog_1_method_9_code
def yX6_warp : MethodName := ⟨RX6, "warp", "(II)I"⟩
abbrev cX6_word : ByteArray := prog_1_method_11_code
def yX6_word : MethodName := ⟨RX6, "word", "(ZI)I"⟩
abbrev vwCl : List vw_C := [(RX0, TX0, 14), (RX1, TX1, 12), (RX2, TX2, 7), (RX3, TX3, 15), (RX4, TX4, 15), (RX5, TX5, 11), (RX6, TX6, 14), (RX7, TX7, 34)]
/-- the words that the walks need, one list for all -/
def T0w : List Cond := [Cond.methodLink RX5 3 objectInit, Cond.instanceMethod objectInit, Cond.code objectInit ⟨#[0xb1]⟩ 1 none, Cond.arrayClass .int, Cond.fieldLink RX5 9 "LaneWarps$Warp" "registers" "[I", Cond.fieldLink RX5 15 "LaneWarps$Warp" "lines" "[I", Cond.fieldLink RX5 18 "LaneWarps$Warp" "partLine" "[I", Cond.fieldLink RX5 21 "LaneWarps$Warp" "partMeets" "[I", Cond.fieldLink RX5 24 "LaneWarps$Warp" "partLanes" "[I", Cond.methodLink RX4 3 objectInit, Cond.classLink RX4 9 RX5, Cond.fieldLink RX4 11 "LaneWarps$State" "warps" "[LLaneWarps$Warp;", Cond.fieldLink RX4 17 "LaneWarps$State" "far" "[I", Cond.fieldLink RX4 21 "LaneWarps$State" "near" "[I", Cond.fieldLink RX4 24 "LaneWarps$State" "touched" "[I", Cond.fieldLink RX4 27 "LaneWarps$State" "wrote" "[I", Cond.fieldLink RX4 30 "LaneWarps$State" "raced" "[I", Cond.fieldLink RX4 33 "LaneWarps$State" "kept" "[I", Cond.fieldLink RX4 36 "LaneWarps$State" "last" "I", Cond.instantiable RX5 11, Cond.initialized RX5, Cond.code yX5_init cX5_init 1 none, Cond.instanceMethod yX5_init, Cond.methodLink RX1 3 objectInit, Cond.fieldLink RX1 9 "LaneWarps$Machine" "addresses" "[I", Cond.fieldLink RX1 15 "LaneWarps$Machine" "inBank" "[I", Cond.fieldLink RX1 18 "LaneWarps$Machine" "program" "LLaneWarps$Program;", Cond.methodLink RX2 3 objectInit, Cond.classLink RX2 9 "[[I", Cond.fieldLink RX2 11 "LaneWarps$Program" "rows" "[[I", Cond.fieldLink RX2 16 "LaneWarps$Program" "far" "[I", Cond.arrayClass .long, Cond.fieldLink RX2 20 "LaneWarps$Program" "passed" "[J", Cond.methodLink RX3 3 objectInit, Cond.fieldLink RX3 9 "LaneWarps$Reader" "nameAt" "[I", Cond.fieldLink RX3 15 "LaneWarps$Reader" "nameEnd" "[I", Cond.fieldLink RX3 18 "LaneWarps$Reader" "aimAt" "[I", Cond.fieldLink RX3 21 "LaneWarps$Reader" "aimEnd" "[I", Cond.fieldLink RX3 24 "LaneWarps$Reader" "place" "I", Cond.methodLink RX0 3 objectInit, Cond.classLink RX0 9 RX1, Cond.instantiable RX1 12, Cond.initialized RX1, Cond.code yX1_init cX1_init 1 none, Cond.instanceMethod yX1_init, Cond.fieldLink RX0 12 "LaneWarps$Forecast" "machine" "LLaneWarps$Machine;", Cond.classLink RX0 18 RX4, Cond.instantiable RX4 15, Cond.initialized RX4, Cond.code yX4_init cX4_init 2 none, Cond.methodLink RX0 20 yX4_init, Cond.instanceMethod yX4_init, Cond.fieldLink RX0 21 "LaneWarps$Forecast" "origin" "LLaneWarps$State;", Cond.fieldLink RX0 25 "LaneWarps$Forecast" "scout" "LLaneWarps$State;", Cond.fieldLink RX0 28 "LaneWarps$Forecast" "trail" "LLaneWarps$State;", Cond.fieldLink RX0 31 "LaneWarps$Forecast" "courses" "[I", Cond.fieldLink RX0 35 "LaneWarps$Forecast" "ends" "[I", Cond.fieldLink RX0 38 "LaneWarps$Forecast" "solos" "[I", Cond.fieldLink RX0 41 "LaneWarps$Forecast" "program" "LLaneWarps$Program;", Cond.code yX1_take cX1_take 2 none, Cond.methodLink RX0 45 yX1_take, Cond.instanceMethod yX1_take, Cond.selects RX1 yX1_take yX1_take, Cond.fieldLink RX0 49 "LaneWarps$Forecast" "coursesKnown" "I", Cond.fieldLink RX0 53 "LaneWarps$Forecast" "endsKnown" "J", Cond.fieldLink RX0 57 "LaneWarps$Forecast" "solosKnown" "I", Cond.methodLink RX6 3 objectInit, Cond.arrayClass .byte, Cond.fieldLink RX6 9 "LaneWarps" "tape" "[B", Cond.classLink RX6 13 RX3, Cond.instantiable RX3 15, Cond.initialized RX3, Cond.code yX3_init cX3_init 1 none, Cond.instanceMethod yX3_init, Cond.fieldLink RX6 16 "LaneWarps" "reader" "LLaneWarps$Reader;", Cond.classLink RX6 20 RX2, Cond.instantiable RX2 7, Cond.initialized RX2, Cond.code yX2_init cX2_init 1 none, Cond.instanceMethod yX2_init, Cond.fieldLink RX6 23 "LaneWarps" "current" "LLaneWarps$Program;", Cond.fieldLink RX6 27 "LaneWarps" "spare" "LLaneWarps$Program;", Cond.classLink RX6 30 RX4, Cond.methodLink RX6 32 yX4_init, Cond.fieldLink RX6 33 "LaneWarps" "now" "LLaneWarps$State;", Cond.fieldLink RX6 37 "LaneWarps" "past" "[LLaneWarps$State;", Cond.classLink RX6 41 RX1, Cond.fieldLink RX6 44 "LaneWarps" "machine" "LLaneWarps$Machine;", Cond.classLink RX6 48 RX0, Cond.instantiable RX0 14, Cond.initialized RX0, Cond.code yX0_init cX0_init 1 none, Cond.instanceMethod yX0_init, Cond.fieldLink RX6 51 "LaneWarps" "forecast" "LLaneWarps$Forecast;", Cond.fieldLink RX6 55 "LaneWarps" "refused" "[I", Cond.fieldLink RX6 59 "LaneWarps" "drawn" "J", Cond.methodLink RX6 63 yX1_take, Cond.code yX0_take cX0_take 2 none, Cond.methodLink RX6 67 yX0_take, Cond.instanceMethod yX0_take, Cond.selects RX0 yX0_take yX0_take, Cond.fieldLink RX6 68 "LaneWarps" "bytes" "I", Cond.code yX6_layBytes cX6_layBytes 3 none, Cond.methodLink RX6 76 yX6_layBytes, Cond.instanceMethod yX6_layBytes, Cond.selects RX6 yX6_layBytes yX6_layBytes, Cond.initialized RX6, Cond.code yX6_refuse cX6_refuse 2 (some .int), Cond.methodLink RX6 72 yX6_refuse, Cond.instanceMethod yX6_refuse, Cond.selects RX6 yX6_refuse yX6_refuse, Cond.code yJ7_fill_53178 cJ7_fill_53178 4 none, Cond.initialized RJ7, Cond.methodLink RX2 24 yJ7_fill_53178, Cond.static yJ7_fill_53178, Cond.fieldLink RX2 30 "LaneWarps$Program" "lines" "I", Cond.fieldLink RX2 34 "LaneWarps$Program" "warps" "I", Cond.fieldLink RX2 37 "LaneWarps$Program" "mode" "I", Cond.fieldLink RX2 40 "LaneWarps$Program" "order" "I", Cond.fieldLink RX3 44 "LaneWarps$Reader" "kind" "I", Cond.fieldLink RX3 47 "LaneWarps$Reader" "to" "I", Cond.fieldLink RX3 71 "LaneWarps$Reader" "from" "I", Cond.fieldLink RX3 32 "LaneWarps$Reader" "length" "I", Cond.fieldLink RX3 74 "LaneWarps$Reader" "own" "I", Cond.fieldLink RX3 50 "LaneWarps$Reader" "fault" "I", Cond.fieldLink RX3 28 "LaneWarps$Reader" "text" "[B", Cond.fieldLink RX3 35 "LaneWarps$Reader" "into" "LLaneWarps$Program;", Cond.code yX2_clear cX2_clear 1 none, Cond.methodLink RX3 39 yX2_clear, Cond.instanceMethod yX2_clear, Cond.selects RX2 yX2_clear yX2_clear, Cond.code yX3_scan cX3_scan 3 none, Cond.methodLink RX3 53 yX3_scan, Cond.instanceMethod yX3_scan, Cond.selects RX3 yX3_scan yX3_scan, Cond.code yX3_fail cX3_fail 3 (some .boolean), Cond.methodLink RX3 63 yX3_fail, Cond.instanceMethod yX3_fail, Cond.selects RX3 yX3_fail yX3_fail, Cond.code yX3_read cX3_read 6 (some .boolean), Cond.methodLink RX6 80 yX3_read, Cond.instanceMethod yX3_read, Cond.selects RX3 yX3_read yX3_read, Cond.fieldLink RX6 87 "LaneWarps" "told" "Z", Cond.code yX6_hasWarp cX6_hasWarp 2 (some .boolean), Cond.methodLink RX6 181 yX6_hasWarp, Cond.instanceMethod yX6_hasWarp, Cond.selects RX6 yX6_hasWarp yX6_hasWarp, Cond.constant RX6 155 (-1000000), Cond.code yX6_hasLane cX6_hasLane 3 (some .boolean), Cond.methodLink RX6 160 yX6_hasLane, Cond.instanceMethod yX6_hasLane, Cond.selects RX6 yX6_hasLane yX6_hasLane, Cond.code yX6_hasWord cX6_hasWord 3 (some .boolean), Cond.methodLink RX6 207 yX6_hasWord, Cond.instanceMethod yX6_hasWord, Cond.selects RX6 yX6_hasWord yX6_hasWord, Cond.methodLink RX6 135 Lib.Math.min.name, Cond.static Lib.Math.min.name, Cond.initialized "java/lang/Math", Cond.code Lib.Math.min.name Lib.Math.min.code 2 (some .int), Cond.fieldLink RX6 104 "LaneWarps" "acts" "I"]
def T0 : List Cond := T0w ++ (wsX00 ++ (wsX10 ++ (wsX20 ++ (wsX30 ++ (wsX40 ++ (wsX50 ++ (wsX60 ++ (wsX70))))))))
theorem T_0 : Cond.methodLink RX5 3 objectInit ∈ T0 := List.mem_append_left _ (List.mem_of_getElem? (i := 0) rfl)
theorem T_1 : Cond.instanceMethod objectInit ∈ T0 := List.mem_append_left _ (List.mem_of_getElem? (i := 1) rfl)
theorem T_2 : Cond.code objectInit ⟨#[0xb1]⟩ 1 none ∈ T0 := List.mem_append_left _ (List.mem_of_getElem? (i := 2) rfl)
theorem T_3 : Cond.arrayClass .int ∈ T0 := List.mem_append_left _ (List.mem_of_getElem? (i := 3) rfl)
theorem T_4 : Cond.fieldLink RX5 9 "LaneWarps$Warp" "registers" "[I" ∈ T0 := List.mem_append_left _ (List.mem_of_getElem? (i := 4) rfl)
theorem T_5 : Cond.fieldLink RX5 15 "LaneWarps$Warp" "lines" "[I" ∈ T0 := List.mem_append_left _ (List.mem_of_getElem? (i := 5) rfl)
theorem T_6 : Cond.fieldLink RX5 18 "LaneWarps$Warp" "partLine" "[I" ∈ T0 := List.mem_append_left _ (List.mem_of_getElem? (i := 6) rfl)
theorem T_7 : Cond.fieldLink RX5 21 "LaneWarps$Warp" "partMeets" "[I" ∈ T0 := List.mem_append_left _ (List.mem_of_getElem? (i := 7) rfl)
theorem T_8 : Cond.fieldLink RX5 24 "LaneWarps$Warp" "partLanes" "[I" ∈ T0 := List.mem_append_left _ (List.mem_of_getElem? (i := 8) rfl)
theorem T_9 : Cond.methodLink RX4 3 objectInit ∈ T0 := List.mem_append_left _ (List.mem_of_getElem? (i := 9) rfl)
theorem T_10 : Cond.classLink RX4 9 RX5 ∈ T0 := List.mem_append_left _ (List.mem_of_getElem? (i := 10) rfl)
theorem T_11 : Cond.fieldLink RX4 11 "LaneWarps$State" "warps" "[LLaneWarps$Warp;" ∈ T0 := List.mem_append_left _ (List.mem_of_getElem? (i := 11) rfl)
theorem T_12 : Cond.fieldLink RX4 17 "LaneWarps$State" "far" "[I" ∈ T0 := List.mem_append_left _ (List.mem_of_getElem? (i := 12) rfl)
theorem T_13 : Cond.fieldLink RX4 21 "LaneWarps$State" "near" "[I" ∈ T0 := List.mem_append_left _ (List.mem_of_getElem? (i := 13) rfl)
theorem T_14 : Cond.fieldLink RX4 24 "LaneWarps$State" "touched" "[I" ∈ T0 := List.mem_append_left _ (List.mem_of_getElem? (i := 14) rfl)
theorem T_15 : Cond.fieldLink RX4 27 "LaneWarps$State" "wrote" "[I" ∈ T0 := List.mem_append_left _ (List.mem_of_getElem? (i := 15) rfl)
theorem T_16 : Cond.fieldLink RX4 30 "LaneWarps$State" "raced" "[I" ∈ T0 := List.mem_append_left _ (List.mem_of_getElem? (i := 16) rfl)
theorem T_17 : Cond.fieldLink RX4 33 "LaneWarps$State" "kept" "[I" ∈ T0 := List.mem_append_left _ (List.mem_of_getElem? (i := 17) rfl)
theorem T_18 : Cond.fieldLink RX4 36 "LaneWarps$State" "last" "I" ∈ T0 := List.mem_append_left _ (List.mem_of_getElem? (i := 18) rfl)
theorem T_19 : Cond.instantiable RX5 11 ∈ T0 := List.mem_append_left _ (List.mem_of_getElem? (i := 19) rfl)
theorem T_20 : Cond.initialized RX5 ∈ T0 := List.mem_append_left _ (List.mem_of_getElem? (i := 20) rfl)
theorem T_21 : Cond.code yX5_init cX5_init 1 none ∈ T0 := List.mem_append_left _ (List.mem_of_getElem? (i := 21) rfl)
theorem T_22 : Cond.instanceMethod yX5_init ∈ T0 := List.mem_append_left _ (List.mem_of_getElem? (i := 22) rfl)
theorem T_23 : Cond.methodLink RX1 3 objectInit ∈ T0 := List.mem_append_left _ (List.mem_of_getElem? (i := 23) rfl)
theorem T_24 : Cond.fieldLink RX1 9 "LaneWarps$Machine" "addresses" "[I" ∈ T0 := List.mem_append_left _ (List.mem_of_getElem? (i := 24) rfl)
theorem T_25 : Cond.fieldLink RX1 15 "LaneWarps$Machine" "inBank" "[I" ∈ T0 := List.mem_append_left _ (List.mem_of_getElem? (i := 25) rfl)
theorem T_26 : Cond.fieldLink RX1 18 "LaneWarps$Machine" "program" "LLaneWarps$Program;" ∈ T0 := List.mem_append_left _ (List.mem_of_getElem? (i := 26) rfl)
theorem T_27 : Cond.methodLink RX2 3 objectInit ∈ T0 := List.mem_append_left _ (List.mem_of_getElem? (i := 27) rfl)
theorem T_28 : Cond.classLink RX2 9 "[[I" ∈ T0 := List.mem_append_left _ (List.mem_of_getElem? (i := 28) rfl)
theorem T_29 : Cond.fieldLink RX2 11 "LaneWarps$Program" "rows" "[[I" ∈ T0 := List.mem_append_left _ (List.mem_of_getElem? (i := 29) rfl)
theorem T_30 : Cond.fieldLink RX2 16 "LaneWarps$Program" "far" "[I" ∈ T0 := List.mem_append_left _ (List.mem_of_getElem? (i := 30) rfl)
theorem T_31 : Cond.arrayClass .long ∈ T0 := List.mem_append_left _ (List.mem_of_getElem? (i := 31) rfl)
theorem T_32 : Cond.fieldLink RX2 20 "LaneWarps$Program" "passed" "[J" ∈ T0 := List.mem_append_left _ (List.mem_of_getElem? (i := 32) rfl)
theorem T_33 : Cond.methodLink RX3 3 objectInit ∈ T0 := List.mem_append_left _ (List.mem_of_getElem? (i := 33) rfl)
theorem T_34 : Cond.fieldLink RX3 9 "LaneWarps$Reader" "nameAt" "[I" ∈ T0 := List.mem_append_left _ (List.mem_of_getElem? (i := 34) rfl)
theorem T_35 : Cond.fieldLink RX3 15 "LaneWarps$Reader" "nameEnd" "[I" ∈ T0 := List.mem_append_left _ (List.mem_of_getElem? (i := 35) rfl)
theorem T_36 : Cond.fieldLink RX3 18 "LaneWarps$Reader" "aimAt" "[I" ∈ T0 := List.mem_append_left _ (List.mem_of_getElem? (i := 36) rfl)
theorem T_37 : Cond.fieldLink RX3 21 "LaneWarps$Reader" "aimEnd" "[I" ∈ T0 := List.mem_append_left _ (List.mem_of_getElem? (i := 37) rfl)
theorem T_38 : Cond.fieldLink RX3 24 "LaneWarps$Reader" "place" "I" ∈ T0 := List.mem_append_left _ (List.mem_of_getElem? (i := 38) rfl)
theorem T_39 : Cond.methodLink RX0 3 objectInit ∈ T0 := List.mem_append_left _ (List.mem_of_getElem? (i := 39) rfl)
theorem T_40 : Cond.classLink RX0 9 RX1 ∈ T0 := List.mem_append_left _ (List.mem_of_getElem? (i := 40) rfl)
theorem T_41 : Cond.instantiable RX1 12 ∈ T0 := List.mem_append_left _ (List.mem_of_getElem? (i := 41) rfl)
theorem T_42 : Cond.initialized RX1 ∈ T0 := List.mem_append_left _ (List.mem_of_getElem? (i := 42) rfl)
theorem T_43 : Cond.code yX1_init cX1_init 1 none ∈ T0 := List.mem_append_left _ (List.mem_of_getElem? (i := 43) rfl)
theorem T_44 : Cond.instanceMethod yX1_init ∈ T0 := List.mem_append_left _ (List.mem_of_getElem? (i := 44) rfl)
theorem T_45 : Cond.fieldLink RX0 12 "LaneWarps$Forecast" "machine" "LLaneWarps$Machine;" ∈ T0 := List.mem_append_left _ (List.mem_of_getElem? (i := 45) rfl)
theorem T_46 : Cond.classLink RX0 18 RX4 ∈ T0 := List.mem_append_left _ (List.mem_of_getElem? (i := 46) rfl)
theorem T_47 : Cond.instantiable RX4 15 ∈ T0 := List.mem_append_left _ (List.mem_of_getElem? (i := 47) rfl)
theorem T_48 : Cond.initialized RX4 ∈ T0 := List.mem_append_left _ (List.mem_of_getElem? (i := 48) rfl)
theorem T_49 : Cond.code yX4_init cX4_init 2 none ∈ T0 := List.mem_append_left _ (List.mem_of_getElem? (i := 49) rfl)
theorem T_50 : Cond.methodLink RX0 20 yX4_init ∈ T0 := List.mem_append_left _ (List.mem_of_getElem? (i := 50) rfl)
theorem T_51 : Cond.instanceMethod yX4_init ∈ T0 := List.mem_append_left _ (List.mem_of_getElem? (i := 51) rfl)
theorem T_52 : Cond.fieldLink RX0 21 "LaneWarps$Forecast" "origin" "LLaneWarps$State;" ∈ T0 := List.mem_append_left _ (List.mem_of_getElem? (i := 52) rfl)
theorem T_53 : Cond.fieldLink RX0 25 "LaneWarps$Forecast" "scout" "LLaneWarps$State;" ∈ T0 := List.mem_append_left _ (List.mem_of_getElem? (i := 53) rfl)
theorem T_54 : Cond.fieldLink RX0 28 "LaneWarps$Forecast" "trail" "LLaneWarps$State;" ∈ T0 := List.mem_append_left _ (List.mem_of_getElem? (i := 54) rfl)
theorem T_55 : Cond.fieldLink RX0 31 "LaneWarps$Forecast" "courses" "[I" ∈ T0 := List.mem_append_left _ (List.mem_of_getElem? (i := 55) rfl)
theorem T_56 : Cond.fieldLink RX0 35 "LaneWarps$Forecast" "ends" "[I" ∈ T0 := List.mem_append_left _ (List.mem_of_getElem? (i := 56) rfl)
theorem T_57 : Cond.fieldLink RX0 38 "LaneWarps$Forecast" "solos" "[I" ∈ T0 := List.mem_append_left _ (List.mem_of_getElem? (i := 57) rfl)
theorem T_58 : Cond.fieldLink RX0 41 "LaneWarps$Forecast" "program" "LLaneWarps$Program;" ∈ T0 := List.mem_append_left _ (List.mem_of_getElem? (i := 58) rfl)
theorem T_59 : Cond.code yX1_take cX1_take 2 none ∈ T0 := List.mem_append_left _ (List.mem_of_getElem? (i := 59) rfl)
theorem T_60 : Cond.methodLink RX0 45 yX1_take ∈ T0 := List.mem_append_left _ (List.mem_of_getElem? (i := 60) rfl)
theorem T_61 : Cond.instanceMethod yX1_take ∈ T0 := List.mem_append_left _ (List.mem_of_getElem? (i := 61) rfl)
theorem T_62 : Cond.selects RX1 yX1_take yX1_take ∈ T0 := List.mem_append_left _ (List.mem_of_getElem? (i := 62) rfl)
theorem T_63 : Cond.fieldLink RX0 49 "LaneWarps$Forecast" "coursesKnown" "I" ∈ T0 := List.mem_append_left _ (List.mem_of_getElem? (i := 63) rfl)
theorem T_64 : Cond.fieldLink RX0 53 "LaneWarps$Forecast" "endsKnown" "J" ∈ T0 := List.mem_append_left _ (List.mem_of_getElem? (i := 64) rfl)
theorem T_65 : Cond.fieldLink RX0 57 "LaneWarps$Forecast" "solosKnown" "I" ∈ T0 := List.mem_append_left _ (List.mem_of_getElem? (i := 65) rfl)
theorem T_66 : Cond.methodLink RX6 3 objectInit ∈ T0 := List.mem_append_left _ (List.mem_of_getElem? (i := 66) rfl)
theorem T_67 : Cond.arrayClass .byte ∈ T0 := List.mem_append_left _ (List.mem_of_getElem? (i := 67) rfl)
theorem T_68 : Cond.fieldLink RX6 9 "LaneWarps" "tape" "[B" ∈ T0 := List.mem_append_left _ (List.mem_of_getElem? (i := 68) rfl)
theorem T_69 : Cond.classLink RX6 13 RX3 ∈ T0 := List.mem_append_left _ (List.mem_of_getElem? (i := 69) rfl)
theorem T_70 : Cond.instantiable RX3 15 ∈ T0 := List.mem_append_left _ (List.mem_of_getElem? (i := 70) rfl)
theorem T_71 : Cond.initialized RX3 ∈ T0 := List.mem_append_left _ (List.mem_of_getElem? (i := 71) rfl)
theorem T_72 : Cond.code yX3_init cX3_init 1 none ∈ T0 := List.mem_append_left _ (List.mem_of_getElem? (i := 72) rfl)
theorem T_73 : Cond.instanceMethod yX3_init ∈ T0 := List.mem_append_left _ (List.mem_of_getElem? (i := 73) rfl)
theorem T_74 : Cond.fieldLink RX6 16 "LaneWarps" "reader" "LLaneWarps$Reader;" ∈ T0 := List.mem_append_left _ (List.mem_of_getElem? (i := 74) rfl)
theorem T_75 : Cond.classLink RX6 20 RX2 ∈ T0 := List.mem_append_left _ (List.mem_of_getElem? (i := 75) rfl)
theorem T_76 : Cond.instantiable RX2 7 ∈ T0 := List.mem_append_left _ (List.mem_of_getElem? (i := 76) rfl)
theorem T_77 : Cond.initialized RX2 ∈ T0 := List.mem_append_left _ (List.mem_of_getElem? (i := 77) rfl)
theorem T_78 : Cond.code yX2_init cX2_init 1 none ∈ T0 := List.mem_append_left _ (List.mem_of_getElem? (i := 78) rfl)
theorem T_79 : Cond.instanceMethod yX2_init ∈ T0 := List.mem_append_left _ (List.mem_of_getElem? (i := 79) rfl)
theorem T_80 : Cond.fieldLink RX6 23 "LaneWarps" "current" "LLaneWarps$Program;" ∈ T0 := List.mem_append_left _ (List.mem_of_getElem? (i := 80) rfl)
theorem T_81 : Cond.fieldLink RX6 27 "LaneWarps" "spare" "LLaneWarps$Program;" ∈ T0 := List.mem_append_left _ (List.mem_of_getElem? (i := 81) rfl)
theorem T_82 : Cond.classLink RX6 30 RX4 ∈ T0 := List.mem_append_left _ (List.mem_of_getElem? (i := 82) rfl)
theorem T_83 : Cond.methodLink RX6 32 yX4_init ∈ T0 := List.mem_append_left _ (List.mem_of_getElem? (i := 83) rfl)
theorem T_84 : Cond.fieldLink RX6 33 "LaneWarps" "now" "LLaneWarps$State;" ∈ T0 := List.mem_append_left _ (List.mem_of_getElem? (i := 84) rfl)
theorem T_85 : Cond.fieldLink RX6 37 "LaneWarps" "past" "[LLaneWarps$State;" ∈ T0 := List.mem_append_left _ (List.mem_of_getElem? (i := 85) rfl)
theorem T_86 : Cond.classLink RX6 41 RX1 ∈ T0 := List.mem_append_left _ (List.mem_of_getElem? (i := 86) rfl)
theorem T_87 : Cond.fieldLink RX6 44 "LaneWarps" "machine" "LLaneWarps$Machine;" ∈ T0 := List.mem_append_left _ (List.mem_of_getElem? (i := 87) rfl)
theorem T_88 : Cond.classLink RX6 48 RX0 ∈ T0 := List.mem_append_left _ (List.mem_of_getElem? (i := 88) rfl)
theorem T_89 : Cond.instantiable RX0 14 ∈ T0 := List.mem_append_left _ (List.mem_of_getElem? (i := 89) rfl)
theorem T_90 : Cond.initialized RX0 ∈ T0 := List.mem_append_left _ (List.mem_of_getElem? (i := 90) rfl)
theorem T_91 : Cond.code yX0_init cX0_init 1 none ∈ T0 := List.mem_append_left _ (List.mem_of_getElem? (i := 91) rfl)
theorem T_92 : Cond.instanceMethod yX0_init ∈ T0 := List.mem_append_left _ (List.mem_of_getElem? (i := 92) rfl)
theorem T_93 : Cond.fieldLink RX6 51 "LaneWarps" "forecast" "LLaneWarps$Forecast;" ∈ T0 := List.mem_append_left _ (List.mem_of_getElem? (i := 93) rfl)
theorem T_94 : Cond.fieldLink RX6 55 "LaneWarps" "refused" "[I" ∈ T0 := List.mem_append_left _ (List.mem_of_getElem? (i := 94) rfl)
theorem T_95 : Cond.fieldLink RX6 59 "LaneWarps" "drawn" "J" ∈ T0 := List.mem_append_left _ (List.mem_of_getElem? (i := 95) rfl)
theorem T_96 : Cond.methodLink RX6 63 yX1_take ∈ T0 := List.mem_append_left _ (List.mem_of_getElem? (i := 96) rfl)
theorem T_97 : Cond.code yX0_take cX0_take 2 none ∈ T0 := List.mem_append_left _ (List.mem_of_getElem? (i := 97) rfl)
theorem T_98 : Cond.methodLink RX6 67 yX0_take ∈ T0 := List.mem_append_left _ (List.mem_of_getElem? (i := 98) rfl)
theorem T_99 : Cond.instanceMethod yX0_take ∈ T0 := List.mem_append_left _ (List.mem_of_getElem? (i := 99) rfl)
theorem T_100 : Cond.selects RX0 yX0_take yX0_take ∈ T0 := List.mem_append_left _ (List.mem_of_getElem? (i := 100) rfl)
theorem T_101 : Cond.fieldLink RX6 68 "LaneWarps" "bytes" "I" ∈ T0 := List.mem_append_left _ (List.mem_of_getElem? (i := 101) rfl)
theorem T_102 : Cond.code yX6_layBytes cX6_layBytes 3 none ∈ T0 := List.mem_append_left _ (List.mem_of_getElem? (i := 102) rfl)
theorem T_103 : Cond.methodLink RX6 76 yX6_layBytes ∈ T0 := List.mem_append_left _ (List.mem_of_getElem? (i := 103) rfl)
theorem T_104 : Cond.instanceMethod yX6_layBytes ∈ T0 := List.mem_append_left _ (List.mem_of_getElem? (i := 104) rfl)
theorem T_105 : Cond.selects RX6 yX6_layBytes yX6_layBytes ∈ T0 := List.mem_append_left _ (List.mem_of_getElem? (i := 105) rfl)
theorem T_106 : Cond.initialized RX6 ∈ T0 := List.mem_append_left _ (List.mem_of_getElem? (i := 106) rfl)
theorem T_107 : Cond.code yX6_refuse cX6_refuse 2 (some .int) ∈ T0 := List.mem_append_left _ (List.mem_of_getElem? (i := 107) rfl)
theorem T_108 : Cond.methodLink RX6 72 yX6_refuse ∈ T0 := List.mem_append_left _ (List.mem_of_getElem? (i := 108) rfl)
theorem T_109 : Cond.instanceMethod yX6_refuse ∈ T0 := List.mem_append_left _ (List.mem_of_getElem? (i := 109) rfl)
theorem T_110 : Cond.selects RX6 yX6_refuse yX6_refuse ∈ T0 := List.mem_append_left _ (List.mem_of_getElem? (i := 110) rfl)
theorem T_111 : Cond.code yJ7_fill_53178 cJ7_fill_53178 4 none ∈ T0 := List.mem_append_left _ (List.mem_of_getElem? (i := 111) rfl)
theorem T_112 : Cond.initialized RJ7 ∈ T0 := List.mem_append_left _ (List.mem_of_getElem? (i := 112) rfl)
theorem T_113 : Cond.methodLink RX2 24 yJ7_fill_53178 ∈ T0 := List.mem_append_left _ (List.mem_of_getElem? (i := 113) rfl)
theorem T_114 : Cond.static yJ7_fill_53178 ∈ T0 := List.mem_append_left _ (List.mem_of_getElem? (i := 114) rfl)
theorem T_115 : Cond.fieldLink RX2 30 "LaneWarps$Program" "lines" "I" ∈ T0 := List.mem_append_left _ (List.mem_of_getElem? (i := 115) rfl)
theorem T_116 : Cond.fieldLink RX2 34 "LaneWarps$Program" "warps" "I" ∈ T0 := List.mem_append_left _ (List.mem_of_getElem? (i := 116) rfl)
theorem T_117 : Cond.fieldLink RX2 37 "LaneWarps$Program" "mode" "I" ∈ T0 := List.mem_append_left _ (List.mem_of_getElem? (i := 117) rfl)
theorem T_118 : Cond.fieldLink RX2 40 "LaneWarps$Program" "order" "I" ∈ T0 := List.mem_append_left _ (List.mem_of_getElem? (i := 118) rfl)
theorem T_119 : Cond.fieldLink RX3 44 "LaneWarps$Reader" "kind" "I" ∈ T0 := List.mem_append_left _ (List.mem_of_getElem? (i := 119) rfl)
theorem T_120 : Cond.fieldLink RX3 47 "LaneWarps$Reader" "to" "I" ∈ T0 := List.mem_append_left _ (List.mem_of_getElem? (i := 120) rfl)
theorem T_121 : Cond.fieldLink RX3 71 "LaneWarps$Reader" "from" "I" ∈ T0 := List.mem_append_left _ (List.mem_of_getElem? (i := 121) rfl)
theorem T_122 : Cond.fieldLink RX3 32 "LaneWarps$Reader" "length" "I" ∈ T0 := List.mem_append_left _ (List.mem_of_getElem? (i := 122) rfl)
theorem T_123 : Cond.fieldLink RX3 74 "LaneWarps$Reader" "own" "I" ∈ T0 := List.mem_append_left _ (List.mem_of_getElem? (i := 123) rfl)
theorem T_124 : Cond.fieldLink RX3 50 "LaneWarps$Reader" "fault" "I" ∈ T0 := List.mem_append_left _ (List.mem_of_getElem? (i := 124) rfl)
theorem T_125 : Cond.fieldLink RX3 28 "LaneWarps$Reader" "text" "[B" ∈ T0 := List.mem_append_left _ (List.mem_of_getElem? (i := 125) rfl)
theorem T_126 : Cond.fieldLink RX3 35 "LaneWarps$Reader" "into" "LLaneWarps$Program;" ∈ T0 := List.mem_append_left _ (List.mem_of_getElem? (i := 126) rfl)
theorem T_127 : Cond.code yX2_clear cX2_clear 1 none ∈ T0 := List.mem_append_left _ (List.mem_of_getElem? (i := 127) rfl)
theorem T_128 : Cond.methodLink RX3 39 yX2_clear ∈ T0 := List.mem_append_left _ (List.mem_of_getElem? (i := 128) rfl)
theorem T_129 : Cond.instanceMethod yX2_clear ∈ T0 := List.mem_append_left _ (List.mem_of_getElem? (i := 129) rfl)
theorem T_130 : Cond.selects RX2 yX2_clear yX2_clear ∈ T0 := List.mem_append_left _ (List.mem_of_getElem? (i := 130) rfl)
theorem T_131 : Cond.code yX3_scan cX3_scan 3 none ∈ T0 := List.mem_append_left _ (List.mem_of_getElem? (i := 131) rfl)
theorem T_132 : Cond.methodLink RX3 53 yX3_scan ∈ T0 := List.mem_append_left _ (List.mem_of_getElem? (i := 132) rfl)
theorem T_133 : Cond.instanceMethod yX3_scan ∈ T0 := List.mem_append_left _ (List.mem_of_getElem? (i := 133) rfl)
theorem T_134 : Cond.selects RX3 yX3_scan yX3_scan ∈ T0 := List.mem_append_left _ (List.mem_of_getElem? (i := 134) rfl)
theorem T_135 : Cond.code yX3_fail cX3_fail 3 (some .boolean) ∈ T0 := List.mem_append_left _ (List.mem_of_getElem? (i := 135) rfl)
theorem T_136 : Cond.methodLink RX3 63 yX3_fail ∈ T0 := List.mem_append_left _ (List.mem_of_getElem? (i := 136) rfl)
theorem T_137 : Cond.instanceMethod yX3_fail ∈ T0 := List.mem_append_left _ (List.mem_of_getElem? (i := 137) rfl)
theorem T_138 : Cond.selects RX3 yX3_fail yX3_fail ∈ T0 := List.mem_append_left _ (List.mem_of_getElem? (i := 138) rfl)
theorem T_139 : Cond.code yX3_read cX3_read 6 (some .boolean) ∈ T0 := List.mem_append_left _ (List.mem_of_getElem? (i := 139) rfl)
theorem T_140 : Cond.methodLink RX6 80 yX3_read ∈ T0 := List.mem_append_left _ (List.mem_of_getElem? (i := 140) rfl)
theorem T_141 : Cond.instanceMethod yX3_read ∈ T0 := List.mem_append_left _ (List.mem_of_getElem? (i := 141) rfl)
theorem T_142 : Cond.selects RX3 yX3_read yX3_read ∈ T0 := List.mem_append_left _ (List.mem_of_getElem? (i := 142) rfl)
theorem T_143 : Cond.fieldLink RX6 87 "LaneWarps" "told" "Z" ∈ T0 := List.mem_append_left _ (List.mem_of_getElem? (i := 143) rfl)
theorem T_144 : Cond.code yX6_hasWarp cX6_hasWarp 2 (some .boolean) ∈ T0 := List.mem_append_left _ (List.mem_of_getElem? (i := 144) rfl)
theorem T_145 : Cond.methodLink RX6 181 yX6_hasWarp ∈ T0 := List.mem_append_left _ (List.mem_of_getElem? (i := 145) rfl)
theorem T_146 : Cond.instanceMethod yX6_hasWarp ∈ T0 := List.mem_append_left _ (List.mem_of_getElem? (i := 146) rfl)
theorem T_147 : Cond.selects RX6 yX6_hasWarp yX6_hasWarp ∈ T0 := List.mem_append_left _ (List.mem_of_getElem? (i := 147) rfl)
theorem T_148 : Cond.constant RX6 155 (-1000000) ∈ T0 := List.mem_append_left _ (List.mem_of_getElem? (i := 148) rfl)
theorem T_149 : Cond.code yX6_hasLane cX6_hasLane 3 (some .boolean) ∈ T0 := List.mem_append_left _ (List.mem_of_getElem? (i := 149) rfl)
theorem T_150 : Cond.methodLink RX6 160 yX6_hasLane ∈ T0 := List.mem_append_left _ (List.mem_of_getElem? (i := 150) rfl)
theorem T_151 : Cond.instanceMethod yX6_hasLane ∈ T0 := List.mem_append_left _ (List.mem_of_getElem? (i := 151) rfl)
theorem T_152 : Cond.selects RX6 yX6_hasLane yX6_hasLane ∈ T0 := List.mem_append_left _ (List.mem_of_getElem? (i := 152) rfl)
theorem T_153 : Cond.code yX6_hasWord cX6_hasWord 3 (some .boolean) ∈ T0 := List.mem_append_left _ (List.mem_of_getElem? (i := 153) rfl)
theorem T_154 : Cond.methodLink RX6 207 yX6_hasWord ∈ T0 := List.mem_append_left _ (List.mem_of_getElem? (i := 154) rfl)
theorem T_155 : Cond.instanceMethod yX6_hasWord ∈ T0 := List.mem_append_left _ (List.mem_of_getElem? (i := 155) rfl)
theorem T_156 : Cond.selects RX6 yX6_hasWord yX6_hasWord ∈ T0 := List.mem_append_left _ (List.mem_of_getElem? (i := 156) rfl)
theorem T_157 : Cond.methodLink RX6 135 Lib.Math.min.name ∈ T0 := List.mem_append_left _ (List.mem_of_getElem? (i := 157) rfl)
theorem T_158 : Cond.static Lib.Math.min.name ∈ T0 := List.mem_append_left _ (List.mem_of_getElem? (i := 158) rfl)
theorem T_159 : Cond.initialized "java/lang/Math" ∈ T0 := List.mem_append_left _ (List.mem_of_getElem? (i := 159) rfl)
theorem T_160 : Cond.code Lib.Math.min.name Lib.Math.min.code 2 (some .int) ∈ T0 := List.mem_append_left _ (List.mem_of_getElem? (i := 160) rfl)
theorem T_161 : Cond.fieldLink RX6 104 "LaneWarps" "acts" "I" ∈ T0 := List.mem_append_left _ (List.mem_of_getElem? (i := 161) rfl)
theorem inX0 : ∀ w ∈ wsX00, w ∈ T0 := fun _ h => List.mem_append_right _ (List.mem_append_left _ h)
theorem inX1 : ∀ w ∈ wsX10, w ∈ T0 := fun _ h => List.mem_append_right _ (List.mem_append_right _ (List.mem_append_left _ h))
theorem inX2 : ∀ w ∈ wsX20, w ∈ T0 := fun _ h => List.mem_append_right _ (List.mem_append_right _ (List.mem_append_right _ (List.mem_append_left _ h)))
theorem inX3 : ∀ w ∈ wsX30, w ∈ T0 := fun _ h => List.mem_append_right _ (List.mem_append_right _ (List.mem_append_right _ (List.mem_append_right _ (List.mem_append_left _ h))))
theorem inX4 : ∀ w ∈ wsX40, w ∈ T0 := fun _ h => List.mem_append_right _ (List.mem_append_right _ (List.mem_append_right _ (List.mem_append_right _ (List.mem_append_right _ (List.mem_append_left _ h)))))
theorem inX5 : ∀ w ∈ wsX50, w ∈ T0 := fun _ h => List.mem_append_right _ (List.mem_append_right _ (List.mem_append_right _ (List.mem_append_right _ (List.mem_append_right _ (List.mem_append_right _ (List.mem_append_left _ h))))))
theorem inX6 : ∀ w ∈ wsX60, w ∈ T0 := fun _ h => List.mem_append_right _ (List.mem_append_right _ (List.mem_append_right _ (List.mem_append_right _ (List.mem_append_right _ (List.mem_append_right _ (List.mem_append_right _ (List.mem_append_left _ h)))))))
theorem inX7 : ∀ w ∈ wsX70, w ∈ T0 := fun _ h => List.mem_append_right _ (List.mem_append_right _ (List.mem_append_right _ (List.mem_append_right _ (List.mem_append_right _ (List.mem_append_right _ (List.mem_append_right _ (List.mem_append_right _ (h))))))))
set_option maxRecDepth 20000 in
theorem ax_good : T0.all goodWord = true := by decide +kernel
set_option maxRecDepth 20000 in
theorem ax_lawc : GoodIn lw_tbl T0w := goodIn_p T0w [31, 147, 281, 140, 381, 36, 92, 329, 385, 441, 437, 460, 457, 464, 539, 453, 693, 689, 721, 675] rfl (by decide +kernel)
set_option maxRecDepth 20000 in
theorem ax_lawX0 : GoodIn lw_tbl wsX00 := goodIn_of _ (by decide +kernel)
set_option maxRecDepth 20000 in
theorem ax_lawX1 : GoodIn lw_tbl wsX10 := goodIn_of _ (by decide +kernel)
set_option maxRecDepth 20000 in
theorem ax_lawX2 : GoodIn lw_tbl wsX20 := goodIn_of _ (by decide +kernel)
set_option maxRecDepth 20000 in
theorem ax_lawX3 : GoodIn lw_tbl wsX30 := goodIn_of _ (by decide +kernel)
set_option maxRecDepth 20000 in
theorem ax_lawX4 : GoodIn lw_tbl wsX40 := goodIn_of _ (by decide +kernel)
set_option maxRecDepth 20000 in
theorem ax_lawX5 : GoodIn lw_tbl wsX50 := goodIn_of _ (by decide +kernel)
set_option maxRecDepth 20000 in
theorem ax_lawX6 : GoodIn lw_tbl wsX60 := goodIn_of _ (by decide +kernel)
set_option maxRecDepth 20000 in
theorem ax_lawX7 : GoodIn lw_tbl wsX70 := goodIn_of _ (by decide +kernel)
theorem ax_law : GoodIn lw_tbl T0 := goodIn_ap ax_lawc (goodIn_ap ax_lawX0 (goodIn_ap ax_lawX1 (goodIn_ap ax_lawX2 (goodIn_ap ax_lawX3 (goodIn_ap ax_lawX4 (goodIn_ap ax_lawX5 (goodIn_ap ax_lawX6 ax_lawX7)))))))
