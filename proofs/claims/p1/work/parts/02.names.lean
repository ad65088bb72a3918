theorem ax_places {big : List Cond} (ws : List Cond) (ps : List Nat) (hp : ws = ps.filterMap (fun i => big[i]?)) (h : ws.all goodWord = true) : GoodIn big ws := by
  intro w hw
  refine ⟨?_, good_of_word (List.all_eq_true.mp h w hw)⟩
  rw [hp] at hw
  obtain ⟨i, -, hi⟩ := List.mem_filterMap.mp hw
  exact List.mem_of_getElem? hi
theorem goodIn_ap {big a b : List Cond} (ha : GoodIn big a) (hb : GoodIn big b) : GoodIn big (a ++ b) := fun w h => (List.mem_append.mp h).elim (ha w) (hb w)
def RX0 : String := "LaneWarps$Forecast"
def TX0 : u_T := fun k => match k with
  | 0 => ("LaneWarps$Forecast", "machine", "LLaneWarps$Machine;", true)
  | 1 => ("LaneWarps$Forecast", "origin", "LLaneWarps$State;", true)
  | 2 => ("LaneWarps$Forecast", "scout", "LLaneWarps$State;", true)
  | 3 => ("LaneWarps$Forecast", "trail", "LLaneWarps$State;", true)
  | 4 => ("LaneWarps$Forecast", "courses", "[I", true)
  | 5 => ("LaneWarps$Forecast", "coursesKnown", "I", false)
  | 6 => ("LaneWarps$Forecast", "ends", "[I", true)
  | 7 => ("LaneWarps$Forecast", "endsKnown", "J", false)
  | 8 => ("LaneWarps$Forecast", "solos", "[I", true)
  | 9 => ("LaneWarps$Forecast", "solosKnown", "I", false)
  | 10 => ("LaneWarps$Forecast", "program", "LLaneWarps$Program;", false)
  | 11 => ("LaneWarps$Forecast", "mode", "I", false)
  | 12 => ("LaneWarps$Forecast", "order", "I", false)
  | _ => ("LaneWarps$Forecast", "skew", "I", false)
def tyX0 : Nat → FieldType := fun k => match k with
  | 0 => .object "LaneWarps$Machine"
  | 1 => .object "LaneWarps$State"
  | 2 => .object "LaneWarps$State"
  | 3 => .object "LaneWarps$State"
  | 4 => .array .int
  | 5 => .int
  | 6 => .array .int
  | 7 => .long
  | 8 => .array .int
  | 9 => .int
  | 10 => .object "LaneWarps$Program"
  | 11 => .int
  | 12 => .int
  | _ => .int
abbrev wsX00 : List Cond := u_ws RX0 TX0 14
theorem nmX0 : ∀ a, a < 14 → ∀ b, b < 14 → a ≠ b → (TX0 a).2.1 ≠ (TX0 b).2.1 := by decide +kernel
theorem tyX0_ok : ∀ k, k < 14 → parseFieldDescriptor (TX0 k).2.2.1 = some (tyX0 k) := by decide +kernel
theorem dvX0 : ∀ j, j < 14 → defaultValue (tyX0 j) = vp_V [.null, .null, .null, .null, .null, .int 0, .null, .long 0, .null, .int 0, .null, .int 0, .int 0, .int 0] j := fun j hj => by rcases (show j = 0 ∨ j = 1 ∨ j = 2 ∨ j = 3 ∨ j = 4 ∨ j = 5 ∨ j = 6 ∨ j = 7 ∨ j = 8 ∨ j = 9 ∨ j = 10 ∨ j = 11 ∨ j = 12 ∨ j = 13 by omega) with rfl | rfl | rfl | rfl | rfl | rfl | rfl | rfl | rfl | rfl | rfl | rfl | rfl | rfl <;> rfl
def RX1 : String := "LaneWarps$Machine"
def TX1 : u_T := fun k => match k with
  | 0 => ("LaneWarps$Machine", "addresses", "[I", true)
  | 1 => ("LaneWarps$Machine", "inBank", "[I", true)
  | 2 => ("LaneWarps$Machine", "program", "LLaneWarps$Program;", false)
  | 3 => ("LaneWarps$Machine", "state", "LLaneWarps$State;", false)
  | 4 => ("LaneWarps$Machine", "mover", "LLaneWarps$Warp;", false)
  | 5 => ("LaneWarps$Machine", "row", "[I", false)
  | 6 => ("LaneWarps$Machine", "warp", "I", false)
  | 7 => ("LaneWarps$Machine", "line", "I", false)
  | 8 => ("LaneWarps$Machine", "lanes", "I", false)
  | 9 => ("LaneWarps$Machine", "leader", "I", false)
  | 10 => ("LaneWarps$Machine", "takes", "I", false)
  | _ => ("LaneWarps$Machine", "loaded", "J", false)
def tyX1 : Nat → FieldType := fun k => match k with
  | 0 => .array .int
  | 1 => .array .int
  | 2 => .object "LaneWarps$Program"
  | 3 => .object "LaneWarps$State"
  | 4 => .object "LaneWarps$Warp"
  | 5 => .array .int
  | 6 => .int
  | 7 => .int
  | 8 => .int
  | 9 => .int
  | 10 => .int
  | _ => .long
abbrev wsX10 : List Cond := u_ws RX1 TX1 12
theorem nmX1 : ∀ a, a < 12 → ∀ b, b < 12 → a ≠ b → (TX1 a).2.1 ≠ (TX1 b).2.1 := by decide +kernel
theorem tyX1_ok : ∀ k, k < 12 → parseFieldDescriptor (TX1 k).2.2.1 = some (tyX1 k) := by decide +kernel
theorem dvX1 : ∀ j, j < 12 → defaultValue (tyX1 j) = vp_V [.null, .null, .null, .null, .null, .null, .int 0, .int 0, .int 0, .int 0, .int 0, .long 0] j := fun j hj => by rcases (show j = 0 ∨ j = 1 ∨ j = 2 ∨ j = 3 ∨ j = 4 ∨ j = 5 ∨ j = 6 ∨ j = 7 ∨ j = 8 ∨ j = 9 ∨ j = 10 ∨ j = 11 by omega) with rfl | rfl | rfl | rfl | rfl | rfl | rfl | rfl | rfl | rfl | rfl | rfl <;> rfl
def RX2 : String := "LaneWarps$Program"
def TX2 : u_T := fun k => match k with
  | 0 => ("LaneWarps$Program", "rows", "[[I", true)
  | 1 => ("LaneWarps$Program", "far", "[I", true)
  | 2 => ("LaneWarps$Program", "passed", "[J", true)
  | 3 => ("LaneWarps$Program", "lines", "I", false)
  | 4 => ("LaneWarps$Program", "warps", "I", false)
  | 5 => ("LaneWarps$Program", "mode", "I", false)
  | _ => ("LaneWarps$Program", "order", "I", false)
def tyX2 : Nat → FieldType := fun k => match k with
  | 0 => .array (.array .int)
  | 1 => .array .int
  | 2 => .array .long
  | 3 => .int
  | 4 => .int
  | 5 => .int
  | _ => .int
abbrev wsX20 : List Cond := u_ws RX2 TX2 7
theorem nmX2 : ∀ a, a < 7 → ∀ b, b < 7 → a ≠ b → (TX2 a).2.1 ≠ (TX2 b).2.1 := by decide +kernel
theorem tyX2_ok : ∀ k, k < 7 → parseFieldDescriptor (TX2 k).2.2.1 = some (tyX2 k) := by decide +kernel
theorem dvX2 : ∀ j, j < 7 → defaultValue (tyX2 j) = vp_V [.null, .null, .null, .int 0, .int 0, .int 0, .int 0] j := fun j hj => by rcases (show j = 0 ∨ j = 1 ∨ j = 2 ∨ j = 3 ∨ j = 4 ∨ j = 5 ∨ j = 6 by omega) with rfl | rfl | rfl | rfl | rfl | rfl | rfl <;> rfl
def RX3 : String := "LaneWarps$Reader"
def TX3 : u_T := fun k => match k with
  | 0 => ("LaneWarps$Reader", "nameAt", "[I", true)
  | 1 => ("LaneWarps$Reader", "nameEnd", "[I", true)
  | 2 => ("LaneWarps$Reader", "aimAt", "[I", true)
  | 3 => ("LaneWarps$Reader", "aimEnd", "[I", true)
  | 4 => ("LaneWarps$Reader", "text", "[B", false)
  | 5 => ("LaneWarps$Reader", "length", "I", false)
  | 6 => ("LaneWarps$Reader", "into", "LLaneWarps$Program;", false)
  | 7 => ("LaneWarps$Reader", "kind", "I", false)
  | 8 => ("LaneWarps$Reader", "from", "I", false)
  | 9 => ("LaneWarps$Reader", "to", "I", false)
  | 10 => ("LaneWarps$Reader", "own", "I", false)
  | 11 => ("LaneWarps$Reader", "number", "I", false)
  | 12 => ("LaneWarps$Reader", "address", "I", false)
  | 13 => ("LaneWarps$Reader", "fault", "I", false)
  | _ => ("LaneWarps$Reader", "place", "I", false)
def tyX3 : Nat → FieldType := fun k => match k with
  | 0 => .array .int
  | 1 => .array .int
  | 2 => .array .int
  | 3 => .array .int
  | 4 => .array .byte
  | 5 => .int
  | 6 => .object "LaneWarps$Program"
  | 7 => .int
  | 8 => .int
  | 9 => .int
  | 10 => .int
  | 11 => .int
  | 12 => .int
  | 13 => .int
  | _ => .int
abbrev wsX30 : List Cond := u_ws RX3 TX3 15
theorem nmX3 : ∀ a, a < 15 → ∀ b, b < 15 → a ≠ b → (TX3 a).2.1 ≠ (TX3 b).2.1 := by decide +kernel
theorem tyX3_ok : ∀ k, k < 15 → parseFieldDescriptor (TX3 k).2.2.1 = some (tyX3 k) := by decide +kernel
theorem dvX3 : ∀ j, j < 15 → defaultValue (tyX3 j) = vp_V [.null, .null, .null, .null, .null, .int 0, .null, .int 0, .int 0, .int 0, .int 0, .int 0, .int 0, .int 0, .int 0] j := fun j hj => by rcases (show j = 0 ∨ j = 1 ∨ j = 2 ∨ j = 3 ∨ j = 4 ∨ j = 5 ∨ j = 6 ∨ j = 7 ∨ j = 8 ∨ j = 9 ∨ j = 10 ∨ j = 11 ∨ j = 12 ∨ j = 13 ∨ j = 14 by omega) with rfl | rfl | rfl | rfl | rfl | rfl | rfl | rfl | rfl | rfl | rfl | rfl | rfl | rfl | rfl <;> rfl
def RX4 : String := "LaneWarps$State"
def TX4 : u_T := fun k => match k with
  | 0 => ("LaneWarps$State", "warps", "[LLaneWarps$Warp;", true)
  | 1 => ("LaneWarps$State", "far", "[I", true)
  | 2 => ("LaneWarps$State", "near", "[I", true)
  | 3 => ("LaneWarps$State", "touched", "[I", true)
  | 4 => ("LaneWarps$State", "wrote", "[I", true)
  | 5 => ("LaneWarps$State", "raced", "[I", true)
  | 6 => ("LaneWarps$State", "kept", "[I", true)
  | 7 => ("LaneWarps$State", "used", "I", false)
  | 8 => ("LaneWarps$State", "mode", "I", false)
  | 9 => ("LaneWarps$State", "order", "I", false)
  | 10 => ("LaneWarps$State", "skew", "I", false)
  | 11 => ("LaneWarps$State", "cycle", "I", false)
  | 12 => ("LaneWarps$State", "done", "I", false)
  | 13 => ("LaneWarps$State", "epochs", "I", false)
  | _ => ("LaneWarps$State", "last", "I", false)
def tyX4 : Nat → FieldType := fun k => match k with
  | 0 => .array (.object "LaneWarps$Warp")
  | 1 => .array .int
  | 2 => .array .int
  | 3 => .array .int
  | 4 => .array .int
  | 5 => .array .int
  | 6 => .array .int
  | 7 => .int
  | 8 => .int
  | 9 => .int
  | 10 => .int
  | 11 => .int
  | 12 => .int
  | 13 => .int
  | _ => .int
abbrev wsX40 : List Cond := u_ws RX4 TX4 15
theorem nmX4 : ∀ a, a < 15 → ∀ b, b < 15 → a ≠ b → (TX4 a).2.1 ≠ (TX4 b).2.1 := by decide +kernel
theorem tyX4_ok : ∀ k, k < 15 → parseFieldDescriptor (TX4 k).2.2.1 = some (tyX4 k) := by decide +kernel
theorem dvX4 : ∀ j, j < 15 → defaultValue (tyX4 j) = vp_V [.null, .null, .null, .null, .null, .null, .null, .int 0, .int 0, .int 0, .int 0, .int 0, .int 0, .int 0, .int 0] j := fun j hj => by rcases (show j = 0 ∨ j = 1 ∨ j = 2 ∨ j = 3 ∨ j = 4 ∨ j = 5 ∨ j = 6 ∨ j = 7 ∨ j = 8 ∨ j = 9 ∨ j = 10 ∨ j = 11 ∨ j = 12 ∨ j = 13 ∨ j = 14 by omega) with rfl | rfl | rfl | rfl | rfl | rfl | rfl | rfl | rfl | rfl | rfl | rfl | rfl | rfl | rfl <;> rfl
def RX5 : String := "LaneWarps$Warp"
def TX5 : u_T := fun k => match k with
  | 0 => ("LaneWarps$Warp", "registers", "[I", true)
  | 1 => ("LaneWarps$Warp", "lines", "[I", true)
  | 2 => ("LaneWarps$Warp", "partLine", "[I", true)
  | 3 => ("LaneWarps$Warp", "partMeets", "[I", true)
  | 4 => ("LaneWarps$Warp", "partLanes", "[I", true)
  | 5 => ("LaneWarps$Warp", "parts", "I", false)
  | 6 => ("LaneWarps$Warp", "lives", "I", false)
  | 7 => ("LaneWarps$Warp", "waits", "I", false)
  | 8 => ("LaneWarps$Warp", "ready", "I", false)
  | 9 => ("LaneWarps$Warp", "done", "I", false)
  | _ => ("LaneWarps$Warp", "turn", "I", false)
def tyX5 : Nat → FieldType := fun k => match k with
  | 0 => .array .int
  | 1 => .array .int
  | 2 => .array .int
  | 3 => .array .int
  | 4 => .array .int
  | 5 => .int
  | 6 => .int
  | 7 => .int
  | 8 => .int
  | 9 => .int
  | _ => .int
abbrev wsX50 : List Cond := u_ws RX5 TX5 11
theorem nmX5 : ∀ a, a < 11 → ∀ b, b < 11 → a ≠ b → (TX5 a).2.1 ≠ (TX5 b).2.1 := by decide +kernel
theorem tyX5_ok : ∀ k, k < 11 → parseFieldDescriptor (TX5 k).2.2.1 = some (tyX5 k) := by decide +kernel
theorem dvX5 : ∀ j, j < 11 → defaultValue (tyX5 j) = vp_V [.null, .null, .null, .null, .null, .int 0, .int 0, .int 0, .int 0, .int 0, .int 0] j := fun j hj => by rcases (show j = 0 ∨ j = 1 ∨ j = 2 ∨ j = 3 ∨ j = 4 ∨ j = 5 ∨ j = 6 ∨ j = 7 ∨ j = 8 ∨ j = 9 ∨ j = 10 by omega) with rfl | rfl | rfl | rfl | rfl | rfl | rfl | rfl | rfl | rfl | rfl <;> rfl
def RX6 : String := "LaneWarps"
def TX6 : u_T := fun k => match k with
  | 0 => ("LaneWarps", "tape", "[B", true)
  | 1 => ("LaneWarps", "bytes", "I", false)
  | 2 => ("LaneWarps", "reader", "LLaneWarps$Reader;", true)
  | 3 => ("LaneWarps", "current", "LLaneWarps$Program;", false)
  | 4 => ("LaneWarps", "spare", "LLaneWarps$Program;", false)
  | 5 => ("LaneWarps", "told", "Z", false)
  | 6 => ("LaneWarps", "now", "LLaneWarps$State;", true)
  | 7 => ("LaneWarps", "past", "[LLaneWarps$State;", true)
  | 8 => ("LaneWarps", "oldestAct", "I", false)
  | 9 => ("LaneWarps", "acts", "I", false)
  | 10 => ("LaneWarps", "machine", "LLaneWarps$Machine;", true)
  | 11 => ("LaneWarps", "forecast", "LLaneWarps$Forecast;", true)
  | 12 => ("LaneWarps", "refused", "[I", true)
  | _ => ("LaneWarps", "drawn", "J", false)
def tyX6 : Nat → FieldType := fun k => match k with
  | 0 => .array .byte
  | 1 => .int
  | 2 => .object "LaneWarps$Reader"
  | 3 => .object "LaneWarps$Program"
  | 4 => .object "LaneWarps$Program"
  | 5 => .boolean
  | 6 => .object "LaneWarps$State"
  | 7 => .array (.object "LaneWarps$State")
  | 8 => .int
  | 9 => .int
  | 10 => .object "LaneWarps$Machine"
  | 11 => .object "LaneWarps$Forecast"
  | 12 => .array .int
  | _ => .long
abbrev wsX60 : List Cond := u_ws RX6 TX6 14
theorem nmX6 : ∀ a, a < 14 → ∀ b, b < 14 → a ≠ b → (TX6 a).2.1 ≠ (TX6 b).2.1 := by decide +kernel
theorem tyX6_ok : ∀ k, k < 14 → parseFieldDescriptor (TX6 k).2.2.1 = some (tyX6 k) := by decide +kernel
theorem dvX6 : ∀ j, j < 14 → defaultValue (tyX6 j) = vp_V [.null, .int 0, .null, .null, .null, .int 0, .null, .null, .int 0, .int 0, .null, .null, .null, .long 0] j := fun j hj => by rcases (show j = 0 ∨ j = 1 ∨ j = 2 ∨ j = 3 ∨ j = 4 ∨ j = 5 ∨ j = 6 ∨ j = 7 ∨ j = 8 ∨ j = 9 ∨ j = 10 ∨ j = 11 ∨ j = 12 ∨ j = 13 by omega) with rfl | rfl | rfl | rfl | rfl | rfl | rfl | rfl | rfl | rfl | rfl | rfl | rfl | rfl <;> rfl
def RX7 : String := "LaneWarpsModel"
def TX7 : u_T := fun k => match k with
  | 0 => ("LaneWarpsModel", "tape", "[I", true)
  | 1 => ("LaneWarpsModel", "taped", "I", false)
  | 2 => ("LaneWarpsModel", "at", "I", false)
  | 3 => ("LaneWarpsModel", "end", "I", false)
  | 4 => ("LaneWarpsModel", "ended", "I", false)
  | 5 => ("LaneWarpsModel", "bad", "I", false)
  | 6 => ("LaneWarpsModel", "badPlace", "I", false)
  | 7 => ("LaneWarpsModel", "fault", "I", false)
  | 8 => ("LaneWarpsModel", "faultPlace", "I", false)
  | 9 => ("LaneWarpsModel", "refused", "[I", true)
  | 10 => ("LaneWarpsModel", "own", "[C", true)
  | 11 => ("LaneWarpsModel", "namePlace", "I", false)
  | 12 => ("LaneWarpsModel", "draft", "[I", true)
  | 13 => ("LaneWarpsModel", "program", "[I", true)
  | 14 => ("LaneWarpsModel", "goPlace", "[I", true)
  | 15 => ("LaneWarpsModel", "isTold", "Z", false)
  | 16 => ("LaneWarpsModel", "statements", "I", false)
  | 17 => ("LaneWarpsModel", "isCome", "[Z", true)
  | 18 => ("LaneWarpsModel", "heap", "[I", true)
  | 19 => ("LaneWarpsModel", "heapMany", "I", false)
  | 20 => ("LaneWarpsModel", "now", "[I", true)
  | 21 => ("LaneWarpsModel", "first", "[I", true)
  | 22 => ("LaneWarpsModel", "second", "[I", true)
  | 23 => ("LaneWarpsModel", "behind", "[I", true)
  | 24 => ("LaneWarpsModel", "states", "[I", true)
  | 25 => ("LaneWarpsModel", "how", "I", false)
  | 26 => ("LaneWarpsModel", "many", "I", false)
  | 27 => ("LaneWarpsModel", "round", "I", false)
  | 28 => ("LaneWarpsModel", "alone0", "[I", true)
  | 29 => ("LaneWarpsModel", "endsBy", "[I", true)
  | 30 => ("LaneWarpsModel", "kept0", "[I", true)
  | 31 => ("LaneWarpsModel", "undoable", "I", false)
  | 32 => ("LaneWarpsModel", "newest", "I", false)
  | _ => ("LaneWarpsModel", "seeded", "J", false)
def tyX7 : Nat → FieldType := fun k => match k with
  | 0 => .array .int
  | 1 => .int
  | 2 => .int
  | 3 => .int
  | 4 => .int
  | 5 => .int
  | 6 => .int
  | 7 => .int
  | 8 => .int
  | 9 => .array .int
  | 10 => .array .char
  | 11 => .int
  | 12 => .array .int
  | 13 => .array .int
  | 14 => .array .int
  | 15 => .boolean
  | 16 => .int
  | 17 => .array .boolean
  | 18 => .array .int
  | 19 => .int
  | 20 => .array .int
  | 21 => .array .int
  | 22 => .array .int
  | 23 => .array .int
  | 24 => .array .int
  | 25 => .int
  | 26 => .int
  | 27 => .int
  | 28 => .array .int
  | 29 => .array .int
  | 30 => .array .int
  | 31 => .int
  | 32 => .int
  | _ => .long
abbrev wsX70 : List Cond := u_ws RX7 TX7 34
theorem nmX7 : ∀ a, a < 34 → ∀ b, b < 34 → a ≠ b → (TX7 a).2.1 ≠ (TX7 b).2.1 := by decide +kernel
theorem tyX7_ok : ∀ k, k < 34 → parseFieldDescriptor (TX7 k).2.2.1 = some (tyX7 k) := by decide +kernel
theorem dvX7 : ∀ j, j < 34 → defaultValue (tyX7 j) = vp_V [.null, .int 0, .int 0, .int 0, .int 0, .int 0, .int 0, .int 0, .int 0, .null, .null, .int 0, .null, .null, .null, .int 0, .int 0, .null, .null, .int 0, .null, .null, .null, .null, .null, .int 0, .int 0, .int 0, .null, .null, .null, .int 0, .int 0, .long 0] j := fun j hj => by rcases (show j = 0 ∨ j = 1 ∨ j = 2 ∨ j = 3 ∨ j = 4 ∨ j = 5 ∨ j = 6 ∨ j = 7 ∨ j = 8 ∨ j = 9 ∨ j = 10 ∨ j = 11 ∨ j = 12 ∨ j = 13 ∨ j = 14 ∨ j = 15 ∨ j = 16 ∨ j = 17 ∨ j = 18 ∨ j = 19 ∨ j = 20 ∨ j = 21 ∨ j = 22 ∨ j = 23 ∨ j = 24 ∨ j = 25 ∨ j = 26 ∨ j = 27 ∨ j = 28 ∨ j = 29 ∨ j = 30 ∨ j = 31 ∨ j = 32 ∨ j = 33 by omega) with rfl | rfl | rfl | rfl | rfl | rfl | rfl | rfl | rfl | rfl | rfl | rfl | rfl | rfl | rfl | rfl | rfl | rfl | rfl | rfl | rfl | rfl | rfl | rfl | rfl | rfl | rfl | rfl | rfl | rfl | rfl | rfl | rfl | rfl <;> rfl
def RL : String := "LaneWarpsLaw"
abbrev cL_law : ByteArray := code
def RJ7 : String := "java/util/Arrays"
abbrev cJ7_fill_53178 : ByteArray := prog_16_method_103_code
def yJ7_fill_53178 : MethodName := ⟨RJ7, "fill", "([II)V"⟩
abbrev cX0_init : ByteArray := prog_2_method_1_code
def yX0_init : MethodName := ⟨RX0, "<init>", "()V"⟩
abbrev cX0_take : ByteArray := prog_2_method_2_code
def yX0_take : MethodName := ⟨RX0, "take", "(LLaneWarps$Program;)V"⟩
abbrev cX1_init : ByteArray := prog_3_method_1_code
def yX1_init : MethodName := ⟨RX1, "<init>", "()V"⟩
abbrev cX1_take : ByteArray := prog_3_method_2_code
def yX1_take : MethodName := ⟨RX1, "take", "(LLaneWarps$Program;)V"⟩
abbrev cX2_clear : ByteArray := prog_4_method_2_code
def yX2_clear : MethodName := ⟨RX2, "clear", "()V"⟩
abbrev cX2_init : ByteArray := prog_4_method_1_code
def yX2_init : MethodName := ⟨RX2, "<init>", "()V"⟩
abbrev cX3_fail : ByteArray := prog_5_method_3_code
def yX3_fail : MethodName := ⟨RX3, "fail", "(II)Z"⟩
abbrev cX3_init : ByteArray := prog_5_method_1_code
def yX3_init : MethodName := ⟨RX3, "<init>", "()V"⟩
abbrev cX3_read : ByteArray := prog_5_method_2_code
def yX3_read : MethodName := ⟨RX3, "read", "([BILLaneWarps$Program;)Z"⟩
abbrev cX3_scan : ByteArray := prog_5_method_15_code
def yX3_scan : MethodName := ⟨RX3, "scan", "()V"⟩
abbrev cX4_init : ByteArray := prog_6_method_1_code
def yX4_init : MethodName := ⟨RX4, "<init>", "()V"⟩
abbrev cX5_init : ByteArray := prog_7_method_1_code
def yX5_init : MethodName := ⟨RX5, "<init>", "()V"⟩
abbrev cX6_agrees : ByteArray := prog_1_method_20_code
def yX6_agrees : MethodName := ⟨RX6, "agrees", "()I"⟩
abbrev cX6_alone : ByteArray := prog_1_method_19_code
def yX6_alone : MethodName := ⟨RX6, "alone", "(III)I"⟩
abbrev cX6_begin : ByteArray := prog_1_method_26_code
def yX6_begin : MethodName := ⟨RX6, "begin", "()Z"⟩
abbrev cX6_by : ByteArray := prog_1_method_17_code
def yX6_by : MethodName := ⟨RX6, "by", "(III)I"⟩
abbrev cX6_chance : ByteArray := prog_1_method_27_code
def yX6_chance : MethodName := ⟨RX6, "chance", "(I)I"⟩
abbrev cX6_cycles : ByteArray := prog_1_method_23_code
def yX6_cycles : MethodName := ⟨RX6, "cycles", "(I)I"⟩
abbrev cX6_end : ByteArray := prog_1_method_3_code
def yX6_end : MethodName := ⟨RX6, "end", "(I)Z"⟩
abbrev cX6_fault : ByteArray := prog_1_method_5_code
def yX6_fault : MethodName := ⟨RX6, "fault", "(I)I"⟩
abbrev cX6_feed : ByteArray := prog_1_method_2_code
def yX6_feed : MethodName := ⟨RX6, "feed", "(IIIII)I"⟩
abbrev cX6_goes : ByteArray := prog_1_method_15_code
def yX6_goes : MethodName := ⟨RX6, "goes", "(I)I"⟩
abbrev cX6_has : ByteArray := prog_1_method_6_code
def yX6_has : MethodName := ⟨RX6, "has", "(I)I"⟩
abbrev cX6_hasLane : ByteArray := prog_1_method_34_code
def yX6_hasLane : MethodName := ⟨RX6, "hasLane", "(II)Z"⟩
abbrev cX6_hasWarp : ByteArray := prog_1_method_33_code
def yX6_hasWarp : MethodName := ⟨RX6, "hasWarp", "(I)Z"⟩
abbrev cX6_hasWord : ByteArray := prog_1_method_35_code
def yX6_hasWord : MethodName := ⟨RX6, "hasWord", "(ZI)Z"⟩
abbrev cX6_init : ByteArray := prog_1_method_1_code
def yX6_init : MethodName := ⟨RX6, "<init>", "()V"⟩
abbrev cX6_kept : ByteArray := prog_1_method_13_code
def yX6_kept : MethodName := ⟨RX6, "kept", "(II)I"⟩
abbrev cX6_lane : ByteArray := prog_1_method_8_code
def yX6_lane : MethodName := ⟨RX6, "lane", "(III)I"⟩
abbrev cX6_later : ByteArray := prog_1_method_16_code
def yX6_later : MethodName := ⟨RX6, "later", "(IIII)I"⟩
abbrev cX6_layBytes : ByteArray := prog_1_method_32_code
def yX6_layBytes : MethodName := ⟨RX6, "layBytes", "(I)V"⟩
abbrev cX6_likely : ByteArray := prog_1_method_21_code
def yX6_likely : MethodName := ⟨RX6, "likely", "(III)I"⟩
abbrev cX6_line : ByteArray := prog_1_method_7_code
def yX6_line : MethodName := ⟨RX6, "line", "(II)I"⟩
abbrev cX6_next : ByteArray := prog_1_method_14_code
def yX6_next : MethodName := ⟨RX6, "next", "(I)I"⟩
abbrev cX6_part : ByteArray := prog_1_method_10_code
def yX6_part : MethodName := ⟨RX6, "part", "(III)I"⟩
abbrev cX6_poke : ByteArray := prog_1_method_24_code
def yX6_poke : MethodName := ⟨RX6, "poke", "(ZII)I"⟩
abbrev cX6_program : ByteArray := prog_1_method_4_code
def yX6_program : MethodName := ⟨RX6, "program", "()I"⟩
abbrev cX6_raced : ByteArray := prog_1_method_12_code
def yX6_raced : MethodName := ⟨RX6, "raced", "(ZI)I"⟩
abbrev cX6_refuse : ByteArray := prog_1_method_31_code
def yX6_refuse : MethodName := ⟨RX6, "refuse", "(I)I"⟩
abbrev cX6_seed : ByteArray := prog_1_method_29_code
def yX6_seed : MethodName := ⟨RX6, "seed", "(I)Z"⟩
abbrev cX6_set : ByteArray := prog_1_method_25_code
def yX6_set : MethodName := ⟨RX6, "set", "(III)Z"⟩
abbrev cX6_skew : ByteArray := prog_1_method_18_code
def yX6_skew : MethodName := ⟨RX6, "skew", "(I)I"⟩
abbrev cX6_status : ByteArray := prog_1_method_30_code
def yX6_status : MethodName := ⟨RX6, "status", "(I)I"⟩
abbrev cX6_tells : ByteArray := prog_1_method_22_code
def yX6_tells : MethodName := ⟨RX6, "tells", "(I)I"⟩
abbrev cX6_undo : ByteArray := prog_1_method_28_code
def yX6_undo : MethodName := ⟨RX6, "undo", "()Z"⟩
abbrev cX6_warp : ByteArray := prog_1_method_9_code
def yX6_warp : MethodName := ⟨RX6, "warp", "(II)I"⟩
abbrev cX6_word : ByteArray := prog_1_method_11_code
def yX6_word : MethodName := ⟨RX6, "word", "(ZI)I"⟩
abbrev cX7_agrees : ByteArray := prog_9_method_122_code
def yX7_agrees : MethodName := ⟨RX7, "agrees", "()I"⟩
abbrev cX7_alone : ByteArray := prog_9_method_120_code
def yX7_alone : MethodName := ⟨RX7, "alone", "(III)I"⟩
abbrev cX7_asks : ByteArray := prog_9_method_22_code
def yX7_asks : MethodName := ⟨RX7, "asks", "(I)V"⟩
abbrev cX7_asksSign : ByteArray := prog_9_method_16_code
def yX7_asksSign : MethodName := ⟨RX7, "asksSign", "(I)V"⟩
abbrev cX7_begin : ByteArray := prog_9_method_132_code
def yX7_begin : MethodName := ⟨RX7, "begin", "()Z"⟩
abbrev cX7_by : ByteArray := prog_9_method_116_code
def yX7_by : MethodName := ⟨RX7, "by", "(III)I"⟩
abbrev cX7_chance : ByteArray := prog_9_method_135_code
def yX7_chance : MethodName := ⟨RX7, "chance", "(I)I"⟩
abbrev cX7_cycles : ByteArray := prog_9_method_129_code
def yX7_cycles : MethodName := ⟨RX7, "cycles", "(I)I"⟩
abbrev cX7_drafted : ByteArray := prog_9_method_25_code
def yX7_drafted : MethodName := ⟨RX7, "drafted", "()I"⟩
abbrev cX7_end : ByteArray := prog_9_method_7_code
def yX7_end : MethodName := ⟨RX7, "end", "(I)Z"⟩
abbrev cX7_fail : ByteArray := prog_9_method_10_code
def yX7_fail : MethodName := ⟨RX7, "fail", "(II)V"⟩
abbrev cX7_fault : ByteArray := prog_9_method_9_code
def yX7_fault : MethodName := ⟨RX7, "fault", "(I)I"⟩
abbrev cX7_feed : ByteArray := prog_9_method_6_code
def yX7_feed : MethodName := ⟨RX7, "feed", "(IIIII)I"⟩
abbrev cX7_goes : ByteArray := prog_9_method_114_code
def yX7_goes : MethodName := ⟨RX7, "goes", "(I)I"⟩
abbrev cX7_has : ByteArray := prog_9_method_90_code
def yX7_has : MethodName := ⟨RX7, "has", "(I)I"⟩
abbrev cX7_init : ByteArray := prog_9_method_1_code
def yX7_init : MethodName := ⟨RX7, "<init>", "()V"⟩
abbrev cX7_isIn : ByteArray := prog_9_method_2_code
def yX7_isIn : MethodName := ⟨RX7, "isIn", "(JJJ)Z"⟩
abbrev cX7_isLane : ByteArray := prog_9_method_94_code
def yX7_isLane : MethodName := ⟨RX7, "isLane", "(II)Z"⟩
abbrev cX7_isLetter : ByteArray := prog_9_method_11_code
def yX7_isLetter : MethodName := ⟨RX7, "isLetter", "(I)Z"⟩
abbrev cX7_isRefused : ByteArray := prog_9_method_5_code
def yX7_isRefused : MethodName := ⟨RX7, "isRefused", "(I)Z"⟩
abbrev cX7_isWarp : ByteArray := prog_9_method_93_code
def yX7_isWarp : MethodName := ⟨RX7, "isWarp", "(I)Z"⟩
abbrev cX7_isWordHere : ByteArray := prog_9_method_14_code
def yX7_isWordHere : MethodName := ⟨RX7, "isWordHere", "()Z"⟩
abbrev cX7_joins : ByteArray := prog_9_method_36_code
def yX7_joins : MethodName := ⟨RX7, "joins", "()V"⟩
abbrev cX7_kept : ByteArray := prog_9_method_102_code
def yX7_kept : MethodName := ⟨RX7, "kept", "(II)I"⟩
abbrev cX7_lane : ByteArray := prog_9_method_96_code
def yX7_lane : MethodName := ⟨RX7, "lane", "(III)I"⟩
abbrev cX7_later : ByteArray := prog_9_method_115_code
def yX7_later : MethodName := ⟨RX7, "later", "(IIII)I"⟩
abbrev cX7_likely : ByteArray := prog_9_method_124_code
def yX7_likely : MethodName := ⟨RX7, "likely", "(III)I"⟩
abbrev cX7_line : ByteArray := prog_9_method_92_code
def yX7_line : MethodName := ⟨RX7, "line", "(II)I"⟩
abbrev cX7_look : ByteArray := prog_9_method_13_code
def yX7_look : MethodName := ⟨RX7, "look", "()I"⟩
abbrev cX7_next : ByteArray := prog_9_method_103_code
def yX7_next : MethodName := ⟨RX7, "next", "(I)I"⟩
abbrev cX7_number : ByteArray := prog_9_method_17_code
def yX7_number : MethodName := ⟨RX7, "number", "(II)I"⟩
abbrev cX7_ownHere : ByteArray := prog_9_method_18_code
def yX7_ownHere : MethodName := ⟨RX7, "ownHere", "()I"⟩
abbrev cX7_part : ByteArray := prog_9_method_98_code
def yX7_part : MethodName := ⟨RX7, "part", "(III)I"⟩
abbrev cX7_poke : ByteArray := prog_9_method_130_code
def yX7_poke : MethodName := ⟨RX7, "poke", "(ZII)I"⟩
abbrev cX7_program : ByteArray := prog_9_method_37_code
def yX7_program : MethodName := ⟨RX7, "program", "()I"⟩
abbrev cX7_raced : ByteArray := prog_9_method_101_code
def yX7_raced : MethodName := ⟨RX7, "raced", "(ZI)I"⟩
abbrev cX7_refuses : ByteArray := prog_9_method_4_code
def yX7_refuses : MethodName := ⟨RX7, "refuses", "(I)I"⟩
abbrev cX7_seed : ByteArray := prog_9_method_133_code
def yX7_seed : MethodName := ⟨RX7, "seed", "(I)Z"⟩
abbrev cX7_set : ByteArray := prog_9_method_131_code
def yX7_set : MethodName := ⟨RX7, "set", "(III)Z"⟩
abbrev cX7_skew : ByteArray := prog_9_method_118_code
def yX7_skew : MethodName := ⟨RX7, "skew", "(I)I"⟩
abbrev cX7_status : ByteArray := prog_9_method_8_code
def yX7_status : MethodName := ⟨RX7, "status", "(I)I"⟩
abbrev cX7_takes : ByteArray := prog_9_method_21_code
def yX7_takes : MethodName := ⟨RX7, "takes", "(I)Z"⟩
abbrev cX7_tells : ByteArray := prog_9_method_126_code
def yX7_tells : MethodName := ⟨RX7, "tells", "(I)I"⟩
abbrev cX7_undo : ByteArray := prog_9_method_128_code
def yX7_undo : MethodName := ⟨RX7, "undo", "()Z"⟩
abbrev cX7_warp : ByteArray := prog_9_method_97_code
def yX7_warp : MethodName := ⟨RX7, "warp", "(II)I"⟩
abbrev cX7_word : ByteArray := prog_9_method_100_code
def yX7_word : MethodName := ⟨RX7, "word", "(ZI)I"⟩
abbrev cX7_wordOf : ByteArray := prog_9_method_99_code
def yX7_wordOf : MethodName := ⟨RX7, "wordOf", "(ZI)I"⟩
abbrev vwCl : List vw_C := [(RX0, TX0, 14), (RX1, TX1, 12), (RX2, TX2, 7), (RX3, TX3, 15), (RX4, TX4, 15), (RX5, TX5, 11), (RX6, TX6, 14), (RX7, TX7, 34)]
def Tc0 : List Cond := [Cond.code objectInit ⟨#[0xb1]⟩ 1 none, Cond.code yX5_init cX5_init 1 none, Cond.code yX1_init cX1_init 1 none, Cond.code yX4_init cX4_init 2 none, Cond.code yX1_take cX1_take 2 none, Cond.code yX3_init cX3_init 1 none, Cond.code yX2_init cX2_init 1 none, Cond.code yX0_init cX0_init 1 none, Cond.code yX0_take cX0_take 2 none, Cond.code yX6_layBytes cX6_layBytes 3 none, Cond.code yX6_refuse cX6_refuse 2 (some .int), Cond.code yJ7_fill_53178 cJ7_fill_53178 4 none, Cond.code yX2_clear cX2_clear 1 none, Cond.code yX3_scan cX3_scan 3 none, Cond.code yX3_fail cX3_fail 3 (some .boolean), Cond.code yX3_read cX3_read 6 (some .boolean), Cond.code yX6_hasWarp cX6_hasWarp 2 (some .boolean), Cond.code yX6_hasLane cX6_hasLane 3 (some .boolean), Cond.code yX6_hasWord cX6_hasWord 3 (some .boolean), Cond.code Lib.Math.min.name Lib.Math.min.code 2 (some .int), Cond.code yX7_isRefused cX7_isRefused 2 (some .boolean), Cond.code yX7_isIn cX7_isIn 6 (some .boolean), Cond.code yX7_look cX7_look 1 (some .int), Cond.code yX7_isLetter cX7_isLetter 1 (some .boolean), Cond.code yX7_isWordHere cX7_isWordHere 1 (some .boolean)]
def Tc1 : List Cond := [Cond.code yX7_ownHere cX7_ownHere 5 (some .int), Cond.code yX7_takes cX7_takes 2 (some .boolean), Cond.code yX7_fail cX7_fail 3 none, Cond.code yX7_drafted cX7_drafted 1 (some .int), Cond.code yX7_asks cX7_asks 2 none, Cond.code yX7_number cX7_number 5 (some .int), Cond.code yX7_asksSign cX7_asksSign 2 none, Cond.code yX7_joins cX7_joins 4 none, Cond.code yX7_refuses cX7_refuses 2 (some .int), Cond.code yX7_isWarp cX7_isWarp 2 (some .boolean), Cond.code yX7_isLane cX7_isLane 3 (some .boolean), Cond.code yX7_wordOf cX7_wordOf 3 (some .int), Cond.code yX6_feed cX6_feed 6 (some .int), Cond.code yX7_feed cX7_feed 8 (some .int), Cond.code yX6_end cX6_end 2 (some .boolean), Cond.code yX7_end cX7_end 2 (some .boolean), Cond.code yX6_program cX6_program 3 (some .int), Cond.code yX7_program cX7_program 2 (some .int), Cond.code yX6_fault cX6_fault 2 (some .int), Cond.code yX7_fault cX7_fault 2 (some .int), Cond.code yX6_has cX6_has 2 (some .int), Cond.code yX7_has cX7_has 2 (some .int), Cond.code yX6_line cX6_line 3 (some .int), Cond.code yX7_line cX7_line 3 (some .int), Cond.code yX6_lane cX6_lane 6 (some .int)]
def Tc2 : List Cond := [Cond.code yX7_lane cX7_lane 4 (some .int), Cond.code yX6_warp cX6_warp 4 (some .int), Cond.code yX7_warp cX7_warp 3 (some .int), Cond.code yX6_part cX6_part 5 (some .int), Cond.code yX7_part cX7_part 4 (some .int), Cond.code yX6_word cX6_word 3 (some .int), Cond.code yX7_word cX7_word 4 (some .int), Cond.code yX6_raced cX6_raced 3 (some .int), Cond.code yX7_raced cX7_raced 4 (some .int), Cond.code yX6_kept cX6_kept 4 (some .int), Cond.code yX7_kept cX7_kept 3 (some .int), Cond.code yX6_next cX6_next 2 (some .int), Cond.code yX7_next cX7_next 3 (some .int), Cond.code yX6_goes cX6_goes 2 (some .int), Cond.code yX7_goes cX7_goes 2 (some .int), Cond.code yX6_later cX6_later 6 (some .int), Cond.code yX7_later cX7_later 6 (some .int), Cond.code yX6_by cX6_by 4 (some .int), Cond.code yX7_by cX7_by 4 (some .int), Cond.code yX6_skew cX6_skew 9 (some .int), Cond.code yX7_skew cX7_skew 6 (some .int), Cond.code yX6_alone cX6_alone 4 (some .int), Cond.code yX7_alone cX7_alone 4 (some .int), Cond.code yX6_agrees cX6_agrees 4 (some .int), Cond.code yX7_agrees cX7_agrees 3 (some .int)]
def Tc3 : List Cond := [Cond.code yX6_likely cX6_likely 6 (some .int), Cond.code yX7_likely cX7_likely 6 (some .int), Cond.code yX6_tells cX6_tells 6 (some .int), Cond.code yX7_tells cX7_tells 5 (some .int), Cond.code yX6_cycles cX6_cycles 2 (some .int), Cond.code yX7_cycles cX7_cycles 4 (some .int), Cond.code yX6_poke cX6_poke 6 (some .int), Cond.code yX7_poke cX7_poke 6 (some .int), Cond.code yX6_set cX6_set 4 (some .boolean), Cond.code yX7_set cX7_set 4 (some .boolean), Cond.code yX6_begin cX6_begin 1 (some .boolean), Cond.code yX7_begin cX7_begin 1 (some .boolean), Cond.code yX6_chance cX6_chance 6 (some .int), Cond.code yX7_chance cX7_chance 7 (some .int), Cond.code yX6_undo cX6_undo 1 (some .boolean), Cond.code yX7_undo cX7_undo 2 (some .boolean), Cond.code yX6_seed cX6_seed 2 (some .boolean), Cond.code yX7_seed cX7_seed 2 (some .boolean), Cond.code yX6_status cX6_status 2 (some .int), Cond.code yX7_status cX7_status 2 (some .int), Cond.code yX6_init cX6_init 2 none, Cond.code yX7_init cX7_init 1 none]
def Tc4 : List Cond := [Cond.methodLink RX5 3 objectInit, Cond.instanceMethod objectInit, Cond.arrayClass .int, Cond.fieldLink RX5 9 "LaneWarps$Warp" "registers" "[I", Cond.fieldLink RX5 15 "LaneWarps$Warp" "lines" "[I", Cond.fieldLink RX5 18 "LaneWarps$Warp" "partLine" "[I", Cond.fieldLink RX5 21 "LaneWarps$Warp" "partMeets" "[I", Cond.fieldLink RX5 24 "LaneWarps$Warp" "partLanes" "[I", Cond.methodLink RX4 3 objectInit, Cond.classLink RX4 9 RX5, Cond.fieldLink RX4 11 "LaneWarps$State" "warps" "[LLaneWarps$Warp;", Cond.fieldLink RX4 17 "LaneWarps$State" "far" "[I", Cond.fieldLink RX4 21 "LaneWarps$State" "near" "[I", Cond.fieldLink RX4 24 "LaneWarps$State" "touched" "[I", Cond.fieldLink RX4 27 "LaneWarps$State" "wrote" "[I", Cond.fieldLink RX4 30 "LaneWarps$State" "raced" "[I", Cond.fieldLink RX4 33 "LaneWarps$State" "kept" "[I", Cond.fieldLink RX4 36 "LaneWarps$State" "last" "I", Cond.instantiable RX5 11, Cond.initialized RX5, Cond.instanceMethod yX5_init, Cond.methodLink RX1 3 objectInit, Cond.fieldLink RX1 9 "LaneWarps$Machine" "addresses" "[I", Cond.fieldLink RX1 15 "LaneWarps$Machine" "inBank" "[I", Cond.fieldLink RX1 18 "LaneWarps$Machine" "program" "LLaneWarps$Program;", Cond.methodLink RX2 3 objectInit, Cond.classLink RX2 9 "[[I", Cond.fieldLink RX2 11 "LaneWarps$Program" "rows" "[[I", Cond.fieldLink RX2 16 "LaneWarps$Program" "far" "[I", Cond.arrayClass .long, Cond.fieldLink RX2 20 "LaneWarps$Program" "passed" "[J", Cond.methodLink RX3 3 objectInit, Cond.fieldLink RX3 9 "LaneWarps$Reader" "nameAt" "[I", Cond.fieldLink RX3 15 "LaneWarps$Reader" "nameEnd" "[I", Cond.fieldLink RX3 18 "LaneWarps$Reader" "aimAt" "[I", Cond.fieldLink RX3 21 "LaneWarps$Reader" "aimEnd" "[I", Cond.fieldLink RX3 24 "LaneWarps$Reader" "place" "I", Cond.methodLink RX0 3 objectInit, Cond.classLink RX0 9 RX1, Cond.instantiable RX1 12]
def Tc5 : List Cond := [Cond.initialized RX1, Cond.instanceMethod yX1_init, Cond.fieldLink RX0 12 "LaneWarps$Forecast" "machine" "LLaneWarps$Machine;", Cond.classLink RX0 18 RX4, Cond.instantiable RX4 15, Cond.initialized RX4, Cond.methodLink RX0 20 yX4_init, Cond.instanceMethod yX4_init, Cond.fieldLink RX0 21 "LaneWarps$Forecast" "origin" "LLaneWarps$State;", Cond.fieldLink RX0 25 "LaneWarps$Forecast" "scout" "LLaneWarps$State;", Cond.fieldLink RX0 28 "LaneWarps$Forecast" "trail" "LLaneWarps$State;", Cond.fieldLink RX0 31 "LaneWarps$Forecast" "courses" "[I", Cond.fieldLink RX0 35 "LaneWarps$Forecast" "ends" "[I", Cond.fieldLink RX0 38 "LaneWarps$Forecast" "solos" "[I", Cond.fieldLink RX0 41 "LaneWarps$Forecast" "program" "LLaneWarps$Program;", Cond.methodLink RX0 45 yX1_take, Cond.instanceMethod yX1_take, Cond.selects RX1 yX1_take yX1_take, Cond.fieldLink RX0 49 "LaneWarps$Forecast" "coursesKnown" "I", Cond.fieldLink RX0 53 "LaneWarps$Forecast" "endsKnown" "J", Cond.fieldLink RX0 57 "LaneWarps$Forecast" "solosKnown" "I", Cond.methodLink RX6 3 objectInit, Cond.arrayClass .byte, Cond.fieldLink RX6 9 "LaneWarps" "tape" "[B", Cond.classLink RX6 13 RX3, Cond.instantiable RX3 15, Cond.initialized RX3, Cond.instanceMethod yX3_init, Cond.fieldLink RX6 16 "LaneWarps" "reader" "LLaneWarps$Reader;", Cond.classLink RX6 20 RX2, Cond.instantiable RX2 7, Cond.initialized RX2, Cond.instanceMethod yX2_init, Cond.fieldLink RX6 23 "LaneWarps" "current" "LLaneWarps$Program;", Cond.fieldLink RX6 27 "LaneWarps" "spare" "LLaneWarps$Program;", Cond.classLink RX6 30 RX4, Cond.methodLink RX6 32 yX4_init, Cond.fieldLink RX6 33 "LaneWarps" "now" "LLaneWarps$State;", Cond.fieldLink RX6 37 "LaneWarps" "past" "[LLaneWarps$State;", Cond.classLink RX6 41 RX1]
def Tc6 : List Cond := [Cond.fieldLink RX6 44 "LaneWarps" "machine" "LLaneWarps$Machine;", Cond.classLink RX6 48 RX0, Cond.instantiable RX0 14, Cond.initialized RX0, Cond.instanceMethod yX0_init, Cond.fieldLink RX6 51 "LaneWarps" "forecast" "LLaneWarps$Forecast;", Cond.fieldLink RX6 55 "LaneWarps" "refused" "[I", Cond.fieldLink RX6 59 "LaneWarps" "drawn" "J", Cond.methodLink RX6 63 yX1_take, Cond.methodLink RX6 67 yX0_take, Cond.instanceMethod yX0_take, Cond.selects RX0 yX0_take yX0_take, Cond.fieldLink RX6 68 "LaneWarps" "bytes" "I", Cond.methodLink RX6 76 yX6_layBytes, Cond.instanceMethod yX6_layBytes, Cond.selects RX6 yX6_layBytes yX6_layBytes, Cond.initialized RX6, Cond.methodLink RX6 72 yX6_refuse, Cond.instanceMethod yX6_refuse, Cond.selects RX6 yX6_refuse yX6_refuse, Cond.initialized RJ7, Cond.methodLink RX2 24 yJ7_fill_53178, Cond.static yJ7_fill_53178, Cond.fieldLink RX2 30 "LaneWarps$Program" "lines" "I", Cond.fieldLink RX2 34 "LaneWarps$Program" "warps" "I", Cond.fieldLink RX2 37 "LaneWarps$Program" "mode" "I", Cond.fieldLink RX2 40 "LaneWarps$Program" "order" "I", Cond.fieldLink RX3 44 "LaneWarps$Reader" "kind" "I", Cond.fieldLink RX3 47 "LaneWarps$Reader" "to" "I", Cond.fieldLink RX3 71 "LaneWarps$Reader" "from" "I", Cond.fieldLink RX3 32 "LaneWarps$Reader" "length" "I", Cond.fieldLink RX3 74 "LaneWarps$Reader" "own" "I", Cond.fieldLink RX3 50 "LaneWarps$Reader" "fault" "I", Cond.fieldLink RX3 28 "LaneWarps$Reader" "text" "[B", Cond.fieldLink RX3 35 "LaneWarps$Reader" "into" "LLaneWarps$Program;", Cond.methodLink RX3 39 yX2_clear, Cond.instanceMethod yX2_clear, Cond.selects RX2 yX2_clear yX2_clear, Cond.methodLink RX3 53 yX3_scan, Cond.instanceMethod yX3_scan]
def Tc7 : List Cond := [Cond.selects RX3 yX3_scan yX3_scan, Cond.methodLink RX3 63 yX3_fail, Cond.instanceMethod yX3_fail, Cond.selects RX3 yX3_fail yX3_fail, Cond.methodLink RX6 80 yX3_read, Cond.instanceMethod yX3_read, Cond.selects RX3 yX3_read yX3_read, Cond.fieldLink RX6 87 "LaneWarps" "told" "Z", Cond.methodLink RX6 181 yX6_hasWarp, Cond.instanceMethod yX6_hasWarp, Cond.selects RX6 yX6_hasWarp yX6_hasWarp, Cond.constant RX6 155 (-1000000), Cond.methodLink RX6 160 yX6_hasLane, Cond.instanceMethod yX6_hasLane, Cond.selects RX6 yX6_hasLane yX6_hasLane, Cond.methodLink RX6 207 yX6_hasWord, Cond.instanceMethod yX6_hasWord, Cond.selects RX6 yX6_hasWord yX6_hasWord, Cond.methodLink RX6 135 Lib.Math.min.name, Cond.static Lib.Math.min.name, Cond.initialized "java/lang/Math", Cond.fieldLink RX6 104 "LaneWarps" "acts" "I", Cond.methodLink RX7 1 objectInit, Cond.fieldLink RX7 7 "LaneWarpsModel" "tape" "[I", Cond.fieldLink RX7 13 "LaneWarpsModel" "faultPlace" "I", Cond.fieldLink RX7 17 "LaneWarpsModel" "refused" "[I", Cond.arrayClass .char, Cond.fieldLink RX7 20 "LaneWarpsModel" "own" "[C", Cond.fieldLink RX7 24 "LaneWarpsModel" "draft" "[I", Cond.fieldLink RX7 27 "LaneWarpsModel" "program" "[I", Cond.fieldLink RX7 30 "LaneWarpsModel" "goPlace" "[I", Cond.arrayClass .boolean, Cond.fieldLink RX7 33 "LaneWarpsModel" "isCome" "[Z", Cond.fieldLink RX7 37 "LaneWarpsModel" "heap" "[I", Cond.fieldLink RX7 40 "LaneWarpsModel" "now" "[I", Cond.fieldLink RX7 43 "LaneWarpsModel" "first" "[I", Cond.fieldLink RX7 46 "LaneWarpsModel" "second" "[I", Cond.fieldLink RX7 49 "LaneWarpsModel" "behind" "[I", Cond.constant RX7 52 (191277), Cond.fieldLink RX7 53 "LaneWarpsModel" "states" "[I"]
def Tc8 : List Cond := [Cond.fieldLink RX7 56 "LaneWarpsModel" "alone0" "[I", Cond.fieldLink RX7 59 "LaneWarpsModel" "endsBy" "[I", Cond.fieldLink RX7 62 "LaneWarpsModel" "kept0" "[I", Cond.fieldLink RX7 65 "LaneWarpsModel" "seeded" "J", Cond.fieldLink RX7 69 "LaneWarpsModel" "taped" "I", Cond.methodLink RX7 76 yX7_isRefused, Cond.instanceMethod yX7_isRefused, Cond.selects RX7 yX7_isRefused yX7_isRefused, Cond.initialized RX7, Cond.constantLong RX7 80 (5), Cond.methodLink RX7 82 yX7_isIn, Cond.static yX7_isIn, Cond.fieldLink RX7 86 "LaneWarpsModel" "fault" "I", Cond.constantLong RX7 384 (13), Cond.fieldLink RX7 215 "LaneWarpsModel" "isTold" "Z", Cond.fieldLink RX7 95 "LaneWarpsModel" "at" "I", Cond.fieldLink RX7 98 "LaneWarpsModel" "end" "I", Cond.fieldLink RX7 89 "LaneWarpsModel" "bad" "I", Cond.methodLink RX7 101 yX7_look, Cond.instanceMethod yX7_look, Cond.selects RX7 yX7_look yX7_look, Cond.methodLink RX7 105 yX7_isLetter, Cond.static yX7_isLetter, Cond.methodLink RX7 121 yX7_isWordHere, Cond.instanceMethod yX7_isWordHere, Cond.selects RX7 yX7_isWordHere yX7_isWordHere, Cond.methodLink RX7 129 yX7_ownHere, Cond.instanceMethod yX7_ownHere, Cond.selects RX7 yX7_ownHere yX7_ownHere, Cond.fieldLink RX7 92 "LaneWarpsModel" "badPlace" "I", Cond.methodLink RX7 135 yX7_takes, Cond.instanceMethod yX7_takes, Cond.selects RX7 yX7_takes yX7_takes, Cond.methodLink RX7 114 yX7_fail, Cond.instanceMethod yX7_fail, Cond.selects RX7 yX7_fail yX7_fail, Cond.methodLink RX7 141 yX7_drafted, Cond.instanceMethod yX7_drafted, Cond.selects RX7 yX7_drafted yX7_drafted, Cond.fieldLink RX7 108 "LaneWarpsModel" "ended" "I"]
def Tc9 : List Cond := [Cond.methodLink RX7 196 yX7_asks, Cond.instanceMethod yX7_asks, Cond.selects RX7 yX7_asks yX7_asks, Cond.methodLink RX7 152 yX7_number, Cond.instanceMethod yX7_number, Cond.selects RX7 yX7_number yX7_number, Cond.methodLink RX7 182 yX7_asksSign, Cond.instanceMethod yX7_asksSign, Cond.selects RX7 yX7_asksSign yX7_asksSign, Cond.fieldLink RX7 189 "LaneWarpsModel" "statements" "I", Cond.methodLink RX7 206 yX7_joins, Cond.instanceMethod yX7_joins, Cond.selects RX7 yX7_joins yX7_joins, Cond.methodLink RX7 72 yX7_refuses, Cond.instanceMethod yX7_refuses, Cond.selects RX7 yX7_refuses yX7_refuses, Cond.methodLink RX7 391 yX7_isWarp, Cond.instanceMethod yX7_isWarp, Cond.selects RX7 yX7_isWarp yX7_isWarp, Cond.constant RX7 167 (-1000000), Cond.methodLink RX7 396 yX7_isLane, Cond.instanceMethod yX7_isLane, Cond.selects RX7 yX7_isLane yX7_isLane, Cond.methodLink RX7 404 yX7_wordOf, Cond.instanceMethod yX7_wordOf, Cond.selects RX7 yX7_wordOf yX7_wordOf, Cond.fieldLink RX7 228 "LaneWarpsModel" "undoable" "I", Cond.methodLink RL 13 yX6_feed, Cond.instanceMethod yX6_feed, Cond.selects RX6 yX6_feed yX6_feed, Cond.methodLink RL 17 yX7_feed, Cond.instanceMethod yX7_feed, Cond.selects RX7 yX7_feed yX7_feed, Cond.methodLink RL 18 yX6_end, Cond.instanceMethod yX6_end, Cond.selects RX6 yX6_end yX6_end, Cond.methodLink RL 22 yX7_end, Cond.instanceMethod yX7_end, Cond.selects RX7 yX7_end yX7_end, Cond.methodLink RL 23 yX6_program]
def Tc10 : List Cond := [Cond.instanceMethod yX6_program, Cond.selects RX6 yX6_program yX6_program, Cond.methodLink RL 27 yX7_program, Cond.instanceMethod yX7_program, Cond.selects RX7 yX7_program yX7_program, Cond.methodLink RL 28 yX6_fault, Cond.instanceMethod yX6_fault, Cond.selects RX6 yX6_fault yX6_fault, Cond.methodLink RL 32 yX7_fault, Cond.instanceMethod yX7_fault, Cond.selects RX7 yX7_fault yX7_fault, Cond.methodLink RL 33 yX6_has, Cond.instanceMethod yX6_has, Cond.selects RX6 yX6_has yX6_has, Cond.methodLink RL 36 yX7_has, Cond.instanceMethod yX7_has, Cond.selects RX7 yX7_has yX7_has, Cond.methodLink RL 37 yX6_line, Cond.instanceMethod yX6_line, Cond.selects RX6 yX6_line yX6_line, Cond.methodLink RL 41 yX7_line, Cond.instanceMethod yX7_line, Cond.selects RX7 yX7_line yX7_line, Cond.methodLink RL 42 yX6_lane, Cond.instanceMethod yX6_lane, Cond.selects RX6 yX6_lane yX6_lane, Cond.methodLink RL 46 yX7_lane, Cond.instanceMethod yX7_lane, Cond.selects RX7 yX7_lane yX7_lane, Cond.methodLink RL 47 yX6_warp, Cond.instanceMethod yX6_warp, Cond.selects RX6 yX6_warp yX6_warp, Cond.methodLink RL 50 yX7_warp, Cond.instanceMethod yX7_warp, Cond.selects RX7 yX7_warp yX7_warp, Cond.methodLink RL 51 yX6_part, Cond.instanceMethod yX6_part, Cond.selects RX6 yX6_part yX6_part, Cond.methodLink RL 54 yX7_part, Cond.instanceMethod yX7_part]
def Tc11 : List Cond := [Cond.selects RX7 yX7_part yX7_part, Cond.methodLink RL 55 yX6_word, Cond.instanceMethod yX6_word, Cond.selects RX6 yX6_word yX6_word, Cond.methodLink RL 59 yX7_word, Cond.instanceMethod yX7_word, Cond.selects RX7 yX7_word yX7_word, Cond.methodLink RL 60 yX6_raced, Cond.instanceMethod yX6_raced, Cond.selects RX6 yX6_raced yX6_raced, Cond.methodLink RL 63 yX7_raced, Cond.instanceMethod yX7_raced, Cond.selects RX7 yX7_raced yX7_raced, Cond.methodLink RL 64 yX6_kept, Cond.instanceMethod yX6_kept, Cond.selects RX6 yX6_kept yX6_kept, Cond.methodLink RL 67 yX7_kept, Cond.instanceMethod yX7_kept, Cond.selects RX7 yX7_kept yX7_kept, Cond.methodLink RL 68 yX6_next, Cond.instanceMethod yX6_next, Cond.selects RX6 yX6_next yX6_next, Cond.methodLink RL 71 yX7_next, Cond.instanceMethod yX7_next, Cond.selects RX7 yX7_next yX7_next, Cond.methodLink RL 72 yX6_goes, Cond.instanceMethod yX6_goes, Cond.selects RX6 yX6_goes yX6_goes, Cond.methodLink RL 75 yX7_goes, Cond.instanceMethod yX7_goes, Cond.selects RX7 yX7_goes yX7_goes, Cond.methodLink RL 76 yX6_later, Cond.instanceMethod yX6_later, Cond.selects RX6 yX6_later yX6_later, Cond.methodLink RL 80 yX7_later, Cond.instanceMethod yX7_later, Cond.selects RX7 yX7_later yX7_later, Cond.methodLink RL 81 yX6_by, Cond.instanceMethod yX6_by, Cond.selects RX6 yX6_by yX6_by]
def Tc12 : List Cond := [Cond.methodLink RL 84 yX7_by, Cond.instanceMethod yX7_by, Cond.selects RX7 yX7_by yX7_by, Cond.methodLink RL 85 yX6_skew, Cond.instanceMethod yX6_skew, Cond.selects RX6 yX6_skew yX6_skew, Cond.methodLink RL 88 yX7_skew, Cond.instanceMethod yX7_skew, Cond.selects RX7 yX7_skew yX7_skew, Cond.methodLink RL 89 yX6_alone, Cond.instanceMethod yX6_alone, Cond.selects RX6 yX6_alone yX6_alone, Cond.methodLink RL 92 yX7_alone, Cond.instanceMethod yX7_alone, Cond.selects RX7 yX7_alone yX7_alone, Cond.methodLink RL 93 yX6_agrees, Cond.instanceMethod yX6_agrees, Cond.selects RX6 yX6_agrees yX6_agrees, Cond.methodLink RL 96 yX7_agrees, Cond.instanceMethod yX7_agrees, Cond.selects RX7 yX7_agrees yX7_agrees, Cond.methodLink RL 97 yX6_likely, Cond.instanceMethod yX6_likely, Cond.selects RX6 yX6_likely yX6_likely, Cond.methodLink RL 100 yX7_likely, Cond.instanceMethod yX7_likely, Cond.selects RX7 yX7_likely yX7_likely, Cond.methodLink RL 101 yX6_tells, Cond.instanceMethod yX6_tells, Cond.selects RX6 yX6_tells yX6_tells, Cond.methodLink RL 104 yX7_tells, Cond.instanceMethod yX7_tells, Cond.selects RX7 yX7_tells yX7_tells, Cond.methodLink RL 105 yX6_cycles, Cond.instanceMethod yX6_cycles, Cond.selects RX6 yX6_cycles yX6_cycles, Cond.methodLink RL 108 yX7_cycles, Cond.instanceMethod yX7_cycles, Cond.selects RX7 yX7_cycles yX7_cycles, Cond.methodLink RL 109 yX6_poke]
def Tc13 : List Cond := [Cond.instanceMethod yX6_poke, Cond.selects RX6 yX6_poke yX6_poke, Cond.methodLink RL 113 yX7_poke, Cond.instanceMethod yX7_poke, Cond.selects RX7 yX7_poke yX7_poke, Cond.methodLink RL 114 yX6_set, Cond.instanceMethod yX6_set, Cond.selects RX6 yX6_set yX6_set, Cond.methodLink RL 118 yX7_set, Cond.instanceMethod yX7_set, Cond.selects RX7 yX7_set yX7_set, Cond.methodLink RL 119 yX6_begin, Cond.instanceMethod yX6_begin, Cond.selects RX6 yX6_begin yX6_begin, Cond.methodLink RL 123 yX7_begin, Cond.instanceMethod yX7_begin, Cond.selects RX7 yX7_begin yX7_begin, Cond.methodLink RL 124 yX6_chance, Cond.instanceMethod yX6_chance, Cond.selects RX6 yX6_chance yX6_chance, Cond.methodLink RL 127 yX7_chance, Cond.instanceMethod yX7_chance, Cond.selects RX7 yX7_chance yX7_chance, Cond.methodLink RL 128 yX6_undo, Cond.instanceMethod yX6_undo, Cond.selects RX6 yX6_undo yX6_undo, Cond.methodLink RL 131 yX7_undo, Cond.instanceMethod yX7_undo, Cond.selects RX7 yX7_undo yX7_undo, Cond.methodLink RL 132 yX6_seed, Cond.instanceMethod yX6_seed, Cond.selects RX6 yX6_seed yX6_seed, Cond.methodLink RL 135 yX7_seed, Cond.instanceMethod yX7_seed, Cond.selects RX7 yX7_seed yX7_seed, Cond.methodLink RL 136 yX6_status, Cond.instanceMethod yX6_status, Cond.selects RX6 yX6_status yX6_status, Cond.methodLink RL 139 yX7_status, Cond.instanceMethod yX7_status]
def Tc14 : List Cond := [Cond.selects RX7 yX7_status yX7_status, Cond.instantiable RX6 14, Cond.instantiable RX7 34, Cond.classLink RL 7 RX6, Cond.methodLink RL 9 yX6_init, Cond.instanceMethod yX6_init, Cond.classLink RL 10 RX7, Cond.methodLink RL 12 yX7_init, Cond.instanceMethod yX7_init]
/-- the words that the walks need, one list for all -/
def T0w : List Cond := Tc0 ++ (Tc1 ++ (Tc2 ++ (Tc3 ++ (Tc4 ++ (Tc5 ++ (Tc6 ++ (Tc7 ++ (Tc8 ++ (Tc9 ++ (Tc10 ++ (Tc11 ++ (Tc12 ++ (Tc13 ++ (Tc14))))))))))))))
def T0 : List Cond := T0w ++ (wsX00 ++ (wsX10 ++ (wsX20 ++ (wsX30 ++ (wsX40 ++ (wsX50 ++ (wsX60 ++ (wsX70))))))))
theorem ax_c0 : ∀ w ∈ Tc0, w ∈ T0 := fun _ h => List.mem_append_left _ (List.mem_append_left _ h)
theorem T_2 : Cond.code objectInit ⟨#[0xb1]⟩ 1 none ∈ T0 := ax_c0 _ (List.mem_of_getElem? (i := 0) rfl)
theorem T_21 : Cond.code yX5_init cX5_init 1 none ∈ T0 := ax_c0 _ (List.mem_of_getElem? (i := 1) rfl)
theorem T_43 : Cond.code yX1_init cX1_init 1 none ∈ T0 := ax_c0 _ (List.mem_of_getElem? (i := 2) rfl)
theorem T_49 : Cond.code yX4_init cX4_init 2 none ∈ T0 := ax_c0 _ (List.mem_of_getElem? (i := 3) rfl)
theorem T_59 : Cond.code yX1_take cX1_take 2 none ∈ T0 := ax_c0 _ (List.mem_of_getElem? (i := 4) rfl)
theorem T_72 : Cond.code yX3_init cX3_init 1 none ∈ T0 := ax_c0 _ (List.mem_of_getElem? (i := 5) rfl)
theorem T_78 : Cond.code yX2_init cX2_init 1 none ∈ T0 := ax_c0 _ (List.mem_of_getElem? (i := 6) rfl)
theorem T_91 : Cond.code yX0_init cX0_init 1 none ∈ T0 := ax_c0 _ (List.mem_of_getElem? (i := 7) rfl)
theorem T_97 : Cond.code yX0_take cX0_take 2 none ∈ T0 := ax_c0 _ (List.mem_of_getElem? (i := 8) rfl)
theorem T_102 : Cond.code yX6_layBytes cX6_layBytes 3 none ∈ T0 := ax_c0 _ (List.mem_of_getElem? (i := 9) rfl)
theorem T_107 : Cond.code yX6_refuse cX6_refuse 2 (some .int) ∈ T0 := ax_c0 _ (List.mem_of_getElem? (i := 10) rfl)
theorem T_111 : Cond.code yJ7_fill_53178 cJ7_fill_53178 4 none ∈ T0 := ax_c0 _ (List.mem_of_getElem? (i := 11) rfl)
theorem T_127 : Cond.code yX2_clear cX2_clear 1 none ∈ T0 := ax_c0 _ (List.mem_of_getElem? (i := 12) rfl)
theorem T_131 : Cond.code yX3_scan cX3_scan 3 none ∈ T0 := ax_c0 _ (List.mem_of_getElem? (i := 13) rfl)
theorem T_135 : Cond.code yX3_fail cX3_fail 3 (some .boolean) ∈ T0 := ax_c0 _ (List.mem_of_getElem? (i := 14) rfl)
theorem T_139 : Cond.code yX3_read cX3_read 6 (some .boolean) ∈ T0 := ax_c0 _ (List.mem_of_getElem? (i := 15) rfl)
theorem T_144 : Cond.code yX6_hasWarp cX6_hasWarp 2 (some .boolean) ∈ T0 := ax_c0 _ (List.mem_of_getElem? (i := 16) rfl)
theorem T_149 : Cond.code yX6_hasLane cX6_hasLane 3 (some .boolean) ∈ T0 := ax_c0 _ (List.mem_of_getElem? (i := 17) rfl)
theorem T_153 : Cond.code yX6_hasWord cX6_hasWord 3 (some .boolean) ∈ T0 := ax_c0 _ (List.mem_of_getElem? (i := 18) rfl)
theorem T_160 : Cond.code Lib.Math.min.name Lib.Math.min.code 2 (some .int) ∈ T0 := ax_c0 _ (List.mem_of_getElem? (i := 19) rfl)
theorem T_185 : Cond.code yX7_isRefused cX7_isRefused 2 (some .boolean) ∈ T0 := ax_c0 _ (List.mem_of_getElem? (i := 20) rfl)
theorem T_191 : Cond.code yX7_isIn cX7_isIn 6 (some .boolean) ∈ T0 := ax_c0 _ (List.mem_of_getElem? (i := 21) rfl)
theorem T_200 : Cond.code yX7_look cX7_look 1 (some .int) ∈ T0 := ax_c0 _ (List.mem_of_getElem? (i := 22) rfl)
theorem T_204 : Cond.code yX7_isLetter cX7_isLetter 1 (some .boolean) ∈ T0 := ax_c0 _ (List.mem_of_getElem? (i := 23) rfl)
theorem T_207 : Cond.code yX7_isWordHere cX7_isWordHere 1 (some .boolean) ∈ T0 := ax_c0 _ (List.mem_of_getElem? (i := 24) rfl)
theorem ax_c1 : ∀ w ∈ Tc1, w ∈ T0 := fun _ h => List.mem_append_left _ (List.mem_append_right _ (List.mem_append_left _ h))
theorem T_211 : Cond.code yX7_ownHere cX7_ownHere 5 (some .int) ∈ T0 := ax_c1 _ (List.mem_of_getElem? (i := 0) rfl)
theorem T_216 : Cond.code yX7_takes cX7_takes 2 (some .boolean) ∈ T0 := ax_c1 _ (List.mem_of_getElem? (i := 1) rfl)
theorem T_220 : Cond.code yX7_fail cX7_fail 3 none ∈ T0 := ax_c1 _ (List.mem_of_getElem? (i := 2) rfl)
theorem T_224 : Cond.code yX7_drafted cX7_drafted 1 (some .int) ∈ T0 := ax_c1 _ (List.mem_of_getElem? (i := 3) rfl)
theorem T_229 : Cond.code yX7_asks cX7_asks 2 none ∈ T0 := ax_c1 _ (List.mem_of_getElem? (i := 4) rfl)
theorem T_233 : Cond.code yX7_number cX7_number 5 (some .int) ∈ T0 := ax_c1 _ (List.mem_of_getElem? (i := 5) rfl)
theorem T_237 : Cond.code yX7_asksSign cX7_asksSign 2 none ∈ T0 := ax_c1 _ (List.mem_of_getElem? (i := 6) rfl)
theorem T_242 : Cond.code yX7_joins cX7_joins 4 none ∈ T0 := ax_c1 _ (List.mem_of_getElem? (i := 7) rfl)
theorem T_246 : Cond.code yX7_refuses cX7_refuses 2 (some .int) ∈ T0 := ax_c1 _ (List.mem_of_getElem? (i := 8) rfl)
theorem T_250 : Cond.code yX7_isWarp cX7_isWarp 2 (some .boolean) ∈ T0 := ax_c1 _ (List.mem_of_getElem? (i := 9) rfl)
theorem T_255 : Cond.code yX7_isLane cX7_isLane 3 (some .boolean) ∈ T0 := ax_c1 _ (List.mem_of_getElem? (i := 10) rfl)
theorem T_259 : Cond.code yX7_wordOf cX7_wordOf 3 (some .int) ∈ T0 := ax_c1 _ (List.mem_of_getElem? (i := 11) rfl)
theorem T_264 : Cond.code yX6_feed cX6_feed 6 (some .int) ∈ T0 := ax_c1 _ (List.mem_of_getElem? (i := 12) rfl)
theorem T_268 : Cond.code yX7_feed cX7_feed 8 (some .int) ∈ T0 := ax_c1 _ (List.mem_of_getElem? (i := 13) rfl)
theorem T_272 : Cond.code yX6_end cX6_end 2 (some .boolean) ∈ T0 := ax_c1 _ (List.mem_of_getElem? (i := 14) rfl)
theorem T_276 : Cond.code yX7_end cX7_end 2 (some .boolean) ∈ T0 := ax_c1 _ (List.mem_of_getElem? (i := 15) rfl)
theorem T_280 : Cond.code yX6_program cX6_program 3 (some .int) ∈ T0 := ax_c1 _ (List.mem_of_getElem? (i := 16) rfl)
theorem T_284 : Cond.code yX7_program cX7_program 2 (some .int) ∈ T0 := ax_c1 _ (List.mem_of_getElem? (i := 17) rfl)
theorem T_288 : Cond.code yX6_fault cX6_fault 2 (some .int) ∈ T0 := ax_c1 _ (List.mem_of_getElem? (i := 18) rfl)
theorem T_292 : Cond.code yX7_fault cX7_fault 2 (some .int) ∈ T0 := ax_c1 _ (List.mem_of_getElem? (i := 19) rfl)
theorem T_296 : Cond.code yX6_has cX6_has 2 (some .int) ∈ T0 := ax_c1 _ (List.mem_of_getElem? (i := 20) rfl)
theorem T_300 : Cond.code yX7_has cX7_has 2 (some .int) ∈ T0 := ax_c1 _ (List.mem_of_getElem? (i := 21) rfl)
theorem T_304 : Cond.code yX6_line cX6_line 3 (some .int) ∈ T0 := ax_c1 _ (List.mem_of_getElem? (i := 22) rfl)
theorem T_308 : Cond.code yX7_line cX7_line 3 (some .int) ∈ T0 := ax_c1 _ (List.mem_of_getElem? (i := 23) rfl)
theorem T_312 : Cond.code yX6_lane cX6_lane 6 (some .int) ∈ T0 := ax_c1 _ (List.mem_of_getElem? (i := 24) rfl)
theorem ax_c2 : ∀ w ∈ Tc2, w ∈ T0 := fun _ h => List.mem_append_left _ (List.mem_append_right _ (List.mem_append_right _ (List.mem_append_left _ h)))
theorem T_316 : Cond.code yX7_lane cX7_lane 4 (some .int) ∈ T0 := ax_c2 _ (List.mem_of_getElem? (i := 0) rfl)
theorem T_320 : Cond.code yX6_warp cX6_warp 4 (some .int) ∈ T0 := ax_c2 _ (List.mem_of_getElem? (i := 1) rfl)
theorem T_324 : Cond.code yX7_warp cX7_warp 3 (some .int) ∈ T0 := ax_c2 _ (List.mem_of_getElem? (i := 2) rfl)
theorem T_328 : Cond.code yX6_part cX6_part 5 (some .int) ∈ T0 := ax_c2 _ (List.mem_of_getElem? (i := 3) rfl)
theorem T_332 : Cond.code yX7_part cX7_part 4 (some .int) ∈ T0 := ax_c2 _ (List.mem_of_getElem? (i := 4) rfl)
theorem T_336 : Cond.code yX6_word cX6_word 3 (some .int) ∈ T0 := ax_c2 _ (List.mem_of_getElem? (i := 5) rfl)
theorem T_340 : Cond.code yX7_word cX7_word 4 (some .int) ∈ T0 := ax_c2 _ (List.mem_of_getElem? (i := 6) rfl)
theorem T_344 : Cond.code yX6_raced cX6_raced 3 (some .int) ∈ T0 := ax_c2 _ (List.mem_of_getElem? (i := 7) rfl)
theorem T_348 : Cond.code yX7_raced cX7_raced 4 (some .int) ∈ T0 := ax_c2 _ (List.mem_of_getElem? (i := 8) rfl)
theorem T_352 : Cond.code yX6_kept cX6_kept 4 (some .int) ∈ T0 := ax_c2 _ (List.mem_of_getElem? (i := 9) rfl)
theorem T_356 : Cond.code yX7_kept cX7_kept 3 (some .int) ∈ T0 := ax_c2 _ (List.mem_of_getElem? (i := 10) rfl)
theorem T_360 : Cond.code yX6_next cX6_next 2 (some .int) ∈ T0 := ax_c2 _ (List.mem_of_getElem? (i := 11) rfl)
theorem T_364 : Cond.code yX7_next cX7_next 3 (some .int) ∈ T0 := ax_c2 _ (List.mem_of_getElem? (i := 12) rfl)
theorem T_368 : Cond.code yX6_goes cX6_goes 2 (some .int) ∈ T0 := ax_c2 _ (List.mem_of_getElem? (i := 13) rfl)
theorem T_372 : Cond.code yX7_goes cX7_goes 2 (some .int) ∈ T0 := ax_c2 _ (List.mem_of_getElem? (i := 14) rfl)
theorem T_376 : Cond.code yX6_later cX6_later 6 (some .int) ∈ T0 := ax_c2 _ (List.mem_of_getElem? (i := 15) rfl)
theorem T_380 : Cond.code yX7_later cX7_later 6 (some .int) ∈ T0 := ax_c2 _ (List.mem_of_getElem? (i := 16) rfl)
theorem T_384 : Cond.code yX6_by cX6_by 4 (some .int) ∈ T0 := ax_c2 _ (List.mem_of_getElem? (i := 17) rfl)
theorem T_388 : Cond.code yX7_by cX7_by 4 (some .int) ∈ T0 := ax_c2 _ (List.mem_of_getElem? (i := 18) rfl)
theorem T_392 : Cond.code yX6_skew cX6_skew 9 (some .int) ∈ T0 := ax_c2 _ (List.mem_of_getElem? (i := 19) rfl)
theorem T_396 : Cond.code yX7_skew cX7_skew 6 (some .int) ∈ T0 := ax_c2 _ (List.mem_of_getElem? (i := 20) rfl)
theorem T_400 : Cond.code yX6_alone cX6_alone 4 (some .int) ∈ T0 := ax_c2 _ (List.mem_of_getElem? (i := 21) rfl)
theorem T_404 : Cond.code yX7_alone cX7_alone 4 (some .int) ∈ T0 := ax_c2 _ (List.mem_of_getElem? (i := 22) rfl)
theorem T_408 : Cond.code yX6_agrees cX6_agrees 4 (some .int) ∈ T0 := ax_c2 _ (List.mem_of_getElem? (i := 23) rfl)
theorem T_412 : Cond.code yX7_agrees cX7_agrees 3 (some .int) ∈ T0 := ax_c2 _ (List.mem_of_getElem? (i := 24) rfl)
theorem ax_c3 : ∀ w ∈ Tc3, w ∈ T0 := fun _ h => List.mem_append_left _ (List.mem_append_right _ (List.mem_append_right _ (List.mem_append_right _ (List.mem_append_left _ h))))
theorem T_416 : Cond.code yX6_likely cX6_likely 6 (some .int) ∈ T0 := ax_c3 _ (List.mem_of_getElem? (i := 0) rfl)
theorem T_420 : Cond.code yX7_likely cX7_likely 6 (some .int) ∈ T0 := ax_c3 _ (List.mem_of_getElem? (i := 1) rfl)
theorem T_424 : Cond.code yX6_tells cX6_tells 6 (some .int) ∈ T0 := ax_c3 _ (List.mem_of_getElem? (i := 2) rfl)
theorem T_428 : Cond.code yX7_tells cX7_tells 5 (some .int) ∈ T0 := ax_c3 _ (List.mem_of_getElem? (i := 3) rfl)
theorem T_432 : Cond.code yX6_cycles cX6_cycles 2 (some .int) ∈ T0 := ax_c3 _ (List.mem_of_getElem? (i := 4) rfl)
theorem T_436 : Cond.code yX7_cycles cX7_cycles 4 (some .int) ∈ T0 := ax_c3 _ (List.mem_of_getElem? (i := 5) rfl)
theorem T_440 : Cond.code yX6_poke cX6_poke 6 (some .int) ∈ T0 := ax_c3 _ (List.mem_of_getElem? (i := 6) rfl)
theorem T_444 : Cond.code yX7_poke cX7_poke 6 (some .int) ∈ T0 := ax_c3 _ (List.mem_of_getElem? (i := 7) rfl)
theorem T_448 : Cond.code yX6_set cX6_set 4 (some .boolean) ∈ T0 := ax_c3 _ (List.mem_of_getElem? (i := 8) rfl)
theorem T_452 : Cond.code yX7_set cX7_set 4 (some .boolean) ∈ T0 := ax_c3 _ (List.mem_of_getElem? (i := 9) rfl)
theorem T_456 : Cond.code yX6_begin cX6_begin 1 (some .boolean) ∈ T0 := ax_c3 _ (List.mem_of_getElem? (i := 10) rfl)
theorem T_460 : Cond.code yX7_begin cX7_begin 1 (some .boolean) ∈ T0 := ax_c3 _ (List.mem_of_getElem? (i := 11) rfl)
theorem T_464 : Cond.code yX6_chance cX6_chance 6 (some .int) ∈ T0 := ax_c3 _ (List.mem_of_getElem? (i := 12) rfl)
theorem T_468 : Cond.code yX7_chance cX7_chance 7 (some .int) ∈ T0 := ax_c3 _ (List.mem_of_getElem? (i := 13) rfl)
theorem T_472 : Cond.code yX6_undo cX6_undo 1 (some .boolean) ∈ T0 := ax_c3 _ (List.mem_of_getElem? (i := 14) rfl)
theorem T_476 : Cond.code yX7_undo cX7_undo 2 (some .boolean) ∈ T0 := ax_c3 _ (List.mem_of_getElem? (i := 15) rfl)
theorem T_480 : Cond.code yX6_seed cX6_seed 2 (some .boolean) ∈ T0 := ax_c3 _ (List.mem_of_getElem? (i := 16) rfl)
theorem T_484 : Cond.code yX7_seed cX7_seed 2 (some .boolean) ∈ T0 := ax_c3 _ (List.mem_of_getElem? (i := 17) rfl)
theorem T_488 : Cond.code yX6_status cX6_status 2 (some .int) ∈ T0 := ax_c3 _ (List.mem_of_getElem? (i := 18) rfl)
theorem T_492 : Cond.code yX7_status cX7_status 2 (some .int) ∈ T0 := ax_c3 _ (List.mem_of_getElem? (i := 19) rfl)
theorem T_499 : Cond.code yX6_init cX6_init 2 none ∈ T0 := ax_c3 _ (List.mem_of_getElem? (i := 20) rfl)
theorem T_503 : Cond.code yX7_init cX7_init 1 none ∈ T0 := ax_c3 _ (List.mem_of_getElem? (i := 21) rfl)
theorem ax_c4 : ∀ w ∈ Tc4, w ∈ T0 := fun _ h => List.mem_append_left _ (List.mem_append_right _ (List.mem_append_right _ (List.mem_append_right _ (List.mem_append_right _ (List.mem_append_left _ h)))))
theorem T_0 : Cond.methodLink RX5 3 objectInit ∈ T0 := ax_c4 _ (List.mem_of_getElem? (i := 0) rfl)
theorem T_1 : Cond.instanceMethod objectInit ∈ T0 := ax_c4 _ (List.mem_of_getElem? (i := 1) rfl)
theorem T_3 : Cond.arrayClass .int ∈ T0 := ax_c4 _ (List.mem_of_getElem? (i := 2) rfl)
theorem T_4 : Cond.fieldLink RX5 9 "LaneWarps$Warp" "registers" "[I" ∈ T0 := ax_c4 _ (List.mem_of_getElem? (i := 3) rfl)
theorem T_5 : Cond.fieldLink RX5 15 "LaneWarps$Warp" "lines" "[I" ∈ T0 := ax_c4 _ (List.mem_of_getElem? (i := 4) rfl)
theorem T_6 : Cond.fieldLink RX5 18 "LaneWarps$Warp" "partLine" "[I" ∈ T0 := ax_c4 _ (List.mem_of_getElem? (i := 5) rfl)
theorem T_7 : Cond.fieldLink RX5 21 "LaneWarps$Warp" "partMeets" "[I" ∈ T0 := ax_c4 _ (List.mem_of_getElem? (i := 6) rfl)
theorem T_8 : Cond.fieldLink RX5 24 "LaneWarps$Warp" "partLanes" "[I" ∈ T0 := ax_c4 _ (List.mem_of_getElem? (i := 7) rfl)
theorem T_9 : Cond.methodLink RX4 3 objectInit ∈ T0 := ax_c4 _ (List.mem_of_getElem? (i := 8) rfl)
theorem T_10 : Cond.classLink RX4 9 RX5 ∈ T0 := ax_c4 _ (List.mem_of_getElem? (i := 9) rfl)
theorem T_11 : Cond.fieldLink RX4 11 "LaneWarps$State" "warps" "[LLaneWarps$Warp;" ∈ T0 := ax_c4 _ (List.mem_of_getElem? (i := 10) rfl)
theorem T_12 : Cond.fieldLink RX4 17 "LaneWarps$State" "far" "[I" ∈ T0 := ax_c4 _ (List.mem_of_getElem? (i := 11) rfl)
theorem T_13 : Cond.fieldLink RX4 21 "LaneWarps$State" "near" "[I" ∈ T0 := ax_c4 _ (List.mem_of_getElem? (i := 12) rfl)
theorem T_14 : Cond.fieldLink RX4 24 "LaneWarps$State" "touched" "[I" ∈ T0 := ax_c4 _ (List.mem_of_getElem? (i := 13) rfl)
theorem T_15 : Cond.fieldLink RX4 27 "LaneWarps$State" "wrote" "[I" ∈ T0 := ax_c4 _ (List.mem_of_getElem? (i := 14) rfl)
theorem T_16 : Cond.fieldLink RX4 30 "LaneWarps$State" "raced" "[I" ∈ T0 := ax_c4 _ (List.mem_of_getElem? (i := 15) rfl)
theorem T_17 : Cond.fieldLink RX4 33 "LaneWarps$State" "kept" "[I" ∈ T0 := ax_c4 _ (List.mem_of_getElem? (i := 16) rfl)
theorem T_18 : Cond.fieldLink RX4 36 "LaneWarps$State" "last" "I" ∈ T0 := ax_c4 _ (List.mem_of_getElem? (i := 17) rfl)
theorem T_19 : Cond.instantiable RX5 11 ∈ T0 := ax_c4 _ (List.mem_of_getElem? (i := 18) rfl)
theorem T_20 : Cond.initialized RX5 ∈ T0 := ax_c4 _ (List.mem_of_getElem? (i := 19) rfl)
theorem T_22 : Cond.instanceMethod yX5_init ∈ T0 := ax_c4 _ (List.mem_of_getElem? (i := 20) rfl)
theorem T_23 : Cond.methodLink RX1 3 objectInit ∈ T0 := ax_c4 _ (List.mem_of_getElem? (i := 21) rfl)
theorem T_24 : Cond.fieldLink RX1 9 "LaneWarps$Machine" "addresses" "[I" ∈ T0 := ax_c4 _ (List.mem_of_getElem? (i := 22) rfl)
theorem T_25 : Cond.fieldLink RX1 15 "LaneWarps$Machine" "inBank" "[I" ∈ T0 := ax_c4 _ (List.mem_of_getElem? (i := 23) rfl)
theorem T_26 : Cond.fieldLink RX1 18 "LaneWarps$Machine" "program" "LLaneWarps$Program;" ∈ T0 := ax_c4 _ (List.mem_of_getElem? (i := 24) rfl)
theorem T_27 : Cond.methodLink RX2 3 objectInit ∈ T0 := ax_c4 _ (List.mem_of_getElem? (i := 25) rfl)
theorem T_28 : Cond.classLink RX2 9 "[[I" ∈ T0 := ax_c4 _ (List.mem_of_getElem? (i := 26) rfl)
theorem T_29 : Cond.fieldLink RX2 11 "LaneWarps$Program" "rows" "[[I" ∈ T0 := ax_c4 _ (List.mem_of_getElem? (i := 27) rfl)
theorem T_30 : Cond.fieldLink RX2 16 "LaneWarps$Program" "far" "[I" ∈ T0 := ax_c4 _ (List.mem_of_getElem? (i := 28) rfl)
theorem T_31 : Cond.arrayClass .long ∈ T0 := ax_c4 _ (List.mem_of_getElem? (i := 29) rfl)
theorem T_32 : Cond.fieldLink RX2 20 "LaneWarps$Program" "passed" "[J" ∈ T0 := ax_c4 _ (List.mem_of_getElem? (i := 30) rfl)
theorem T_33 : Cond.methodLink RX3 3 objectInit ∈ T0 := ax_c4 _ (List.mem_of_getElem? (i := 31) rfl)
theorem T_34 : Cond.fieldLink RX3 9 "LaneWarps$Reader" "nameAt" "[I" ∈ T0 := ax_c4 _ (List.mem_of_getElem? (i := 32) rfl)
theorem T_35 : Cond.fieldLink RX3 15 "LaneWarps$Reader" "nameEnd" "[I" ∈ T0 := ax_c4 _ (List.mem_of_getElem? (i := 33) rfl)
theorem T_36 : Cond.fieldLink RX3 18 "LaneWarps$Reader" "aimAt" "[I" ∈ T0 := ax_c4 _ (List.mem_of_getElem? (i := 34) rfl)
theorem T_37 : Cond.fieldLink RX3 21 "LaneWarps$Reader" "aimEnd" "[I" ∈ T0 := ax_c4 _ (List.mem_of_getElem? (i := 35) rfl)
theorem T_38 : Cond.fieldLink RX3 24 "LaneWarps$Reader" "place" "I" ∈ T0 := ax_c4 _ (List.mem_of_getElem? (i := 36) rfl)
theorem T_39 : Cond.methodLink RX0 3 objectInit ∈ T0 := ax_c4 _ (List.mem_of_getElem? (i := 37) rfl)
theorem T_40 : Cond.classLink RX0 9 RX1 ∈ T0 := ax_c4 _ (List.mem_of_getElem? (i := 38) rfl)
theorem T_41 : Cond.instantiable RX1 12 ∈ T0 := ax_c4 _ (List.mem_of_getElem? (i := 39) rfl)
theorem ax_c5 : ∀ w ∈ Tc5, w ∈ T0 := fun _ h => List.mem_append_left _ (List.mem_append_right _ (List.mem_append_right _ (List.mem_append_right _ (List.mem_append_right _ (List.mem_append_right _ (List.mem_append_left _ h))))))
theorem T_42 : Cond.initialized RX1 ∈ T0 := ax_c5 _ (List.mem_of_getElem? (i := 0) rfl)
theorem T_44 : Cond.instanceMethod yX1_init ∈ T0 := ax_c5 _ (List.mem_of_getElem? (i := 1) rfl)
theorem T_45 : Cond.fieldLink RX0 12 "LaneWarps$Forecast" "machine" "LLaneWarps$Machine;" ∈ T0 := ax_c5 _ (List.mem_of_getElem? (i := 2) rfl)
theorem T_46 : Cond.classLink RX0 18 RX4 ∈ T0 := ax_c5 _ (List.mem_of_getElem? (i := 3) rfl)
theorem T_47 : Cond.instantiable RX4 15 ∈ T0 := ax_c5 _ (List.mem_of_getElem? (i := 4) rfl)
theorem T_48 : Cond.initialized RX4 ∈ T0 := ax_c5 _ (List.mem_of_getElem? (i := 5) rfl)
theorem T_50 : Cond.methodLink RX0 20 yX4_init ∈ T0 := ax_c5 _ (List.mem_of_getElem? (i := 6) rfl)
theorem T_51 : Cond.instanceMethod yX4_init ∈ T0 := ax_c5 _ (List.mem_of_getElem? (i := 7) rfl)
theorem T_52 : Cond.fieldLink RX0 21 "LaneWarps$Forecast" "origin" "LLaneWarps$State;" ∈ T0 := ax_c5 _ (List.mem_of_getElem? (i := 8) rfl)
theorem T_53 : Cond.fieldLink RX0 25 "LaneWarps$Forecast" "scout" "LLaneWarps$State;" ∈ T0 := ax_c5 _ (List.mem_of_getElem? (i := 9) rfl)
theorem T_54 : Cond.fieldLink RX0 28 "LaneWarps$Forecast" "trail" "LLaneWarps$State;" ∈ T0 := ax_c5 _ (List.mem_of_getElem? (i := 10) rfl)
theorem T_55 : Cond.fieldLink RX0 31 "LaneWarps$Forecast" "courses" "[I" ∈ T0 := ax_c5 _ (List.mem_of_getElem? (i := 11) rfl)
theorem T_56 : Cond.fieldLink RX0 35 "LaneWarps$Forecast" "ends" "[I" ∈ T0 := ax_c5 _ (List.mem_of_getElem? (i := 12) rfl)
theorem T_57 : Cond.fieldLink RX0 38 "LaneWarps$Forecast" "solos" "[I" ∈ T0 := ax_c5 _ (List.mem_of_getElem? (i := 13) rfl)
theorem T_58 : Cond.fieldLink RX0 41 "LaneWarps$Forecast" "program" "LLaneWarps$Program;" ∈ T0 := ax_c5 _ (List.mem_of_getElem? (i := 14) rfl)
theorem T_60 : Cond.methodLink RX0 45 yX1_take ∈ T0 := ax_c5 _ (List.mem_of_getElem? (i := 15) rfl)
theorem T_61 : Cond.instanceMethod yX1_take ∈ T0 := ax_c5 _ (List.mem_of_getElem? (i := 16) rfl)
theorem T_62 : Cond.selects RX1 yX1_take yX1_take ∈ T0 := ax_c5 _ (List.mem_of_getElem? (i := 17) rfl)
theorem T_63 : Cond.fieldLink RX0 49 "LaneWarps$Forecast" "coursesKnown" "I" ∈ T0 := ax_c5 _ (List.mem_of_getElem? (i := 18) rfl)
theorem T_64 : Cond.fieldLink RX0 53 "LaneWarps$Forecast" "endsKnown" "J" ∈ T0 := ax_c5 _ (List.mem_of_getElem? (i := 19) rfl)
theorem T_65 : Cond.fieldLink RX0 57 "LaneWarps$Forecast" "solosKnown" "I" ∈ T0 := ax_c5 _ (List.mem_of_getElem? (i := 20) rfl)
theorem T_66 : Cond.methodLink RX6 3 objectInit ∈ T0 := ax_c5 _ (List.mem_of_getElem? (i := 21) rfl)
theorem T_67 : Cond.arrayClass .byte ∈ T0 := ax_c5 _ (List.mem_of_getElem? (i := 22) rfl)
theorem T_68 : Cond.fieldLink RX6 9 "LaneWarps" "tape" "[B" ∈ T0 := ax_c5 _ (List.mem_of_getElem? (i := 23) rfl)
theorem T_69 : Cond.classLink RX6 13 RX3 ∈ T0 := ax_c5 _ (List.mem_of_getElem? (i := 24) rfl)
theorem T_70 : Cond.instantiable RX3 15 ∈ T0 := ax_c5 _ (List.mem_of_getElem? (i := 25) rfl)
theorem T_71 : Cond.initialized RX3 ∈ T0 := ax_c5 _ (List.mem_of_getElem? (i := 26) rfl)
theorem T_73 : Cond.instanceMethod yX3_init ∈ T0 := ax_c5 _ (List.mem_of_getElem? (i := 27) rfl)
theorem T_74 : Cond.fieldLink RX6 16 "LaneWarps" "reader" "LLaneWarps$Reader;" ∈ T0 := ax_c5 _ (List.mem_of_getElem? (i := 28) rfl)
theorem T_75 : Cond.classLink RX6 20 RX2 ∈ T0 := ax_c5 _ (List.mem_of_getElem? (i := 29) rfl)
theorem T_76 : Cond.instantiable RX2 7 ∈ T0 := ax_c5 _ (List.mem_of_getElem? (i := 30) rfl)
theorem T_77 : Cond.initialized RX2 ∈ T0 := ax_c5 _ (List.mem_of_getElem? (i := 31) rfl)
theorem T_79 : Cond.instanceMethod yX2_init ∈ T0 := ax_c5 _ (List.mem_of_getElem? (i := 32) rfl)
theorem T_80 : Cond.fieldLink RX6 23 "LaneWarps" "current" "LLaneWarps$Program;" ∈ T0 := ax_c5 _ (List.mem_of_getElem? (i := 33) rfl)
theorem T_81 : Cond.fieldLink RX6 27 "LaneWarps" "spare" "LLaneWarps$Program;" ∈ T0 := ax_c5 _ (List.mem_of_getElem? (i := 34) rfl)
theorem T_82 : Cond.classLink RX6 30 RX4 ∈ T0 := ax_c5 _ (List.mem_of_getElem? (i := 35) rfl)
theorem T_83 : Cond.methodLink RX6 32 yX4_init ∈ T0 := ax_c5 _ (List.mem_of_getElem? (i := 36) rfl)
theorem T_84 : Cond.fieldLink RX6 33 "LaneWarps" "now" "LLaneWarps$State;" ∈ T0 := ax_c5 _ (List.mem_of_getElem? (i := 37) rfl)
theorem T_85 : Cond.fieldLink RX6 37 "LaneWarps" "past" "[LLaneWarps$State;" ∈ T0 := ax_c5 _ (List.mem_of_getElem? (i := 38) rfl)
theorem T_86 : Cond.classLink RX6 41 RX1 ∈ T0 := ax_c5 _ (List.mem_of_getElem? (i := 39) rfl)
theorem ax_c6 : ∀ w ∈ Tc6, w ∈ T0 := fun _ h => List.mem_append_left _ (List.mem_append_right _ (List.mem_append_right _ (List.mem_append_right _ (List.mem_append_right _ (List.mem_append_right _ (List.mem_append_right _ (List.mem_append_left _ h)))))))
theorem T_87 : Cond.fieldLink RX6 44 "LaneWarps" "machine" "LLaneWarps$Machine;" ∈ T0 := ax_c6 _ (List.mem_of_getElem? (i := 0) rfl)
theorem T_88 : Cond.classLink RX6 48 RX0 ∈ T0 := ax_c6 _ (List.mem_of_getElem? (i := 1) rfl)
theorem T_89 : Cond.instantiable RX0 14 ∈ T0 := ax_c6 _ (List.mem_of_getElem? (i := 2) rfl)
theorem T_90 : Cond.initialized RX0 ∈ T0 := ax_c6 _ (List.mem_of_getElem? (i := 3) rfl)
theorem T_92 : Cond.instanceMethod yX0_init ∈ T0 := ax_c6 _ (List.mem_of_getElem? (i := 4) rfl)
theorem T_93 : Cond.fieldLink RX6 51 "LaneWarps" "forecast" "LLaneWarps$Forecast;" ∈ T0 := ax_c6 _ (List.mem_of_getElem? (i := 5) rfl)
theorem T_94 : Cond.fieldLink RX6 55 "LaneWarps" "refused" "[I" ∈ T0 := ax_c6 _ (List.mem_of_getElem? (i := 6) rfl)
theorem T_95 : Cond.fieldLink RX6 59 "LaneWarps" "drawn" "J" ∈ T0 := ax_c6 _ (List.mem_of_getElem? (i := 7) rfl)
theorem T_96 : Cond.methodLink RX6 63 yX1_take ∈ T0 := ax_c6 _ (List.mem_of_getElem? (i := 8) rfl)
theorem T_98 : Cond.methodLink RX6 67 yX0_take ∈ T0 := ax_c6 _ (List.mem_of_getElem? (i := 9) rfl)
theorem T_99 : Cond.instanceMethod yX0_take ∈ T0 := ax_c6 _ (List.mem_of_getElem? (i := 10) rfl)
theorem T_100 : Cond.selects RX0 yX0_take yX0_take ∈ T0 := ax_c6 _ (List.mem_of_getElem? (i := 11) rfl)
theorem T_101 : Cond.fieldLink RX6 68 "LaneWarps" "bytes" "I" ∈ T0 := ax_c6 _ (List.mem_of_getElem? (i := 12) rfl)
theorem T_103 : Cond.methodLink RX6 76 yX6_layBytes ∈ T0 := ax_c6 _ (List.mem_of_getElem? (i := 13) rfl)
theorem T_104 : Cond.instanceMethod yX6_layBytes ∈ T0 := ax_c6 _ (List.mem_of_getElem? (i := 14) rfl)
theorem T_105 : Cond.selects RX6 yX6_layBytes yX6_layBytes ∈ T0 := ax_c6 _ (List.mem_of_getElem? (i := 15) rfl)
theorem T_106 : Cond.initialized RX6 ∈ T0 := ax_c6 _ (List.mem_of_getElem? (i := 16) rfl)
theorem T_108 : Cond.methodLink RX6 72 yX6_refuse ∈ T0 := ax_c6 _ (List.mem_of_getElem? (i := 17) rfl)
theorem T_109 : Cond.instanceMethod yX6_refuse ∈ T0 := ax_c6 _ (List.mem_of_getElem? (i := 18) rfl)
theorem T_110 : Cond.selects RX6 yX6_refuse yX6_refuse ∈ T0 := ax_c6 _ (List.mem_of_getElem? (i := 19) rfl)
theorem T_112 : Cond.initialized RJ7 ∈ T0 := ax_c6 _ (List.mem_of_getElem? (i := 20) rfl)
theorem T_113 : Cond.methodLink RX2 24 yJ7_fill_53178 ∈ T0 := ax_c6 _ (List.mem_of_getElem? (i := 21) rfl)
theorem T_114 : Cond.static yJ7_fill_53178 ∈ T0 := ax_c6 _ (List.mem_of_getElem? (i := 22) rfl)
theorem T_115 : Cond.fieldLink RX2 30 "LaneWarps$Program" "lines" "I" ∈ T0 := ax_c6 _ (List.mem_of_getElem? (i := 23) rfl)
theorem T_116 : Cond.fieldLink RX2 34 "LaneWarps$Program" "warps" "I" ∈ T0 := ax_c6 _ (List.mem_of_getElem? (i := 24) rfl)
theorem T_117 : Cond.fieldLink RX2 37 "LaneWarps$Program" "mode" "I" ∈ T0 := ax_c6 _ (List.mem_of_getElem? (i := 25) rfl)
theorem T_118 : Cond.fieldLink RX2 40 "LaneWarps$Program" "order" "I" ∈ T0 := ax_c6 _ (List.mem_of_getElem? (i := 26) rfl)
theorem T_119 : Cond.fieldLink RX3 44 "LaneWarps$Reader" "kind" "I" ∈ T0 := ax_c6 _ (List.mem_of_getElem? (i := 27) rfl)
theorem T_120 : Cond.fieldLink RX3 47 "LaneWarps$Reader" "to" "I" ∈ T0 := ax_c6 _ (List.mem_of_getElem? (i := 28) rfl)
theorem T_121 : Cond.fieldLink RX3 71 "LaneWarps$Reader" "from" "I" ∈ T0 := ax_c6 _ (List.mem_of_getElem? (i := 29) rfl)
theorem T_122 : Cond.fieldLink RX3 32 "LaneWarps$Reader" "length" "I" ∈ T0 := ax_c6 _ (List.mem_of_getElem? (i := 30) rfl)
theorem T_123 : Cond.fieldLink RX3 74 "LaneWarps$Reader" "own" "I" ∈ T0 := ax_c6 _ (List.mem_of_getElem? (i := 31) rfl)
theorem T_124 : Cond.fieldLink RX3 50 "LaneWarps$Reader" "fault" "I" ∈ T0 := ax_c6 _ (List.mem_of_getElem? (i := 32) rfl)
theorem T_125 : Cond.fieldLink RX3 28 "LaneWarps$Reader" "text" "[B" ∈ T0 := ax_c6 _ (List.mem_of_getElem? (i := 33) rfl)
theorem T_126 : Cond.fieldLink RX3 35 "LaneWarps$Reader" "into" "LLaneWarps$Program;" ∈ T0 := ax_c6 _ (List.mem_of_getElem? (i := 34) rfl)
theorem T_128 : Cond.methodLink RX3 39 yX2_clear ∈ T0 := ax_c6 _ (List.mem_of_getElem? (i := 35) rfl)
theorem T_129 : Cond.instanceMethod yX2_clear ∈ T0 := ax_c6 _ (List.mem_of_getElem? (i := 36) rfl)
theorem T_130 : Cond.selects RX2 yX2_clear yX2_clear ∈ T0 := ax_c6 _ (List.mem_of_getElem? (i := 37) rfl)
theorem T_132 : Cond.methodLink RX3 53 yX3_scan ∈ T0 := ax_c6 _ (List.mem_of_getElem? (i := 38) rfl)
theorem T_133 : Cond.instanceMethod yX3_scan ∈ T0 := ax_c6 _ (List.mem_of_getElem? (i := 39) rfl)
theorem ax_c7 : ∀ w ∈ Tc7, w ∈ T0 := fun _ h => List.mem_append_left _ (List.mem_append_right _ (List.mem_append_right _ (List.mem_append_right _ (List.mem_append_right _ (List.mem_append_right _ (List.mem_append_right _ (List.mem_append_right _ (List.mem_append_left _ h))))))))
theorem T_134 : Cond.selects RX3 yX3_scan yX3_scan ∈ T0 := ax_c7 _ (List.mem_of_getElem? (i := 0) rfl)
theorem T_136 : Cond.methodLink RX3 63 yX3_fail ∈ T0 := ax_c7 _ (List.mem_of_getElem? (i := 1) rfl)
theorem T_137 : Cond.instanceMethod yX3_fail ∈ T0 := ax_c7 _ (List.mem_of_getElem? (i := 2) rfl)
theorem T_138 : Cond.selects RX3 yX3_fail yX3_fail ∈ T0 := ax_c7 _ (List.mem_of_getElem? (i := 3) rfl)
theorem T_140 : Cond.methodLink RX6 80 yX3_read ∈ T0 := ax_c7 _ (List.mem_of_getElem? (i := 4) rfl)
theorem T_141 : Cond.instanceMethod yX3_read ∈ T0 := ax_c7 _ (List.mem_of_getElem? (i := 5) rfl)
theorem T_142 : Cond.selects RX3 yX3_read yX3_read ∈ T0 := ax_c7 _ (List.mem_of_getElem? (i := 6) rfl)
theorem T_143 : Cond.fieldLink RX6 87 "LaneWarps" "told" "Z" ∈ T0 := ax_c7 _ (List.mem_of_getElem? (i := 7) rfl)
theorem T_145 : Cond.methodLink RX6 181 yX6_hasWarp ∈ T0 := ax_c7 _ (List.mem_of_getElem? (i := 8) rfl)
theorem T_146 : Cond.instanceMethod yX6_hasWarp ∈ T0 := ax_c7 _ (List.mem_of_getElem? (i := 9) rfl)
theorem T_147 : Cond.selects RX6 yX6_hasWarp yX6_hasWarp ∈ T0 := ax_c7 _ (List.mem_of_getElem? (i := 10) rfl)
theorem T_148 : Cond.constant RX6 155 (-1000000) ∈ T0 := ax_c7 _ (List.mem_of_getElem? (i := 11) rfl)
theorem T_150 : Cond.methodLink RX6 160 yX6_hasLane ∈ T0 := ax_c7 _ (List.mem_of_getElem? (i := 12) rfl)
theorem T_151 : Cond.instanceMethod yX6_hasLane ∈ T0 := ax_c7 _ (List.mem_of_getElem? (i := 13) rfl)
theorem T_152 : Cond.selects RX6 yX6_hasLane yX6_hasLane ∈ T0 := ax_c7 _ (List.mem_of_getElem? (i := 14) rfl)
theorem T_154 : Cond.methodLink RX6 207 yX6_hasWord ∈ T0 := ax_c7 _ (List.mem_of_getElem? (i := 15) rfl)
theorem T_155 : Cond.instanceMethod yX6_hasWord ∈ T0 := ax_c7 _ (List.mem_of_getElem? (i := 16) rfl)
theorem T_156 : Cond.selects RX6 yX6_hasWord yX6_hasWord ∈ T0 := ax_c7 _ (List.mem_of_getElem? (i := 17) rfl)
theorem T_157 : Cond.methodLink RX6 135 Lib.Math.min.name ∈ T0 := ax_c7 _ (List.mem_of_getElem? (i := 18) rfl)
theorem T_158 : Cond.static Lib.Math.min.name ∈ T0 := ax_c7 _ (List.mem_of_getElem? (i := 19) rfl)
theorem T_159 : Cond.initialized "java/lang/Math" ∈ T0 := ax_c7 _ (List.mem_of_getElem? (i := 20) rfl)
theorem T_161 : Cond.fieldLink RX6 104 "LaneWarps" "acts" "I" ∈ T0 := ax_c7 _ (List.mem_of_getElem? (i := 21) rfl)
theorem T_162 : Cond.methodLink RX7 1 objectInit ∈ T0 := ax_c7 _ (List.mem_of_getElem? (i := 22) rfl)
theorem T_163 : Cond.fieldLink RX7 7 "LaneWarpsModel" "tape" "[I" ∈ T0 := ax_c7 _ (List.mem_of_getElem? (i := 23) rfl)
theorem T_164 : Cond.fieldLink RX7 13 "LaneWarpsModel" "faultPlace" "I" ∈ T0 := ax_c7 _ (List.mem_of_getElem? (i := 24) rfl)
theorem T_165 : Cond.fieldLink RX7 17 "LaneWarpsModel" "refused" "[I" ∈ T0 := ax_c7 _ (List.mem_of_getElem? (i := 25) rfl)
theorem T_166 : Cond.arrayClass .char ∈ T0 := ax_c7 _ (List.mem_of_getElem? (i := 26) rfl)
theorem T_167 : Cond.fieldLink RX7 20 "LaneWarpsModel" "own" "[C" ∈ T0 := ax_c7 _ (List.mem_of_getElem? (i := 27) rfl)
theorem T_168 : Cond.fieldLink RX7 24 "LaneWarpsModel" "draft" "[I" ∈ T0 := ax_c7 _ (List.mem_of_getElem? (i := 28) rfl)
theorem T_169 : Cond.fieldLink RX7 27 "LaneWarpsModel" "program" "[I" ∈ T0 := ax_c7 _ (List.mem_of_getElem? (i := 29) rfl)
theorem T_170 : Cond.fieldLink RX7 30 "LaneWarpsModel" "goPlace" "[I" ∈ T0 := ax_c7 _ (List.mem_of_getElem? (i := 30) rfl)
theorem T_171 : Cond.arrayClass .boolean ∈ T0 := ax_c7 _ (List.mem_of_getElem? (i := 31) rfl)
theorem T_172 : Cond.fieldLink RX7 33 "LaneWarpsModel" "isCome" "[Z" ∈ T0 := ax_c7 _ (List.mem_of_getElem? (i := 32) rfl)
theorem T_173 : Cond.fieldLink RX7 37 "LaneWarpsModel" "heap" "[I" ∈ T0 := ax_c7 _ (List.mem_of_getElem? (i := 33) rfl)
theorem T_174 : Cond.fieldLink RX7 40 "LaneWarpsModel" "now" "[I" ∈ T0 := ax_c7 _ (List.mem_of_getElem? (i := 34) rfl)
theorem T_175 : Cond.fieldLink RX7 43 "LaneWarpsModel" "first" "[I" ∈ T0 := ax_c7 _ (List.mem_of_getElem? (i := 35) rfl)
theorem T_176 : Cond.fieldLink RX7 46 "LaneWarpsModel" "second" "[I" ∈ T0 := ax_c7 _ (List.mem_of_getElem? (i := 36) rfl)
theorem T_177 : Cond.fieldLink RX7 49 "LaneWarpsModel" "behind" "[I" ∈ T0 := ax_c7 _ (List.mem_of_getElem? (i := 37) rfl)
theorem T_178 : Cond.constant RX7 52 (191277) ∈ T0 := ax_c7 _ (List.mem_of_getElem? (i := 38) rfl)
theorem T_179 : Cond.fieldLink RX7 53 "LaneWarpsModel" "states" "[I" ∈ T0 := ax_c7 _ (List.mem_of_getElem? (i := 39) rfl)
theorem ax_c8 : ∀ w ∈ Tc8, w ∈ T0 := fun _ h => List.mem_append_left _ (List.mem_append_right _ (List.mem_append_right _ (List.mem_append_right _ (List.mem_append_right _ (List.mem_append_right _ (List.mem_append_right _ (List.mem_append_right _ (List.mem_append_right _ (List.mem_append_left _ h)))))))))
theorem T_180 : Cond.fieldLink RX7 56 "LaneWarpsModel" "alone0" "[I" ∈ T0 := ax_c8 _ (List.mem_of_getElem? (i := 0) rfl)
theorem T_181 : Cond.fieldLink RX7 59 "LaneWarpsModel" "endsBy" "[I" ∈ T0 := ax_c8 _ (List.mem_of_getElem? (i := 1) rfl)
theorem T_182 : Cond.fieldLink RX7 62 "LaneWarpsModel" "kept0" "[I" ∈ T0 := ax_c8 _ (List.mem_of_getElem? (i := 2) rfl)
theorem T_183 : Cond.fieldLink RX7 65 "LaneWarpsModel" "seeded" "J" ∈ T0 := ax_c8 _ (List.mem_of_getElem? (i := 3) rfl)
theorem T_184 : Cond.fieldLink RX7 69 "LaneWarpsModel" "taped" "I" ∈ T0 := ax_c8 _ (List.mem_of_getElem? (i := 4) rfl)
theorem T_186 : Cond.methodLink RX7 76 yX7_isRefused ∈ T0 := ax_c8 _ (List.mem_of_getElem? (i := 5) rfl)
theorem T_187 : Cond.instanceMethod yX7_isRefused ∈ T0 := ax_c8 _ (List.mem_of_getElem? (i := 6) rfl)
theorem T_188 : Cond.selects RX7 yX7_isRefused yX7_isRefused ∈ T0 := ax_c8 _ (List.mem_of_getElem? (i := 7) rfl)
theorem T_189 : Cond.initialized RX7 ∈ T0 := ax_c8 _ (List.mem_of_getElem? (i := 8) rfl)
theorem T_190 : Cond.constantLong RX7 80 (5) ∈ T0 := ax_c8 _ (List.mem_of_getElem? (i := 9) rfl)
theorem T_192 : Cond.methodLink RX7 82 yX7_isIn ∈ T0 := ax_c8 _ (List.mem_of_getElem? (i := 10) rfl)
theorem T_193 : Cond.static yX7_isIn ∈ T0 := ax_c8 _ (List.mem_of_getElem? (i := 11) rfl)
theorem T_194 : Cond.fieldLink RX7 86 "LaneWarpsModel" "fault" "I" ∈ T0 := ax_c8 _ (List.mem_of_getElem? (i := 12) rfl)
theorem T_195 : Cond.constantLong RX7 384 (13) ∈ T0 := ax_c8 _ (List.mem_of_getElem? (i := 13) rfl)
theorem T_196 : Cond.fieldLink RX7 215 "LaneWarpsModel" "isTold" "Z" ∈ T0 := ax_c8 _ (List.mem_of_getElem? (i := 14) rfl)
theorem T_197 : Cond.fieldLink RX7 95 "LaneWarpsModel" "at" "I" ∈ T0 := ax_c8 _ (List.mem_of_getElem? (i := 15) rfl)
theorem T_198 : Cond.fieldLink RX7 98 "LaneWarpsModel" "end" "I" ∈ T0 := ax_c8 _ (List.mem_of_getElem? (i := 16) rfl)
theorem T_199 : Cond.fieldLink RX7 89 "LaneWarpsModel" "bad" "I" ∈ T0 := ax_c8 _ (List.mem_of_getElem? (i := 17) rfl)
theorem T_201 : Cond.methodLink RX7 101 yX7_look ∈ T0 := ax_c8 _ (List.mem_of_getElem? (i := 18) rfl)
theorem T_202 : Cond.instanceMethod yX7_look ∈ T0 := ax_c8 _ (List.mem_of_getElem? (i := 19) rfl)
theorem T_203 : Cond.selects RX7 yX7_look yX7_look ∈ T0 := ax_c8 _ (List.mem_of_getElem? (i := 20) rfl)
theorem T_205 : Cond.methodLink RX7 105 yX7_isLetter ∈ T0 := ax_c8 _ (List.mem_of_getElem? (i := 21) rfl)
theorem T_206 : Cond.static yX7_isLetter ∈ T0 := ax_c8 _ (List.mem_of_getElem? (i := 22) rfl)
theorem T_208 : Cond.methodLink RX7 121 yX7_isWordHere ∈ T0 := ax_c8 _ (List.mem_of_getElem? (i := 23) rfl)
theorem T_209 : Cond.instanceMethod yX7_isWordHere ∈ T0 := ax_c8 _ (List.mem_of_getElem? (i := 24) rfl)
theorem T_210 : Cond.selects RX7 yX7_isWordHere yX7_isWordHere ∈ T0 := ax_c8 _ (List.mem_of_getElem? (i := 25) rfl)
theorem T_212 : Cond.methodLink RX7 129 yX7_ownHere ∈ T0 := ax_c8 _ (List.mem_of_getElem? (i := 26) rfl)
theorem T_213 : Cond.instanceMethod yX7_ownHere ∈ T0 := ax_c8 _ (List.mem_of_getElem? (i := 27) rfl)
theorem T_214 : Cond.selects RX7 yX7_ownHere yX7_ownHere ∈ T0 := ax_c8 _ (List.mem_of_getElem? (i := 28) rfl)
theorem T_215 : Cond.fieldLink RX7 92 "LaneWarpsModel" "badPlace" "I" ∈ T0 := ax_c8 _ (List.mem_of_getElem? (i := 29) rfl)
theorem T_217 : Cond.methodLink RX7 135 yX7_takes ∈ T0 := ax_c8 _ (List.mem_of_getElem? (i := 30) rfl)
theorem T_218 : Cond.instanceMethod yX7_takes ∈ T0 := ax_c8 _ (List.mem_of_getElem? (i := 31) rfl)
theorem T_219 : Cond.selects RX7 yX7_takes yX7_takes ∈ T0 := ax_c8 _ (List.mem_of_getElem? (i := 32) rfl)
theorem T_221 : Cond.methodLink RX7 114 yX7_fail ∈ T0 := ax_c8 _ (List.mem_of_getElem? (i := 33) rfl)
theorem T_222 : Cond.instanceMethod yX7_fail ∈ T0 := ax_c8 _ (List.mem_of_getElem? (i := 34) rfl)
theorem T_223 : Cond.selects RX7 yX7_fail yX7_fail ∈ T0 := ax_c8 _ (List.mem_of_getElem? (i := 35) rfl)
theorem T_225 : Cond.methodLink RX7 141 yX7_drafted ∈ T0 := ax_c8 _ (List.mem_of_getElem? (i := 36) rfl)
theorem T_226 : Cond.instanceMethod yX7_drafted ∈ T0 := ax_c8 _ (List.mem_of_getElem? (i := 37) rfl)
theorem T_227 : Cond.selects RX7 yX7_drafted yX7_drafted ∈ T0 := ax_c8 _ (List.mem_of_getElem? (i := 38) rfl)
theorem T_228 : Cond.fieldLink RX7 108 "LaneWarpsModel" "ended" "I" ∈ T0 := ax_c8 _ (List.mem_of_getElem? (i := 39) rfl)
theorem ax_c9 : ∀ w ∈ Tc9, w ∈ T0 := fun _ h => List.mem_append_left _ (List.mem_append_right _ (List.mem_append_right _ (List.mem_append_right _ (List.mem_append_right _ (List.mem_append_right _ (List.mem_append_right _ (List.mem_append_right _ (List.mem_append_right _ (List.mem_append_right _ (List.mem_append_left _ h))))))))))
theorem T_230 : Cond.methodLink RX7 196 yX7_asks ∈ T0 := ax_c9 _ (List.mem_of_getElem? (i := 0) rfl)
theorem T_231 : Cond.instanceMethod yX7_asks ∈ T0 := ax_c9 _ (List.mem_of_getElem? (i := 1) rfl)
theorem T_232 : Cond.selects RX7 yX7_asks yX7_asks ∈ T0 := ax_c9 _ (List.mem_of_getElem? (i := 2) rfl)
theorem T_234 : Cond.methodLink RX7 152 yX7_number ∈ T0 := ax_c9 _ (List.mem_of_getElem? (i := 3) rfl)
theorem T_235 : Cond.instanceMethod yX7_number ∈ T0 := ax_c9 _ (List.mem_of_getElem? (i := 4) rfl)
theorem T_236 : Cond.selects RX7 yX7_number yX7_number ∈ T0 := ax_c9 _ (List.mem_of_getElem? (i := 5) rfl)
theorem T_238 : Cond.methodLink RX7 182 yX7_asksSign ∈ T0 := ax_c9 _ (List.mem_of_getElem? (i := 6) rfl)
theorem T_239 : Cond.instanceMethod yX7_asksSign ∈ T0 := ax_c9 _ (List.mem_of_getElem? (i := 7) rfl)
theorem T_240 : Cond.selects RX7 yX7_asksSign yX7_asksSign ∈ T0 := ax_c9 _ (List.mem_of_getElem? (i := 8) rfl)
theorem T_241 : Cond.fieldLink RX7 189 "LaneWarpsModel" "statements" "I" ∈ T0 := ax_c9 _ (List.mem_of_getElem? (i := 9) rfl)
theorem T_243 : Cond.methodLink RX7 206 yX7_joins ∈ T0 := ax_c9 _ (List.mem_of_getElem? (i := 10) rfl)
theorem T_244 : Cond.instanceMethod yX7_joins ∈ T0 := ax_c9 _ (List.mem_of_getElem? (i := 11) rfl)
theorem T_245 : Cond.selects RX7 yX7_joins yX7_joins ∈ T0 := ax_c9 _ (List.mem_of_getElem? (i := 12) rfl)
theorem T_247 : Cond.methodLink RX7 72 yX7_refuses ∈ T0 := ax_c9 _ (List.mem_of_getElem? (i := 13) rfl)
theorem T_248 : Cond.instanceMethod yX7_refuses ∈ T0 := ax_c9 _ (List.mem_of_getElem? (i := 14) rfl)
theorem T_249 : Cond.selects RX7 yX7_refuses yX7_refuses ∈ T0 := ax_c9 _ (List.mem_of_getElem? (i := 15) rfl)
theorem T_251 : Cond.methodLink RX7 391 yX7_isWarp ∈ T0 := ax_c9 _ (List.mem_of_getElem? (i := 16) rfl)
theorem T_252 : Cond.instanceMethod yX7_isWarp ∈ T0 := ax_c9 _ (List.mem_of_getElem? (i := 17) rfl)
theorem T_253 : Cond.selects RX7 yX7_isWarp yX7_isWarp ∈ T0 := ax_c9 _ (List.mem_of_getElem? (i := 18) rfl)
theorem T_254 : Cond.constant RX7 167 (-1000000) ∈ T0 := ax_c9 _ (List.mem_of_getElem? (i := 19) rfl)
theorem T_256 : Cond.methodLink RX7 396 yX7_isLane ∈ T0 := ax_c9 _ (List.mem_of_getElem? (i := 20) rfl)
theorem T_257 : Cond.instanceMethod yX7_isLane ∈ T0 := ax_c9 _ (List.mem_of_getElem? (i := 21) rfl)
theorem T_258 : Cond.selects RX7 yX7_isLane yX7_isLane ∈ T0 := ax_c9 _ (List.mem_of_getElem? (i := 22) rfl)
theorem T_260 : Cond.methodLink RX7 404 yX7_wordOf ∈ T0 := ax_c9 _ (List.mem_of_getElem? (i := 23) rfl)
theorem T_261 : Cond.instanceMethod yX7_wordOf ∈ T0 := ax_c9 _ (List.mem_of_getElem? (i := 24) rfl)
theorem T_262 : Cond.selects RX7 yX7_wordOf yX7_wordOf ∈ T0 := ax_c9 _ (List.mem_of_getElem? (i := 25) rfl)
theorem T_263 : Cond.fieldLink RX7 228 "LaneWarpsModel" "undoable" "I" ∈ T0 := ax_c9 _ (List.mem_of_getElem? (i := 26) rfl)
theorem T_265 : Cond.methodLink RL 13 yX6_feed ∈ T0 := ax_c9 _ (List.mem_of_getElem? (i := 27) rfl)
theorem T_266 : Cond.instanceMethod yX6_feed ∈ T0 := ax_c9 _ (List.mem_of_getElem? (i := 28) rfl)
theorem T_267 : Cond.selects RX6 yX6_feed yX6_feed ∈ T0 := ax_c9 _ (List.mem_of_getElem? (i := 29) rfl)
theorem T_269 : Cond.methodLink RL 17 yX7_feed ∈ T0 := ax_c9 _ (List.mem_of_getElem? (i := 30) rfl)
theorem T_270 : Cond.instanceMethod yX7_feed ∈ T0 := ax_c9 _ (List.mem_of_getElem? (i := 31) rfl)
theorem T_271 : Cond.selects RX7 yX7_feed yX7_feed ∈ T0 := ax_c9 _ (List.mem_of_getElem? (i := 32) rfl)
theorem T_273 : Cond.methodLink RL 18 yX6_end ∈ T0 := ax_c9 _ (List.mem_of_getElem? (i := 33) rfl)
theorem T_274 : Cond.instanceMethod yX6_end ∈ T0 := ax_c9 _ (List.mem_of_getElem? (i := 34) rfl)
theorem T_275 : Cond.selects RX6 yX6_end yX6_end ∈ T0 := ax_c9 _ (List.mem_of_getElem? (i := 35) rfl)
theorem T_277 : Cond.methodLink RL 22 yX7_end ∈ T0 := ax_c9 _ (List.mem_of_getElem? (i := 36) rfl)
theorem T_278 : Cond.instanceMethod yX7_end ∈ T0 := ax_c9 _ (List.mem_of_getElem? (i := 37) rfl)
theorem T_279 : Cond.selects RX7 yX7_end yX7_end ∈ T0 := ax_c9 _ (List.mem_of_getElem? (i := 38) rfl)
theorem T_281 : Cond.methodLink RL 23 yX6_program ∈ T0 := ax_c9 _ (List.mem_of_getElem? (i := 39) rfl)
theorem ax_c10 : ∀ w ∈ Tc10, w ∈ T0 := fun _ h => List.mem_append_left _ (List.mem_append_right _ (List.mem_append_right _ (List.mem_append_right _ (List.mem_append_right _ (List.mem_append_right _ (List.mem_append_right _ (List.mem_append_right _ (List.mem_append_right _ (List.mem_append_right _ (List.mem_append_right _ (List.mem_append_left _ h)))))))))))
theorem T_282 : Cond.instanceMethod yX6_program ∈ T0 := ax_c10 _ (List.mem_of_getElem? (i := 0) rfl)
theorem T_283 : Cond.selects RX6 yX6_program yX6_program ∈ T0 := ax_c10 _ (List.mem_of_getElem? (i := 1) rfl)
theorem T_285 : Cond.methodLink RL 27 yX7_program ∈ T0 := ax_c10 _ (List.mem_of_getElem? (i := 2) rfl)
theorem T_286 : Cond.instanceMethod yX7_program ∈ T0 := ax_c10 _ (List.mem_of_getElem? (i := 3) rfl)
theorem T_287 : Cond.selects RX7 yX7_program yX7_program ∈ T0 := ax_c10 _ (List.mem_of_getElem? (i := 4) rfl)
theorem T_289 : Cond.methodLink RL 28 yX6_fault ∈ T0 := ax_c10 _ (List.mem_of_getElem? (i := 5) rfl)
theorem T_290 : Cond.instanceMethod yX6_fault ∈ T0 := ax_c10 _ (List.mem_of_getElem? (i := 6) rfl)
theorem T_291 : Cond.selects RX6 yX6_fault yX6_fault ∈ T0 := ax_c10 _ (List.mem_of_getElem? (i := 7) rfl)
theorem T_293 : Cond.methodLink RL 32 yX7_fault ∈ T0 := ax_c10 _ (List.mem_of_getElem? (i := 8) rfl)
theorem T_294 : Cond.instanceMethod yX7_fault ∈ T0 := ax_c10 _ (List.mem_of_getElem? (i := 9) rfl)
theorem T_295 : Cond.selects RX7 yX7_fault yX7_fault ∈ T0 := ax_c10 _ (List.mem_of_getElem? (i := 10) rfl)
theorem T_297 : Cond.methodLink RL 33 yX6_has ∈ T0 := ax_c10 _ (List.mem_of_getElem? (i := 11) rfl)
theorem T_298 : Cond.instanceMethod yX6_has ∈ T0 := ax_c10 _ (List.mem_of_getElem? (i := 12) rfl)
theorem T_299 : Cond.selects RX6 yX6_has yX6_has ∈ T0 := ax_c10 _ (List.mem_of_getElem? (i := 13) rfl)
theorem T_301 : Cond.methodLink RL 36 yX7_has ∈ T0 := ax_c10 _ (List.mem_of_getElem? (i := 14) rfl)
theorem T_302 : Cond.instanceMethod yX7_has ∈ T0 := ax_c10 _ (List.mem_of_getElem? (i := 15) rfl)
theorem T_303 : Cond.selects RX7 yX7_has yX7_has ∈ T0 := ax_c10 _ (List.mem_of_getElem? (i := 16) rfl)
theorem T_305 : Cond.methodLink RL 37 yX6_line ∈ T0 := ax_c10 _ (List.mem_of_getElem? (i := 17) rfl)
theorem T_306 : Cond.instanceMethod yX6_line ∈ T0 := ax_c10 _ (List.mem_of_getElem? (i := 18) rfl)
theorem T_307 : Cond.selects RX6 yX6_line yX6_line ∈ T0 := ax_c10 _ (List.mem_of_getElem? (i := 19) rfl)
theorem T_309 : Cond.methodLink RL 41 yX7_line ∈ T0 := ax_c10 _ (List.mem_of_getElem? (i := 20) rfl)
theorem T_310 : Cond.instanceMethod yX7_line ∈ T0 := ax_c10 _ (List.mem_of_getElem? (i := 21) rfl)
theorem T_311 : Cond.selects RX7 yX7_line yX7_line ∈ T0 := ax_c10 _ (List.mem_of_getElem? (i := 22) rfl)
theorem T_313 : Cond.methodLink RL 42 yX6_lane ∈ T0 := ax_c10 _ (List.mem_of_getElem? (i := 23) rfl)
theorem T_314 : Cond.instanceMethod yX6_lane ∈ T0 := ax_c10 _ (List.mem_of_getElem? (i := 24) rfl)
theorem T_315 : Cond.selects RX6 yX6_lane yX6_lane ∈ T0 := ax_c10 _ (List.mem_of_getElem? (i := 25) rfl)
theorem T_317 : Cond.methodLink RL 46 yX7_lane ∈ T0 := ax_c10 _ (List.mem_of_getElem? (i := 26) rfl)
theorem T_318 : Cond.instanceMethod yX7_lane ∈ T0 := ax_c10 _ (List.mem_of_getElem? (i := 27) rfl)
theorem T_319 : Cond.selects RX7 yX7_lane yX7_lane ∈ T0 := ax_c10 _ (List.mem_of_getElem? (i := 28) rfl)
theorem T_321 : Cond.methodLink RL 47 yX6_warp ∈ T0 := ax_c10 _ (List.mem_of_getElem? (i := 29) rfl)
theorem T_322 : Cond.instanceMethod yX6_warp ∈ T0 := ax_c10 _ (List.mem_of_getElem? (i := 30) rfl)
theorem T_323 : Cond.selects RX6 yX6_warp yX6_warp ∈ T0 := ax_c10 _ (List.mem_of_getElem? (i := 31) rfl)
theorem T_325 : Cond.methodLink RL 50 yX7_warp ∈ T0 := ax_c10 _ (List.mem_of_getElem? (i := 32) rfl)
theorem T_326 : Cond.instanceMethod yX7_warp ∈ T0 := ax_c10 _ (List.mem_of_getElem? (i := 33) rfl)
theorem T_327 : Cond.selects RX7 yX7_warp yX7_warp ∈ T0 := ax_c10 _ (List.mem_of_getElem? (i := 34) rfl)
theorem T_329 : Cond.methodLink RL 51 yX6_part ∈ T0 := ax_c10 _ (List.mem_of_getElem? (i := 35) rfl)
theorem T_330 : Cond.instanceMethod yX6_part ∈ T0 := ax_c10 _ (List.mem_of_getElem? (i := 36) rfl)
theorem T_331 : Cond.selects RX6 yX6_part yX6_part ∈ T0 := ax_c10 _ (List.mem_of_getElem? (i := 37) rfl)
theorem T_333 : Cond.methodLink RL 54 yX7_part ∈ T0 := ax_c10 _ (List.mem_of_getElem? (i := 38) rfl)
theorem T_334 : Cond.instanceMethod yX7_part ∈ T0 := ax_c10 _ (List.mem_of_getElem? (i := 39) rfl)
theorem ax_c11 : ∀ w ∈ Tc11, w ∈ T0 := fun _ h => List.mem_append_left _ (List.mem_append_right _ (List.mem_append_right _ (List.mem_append_right _ (List.mem_append_right _ (List.mem_append_right _ (List.mem_append_right _ (List.mem_append_right _ (List.mem_append_right _ (List.mem_append_right _ (List.mem_append_right _ (List.mem_append_right _ (List.mem_append_left _ h))))))))))))
theorem T_335 : Cond.selects RX7 yX7_part yX7_part ∈ T0 := ax_c11 _ (List.mem_of_getElem? (i := 0) rfl)
theorem T_337 : Cond.methodLink RL 55 yX6_word ∈ T0 := ax_c11 _ (List.mem_of_getElem? (i := 1) rfl)
theorem T_338 : Cond.instanceMethod yX6_word ∈ T0 := ax_c11 _ (List.mem_of_getElem? (i := 2) rfl)
theorem T_339 : Cond.selects RX6 yX6_word yX6_word ∈ T0 := ax_c11 _ (List.mem_of_getElem? (i := 3) rfl)
theorem T_341 : Cond.methodLink RL 59 yX7_word ∈ T0 := ax_c11 _ (List.mem_of_getElem? (i := 4) rfl)
theorem T_342 : Cond.instanceMethod yX7_word ∈ T0 := ax_c11 _ (List.mem_of_getElem? (i := 5) rfl)
theorem T_343 : Cond.selects RX7 yX7_word yX7_word ∈ T0 := ax_c11 _ (List.mem_of_getElem? (i := 6) rfl)
theorem T_345 : Cond.methodLink RL 60 yX6_raced ∈ T0 := ax_c11 _ (List.mem_of_getElem? (i := 7) rfl)
theorem T_346 : Cond.instanceMethod yX6_raced ∈ T0 := ax_c11 _ (List.mem_of_getElem? (i := 8) rfl)
theorem T_347 : Cond.selects RX6 yX6_raced yX6_raced ∈ T0 := ax_c11 _ (List.mem_of_getElem? (i := 9) rfl)
theorem T_349 : Cond.methodLink RL 63 yX7_raced ∈ T0 := ax_c11 _ (List.mem_of_getElem? (i := 10) rfl)
theorem T_350 : Cond.instanceMethod yX7_raced ∈ T0 := ax_c11 _ (List.mem_of_getElem? (i := 11) rfl)
theorem T_351 : Cond.selects RX7 yX7_raced yX7_raced ∈ T0 := ax_c11 _ (List.mem_of_getElem? (i := 12) rfl)
theorem T_353 : Cond.methodLink RL 64 yX6_kept ∈ T0 := ax_c11 _ (List.mem_of_getElem? (i := 13) rfl)
theorem T_354 : Cond.instanceMethod yX6_kept ∈ T0 := ax_c11 _ (List.mem_of_getElem? (i := 14) rfl)
theorem T_355 : Cond.selects RX6 yX6_kept yX6_kept ∈ T0 := ax_c11 _ (List.mem_of_getElem? (i := 15) rfl)
theorem T_357 : Cond.methodLink RL 67 yX7_kept ∈ T0 := ax_c11 _ (List.mem_of_getElem? (i := 16) rfl)
theorem T_358 : Cond.instanceMethod yX7_kept ∈ T0 := ax_c11 _ (List.mem_of_getElem? (i := 17) rfl)
theorem T_359 : Cond.selects RX7 yX7_kept yX7_kept ∈ T0 := ax_c11 _ (List.mem_of_getElem? (i := 18) rfl)
theorem T_361 : Cond.methodLink RL 68 yX6_next ∈ T0 := ax_c11 _ (List.mem_of_getElem? (i := 19) rfl)
theorem T_362 : Cond.instanceMethod yX6_next ∈ T0 := ax_c11 _ (List.mem_of_getElem? (i := 20) rfl)
theorem T_363 : Cond.selects RX6 yX6_next yX6_next ∈ T0 := ax_c11 _ (List.mem_of_getElem? (i := 21) rfl)
theorem T_365 : Cond.methodLink RL 71 yX7_next ∈ T0 := ax_c11 _ (List.mem_of_getElem? (i := 22) rfl)
theorem T_366 : Cond.instanceMethod yX7_next ∈ T0 := ax_c11 _ (List.mem_of_getElem? (i := 23) rfl)
theorem T_367 : Cond.selects RX7 yX7_next yX7_next ∈ T0 := ax_c11 _ (List.mem_of_getElem? (i := 24) rfl)
theorem T_369 : Cond.methodLink RL 72 yX6_goes ∈ T0 := ax_c11 _ (List.mem_of_getElem? (i := 25) rfl)
theorem T_370 : Cond.instanceMethod yX6_goes ∈ T0 := ax_c11 _ (List.mem_of_getElem? (i := 26) rfl)
theorem T_371 : Cond.selects RX6 yX6_goes yX6_goes ∈ T0 := ax_c11 _ (List.mem_of_getElem? (i := 27) rfl)
theorem T_373 : Cond.methodLink RL 75 yX7_goes ∈ T0 := ax_c11 _ (List.mem_of_getElem? (i := 28) rfl)
theorem T_374 : Cond.instanceMethod yX7_goes ∈ T0 := ax_c11 _ (List.mem_of_getElem? (i := 29) rfl)
theorem T_375 : Cond.selects RX7 yX7_goes yX7_goes ∈ T0 := ax_c11 _ (List.mem_of_getElem? (i := 30) rfl)
theorem T_377 : Cond.methodLink RL 76 yX6_later ∈ T0 := ax_c11 _ (List.mem_of_getElem? (i := 31) rfl)
theorem T_378 : Cond.instanceMethod yX6_later ∈ T0 := ax_c11 _ (List.mem_of_getElem? (i := 32) rfl)
theorem T_379 : Cond.selects RX6 yX6_later yX6_later ∈ T0 := ax_c11 _ (List.mem_of_getElem? (i := 33) rfl)
theorem T_381 : Cond.methodLink RL 80 yX7_later ∈ T0 := ax_c11 _ (List.mem_of_getElem? (i := 34) rfl)
theorem T_382 : Cond.instanceMethod yX7_later ∈ T0 := ax_c11 _ (List.mem_of_getElem? (i := 35) rfl)
theorem T_383 : Cond.selects RX7 yX7_later yX7_later ∈ T0 := ax_c11 _ (List.mem_of_getElem? (i := 36) rfl)
theorem T_385 : Cond.methodLink RL 81 yX6_by ∈ T0 := ax_c11 _ (List.mem_of_getElem? (i := 37) rfl)
theorem T_386 : Cond.instanceMethod yX6_by ∈ T0 := ax_c11 _ (List.mem_of_getElem? (i := 38) rfl)
theorem T_387 : Cond.selects RX6 yX6_by yX6_by ∈ T0 := ax_c11 _ (List.mem_of_getElem? (i := 39) rfl)
theorem ax_c12 : ∀ w ∈ Tc12, w ∈ T0 := fun _ h => List.mem_append_left _ (List.mem_append_right _ (List.mem_append_right _ (List.mem_append_right _ (List.mem_append_right _ (List.mem_append_right _ (List.mem_append_right _ (List.mem_append_right _ (List.mem_append_right _ (List.mem_append_right _ (List.mem_append_right _ (List.mem_append_right _ (List.mem_append_right _ (List.mem_append_left _ h)))))))))))))
theorem T_389 : Cond.methodLink RL 84 yX7_by ∈ T0 := ax_c12 _ (List.mem_of_getElem? (i := 0) rfl)
theorem T_390 : Cond.instanceMethod yX7_by ∈ T0 := ax_c12 _ (List.mem_of_getElem? (i := 1) rfl)
theorem T_391 : Cond.selects RX7 yX7_by yX7_by ∈ T0 := ax_c12 _ (List.mem_of_getElem? (i := 2) rfl)
theorem T_393 : Cond.methodLink RL 85 yX6_skew ∈ T0 := ax_c12 _ (List.mem_of_getElem? (i := 3) rfl)
theorem T_394 : Cond.instanceMethod yX6_skew ∈ T0 := ax_c12 _ (List.mem_of_getElem? (i := 4) rfl)
theorem T_395 : Cond.selects RX6 yX6_skew yX6_skew ∈ T0 := ax_c12 _ (List.mem_of_getElem? (i := 5) rfl)
theorem T_397 : Cond.methodLink RL 88 yX7_skew ∈ T0 := ax_c12 _ (List.mem_of_getElem? (i := 6) rfl)
theorem T_398 : Cond.instanceMethod yX7_skew ∈ T0 := ax_c12 _ (List.mem_of_getElem? (i := 7) rfl)
theorem T_399 : Cond.selects RX7 yX7_skew yX7_skew ∈ T0 := ax_c12 _ (List.mem_of_getElem? (i := 8) rfl)
theorem T_401 : Cond.methodLink RL 89 yX6_alone ∈ T0 := ax_c12 _ (List.mem_of_getElem? (i := 9) rfl)
theorem T_402 : Cond.instanceMethod yX6_alone ∈ T0 := ax_c12 _ (List.mem_of_getElem? (i := 10) rfl)
theorem T_403 : Cond.selects RX6 yX6_alone yX6_alone ∈ T0 := ax_c12 _ (List.mem_of_getElem? (i := 11) rfl)
theorem T_405 : Cond.methodLink RL 92 yX7_alone ∈ T0 := ax_c12 _ (List.mem_of_getElem? (i := 12) rfl)
theorem T_406 : Cond.instanceMethod yX7_alone ∈ T0 := ax_c12 _ (List.mem_of_getElem? (i := 13) rfl)
theorem T_407 : Cond.selects RX7 yX7_alone yX7_alone ∈ T0 := ax_c12 _ (List.mem_of_getElem? (i := 14) rfl)
theorem T_409 : Cond.methodLink RL 93 yX6_agrees ∈ T0 := ax_c12 _ (List.mem_of_getElem? (i := 15) rfl)
theorem T_410 : Cond.instanceMethod yX6_agrees ∈ T0 := ax_c12 _ (List.mem_of_getElem? (i := 16) rfl)
theorem T_411 : Cond.selects RX6 yX6_agrees yX6_agrees ∈ T0 := ax_c12 _ (List.mem_of_getElem? (i := 17) rfl)
theorem T_413 : Cond.methodLink RL 96 yX7_agrees ∈ T0 := ax_c12 _ (List.mem_of_getElem? (i := 18) rfl)
theorem T_414 : Cond.instanceMethod yX7_agrees ∈ T0 := ax_c12 _ (List.mem_of_getElem? (i := 19) rfl)
theorem T_415 : Cond.selects RX7 yX7_agrees yX7_agrees ∈ T0 := ax_c12 _ (List.mem_of_getElem? (i := 20) rfl)
theorem T_417 : Cond.methodLink RL 97 yX6_likely ∈ T0 := ax_c12 _ (List.mem_of_getElem? (i := 21) rfl)
theorem T_418 : Cond.instanceMethod yX6_likely ∈ T0 := ax_c12 _ (List.mem_of_getElem? (i := 22) rfl)
theorem T_419 : Cond.selects RX6 yX6_likely yX6_likely ∈ T0 := ax_c12 _ (List.mem_of_getElem? (i := 23) rfl)
theorem T_421 : Cond.methodLink RL 100 yX7_likely ∈ T0 := ax_c12 _ (List.mem_of_getElem? (i := 24) rfl)
theorem T_422 : Cond.instanceMethod yX7_likely ∈ T0 := ax_c12 _ (List.mem_of_getElem? (i := 25) rfl)
theorem T_423 : Cond.selects RX7 yX7_likely yX7_likely ∈ T0 := ax_c12 _ (List.mem_of_getElem? (i := 26) rfl)
theorem T_425 : Cond.methodLink RL 101 yX6_tells ∈ T0 := ax_c12 _ (List.mem_of_getElem? (i := 27) rfl)
theorem T_426 : Cond.instanceMethod yX6_tells ∈ T0 := ax_c12 _ (List.mem_of_getElem? (i := 28) rfl)
theorem T_427 : Cond.selects RX6 yX6_tells yX6_tells ∈ T0 := ax_c12 _ (List.mem_of_getElem? (i := 29) rfl)
theorem T_429 : Cond.methodLink RL 104 yX7_tells ∈ T0 := ax_c12 _ (List.mem_of_getElem? (i := 30) rfl)
theorem T_430 : Cond.instanceMethod yX7_tells ∈ T0 := ax_c12 _ (List.mem_of_getElem? (i := 31) rfl)
theorem T_431 : Cond.selects RX7 yX7_tells yX7_tells ∈ T0 := ax_c12 _ (List.mem_of_getElem? (i := 32) rfl)
theorem T_433 : Cond.methodLink RL 105 yX6_cycles ∈ T0 := ax_c12 _ (List.mem_of_getElem? (i := 33) rfl)
theorem T_434 : Cond.instanceMethod yX6_cycles ∈ T0 := ax_c12 _ (List.mem_of_getElem? (i := 34) rfl)
theorem T_435 : Cond.selects RX6 yX6_cycles yX6_cycles ∈ T0 := ax_c12 _ (List.mem_of_getElem? (i := 35) rfl)
theorem T_437 : Cond.methodLink RL 108 yX7_cycles ∈ T0 := ax_c12 _ (List.mem_of_getElem? (i := 36) rfl)
theorem T_438 : Cond.instanceMethod yX7_cycles ∈ T0 := ax_c12 _ (List.mem_of_getElem? (i := 37) rfl)
theorem T_439 : Cond.selects RX7 yX7_cycles yX7_cycles ∈ T0 := ax_c12 _ (List.mem_of_getElem? (i := 38) rfl)
theorem T_441 : Cond.methodLink RL 109 yX6_poke ∈ T0 := ax_c12 _ (List.mem_of_getElem? (i := 39) rfl)
theorem ax_c13 : ∀ w ∈ Tc13, w ∈ T0 := fun _ h => List.mem_append_left _ (List.mem_append_right _ (List.mem_append_right _ (List.mem_append_right _ (List.mem_append_right _ (List.mem_append_right _ (List.mem_append_right _ (List.mem_append_right _ (List.mem_append_right _ (List.mem_append_right _ (List.mem_append_right _ (List.mem_append_right _ (List.mem_append_right _ (List.mem_append_right _ (List.mem_append_left _ h))))))))))))))
theorem T_442 : Cond.instanceMethod yX6_poke ∈ T0 := ax_c13 _ (List.mem_of_getElem? (i := 0) rfl)
theorem T_443 : Cond.selects RX6 yX6_poke yX6_poke ∈ T0 := ax_c13 _ (List.mem_of_getElem? (i := 1) rfl)
theorem T_445 : Cond.methodLink RL 113 yX7_poke ∈ T0 := ax_c13 _ (List.mem_of_getElem? (i := 2) rfl)
theorem T_446 : Cond.instanceMethod yX7_poke ∈ T0 := ax_c13 _ (List.mem_of_getElem? (i := 3) rfl)
theorem T_447 : Cond.selects RX7 yX7_poke yX7_poke ∈ T0 := ax_c13 _ (List.mem_of_getElem? (i := 4) rfl)
theorem T_449 : Cond.methodLink RL 114 yX6_set ∈ T0 := ax_c13 _ (List.mem_of_getElem? (i := 5) rfl)
theorem T_450 : Cond.instanceMethod yX6_set ∈ T0 := ax_c13 _ (List.mem_of_getElem? (i := 6) rfl)
theorem T_451 : Cond.selects RX6 yX6_set yX6_set ∈ T0 := ax_c13 _ (List.mem_of_getElem? (i := 7) rfl)
theorem T_453 : Cond.methodLink RL 118 yX7_set ∈ T0 := ax_c13 _ (List.mem_of_getElem? (i := 8) rfl)
theorem T_454 : Cond.instanceMethod yX7_set ∈ T0 := ax_c13 _ (List.mem_of_getElem? (i := 9) rfl)
theorem T_455 : Cond.selects RX7 yX7_set yX7_set ∈ T0 := ax_c13 _ (List.mem_of_getElem? (i := 10) rfl)
theorem T_457 : Cond.methodLink RL 119 yX6_begin ∈ T0 := ax_c13 _ (List.mem_of_getElem? (i := 11) rfl)
theorem T_458 : Cond.instanceMethod yX6_begin ∈ T0 := ax_c13 _ (List.mem_of_getElem? (i := 12) rfl)
theorem T_459 : Cond.selects RX6 yX6_begin yX6_begin ∈ T0 := ax_c13 _ (List.mem_of_getElem? (i := 13) rfl)
theorem T_461 : Cond.methodLink RL 123 yX7_begin ∈ T0 := ax_c13 _ (List.mem_of_getElem? (i := 14) rfl)
theorem T_462 : Cond.instanceMethod yX7_begin ∈ T0 := ax_c13 _ (List.mem_of_getElem? (i := 15) rfl)
theorem T_463 : Cond.selects RX7 yX7_begin yX7_begin ∈ T0 := ax_c13 _ (List.mem_of_getElem? (i := 16) rfl)
theorem T_465 : Cond.methodLink RL 124 yX6_chance ∈ T0 := ax_c13 _ (List.mem_of_getElem? (i := 17) rfl)
theorem T_466 : Cond.instanceMethod yX6_chance ∈ T0 := ax_c13 _ (List.mem_of_getElem? (i := 18) rfl)
theorem T_467 : Cond.selects RX6 yX6_chance yX6_chance ∈ T0 := ax_c13 _ (List.mem_of_getElem? (i := 19) rfl)
theorem T_469 : Cond.methodLink RL 127 yX7_chance ∈ T0 := ax_c13 _ (List.mem_of_getElem? (i := 20) rfl)
theorem T_470 : Cond.instanceMethod yX7_chance ∈ T0 := ax_c13 _ (List.mem_of_getElem? (i := 21) rfl)
theorem T_471 : Cond.selects RX7 yX7_chance yX7_chance ∈ T0 := ax_c13 _ (List.mem_of_getElem? (i := 22) rfl)
theorem T_473 : Cond.methodLink RL 128 yX6_undo ∈ T0 := ax_c13 _ (List.mem_of_getElem? (i := 23) rfl)
theorem T_474 : Cond.instanceMethod yX6_undo ∈ T0 := ax_c13 _ (List.mem_of_getElem? (i := 24) rfl)
theorem T_475 : Cond.selects RX6 yX6_undo yX6_undo ∈ T0 := ax_c13 _ (List.mem_of_getElem? (i := 25) rfl)
theorem T_477 : Cond.methodLink RL 131 yX7_undo ∈ T0 := ax_c13 _ (List.mem_of_getElem? (i := 26) rfl)
theorem T_478 : Cond.instanceMethod yX7_undo ∈ T0 := ax_c13 _ (List.mem_of_getElem? (i := 27) rfl)
theorem T_479 : Cond.selects RX7 yX7_undo yX7_undo ∈ T0 := ax_c13 _ (List.mem_of_getElem? (i := 28) rfl)
theorem T_481 : Cond.methodLink RL 132 yX6_seed ∈ T0 := ax_c13 _ (List.mem_of_getElem? (i := 29) rfl)
theorem T_482 : Cond.instanceMethod yX6_seed ∈ T0 := ax_c13 _ (List.mem_of_getElem? (i := 30) rfl)
theorem T_483 : Cond.selects RX6 yX6_seed yX6_seed ∈ T0 := ax_c13 _ (List.mem_of_getElem? (i := 31) rfl)
theorem T_485 : Cond.methodLink RL 135 yX7_seed ∈ T0 := ax_c13 _ (List.mem_of_getElem? (i := 32) rfl)
theorem T_486 : Cond.instanceMethod yX7_seed ∈ T0 := ax_c13 _ (List.mem_of_getElem? (i := 33) rfl)
theorem T_487 : Cond.selects RX7 yX7_seed yX7_seed ∈ T0 := ax_c13 _ (List.mem_of_getElem? (i := 34) rfl)
theorem T_489 : Cond.methodLink RL 136 yX6_status ∈ T0 := ax_c13 _ (List.mem_of_getElem? (i := 35) rfl)
theorem T_490 : Cond.instanceMethod yX6_status ∈ T0 := ax_c13 _ (List.mem_of_getElem? (i := 36) rfl)
theorem T_491 : Cond.selects RX6 yX6_status yX6_status ∈ T0 := ax_c13 _ (List.mem_of_getElem? (i := 37) rfl)
theorem T_493 : Cond.methodLink RL 139 yX7_status ∈ T0 := ax_c13 _ (List.mem_of_getElem? (i := 38) rfl)
theorem T_494 : Cond.instanceMethod yX7_status ∈ T0 := ax_c13 _ (List.mem_of_getElem? (i := 39) rfl)
theorem ax_c14 : ∀ w ∈ Tc14, w ∈ T0 := fun _ h => List.mem_append_left _ (List.mem_append_right _ (List.mem_append_right _ (List.mem_append_right _ (List.mem_append_right _ (List.mem_append_right _ (List.mem_append_right _ (List.mem_append_right _ (List.mem_append_right _ (List.mem_append_right _ (List.mem_append_right _ (List.mem_append_right _ (List.mem_append_right _ (List.mem_append_right _ (List.mem_append_right _ (h)))))))))))))))
theorem T_495 : Cond.selects RX7 yX7_status yX7_status ∈ T0 := ax_c14 _ (List.mem_of_getElem? (i := 0) rfl)
theorem T_496 : Cond.instantiable RX6 14 ∈ T0 := ax_c14 _ (List.mem_of_getElem? (i := 1) rfl)
theorem T_497 : Cond.instantiable RX7 34 ∈ T0 := ax_c14 _ (List.mem_of_getElem? (i := 2) rfl)
theorem T_498 : Cond.classLink RL 7 RX6 ∈ T0 := ax_c14 _ (List.mem_of_getElem? (i := 3) rfl)
theorem T_500 : Cond.methodLink RL 9 yX6_init ∈ T0 := ax_c14 _ (List.mem_of_getElem? (i := 4) rfl)
theorem T_501 : Cond.instanceMethod yX6_init ∈ T0 := ax_c14 _ (List.mem_of_getElem? (i := 5) rfl)
theorem T_502 : Cond.classLink RL 10 RX7 ∈ T0 := ax_c14 _ (List.mem_of_getElem? (i := 6) rfl)
theorem T_504 : Cond.methodLink RL 12 yX7_init ∈ T0 := ax_c14 _ (List.mem_of_getElem? (i := 7) rfl)
theorem T_505 : Cond.instanceMethod yX7_init ∈ T0 := ax_c14 _ (List.mem_of_getElem? (i := 8) rfl)
theorem inX0 : ∀ w ∈ wsX00, w ∈ T0 := fun _ h => List.mem_append_right _ (List.mem_append_left _ h)
theorem inX1 : ∀ w ∈ wsX10, w ∈ T0 := fun _ h => List.mem_append_right _ (List.mem_append_right _ (List.mem_append_left _ h))
theorem inX2 : ∀ w ∈ wsX20, w ∈ T0 := fun _ h => List.mem_append_right _ (List.mem_append_right _ (List.mem_append_right _ (List.mem_append_left _ h)))
theorem inX3 : ∀ w ∈ wsX30, w ∈ T0 := fun _ h => List.mem_append_right _ (List.mem_append_right _ (List.mem_append_right _ (List.mem_append_right _ (List.mem_append_left _ h))))
theorem inX4 : ∀ w ∈ wsX40, w ∈ T0 := fun _ h => List.mem_append_right _ (List.mem_append_right _ (List.mem_append_right _ (List.mem_append_right _ (List.mem_append_right _ (List.mem_append_left _ h)))))
theorem inX5 : ∀ w ∈ wsX50, w ∈ T0 := fun _ h => List.mem_append_right _ (List.mem_append_right _ (List.mem_append_right _ (List.mem_append_right _ (List.mem_append_right _ (List.mem_append_right _ (List.mem_append_left _ h))))))
theorem inX6 : ∀ w ∈ wsX60, w ∈ T0 := fun _ h => List.mem_append_right _ (List.mem_append_right _ (List.mem_append_right _ (List.mem_append_right _ (List.mem_append_right _ (List.mem_append_right _ (List.mem_append_right _ (List.mem_append_left _ h)))))))
theorem inX7 : ∀ w ∈ wsX70, w ∈ T0 := fun _ h => List.mem_append_right _ (List.mem_append_right _ (List.mem_append_right _ (List.mem_append_right _ (List.mem_append_right _ (List.mem_append_right _ (List.mem_append_right _ (List.mem_append_right _ (h))))))))
set_option maxRecDepth 20000 in
theorem ax_good : T0.all goodWord = true := by decide +kernel
set_option maxRecDepth 20000 in
theorem ax_lawc0 : GoodIn lw_tbl Tc0 := goodIn_p Tc0 [46, 162, 296, 155, 396, 51, 107, 344, 400, 456, 452, 475, 472, 479, 554, 468, 708, 704, 736, 690, 1188, 1196, 1224, 1227, 1220] rfl (by decide +kernel)
set_option maxRecDepth 20000 in
theorem ax_lawc1 : GoodIn lw_tbl Tc1 := goodIn_p Tc1 [1216, 1212, 1239, 1270, 1208, 1243, 1250, 1314, 1180, 1411, 1407, 1448, 448, 1176, 460, 1184, 464, 1204, 665, 1200, 669, 1382, 695, 1398, 700] rfl (by decide +kernel)
set_option maxRecDepth 20000 in
theorem ax_lawc2 : GoodIn lw_tbl Tc2 := goodIn_p Tc2 [1403, 716, 1427, 728, 1439, 732, 1444, 740, 1452, 744, 1456, 748, 1461, 792, 1508, 927, 1624, 935, 1629, 954, 1633, 958, 1641, 980, 1649] rfl (by decide +kernel)
set_option maxRecDepth 20000 in
theorem ax_lawc3 : GoodIn lw_tbl Tc3 := goodIn_p Tc3 [988, 1657, 1000, 1666, 1009, 1678, 1028, 1686, 1032, 1690, 1036, 1694, 1040, 1702, 1052, 1674, 1056, 1698, 1060, 1192, 43, 1065] rfl (by decide +kernel)
set_option maxRecDepth 20000 in
theorem ax_lawc4 : GoodIn lw_tbl Tc4 := ax_places Tc4 [163, 45, 102, 164, 168, 170, 173, 175, 156, 157, 220, 224, 228, 231, 232, 233, 235, 257, 159, 27, 161, 297, 298, 299, 300, 108, 109, 111, 115, 150, 118, 52, 53, 54, 55, 56, 68, 345, 346, 293] (by decide +kernel) (by decide +kernel)
set_option maxRecDepth 20000 in
theorem ax_lawc5 : GoodIn lw_tbl Tc5 := ax_places Tc5 [28, 295, 350, 348, 152, 26, 349, 154, 351, 352, 353, 354, 356, 358, 360, 401, 394, 395, 355, 357, 359, 44, 101, 402, 47, 48, 24, 50, 404, 103, 104, 25, 106, 405, 406, 151, 153, 408, 409, 292] (by decide +kernel) (by decide +kernel)
set_option maxRecDepth 20000 in
theorem ax_lawc6 : GoodIn lw_tbl Tc6 := ax_places Tc6 [412, 340, 341, 29, 343, 413, 414, 415, 393, 397, 398, 399, 403, 453, 455, 0, 23, 449, 451, 1, 31, 473, 474, 119, 125, 129, 132, 60, 62, 61, 58, 63, 66, 57, 59, 469, 470, 471, 476, 478] (by decide +kernel) (by decide +kernel)
set_option maxRecDepth 20000 in
theorem ax_lawc7 : GoodIn lw_tbl Tc7 := ax_places Tc7 [2, 551, 553, 3, 465, 466, 467, 407, 705, 707, 4, 696, 701, 703, 5, 733, 735, 6, 688, 689, 36, 411, 1066, 1068, 1076, 1077, 1171, 1078, 1080, 1081, 1082, 1172, 1085, 1086, 1088, 1089, 1090, 1091, 1067, 1092] (by decide +kernel) (by decide +kernel)
set_option maxRecDepth 20000 in
theorem ax_lawc8 : GoodIn lw_tbl Tc8 := ax_places Tc8 [1096, 1097, 1098, 1101, 1069, 1185, 1187, 7, 30, 1193, 1194, 1195, 1075, 1383, 1083, 1070, 1071, 1073, 1221, 1223, 8, 1225, 1226, 1217, 1219, 9, 1213, 1215, 10, 1074, 1209, 1211, 11, 1236, 1238, 12, 1267, 1269, 13, 1072] (by decide +kernel) (by decide +kernel)
set_option maxRecDepth 20000 in
theorem ax_lawc9 : GoodIn lw_tbl Tc9 := ax_places Tc9 [1205, 1207, 14, 1240, 1242, 15, 1247, 1249, 16, 1084, 1311, 1313, 17, 1177, 1179, 18, 1408, 1410, 19, 1286, 1404, 1406, 20, 1445, 1447, 21, 1099, 445, 446, 447, 1173, 1174, 1175, 457, 458, 459, 1181, 1182, 1183, 461] (by decide +kernel) (by decide +kernel)
set_option maxRecDepth 20000 in
theorem ax_lawc10 : GoodIn lw_tbl Tc10 := ax_places Tc10 [462, 463, 1201, 1202, 1203, 662, 663, 664, 1197, 1198, 1199, 666, 667, 668, 1379, 1380, 1381, 692, 693, 694, 1395, 1396, 1397, 697, 698, 699, 1400, 1401, 1402, 713, 714, 715, 1424, 1425, 1426, 725, 726, 727, 1436, 1437] (by decide +kernel) (by decide +kernel)
set_option maxRecDepth 20000 in
theorem ax_lawc11 : GoodIn lw_tbl Tc11 := ax_places Tc11 [1438, 729, 730, 731, 1441, 1442, 1443, 737, 738, 739, 1449, 1450, 1451, 741, 742, 743, 1453, 1454, 1455, 745, 746, 747, 1458, 1459, 1460, 789, 790, 791, 1505, 1506, 1507, 924, 925, 926, 1621, 1622, 1623, 932, 933, 934] (by decide +kernel) (by decide +kernel)
set_option maxRecDepth 20000 in
theorem ax_lawc12 : GoodIn lw_tbl Tc12 := ax_places Tc12 [1626, 1627, 1628, 951, 952, 953, 1630, 1631, 1632, 955, 956, 957, 1638, 1639, 1640, 977, 978, 979, 1646, 1647, 1648, 985, 986, 987, 1654, 1655, 1656, 997, 998, 999, 1663, 1664, 1665, 1006, 1007, 1008, 1675, 1676, 1677, 1025] (by decide +kernel) (by decide +kernel)
set_option maxRecDepth 20000 in
theorem ax_lawc13 : GoodIn lw_tbl Tc13 := ax_places Tc13 [1026, 1027, 1683, 1684, 1685, 1029, 1030, 1031, 1687, 1688, 1689, 1033, 1034, 1035, 1691, 1692, 1693, 1037, 1038, 1039, 1699, 1700, 1701, 1049, 1050, 1051, 1671, 1672, 1673, 1053, 1054, 1055, 1695, 1696, 1697, 1057, 1058, 1059, 1189, 1190] (by decide +kernel) (by decide +kernel)
set_option maxRecDepth 20000 in
theorem ax_lawc14 : GoodIn lw_tbl Tc14 := ax_places Tc14 [1191, 40, 1062, 39, 41, 42, 1061, 1063, 1064] (by decide +kernel) (by decide +kernel)
theorem ax_lawc : GoodIn lw_tbl T0w := goodIn_ap ax_lawc0 (goodIn_ap ax_lawc1 (goodIn_ap ax_lawc2 (goodIn_ap ax_lawc3 (goodIn_ap ax_lawc4 (goodIn_ap ax_lawc5 (goodIn_ap ax_lawc6 (goodIn_ap ax_lawc7 (goodIn_ap ax_lawc8 (goodIn_ap ax_lawc9 (goodIn_ap ax_lawc10 (goodIn_ap ax_lawc11 (goodIn_ap ax_lawc12 (goodIn_ap ax_lawc13 ax_lawc14)))))))))))))
set_option maxRecDepth 20000 in
theorem ax_lawX0 : GoodIn lw_tbl wsX00 := goodIn_of _ (by decide +kernel)
set_option maxRecDepth 20000 in
theorem ax_lawX1 : GoodIn lw_tbl wsX10 := goodIn_of _ (by decide +kernel)
set_option maxRecDepth 20000 in
theorem ax_lawX2 : GoodIn lw_tbl wsX20 := goodIn_of _ (by decide +kernel)
set_option maxRecDepth 20000 in
theorem ax_lawX3 : GoodIn lw_tbl wsX30 := goodIn_of _ (by decide +kernel)
set_option maxRecDepth 20000 in
theorem ax_lawX4 : GoodIn lw_tbl wsX40 := goodIn_of _ (by decide +kernel)
set_option maxRecDepth 20000 in
theorem ax_lawX5 : GoodIn lw_tbl wsX50 := goodIn_of _ (by decide +kernel)
set_option maxRecDepth 20000 in
theorem ax_lawX6 : GoodIn lw_tbl wsX60 := goodIn_of _ (by decide +kernel)
set_option maxRecDepth 20000 in
theorem ax_lawX7 : GoodIn lw_tbl wsX70 := goodIn_of _ (by decide +kernel)
theorem ax_law : GoodIn lw_tbl T0 := goodIn_ap ax_lawc (goodIn_ap ax_lawX0 (goodIn_ap ax_lawX1 (goodIn_ap ax_lawX2 (goodIn_ap ax_lawX3 (goodIn_ap ax_lawX4 (goodIn_ap ax_lawX5 (goodIn_ap ax_lawX6 ax_lawX7)))))))
